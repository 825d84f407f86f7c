def wk_X6_drift : List Cond := .code yX6_drift cX6_drift 7 none :: (([] : List Cond) ++ ((wsV RX6 29 RX6 yX6_lastStep wk_X6_lastStep) ++ ((wsV RX6 67 RX6 yX6_move wk_X6_move) ++ ([]))))
theorem gw_X6_drift : AG wk_X6_drift := AG_ca (AG_l (by decide +kernel)) (AG_app (AG_V gw_X6_lastStep) (AG_app (AG_V gw_X6_move) (AG_nil)))
theorem g_X6_drift__X6_lastStep_29 : GoodIn wk_X6_drift (wsV RX6 29 RX6 yX6_lastStep wk_X6_lastStep) := goodIn_m (fun _ h => List.mem_cons_of_mem _ (List.mem_append_right _ (List.mem_append_left _ h))) (AG_V gw_X6_lastStep)
theorem g_X6_drift__X6_move_67 : GoodIn wk_X6_drift (wsV RX6 67 RX6 yX6_move wk_X6_move) := goodIn_m (fun _ h => List.mem_cons_of_mem _ (List.mem_append_right _ (List.mem_append_right _ (List.mem_append_left _ h)))) (AG_V gw_X6_move)
set_option maxHeartbeats 4000000 in
set_option maxRecDepth 100000 in
theorem c_X6_drift (l : Launch) (dC : Nat → ClassId) (dI : Nat → Nat → Nat) (h0 : Nat) (x0 : Nat) (fi : Int32) (pl : Int32) (db : Int32) (go : Int32) (g : Nat → Int32) (cI : ClassId) (p1 : Int32) (p2 : Int32) (p3 : Int32) (p4 : Int32) (sz : Nat) (ht : tOK fi pl) (hs0 : fi.toInt ≤ p1.toInt) (hs1 : p1.toInt < fi.toInt + pl.toInt) : Met l yX6_drift wk_X6_drift ({ frames := 1, cells := 0, slots := 0, locals := 24 }) (va_Pc [.ref h0, .int p1, .int p2, .int p3, .int p4] (fun U => U.heap.size = sz ∧ va_P (dC, dI) vwCl [(h0, .inr (6, [.ref x0, .int fi, .int pl, .int db, .int go])), (x0, .inl (cI, 36, .inl g))] U.heap ∧ va_K (dC, dI) vwCl [(cI, .int)] U ∧ va_D (fun _ => True) [(h0, .inr (6, [.ref x0, .int fi, .int pl, .int db, .int go])), (x0, .inl (cI, 36, .inl g))])) (va_Qv (fun (_ : Unit) => True) (fun (_ : Unit) (t : State) => ∃ (g9 : Nat → Int32), va_P (dC, dI) vwCl [(h0, .inr (6, [.ref x0, .int fi, .int pl, .int db, .int go])), (x0, .inl (cI, 36, .inl g9))] t.heap ∧ va_K (dC, dI) vwCl [(cI, .int)] t ∧ va_D (va_A [(h0, .inr (6, [.ref x0, .int fi, .int pl, .int db, .int go])), (x0, .inl (cI, 36, .inl g))] sz) [(h0, .inr (6, [.ref x0, .int fi, .int pl, .int db, .int go])), (x0, .inl (cI, 36, .inl g9))] ∧ g9 = mvK g (3 * (p1.toInt + 1 - fi.toInt)).toNat p2 p3 p4 (fi.toInt + pl.toInt - 1 - p1.toInt).toNat) (va_A [(h0, .inr (6, [.ref x0, .int fi, .int pl, .int db, .int go])), (x0, .inl (cI, 36, .inl g))] sz)) 0 0 (va_A [(h0, .inr (6, [.ref x0, .int fi, .int pl, .int db, .int go])), (x0, .inl (cI, 36, .inl g))] sz) := by
  refine Met.ofW (cc := cX6_drift) (maxL := 7) (ret := none) (by decide) rfl ?_
  intro p e s m args below meth c s₁ B hml hv
  obtain ⟨rfl, hsz, hP, hK, hD0⟩ := hv
  have hx := B.exec
  have hb := B.bytes
  have hr := B.returns
  have hts := atoms_spec (ws := wk_X6_drift) B.pre
  have hown : s.vm.findClass RX6 = some m.cls := findClass_of_methodNamed B.named
  have hlocks := B.notSynchronized
  subst hsz
  have hD := hD0.self (sz := s.heap.size)
  generalize hAe : va_A [(h0, .inr (6, [.ref x0, .int fi, .int pl, .int db, .int go])), (x0, .inl (cI, 36, .inl g))] s.heap.size = A at hD ⊢
  have hA : ∀ q : Nat, s.heap.size ≤ q → A q := fun q h => by rw [← hAe]; exact Or.inr h
  have hS : va_S A s.heap s.heap [] := va_S.rf
  have hP : va_P (dC, dI) vwCl [(h0, .inr (6, [.ref x0, .int fi, .int pl, .int db, .int go])), (x0, .inl (cI, 36, .inl g))] s.heap := hP
  have hl := lv_entry ([.ref h0, .int p1, .int p2, .int p3, .int p4]) (n := 7) (Nat.le_of_ble_eq_true rfl)
  rw [lg_entry_eq]
  generalize (lg_sl ([.ref h0, .int p1, .int p2, .int p3, .int p4]) ++ List.replicate (7 - (lg_sl ([.ref h0, .int p1, .int p2, .int p3, .int p4])).length) Slot.unset).toArray = ls at hl ⊢
  have hl : lv_has ls 7 [(0, .ref h0), (1, .int p1), (2, .int p2), (3, .int p3), (4, .int p4)] := hl
  have kl_0 : (0 : Int32).toInt = 0 := by decide
  have kl_1 : (1 : Int32).toInt = 1 := by decide
  have kl_2 : (2 : Int32).toInt = 2 := by decide
  obtain ⟨hf0, hf1, hq0, hq1⟩ := id ht
  refine lv_iload_n hx hb dX6_drift_0 rfl (lv_at hl 1 rfl) ?_
  refine lv_iconst (v := 1) hx hb dX6_drift_1 (by decide) ?_
  refine lv_iadd hx hb dX6_drift_2 ?_
  refine lv_topi (fun y_1 ey_1 => ?_)
  have ty_1 : y_1.toInt = p1.toInt + 1 := by rw [ey_1]; have := fb_addI (x := p1) (y := 1) (by omega) (by omega); omega
  refine lv_istore (lv' := [(5, .int y_1), (0, .ref h0), (1, .int p1), (2, .int p2), (3, .int p3), (4, .int p4)]) hx hb dX6_drift_3 hl (by decide) rfl (fun ls hl => ?_)
  refine (show ∀ (k : Nat) (kk : Int32) (S7 : Nat → Int32) (hk0 : p1.toInt < kk.toInt) (hk1 : kk.toInt ≤ fi.toInt + pl.toInt) (hS7 : S7 = mvK g (3 * (p1.toInt + 1 - fi.toInt)).toNat p2 p3 p4 (kk.toInt - 1 - p1.toInt).toNat) (hk_5 : (fi.toInt + pl.toInt - kk.toInt).toNat < k) (H : Heap) (locs : List Loc) (hP : va_P (dC, dI) vwCl [(h0, .inr (6, [.ref x0, .int fi, .int pl, .int db, .int go])), (x0, .inl (cI, 36, .inl S7))] H) (hD : va_D A [(h0, .inr (6, [.ref x0, .int fi, .int pl, .int db, .int go])), (x0, .inl (cI, 36, .inl S7))]) (hS : va_S A s.heap H locs) (ls : Array Slot) (hl : lv_has ls 7 [(0, .ref h0), (1, .int p1), (2, .int p2), (3, .int p3), (4, .int p4), (5, .int kk)]), W p l e _ s m _ below meth c H locs 0 0 _ (F0 m 5 ls []) from ?_) _ y_1 g (by omega) (by omega) (by rw [show (y_1.toInt - 1 - p1.toInt).toNat = 0 by omega]; rfl) (Nat.lt_succ_self _) _ _ hP hD hS ls (lv_sub hl [1, 2, 3, 4, 5, 0] rfl)
  intro k
  induction k with
  | zero => intro kk S7 hk0 hk1 hS7 hk_5; exact absurd hk_5 (Nat.not_lt_zero _)
  | succ k ih_5 =>
    intro kk S7 hk0 hk1 hS7 hk_5 H locs hP hD hS ls hl
    refine lv_iload hx hb dX6_drift_5 (lv_at hl 5 rfl) ?_
    refine lv_aload_n hx hb dX6_drift_7 rfl (lv_at hl 0 rfl) ?_
    have hPc := hP.sub (ws' := [(h0, .inr (6, [.ref x0, .int fi, .int pl, .int db, .int go]))]) [0] rfl
    have hKc := hK.sub (tys' := []) [] rfl
    refine vp_callSi (W.runV (As := []) (rest := [.int kk]) ⟨hx, hb, hml, hown, hts⟩ (c_X6_lastStep l dC dI h0 x0 fi pl db go (by first | assumption | omega)) (cwV 0 hts g_X6_drift__X6_lastStep_29 rfl rfl rfl (by decide +kernel) ⟨Nat.le_of_ble_eq_true rfl, Nat.le_of_ble_eq_true rfl⟩) ⟨fun a U g mk q => by obtain ⟨q0, qP, qK⟩ := q; exact ⟨q0, qP, va_K.moved (u := U) (U := U.calling g mk a) (Vm.Alike.refl U.vm) qK⟩, va_recv hKc hPc (ci := 6) (q0 := 0) rfl rfl, fun U hU hW => ⟨rfl, by rw [hU]; exact hPc, va_K.moved hW.alike hKc⟩⟩ rfl rfl hl.1 rfl (lv_room (Nat.le_of_ble_eq_true rfl)) dX6_drift_8 ⟨Nat.le_of_ble_eq_true rfl, Nat.le_of_ble_eq_true rfl⟩) (fun r_2 hr_2 => ?_)
    try dsimp only at hr_2
    refine lv_icmp_gt (tgt := 60) hx hb dX6_drift_11 (by decide) (fun c_11 => ?_) (fun c_11 => ?_)
    · have t_11 := (fa_lt _ _).mp c_11
      have hP9 := hP.sub (ws' := [(h0, .inr (6, [.ref x0, .int fi, .int pl, .int db, .int go])), (x0, .inl (cI, 36, .inl S7))]) [0, 1] rfl
      have hD9 := hD.sub (ws' := [(h0, .inr (6, [.ref x0, .int fi, .int pl, .int db, .int go])), (x0, .inl (cI, 36, .inl S7))]) [0, 1] (by decide) rfl
      have hK9 := hK.sub (tys' := [(cI, .int)]) [0] rfl
      refine W.widen (k := 0) (n := 0) (by omega) (by omega) ?_
      exact W.vret hx hb hr (fun t ht hW => ⟨⟨(), rfl, trivial, S7, by rw [ht]; exact hP9, va_K.moved hW.alike hK9, hD9, (by rw [show (fi.toInt + pl.toInt - 1 - p1.toInt).toNat = (kk.toInt - 1 - p1.toInt).toNat by omega]; exact hS7)⟩, hS.F ht⟩) hS.2.2 dX6_drift_60
    · have t_11 := mt (fa_lt _ _).mpr c_11
      refine lv_iload hx hb dX6_drift_14 (lv_at hl 5 rfl) ?_
      refine lv_iload_n hx hb dX6_drift_16 rfl (lv_at hl 1 rfl) ?_
      refine lv_isub hx hb dX6_drift_17 ?_
      refine lv_topi (fun y_3 ey_3 => ?_)
      have ty_3 : y_3.toInt = kk.toInt - p1.toInt := by rw [ey_3]; have := fb_subI (x := kk) (y := p1) (by omega) (by omega); omega
      refine lv_istore (lv' := [(6, .int y_3), (0, .ref h0), (1, .int p1), (2, .int p2), (3, .int p3), (4, .int p4), (5, .int kk)]) hx hb dX6_drift_18 hl (by decide) rfl (fun ls hl => ?_)
      refine lv_aload_n hx hb dX6_drift_20 rfl (lv_at hl 1 rfl) ?_
      refine lv_iload hx hb dX6_drift_21 (lv_at hl 6 rfl) ?_
      refine lv_iconst (v := 0) hx hb dX6_drift_23 (by decide) ?_
      refine lv_iload hx hb dX6_drift_24 (lv_at hl 0 rfl) ?_
      refine lv_iload_n hx hb dX6_drift_26 rfl (lv_at hl 3 rfl) ?_
      refine lv_imul hx hb dX6_drift_27 ?_
      refine lv_topi (fun y_4 ey_4 => ?_)
      have hPc := hP.sub (ws' := [(h0, .inr (6, [.ref x0, .int fi, .int pl, .int db, .int go])), (x0, .inl (cI, 36, .inl S7))]) [0, 1] rfl
      have hKc := hK.sub (tys' := [(cI, .int)]) [0] rfl
      have hDc := hD.sub (ws' := [(h0, .inr (6, [.ref x0, .int fi, .int pl, .int db, .int go])), (x0, .inl (cI, 36, .inl S7))]) [0, 1] (by decide) rfl
      have hFc := va_free (wc := [(h0, .inr (6, [.ref x0, .int fi, .int pl, .int db, .int go])), (x0, .inl (cI, 36, .inl S7))]) hD hS hA [0, 1] rfl
      refine va_callv (va_runV (As := [.int kk, .int 0, .int y_4]) (rest := []) ⟨hx, hb, hml, hown, hts⟩ (c_X6_move l dC dI h0 x0 fi pl db go S7 cI kk 0 y_4 H.size (by first | omega | assumption) (by first | omega | assumption) (by first | omega | assumption) (by first | omega | assumption) (by first | omega | assumption) (by first | omega | assumption)) (cwV 3 hts g_X6_drift__X6_move_67 rfl rfl rfl (by decide +kernel) ⟨Nat.le_of_ble_eq_true rfl, Nat.le_of_ble_eq_true rfl⟩) ⟨fun a U g mk q => by obtain ⟨q0, q1, qP, qK, qD⟩ := q; exact ⟨q0, q1, qP, va_K.moved (u := U) (U := U.calling g mk a) (Vm.Alike.refl U.vm) qK, qD⟩, va_recv hKc hPc (ci := 6) (q0 := 0) rfl rfl, fun U hU hW => ⟨rfl, by rw [hU], by rw [hU]; exact hPc, va_K.moved hW.alike hKc, hDc.weaken (fun _ _ _ _ => trivial)⟩⟩ rfl rfl hl.1 rfl (lv_room (Nat.le_of_ble_eq_true rfl)) dX6_drift_28 ⟨Nat.le_of_ble_eq_true rfl, Nat.le_of_ble_eq_true rfl⟩) hS (fun q _ h => hFc q h) hFc (fun u_5 t H1 locs ht hvm hw_6 hB hz1 hk1 hS => ?_)
      obtain ⟨g9_7, hP1, hK1, hD1, hg9_8⟩ := hB
      rw [ht] at hP1
      have hK1 := va_K.moved hvm.symm hK1
      obtain ⟨hP, hD⟩ := va_join (wr := []) (w1 := [(h0, .inr (6, [.ref x0, .int fi, .int pl, .int db, .int go])), (x0, .inl (cI, 36, .inl g9_7))]) hP hD [0, 1] [] rfl rfl (by decide) (by decide) hk1 hFc hP1 hD1
      have hK := (hK.sub (tys' := [(cI, .int)]) [0] rfl).app hK1
      generalize H1 = H at hP hS ⊢
      have hP : va_P (dC, dI) vwCl [(h0, .inr (6, [.ref x0, .int fi, .int pl, .int db, .int go])), (x0, .inl (cI, 36, .inl g9_7))] H := hP
      have hD : va_D A [(h0, .inr (6, [.ref x0, .int fi, .int pl, .int db, .int go])), (x0, .inl (cI, 36, .inl g9_7))] := hD
      have hK : va_K (dC, dI) vwCl [(cI, .int), (cI, .int)] s := hK
      refine W.widen (k := 0) (n := 0) (by omega) (by omega) ?_
      refine lv_aload_n hx hb dX6_drift_31 rfl (lv_at hl 1 rfl) ?_
      refine lv_iload hx hb dX6_drift_32 (lv_at hl 6 rfl) ?_
      refine lv_iconst (v := 1) hx hb dX6_drift_34 (by decide) ?_
      refine lv_iload hx hb dX6_drift_35 (lv_at hl 0 rfl) ?_
      refine lv_iload_n hx hb dX6_drift_37 rfl (lv_at hl 4 rfl) ?_
      refine lv_imul hx hb dX6_drift_38 ?_
      refine lv_topi (fun y_9 ey_9 => ?_)
      have hPc := hP.sub (ws' := [(h0, .inr (6, [.ref x0, .int fi, .int pl, .int db, .int go])), (x0, .inl (cI, 36, .inl g9_7))]) [0, 1] rfl
      have hKc := hK.sub (tys' := [(cI, .int)]) [0] rfl
      have hDc := hD.sub (ws' := [(h0, .inr (6, [.ref x0, .int fi, .int pl, .int db, .int go])), (x0, .inl (cI, 36, .inl g9_7))]) [0, 1] (by decide) rfl
      have hFc := va_free (wc := [(h0, .inr (6, [.ref x0, .int fi, .int pl, .int db, .int go])), (x0, .inl (cI, 36, .inl g9_7))]) hD hS hA [0, 1] rfl
      refine va_callv (va_runV (As := [.int kk, .int 1, .int y_9]) (rest := []) ⟨hx, hb, hml, hown, hts⟩ (c_X6_move l dC dI h0 x0 fi pl db go g9_7 cI kk 1 y_9 H.size (by first | omega | assumption) (by first | omega | assumption) (by first | omega | assumption) (by first | omega | assumption) (by first | omega | assumption) (by first | omega | assumption)) (cwV 3 hts g_X6_drift__X6_move_67 rfl rfl rfl (by decide +kernel) ⟨Nat.le_of_ble_eq_true rfl, Nat.le_of_ble_eq_true rfl⟩) ⟨fun a U g mk q => by obtain ⟨q0, q1, qP, qK, qD⟩ := q; exact ⟨q0, q1, qP, va_K.moved (u := U) (U := U.calling g mk a) (Vm.Alike.refl U.vm) qK, qD⟩, va_recv hKc hPc (ci := 6) (q0 := 0) rfl rfl, fun U hU hW => ⟨rfl, by rw [hU], by rw [hU]; exact hPc, va_K.moved hW.alike hKc, hDc.weaken (fun _ _ _ _ => trivial)⟩⟩ rfl rfl hl.1 rfl (lv_room (Nat.le_of_ble_eq_true rfl)) dX6_drift_39 ⟨Nat.le_of_ble_eq_true rfl, Nat.le_of_ble_eq_true rfl⟩) hS (fun q _ h => hFc q h) hFc (fun u_10 t H1 locs ht hvm hw_11 hB hz1 hk1 hS => ?_)
      obtain ⟨g9_12, hP1, hK1, hD1, hg9_13⟩ := hB
      rw [ht] at hP1
      have hK1 := va_K.moved hvm.symm hK1
      obtain ⟨hP, hD⟩ := va_join (wr := []) (w1 := [(h0, .inr (6, [.ref x0, .int fi, .int pl, .int db, .int go])), (x0, .inl (cI, 36, .inl g9_12))]) hP hD [0, 1] [] rfl rfl (by decide) (by decide) hk1 hFc hP1 hD1
      have hK := (hK.sub (tys' := [(cI, .int), (cI, .int)]) [0, 1] rfl).app hK1
      generalize H1 = H at hP hS ⊢
      have hP : va_P (dC, dI) vwCl [(h0, .inr (6, [.ref x0, .int fi, .int pl, .int db, .int go])), (x0, .inl (cI, 36, .inl g9_12))] H := hP
      have hD : va_D A [(h0, .inr (6, [.ref x0, .int fi, .int pl, .int db, .int go])), (x0, .inl (cI, 36, .inl g9_12))] := hD
      have hK : va_K (dC, dI) vwCl [(cI, .int), (cI, .int), (cI, .int)] s := hK
      refine W.widen (k := 0) (n := 0) (by omega) (by omega) ?_
      refine lv_aload_n hx hb dX6_drift_42 rfl (lv_at hl 1 rfl) ?_
      refine lv_iload hx hb dX6_drift_43 (lv_at hl 6 rfl) ?_
      refine lv_iconst (v := 2) hx hb dX6_drift_45 (by decide) ?_
      refine lv_iload hx hb dX6_drift_46 (lv_at hl 0 rfl) ?_
      refine lv_iload hx hb dX6_drift_48 (lv_at hl 5 rfl) ?_
      refine lv_imul hx hb dX6_drift_50 ?_
      refine lv_topi (fun y_14 ey_14 => ?_)
      have hPc := hP.sub (ws' := [(h0, .inr (6, [.ref x0, .int fi, .int pl, .int db, .int go])), (x0, .inl (cI, 36, .inl g9_12))]) [0, 1] rfl
      have hKc := hK.sub (tys' := [(cI, .int)]) [0] rfl
      have hDc := hD.sub (ws' := [(h0, .inr (6, [.ref x0, .int fi, .int pl, .int db, .int go])), (x0, .inl (cI, 36, .inl g9_12))]) [0, 1] (by decide) rfl
      have hFc := va_free (wc := [(h0, .inr (6, [.ref x0, .int fi, .int pl, .int db, .int go])), (x0, .inl (cI, 36, .inl g9_12))]) hD hS hA [0, 1] rfl
      refine va_callv (va_runV (As := [.int kk, .int 2, .int y_14]) (rest := []) ⟨hx, hb, hml, hown, hts⟩ (c_X6_move l dC dI h0 x0 fi pl db go g9_12 cI kk 2 y_14 H.size (by first | omega | assumption) (by first | omega | assumption) (by first | omega | assumption) (by first | omega | assumption) (by first | omega | assumption) (by first | omega | assumption)) (cwV 3 hts g_X6_drift__X6_move_67 rfl rfl rfl (by decide +kernel) ⟨Nat.le_of_ble_eq_true rfl, Nat.le_of_ble_eq_true rfl⟩) ⟨fun a U g mk q => by obtain ⟨q0, q1, qP, qK, qD⟩ := q; exact ⟨q0, q1, qP, va_K.moved (u := U) (U := U.calling g mk a) (Vm.Alike.refl U.vm) qK, qD⟩, va_recv hKc hPc (ci := 6) (q0 := 0) rfl rfl, fun U hU hW => ⟨rfl, by rw [hU], by rw [hU]; exact hPc, va_K.moved hW.alike hKc, hDc.weaken (fun _ _ _ _ => trivial)⟩⟩ rfl rfl hl.1 rfl (lv_room (Nat.le_of_ble_eq_true rfl)) dX6_drift_51 ⟨Nat.le_of_ble_eq_true rfl, Nat.le_of_ble_eq_true rfl⟩) hS (fun q _ h => hFc q h) hFc (fun u_15 t H1 locs ht hvm hw_16 hB hz1 hk1 hS => ?_)
      obtain ⟨g9_17, hP1, hK1, hD1, hg9_18⟩ := hB
      rw [ht] at hP1
      have hK1 := va_K.moved hvm.symm hK1
      obtain ⟨hP, hD⟩ := va_join (wr := []) (w1 := [(h0, .inr (6, [.ref x0, .int fi, .int pl, .int db, .int go])), (x0, .inl (cI, 36, .inl g9_17))]) hP hD [0, 1] [] rfl rfl (by decide) (by decide) hk1 hFc hP1 hD1
      have hK := (hK.sub (tys' := [(cI, .int), (cI, .int), (cI, .int)]) [0, 1, 2] rfl).app hK1
      generalize H1 = H at hP hS ⊢
      have hP : va_P (dC, dI) vwCl [(h0, .inr (6, [.ref x0, .int fi, .int pl, .int db, .int go])), (x0, .inl (cI, 36, .inl g9_17))] H := hP
      have hD : va_D A [(h0, .inr (6, [.ref x0, .int fi, .int pl, .int db, .int go])), (x0, .inl (cI, 36, .inl g9_17))] := hD
      have hK : va_K (dC, dI) vwCl [(cI, .int), (cI, .int), (cI, .int), (cI, .int)] s := hK
      refine W.widen (k := 0) (n := 0) (by omega) (by omega) ?_
      obtain ⟨n, hn⟩ : ∃ n : Nat, (kk.toInt - 1 - p1.toInt).toNat = n := ⟨_, rfl⟩
      obtain ⟨q, hq⟩ : ∃ q : Nat, (3 * (p1.toInt + 1 - fi.toInt)).toNat = q := ⟨_, rfl⟩
      rw [hn, hq] at hS7
      have hS8 := shk_step hS7 (mv3_seq (i := q + 3 * n) (by omega) (by unfold ixc; omega) (by unfold ixc; omega) (by unfold ixc; omega) hg9_8 hg9_13 hg9_18 ey_4 ey_9 ey_14) (by omega) (nI_of_toInt (by omega))
      obtain ⟨y_19, ey_19⟩ : ∃ y : Int32, y = kk + 1 := ⟨_, rfl⟩
      have ty_19 : y_19.toInt = kk.toInt + 1 := by rw [ey_19]; have := fb_addI (x := kk) (y := 1) (by omega) (by omega); omega
      refine lv_iinc (v := y_19) (lv' := [(5, .int y_19), (6, .int y_3), (0, .ref h0), (1, .int p1), (2, .int p2), (3, .int p3), (4, .int p4)]) hx hb dX6_drift_54 hl (k := 6) rfl (by rw [ey_19]; rfl) (by decide) rfl (fun ls hl => ?_)
      refine lv_goto (tgt := 5) hx hb dX6_drift_57 (by decide) ?_
      exact ih_5 y_19 g9_17 (by omega) (by omega) (by rw [show (y_19.toInt - 1 - p1.toInt).toNat = n + 1 by omega, hq]; exact hS8) (by omega) H _ (hP.sub [0, 1] rfl) (hD.sub [0, 1] (by decide) rfl) hS ls (lv_sub hl [2, 3, 4, 5, 6, 0] rfl)
def wk_X8_isWithin : List Cond := .code yX8_isWithin cX8_isWithin 3 (some .boolean) :: (([] : List Cond) ++ ([]))
theorem gw_X8_isWithin : AG wk_X8_isWithin := AG_ca (AG_l (by decide +kernel)) (AG_nil)
set_option maxHeartbeats 4000000 in
set_option maxRecDepth 100000 in
theorem c_X8_isWithin (l : Launch) (dC : Nat → ClassId) (dI : Nat → Nat → Nat) (v : Int32) (lo : Int32) (hi : Int32) : Met l yX8_isWithin wk_X8_isWithin ({ frames := 0, cells := 0, slots := 0, locals := 0 }) (va_Pc [.int v, .int lo, .int hi] (fun _ => True)) (vp_Si (fun r => r = if lo.toInt ≤ v.toInt ∧ v.toInt ≤ hi.toInt then 1 else 0)) 0 0 (fun _ => False) := by
  refine Met.ofW (cc := cX8_isWithin) (maxL := 3) (ret := (some .boolean)) (by decide) rfl ?_
  intro p e s m args below meth c s₁ B hml hv
  obtain ⟨rfl, -⟩ := hv
  have hx := B.exec
  have hb := B.bytes
  have hr := B.returns
  have hts := atoms_spec (ws := wk_X8_isWithin) B.pre
  have hown : s.vm.findClass RX8 = some m.cls := findClass_of_methodNamed B.named
  have hlocks := B.notSynchronized
  have hl := lv_entry ([.int v, .int lo, .int hi]) (n := 3) (Nat.le_of_ble_eq_true rfl)
  rw [lg_entry_eq]
  generalize (lg_sl ([.int v, .int lo, .int hi]) ++ List.replicate (3 - (lg_sl ([.int v, .int lo, .int hi])).length) Slot.unset).toArray = ls at hl ⊢
  have hl : lv_has ls 3 [(0, .int v), (1, .int lo), (2, .int hi)] := hl
  have kl_0 : (0 : Int32).toInt = 0 := by decide
  have kl_1 : (1 : Int32).toInt = 1 := by decide
  refine lv_iload_n hx hb dX8_isWithin_0 rfl (lv_at hl 0 rfl) ?_
  refine lv_iload_n hx hb dX8_isWithin_1 rfl (lv_at hl 1 rfl) ?_
  refine lv_icmp_lt (tgt := 14) hx hb dX8_isWithin_2 (by decide) (fun c_2 => ?_) (fun c_2 => ?_)
  · have t_2 := (fa_lt _ _).mp c_2
    refine lv_iconst (v := 0) hx hb dX8_isWithin_14 (by decide) ?_
    exact W.zret (v := 0) hx hb hr rfl (fun t ht _ => ⟨_, rfl, (by first | exact (if_pos (by omega)).symm | exact (if_neg (by omega)).symm), ht⟩) (fun _ h => absurd h List.not_mem_nil) dX8_isWithin_15
  · have t_2 := mt (fa_lt _ _).mpr c_2
    refine lv_iload_n hx hb dX8_isWithin_5 rfl (lv_at hl 0 rfl) ?_
    refine lv_iload_n hx hb dX8_isWithin_6 rfl (lv_at hl 2 rfl) ?_
    refine lv_icmp_gt (tgt := 14) hx hb dX8_isWithin_7 (by decide) (fun c_7 => ?_) (fun c_7 => ?_)
    · have t_7 := (fa_lt _ _).mp c_7
      refine lv_iconst (v := 0) hx hb dX8_isWithin_14 (by decide) ?_
      exact W.zret (v := 0) hx hb hr rfl (fun t ht _ => ⟨_, rfl, (by first | exact (if_pos (by omega)).symm | exact (if_neg (by omega)).symm), ht⟩) (fun _ h => absurd h List.not_mem_nil) dX8_isWithin_15
    · have t_7 := mt (fa_lt _ _).mpr c_7
      refine lv_iconst (v := 1) hx hb dX8_isWithin_10 (by decide) ?_
      refine lv_goto (tgt := 15) hx hb dX8_isWithin_11 (by decide) ?_
      exact W.zret (v := 1) hx hb hr rfl (fun t ht _ => ⟨_, rfl, (by first | exact (if_pos (by omega)).symm | exact (if_neg (by omega)).symm), ht⟩) (fun _ h => absurd h List.not_mem_nil) dX8_isWithin_15
def wk_X8_isStep : List Cond := .code yX8_isStep cX8_isStep 1 (some .boolean) :: (([] : List Cond) ++ ((va_wsS RX8 84 yX8_isWithin wk_X8_isWithin) ++ ([])))
theorem gw_X8_isStep : AG wk_X8_isStep := AG_ca (AG_l (by decide +kernel)) (AG_app (AG_S gw_X8_isWithin) (AG_nil))
theorem g_X8_isStep__X8_isWithin_84 : GoodIn wk_X8_isStep (va_wsS RX8 84 yX8_isWithin wk_X8_isWithin) := goodIn_m (fun _ h => List.mem_cons_of_mem _ (List.mem_append_right _ (List.mem_append_left _ h))) (AG_S gw_X8_isWithin)
set_option maxHeartbeats 4000000 in
set_option maxRecDepth 100000 in
theorem c_X8_isStep (l : Launch) (dC : Nat → ClassId) (dI : Nat → Nat → Nat) (p1 : Int32) : Met l yX8_isStep wk_X8_isStep ({ frames := 1, cells := 0, slots := 0, locals := 22 }) (va_Pc [.int p1] (fun _ => True)) (vp_Si (fun r => r = if 0 ≤ p1.toInt ∧ p1.toInt ≤ 39 then 1 else 0)) 0 0 (fun _ => False) := by
  refine Met.ofW (cc := cX8_isStep) (maxL := 1) (ret := (some .boolean)) (by decide) rfl ?_
  intro p e s m args below meth c s₁ B hml hv
  obtain ⟨rfl, -⟩ := hv
  have hx := B.exec
  have hb := B.bytes
  have hr := B.returns
  have hts := atoms_spec (ws := wk_X8_isStep) B.pre
  have hown : s.vm.findClass RX8 = some m.cls := findClass_of_methodNamed B.named
  have hlocks := B.notSynchronized
  have hl := lv_entry ([.int p1]) (n := 1) (Nat.le_of_ble_eq_true rfl)
  rw [lg_entry_eq]
  generalize (lg_sl ([.int p1]) ++ List.replicate (1 - (lg_sl ([.int p1])).length) Slot.unset).toArray = ls at hl ⊢
  have hl : lv_has ls 1 [(0, .int p1)] := hl
  have kl_0 : (0 : Int32).toInt = 0 := by decide
  have kl_1 : (1 : Int32).toInt = 1 := by decide
  have kl_39 : (39 : Int32).toInt = 39 := by decide
  refine lv_iload_n hx hb dX8_isStep_0 rfl (lv_at hl 0 rfl) ?_
  refine lv_iconst (v := 0) hx hb dX8_isStep_1 (by decide) ?_
  refine lv_bipush (v := 39) hx hb dX8_isStep_2 (by decide) ?_
  refine vp_callSi (W.runS (As := [.int p1, .int 0, .int 39]) (rest := []) ⟨hx, hb, hml, hown, hts⟩ (c_X8_isWithin l dC dI p1 0 39) (va_cwS 3 hts g_X8_isStep__X8_isWithin_84 rfl rfl rfl (by decide +kernel) ⟨Nat.le_of_ble_eq_true rfl, Nat.le_of_ble_eq_true rfl⟩) ⟨fun a U g mk q => by obtain ⟨q0, q1⟩ := q; exact ⟨q0, q1⟩, fun U hU hW => ⟨rfl, trivial⟩⟩ rfl rfl hl.1 rfl (lv_room (Nat.le_of_ble_eq_true rfl)) dX8_isStep_4 ⟨Nat.le_of_ble_eq_true rfl, Nat.le_of_ble_eq_true rfl⟩) (fun r_1 hr_1 => ?_)
  try dsimp only at hr_1
  rcases bo_split hr_1 with ⟨rfl, q_4⟩ | ⟨rfl, q_4⟩
  · exact W.zret (v := 1) hx hb hr rfl (fun t ht _ => ⟨_, rfl, (by first | exact (if_pos (by omega)).symm | exact (if_neg (by omega)).symm), ht⟩) (fun _ h => absurd h List.not_mem_nil) dX8_isStep_7
  · exact W.zret (v := 0) hx hb hr rfl (fun t ht _ => ⟨_, rfl, (by first | exact (if_pos (by omega)).symm | exact (if_neg (by omega)).symm), ht⟩) (fun _ h => absurd h List.not_mem_nil) dX8_isStep_7
def wk_X8_isPlace : List Cond := .code yX8_isPlace cX8_isPlace 3 (some .boolean) :: (([] : List Cond) ++ ((va_wsS RX8 84 yX8_isWithin wk_X8_isWithin) ++ ([])))
theorem gw_X8_isPlace : AG wk_X8_isPlace := AG_ca (AG_l (by decide +kernel)) (AG_app (AG_S gw_X8_isWithin) (AG_nil))
theorem g_X8_isPlace__X8_isWithin_84 : GoodIn wk_X8_isPlace (va_wsS RX8 84 yX8_isWithin wk_X8_isWithin) := goodIn_m (fun _ h => List.mem_cons_of_mem _ (List.mem_append_right _ (List.mem_append_left _ h))) (AG_S gw_X8_isWithin)
set_option maxHeartbeats 4000000 in
set_option maxRecDepth 100000 in
theorem c_X8_isPlace (l : Launch) (dC : Nat → ClassId) (dI : Nat → Nat → Nat) (p1 : Int32) (p2 : Int32) (p3 : Int32) : Met l yX8_isPlace wk_X8_isPlace ({ frames := 1, cells := 0, slots := 0, locals := 22 }) (va_Pc [.int p1, .int p2, .int p3] (fun _ => True)) (vp_Si (fun r => r = if inP p1 p2 p3 then 1 else 0)) 0 0 (fun _ => False) := by
  refine Met.ofW (cc := cX8_isPlace) (maxL := 3) (ret := (some .boolean)) (by decide) rfl ?_
  intro p e s m args below meth c s₁ B hml hv
  obtain ⟨rfl, -⟩ := hv
  have hx := B.exec
  have hb := B.bytes
  have hr := B.returns
  have hts := atoms_spec (ws := wk_X8_isPlace) B.pre
  have hown : s.vm.findClass RX8 = some m.cls := findClass_of_methodNamed B.named
  have hlocks := B.notSynchronized
  have hl := lv_entry ([.int p1, .int p2, .int p3]) (n := 3) (Nat.le_of_ble_eq_true rfl)
  rw [lg_entry_eq]
  generalize (lg_sl ([.int p1, .int p2, .int p3]) ++ List.replicate (3 - (lg_sl ([.int p1, .int p2, .int p3])).length) Slot.unset).toArray = ls at hl ⊢
  have hl : lv_has ls 3 [(0, .int p1), (1, .int p2), (2, .int p3)] := hl
  have kl_m5000 : (-5000 : Int32).toInt = -5000 := by decide
  have kl_0 : (0 : Int32).toInt = 0 := by decide
  have kl_1 : (1 : Int32).toInt = 1 := by decide
  have kl_5000 : (5000 : Int32).toInt = 5000 := by decide
  refine lv_iload_n hx hb dX8_isPlace_0 rfl (lv_at hl 0 rfl) ?_
  refine lv_sipush (v := (-5000)) hx hb dX8_isPlace_1 (by decide) ?_
  refine lv_sipush (v := 5000) hx hb dX8_isPlace_4 (by decide) ?_
  refine vp_callSi (W.runS (As := [.int p1, .int (-5000), .int 5000]) (rest := []) ⟨hx, hb, hml, hown, hts⟩ (c_X8_isWithin l dC dI p1 (-5000) 5000) (va_cwS 3 hts g_X8_isPlace__X8_isWithin_84 rfl rfl rfl (by decide +kernel) ⟨Nat.le_of_ble_eq_true rfl, Nat.le_of_ble_eq_true rfl⟩) ⟨fun a U g mk q => by obtain ⟨q0, q1⟩ := q; exact ⟨q0, q1⟩, fun U hU hW => ⟨rfl, trivial⟩⟩ rfl rfl hl.1 rfl (lv_room (Nat.le_of_ble_eq_true rfl)) dX8_isPlace_7 ⟨Nat.le_of_ble_eq_true rfl, Nat.le_of_ble_eq_true rfl⟩) (fun r_1 hr_1 => ?_)
  try dsimp only at hr_1
  rcases bo_split hr_1 with ⟨rfl, q_7⟩ | ⟨rfl, q_7⟩
  · refine lv_if_eq (tgt := 43) hx hb dX8_isPlace_10 (by decide) (fun h9 => absurd h9 (by decide)) (fun _ => ?_)
    refine lv_iload_n hx hb dX8_isPlace_13 rfl (lv_at hl 1 rfl) ?_
    refine lv_sipush (v := (-5000)) hx hb dX8_isPlace_14 (by decide) ?_
    refine lv_sipush (v := 5000) hx hb dX8_isPlace_17 (by decide) ?_
    refine vp_callSi (W.runS (As := [.int p2, .int (-5000), .int 5000]) (rest := []) ⟨hx, hb, hml, hown, hts⟩ (c_X8_isWithin l dC dI p2 (-5000) 5000) (va_cwS 3 hts g_X8_isPlace__X8_isWithin_84 rfl rfl rfl (by decide +kernel) ⟨Nat.le_of_ble_eq_true rfl, Nat.le_of_ble_eq_true rfl⟩) ⟨fun a U g mk q => by obtain ⟨q0, q1⟩ := q; exact ⟨q0, q1⟩, fun U hU hW => ⟨rfl, trivial⟩⟩ rfl rfl hl.1 rfl (lv_room (Nat.le_of_ble_eq_true rfl)) dX8_isPlace_20 ⟨Nat.le_of_ble_eq_true rfl, Nat.le_of_ble_eq_true rfl⟩) (fun r_2 hr_2 => ?_)
    try dsimp only at hr_2
    rcases bo_split hr_2 with ⟨rfl, q_20⟩ | ⟨rfl, q_20⟩
    · refine lv_if_eq (tgt := 43) hx hb dX8_isPlace_23 (by decide) (fun h9 => absurd h9 (by decide)) (fun _ => ?_)
      refine lv_iload_n hx hb dX8_isPlace_26 rfl (lv_at hl 2 rfl) ?_
      refine lv_sipush (v := (-5000)) hx hb dX8_isPlace_27 (by decide) ?_
      refine lv_sipush (v := 5000) hx hb dX8_isPlace_30 (by decide) ?_
      refine vp_callSi (W.runS (As := [.int p3, .int (-5000), .int 5000]) (rest := []) ⟨hx, hb, hml, hown, hts⟩ (c_X8_isWithin l dC dI p3 (-5000) 5000) (va_cwS 3 hts g_X8_isPlace__X8_isWithin_84 rfl rfl rfl (by decide +kernel) ⟨Nat.le_of_ble_eq_true rfl, Nat.le_of_ble_eq_true rfl⟩) ⟨fun a U g mk q => by obtain ⟨q0, q1⟩ := q; exact ⟨q0, q1⟩, fun U hU hW => ⟨rfl, trivial⟩⟩ rfl rfl hl.1 rfl (lv_room (Nat.le_of_ble_eq_true rfl)) dX8_isPlace_33 ⟨Nat.le_of_ble_eq_true rfl, Nat.le_of_ble_eq_true rfl⟩) (fun r_3 hr_3 => ?_)
      try dsimp only at hr_3
      rcases bo_split hr_3 with ⟨rfl, q_33⟩ | ⟨rfl, q_33⟩
      · refine lv_if_eq (tgt := 43) hx hb dX8_isPlace_36 (by decide) (fun h9 => absurd h9 (by decide)) (fun _ => ?_)
        refine lv_iconst (v := 1) hx hb dX8_isPlace_39 (by decide) ?_
        refine lv_goto (tgt := 44) hx hb dX8_isPlace_40 (by decide) ?_
        exact W.zret (v := 1) hx hb hr rfl (fun t ht _ => ⟨_, rfl, (by first | exact (if_pos (by omega)).symm | exact (if_neg (by omega)).symm), ht⟩) (fun _ h => absurd h List.not_mem_nil) dX8_isPlace_44
      · refine lv_if_eq (tgt := 43) hx hb dX8_isPlace_36 (by decide) (fun _ => ?_) (fun h9 => absurd h9 (by decide))
        refine lv_iconst (v := 0) hx hb dX8_isPlace_43 (by decide) ?_
        exact W.zret (v := 0) hx hb hr rfl (fun t ht _ => ⟨_, rfl, (by first | exact (if_pos (by omega)).symm | exact (if_neg (by omega)).symm), ht⟩) (fun _ h => absurd h List.not_mem_nil) dX8_isPlace_44
    · refine lv_if_eq (tgt := 43) hx hb dX8_isPlace_23 (by decide) (fun _ => ?_) (fun h9 => absurd h9 (by decide))
      refine lv_iconst (v := 0) hx hb dX8_isPlace_43 (by decide) ?_
      exact W.zret (v := 0) hx hb hr rfl (fun t ht _ => ⟨_, rfl, (by first | exact (if_pos (by omega)).symm | exact (if_neg (by omega)).symm), ht⟩) (fun _ h => absurd h List.not_mem_nil) dX8_isPlace_44
  · refine lv_if_eq (tgt := 43) hx hb dX8_isPlace_10 (by decide) (fun _ => ?_) (fun h9 => absurd h9 (by decide))
    refine lv_iconst (v := 0) hx hb dX8_isPlace_43 (by decide) ?_
    exact W.zret (v := 0) hx hb hr rfl (fun t ht _ => ⟨_, rfl, (by first | exact (if_pos (by omega)).symm | exact (if_neg (by omega)).symm), ht⟩) (fun _ h => absurd h List.not_mem_nil) dX8_isPlace_44
def wk_X6_staysInside : List Cond := .code yX6_staysInside cX6_staysInside 7 (some .boolean) :: (([.initialized RX8, .static yX8_isPlace] : List Cond) ++ ((wsV RX6 29 RX6 yX6_lastStep wk_X6_lastStep) ++ ((wsV RX6 33 RX6 yX6_coord wk_X6_coord) ++ (wk_X8_isPlace ++ ([])))))
theorem gw_X6_staysInside : AG wk_X6_staysInside := AG_ca (AG_l (by decide +kernel)) (AG_app (AG_V gw_X6_lastStep) (AG_app (AG_V gw_X6_coord) (AG_app gw_X8_isPlace (AG_nil))))
theorem g_X6_staysInside__X6_lastStep_29 : GoodIn wk_X6_staysInside (wsV RX6 29 RX6 yX6_lastStep wk_X6_lastStep) := goodIn_m (fun _ h => List.mem_cons_of_mem _ (List.mem_append_right _ (List.mem_append_left _ h))) (AG_V gw_X6_lastStep)
theorem g_X6_staysInside__X6_coord_33 : GoodIn wk_X6_staysInside (wsV RX6 33 RX6 yX6_coord wk_X6_coord) := goodIn_m (fun _ h => List.mem_cons_of_mem _ (List.mem_append_right _ (List.mem_append_right _ (List.mem_append_left _ h)))) (AG_V gw_X6_coord)
theorem g_X6_staysInside__X8_isPlace_71 : GoodIn wk_X6_staysInside wk_X8_isPlace := goodIn_m (fun _ h => List.mem_cons_of_mem _ (List.mem_append_right _ (List.mem_append_right _ (List.mem_append_right _ (List.mem_append_left _ h))))) gw_X8_isPlace
set_option maxHeartbeats 4000000 in
set_option maxRecDepth 100000 in
theorem c_X6_staysInside (l : Launch) (dC : Nat → ClassId) (dI : Nat → Nat → Nat) (h0 : Nat) (x0 : Nat) (fi : Int32) (pl : Int32) (db : Int32) (go : Int32) (g : Nat → Int32) (cI : ClassId) (p1 : Int32) (p2 : Int32) (p3 : Int32) (p4 : Int32) (ht : tOK fi pl) (hs0 : fi.toInt ≤ p1.toInt) (hs1 : p1.toInt < fi.toInt + pl.toInt) : Met l yX6_staysInside wk_X6_staysInside ({ frames := 2, cells := 0, slots := 0, locals := 44 }) (va_Pc [.ref h0, .int p1, .int p2, .int p3, .int p4] (fun U => va_P (dC, dI) vwCl [(h0, .inr (6, [.ref x0, .int fi, .int pl, .int db, .int go])), (x0, .inl (cI, 36, .inl g))] U.heap ∧ va_K (dC, dI) vwCl [(cI, .int)] U ∧ XN U)) (vp_Si (fun r => (r = 1 ∧ stK g (3 * (p1.toInt + 1 - fi.toInt)).toNat p2 p3 p4 (fi.toInt + pl.toInt - 1 - p1.toInt).toNat) ∨ (r = 0 ∧ ¬ stK g (3 * (p1.toInt + 1 - fi.toInt)).toNat p2 p3 p4 (fi.toInt + pl.toInt - 1 - p1.toInt).toNat))) 0 0 (fun _ => False) := by
  refine Met.ofW (cc := cX6_staysInside) (maxL := 7) (ret := (some .boolean)) (by decide) rfl ?_
  intro p e s m args below meth c s₁ B hml hv
  obtain ⟨rfl, hP, hK, hN⟩ := hv
  have hx := B.exec
  have hb := B.bytes
  have hr := B.returns
  have hts := atoms_spec (ws := wk_X6_staysInside) B.pre
  have hown : s.vm.findClass RX6 = some m.cls := findClass_of_methodNamed B.named
  have hlocks := B.notSynchronized
  have hP : va_P (dC, dI) vwCl [(h0, .inr (6, [.ref x0, .int fi, .int pl, .int db, .int go])), (x0, .inl (cI, 36, .inl g))] s.heap := hP
  have hl := lv_entry ([.ref h0, .int p1, .int p2, .int p3, .int p4]) (n := 7) (Nat.le_of_ble_eq_true rfl)
  rw [lg_entry_eq]
  generalize (lg_sl ([.ref h0, .int p1, .int p2, .int p3, .int p4]) ++ List.replicate (7 - (lg_sl ([.ref h0, .int p1, .int p2, .int p3, .int p4])).length) Slot.unset).toArray = ls at hl ⊢
  have hl : lv_has ls 7 [(0, .ref h0), (1, .int p1), (2, .int p2), (3, .int p3), (4, .int p4)] := hl
  have kl_0 : (0 : Int32).toInt = 0 := by decide
  have kl_1 : (1 : Int32).toInt = 1 := by decide
  have kl_2 : (2 : Int32).toInt = 2 := by decide
  obtain ⟨hf0, hf1, hq0, hq1⟩ := id ht
  refine lv_iload_n hx hb dX6_staysInside_0 rfl (lv_at hl 1 rfl) ?_
  refine lv_iconst (v := 1) hx hb dX6_staysInside_1 (by decide) ?_
  refine lv_iadd hx hb dX6_staysInside_2 ?_
  refine lv_topi (fun y_1 ey_1 => ?_)
  have ty_1 : y_1.toInt = p1.toInt + 1 := by rw [ey_1]; have := fb_addI (x := p1) (y := 1) (by omega) (by omega); omega
  refine lv_istore (lv' := [(5, .int y_1), (0, .ref h0), (1, .int p1), (2, .int p2), (3, .int p3), (4, .int p4)]) hx hb dX6_staysInside_3 hl (by decide) rfl (fun ls hl => ?_)
  refine (show ∀ (k : Nat) (kk : Int32) (hk0 : p1.toInt < kk.toInt) (hk1 : kk.toInt ≤ fi.toInt + pl.toInt) (hS7 : stK g (3 * (p1.toInt + 1 - fi.toInt)).toNat p2 p3 p4 (kk.toInt - 1 - p1.toInt).toNat) (hk_5 : (fi.toInt + pl.toInt - kk.toInt).toNat < k) (ls : Array Slot) (hl : lv_has ls 7 [(0, .ref h0), (1, .int p1), (2, .int p2), (3, .int p3), (4, .int p4), (5, .int kk)]), W p l e _ s m _ below meth c s.heap [] 0 0 _ (F0 m 5 ls []) from ?_) _ y_1 (by omega) (by omega) (by rw [show (y_1.toInt - 1 - p1.toInt).toNat = 0 by omega]; exact fun j hj => absurd hj (Nat.not_lt_zero j)) (Nat.lt_succ_self _) ls (lv_sub hl [1, 2, 3, 4, 5, 0] rfl)
  intro k
  induction k with
  | zero => intro kk hk0 hk1 hS7 hk_5; exact absurd hk_5 (Nat.not_lt_zero _)
  | succ k ih_5 =>
    intro kk hk0 hk1 hS7 hk_5 ls hl
    refine lv_iload hx hb dX6_staysInside_5 (lv_at hl 5 rfl) ?_
    refine lv_aload_n hx hb dX6_staysInside_7 rfl (lv_at hl 0 rfl) ?_
    have hPc := hP.sub (ws' := [(h0, .inr (6, [.ref x0, .int fi, .int pl, .int db, .int go]))]) [0] rfl
    have hKc := hK.sub (tys' := []) [] rfl
    refine vp_callSi (W.runV (As := []) (rest := [.int kk]) ⟨hx, hb, hml, hown, hts⟩ (c_X6_lastStep l dC dI h0 x0 fi pl db go (by first | assumption | omega)) (cwV 0 hts g_X6_staysInside__X6_lastStep_29 rfl rfl rfl (by decide +kernel) ⟨Nat.le_of_ble_eq_true rfl, Nat.le_of_ble_eq_true rfl⟩) ⟨fun a U g mk q => by obtain ⟨q0, qP, qK⟩ := q; exact ⟨q0, qP, va_K.moved (u := U) (U := U.calling g mk a) (Vm.Alike.refl U.vm) qK⟩, va_recv hKc hPc (ci := 6) (q0 := 0) rfl rfl, fun U hU hW => ⟨rfl, by rw [hU]; exact hPc, va_K.moved hW.alike hKc⟩⟩ rfl rfl hl.1 rfl (lv_room (Nat.le_of_ble_eq_true rfl)) dX6_staysInside_8 ⟨Nat.le_of_ble_eq_true rfl, Nat.le_of_ble_eq_true rfl⟩) (fun r_2 hr_2 => ?_)
    try dsimp only at hr_2
    refine lv_icmp_gt (tgt := 71) hx hb dX6_staysInside_11 (by decide) (fun c_11 => ?_) (fun c_11 => ?_)
    · have t_11 := (fa_lt _ _).mp c_11
      refine lv_iconst (v := 1) hx hb dX6_staysInside_71 (by decide) ?_
      exact W.zret (v := 1) hx hb hr rfl (fun t ht _ => ⟨_, rfl, (Or.inl ⟨rfl, by rw [show (fi.toInt + pl.toInt - 1 - p1.toInt).toNat = (kk.toInt - 1 - p1.toInt).toNat by omega]; exact hS7⟩), ht⟩) (fun _ h => absurd h List.not_mem_nil) dX6_staysInside_72
    · have t_11 := mt (fa_lt _ _).mpr c_11
      refine lv_iload hx hb dX6_staysInside_14 (lv_at hl 5 rfl) ?_
      refine lv_iload_n hx hb dX6_staysInside_16 rfl (lv_at hl 1 rfl) ?_
      refine lv_isub hx hb dX6_staysInside_17 ?_
      refine lv_topi (fun y_3 ey_3 => ?_)
      have ty_3 : y_3.toInt = kk.toInt - p1.toInt := by rw [ey_3]; have := fb_subI (x := kk) (y := p1) (by omega) (by omega); omega
      refine lv_istore (lv' := [(6, .int y_3), (0, .ref h0), (1, .int p1), (2, .int p2), (3, .int p3), (4, .int p4), (5, .int kk)]) hx hb dX6_staysInside_18 hl (by decide) rfl (fun ls hl => ?_)
      refine lv_aload_n hx hb dX6_staysInside_20 rfl (lv_at hl 1 rfl) ?_
      refine lv_iload hx hb dX6_staysInside_21 (lv_at hl 6 rfl) ?_
      refine lv_iconst (v := 0) hx hb dX6_staysInside_23 (by decide) ?_
      have hPc := hP.sub (ws' := [(h0, .inr (6, [.ref x0, .int fi, .int pl, .int db, .int go])), (x0, .inl (cI, 36, .inl g))]) [0, 1] rfl
      have hKc := hK.sub (tys' := [(cI, .int)]) [0] rfl
      refine vp_callSi (W.runV (As := [.int kk, .int 0]) (rest := []) ⟨hx, hb, hml, hown, hts⟩ (c_X6_coord l dC dI h0 x0 fi pl db go g cI kk 0 (by first | omega | assumption) (by first | omega | assumption) (by first | omega | assumption) (by first | omega | assumption) (by first | omega | assumption) (by first | omega | assumption)) (cwV 2 hts g_X6_staysInside__X6_coord_33 rfl rfl rfl (by decide +kernel) ⟨Nat.le_of_ble_eq_true rfl, Nat.le_of_ble_eq_true rfl⟩) ⟨fun a U g mk q => by obtain ⟨q0, qP, qK⟩ := q; exact ⟨q0, qP, va_K.moved (u := U) (U := U.calling g mk a) (Vm.Alike.refl U.vm) qK⟩, va_recv hKc hPc (ci := 6) (q0 := 0) rfl rfl, fun U hU hW => ⟨rfl, by rw [hU]; exact hPc, va_K.moved hW.alike hKc⟩⟩ rfl rfl hl.1 rfl (lv_room (Nat.le_of_ble_eq_true rfl)) dX6_staysInside_24 ⟨Nat.le_of_ble_eq_true rfl, Nat.le_of_ble_eq_true rfl⟩) (fun r_4 hr_4 => ?_)
      try dsimp only at hr_4
      refine lv_iload hx hb dX6_staysInside_27 (lv_at hl 0 rfl) ?_
      refine lv_iload_n hx hb dX6_staysInside_29 rfl (lv_at hl 3 rfl) ?_
      refine lv_imul hx hb dX6_staysInside_30 ?_
      refine lv_topi (fun y_5 ey_5 => ?_)
      refine lv_iadd hx hb dX6_staysInside_31 ?_
      refine lv_topi (fun y_6 ey_6 => ?_)
      refine lv_aload_n hx hb dX6_staysInside_32 rfl (lv_at hl 1 rfl) ?_
      refine lv_iload hx hb dX6_staysInside_33 (lv_at hl 6 rfl) ?_
      refine lv_iconst (v := 1) hx hb dX6_staysInside_35 (by decide) ?_
      have hPc := hP.sub (ws' := [(h0, .inr (6, [.ref x0, .int fi, .int pl, .int db, .int go])), (x0, .inl (cI, 36, .inl g))]) [0, 1] rfl
      have hKc := hK.sub (tys' := [(cI, .int)]) [0] rfl
      refine vp_callSi (W.runV (As := [.int kk, .int 1]) (rest := [.int y_6]) ⟨hx, hb, hml, hown, hts⟩ (c_X6_coord l dC dI h0 x0 fi pl db go g cI kk 1 (by first | omega | assumption) (by first | omega | assumption) (by first | omega | assumption) (by first | omega | assumption) (by first | omega | assumption) (by first | omega | assumption)) (cwV 2 hts g_X6_staysInside__X6_coord_33 rfl rfl rfl (by decide +kernel) ⟨Nat.le_of_ble_eq_true rfl, Nat.le_of_ble_eq_true rfl⟩) ⟨fun a U g mk q => by obtain ⟨q0, qP, qK⟩ := q; exact ⟨q0, qP, va_K.moved (u := U) (U := U.calling g mk a) (Vm.Alike.refl U.vm) qK⟩, va_recv hKc hPc (ci := 6) (q0 := 0) rfl rfl, fun U hU hW => ⟨rfl, by rw [hU]; exact hPc, va_K.moved hW.alike hKc⟩⟩ rfl rfl hl.1 rfl (lv_room (Nat.le_of_ble_eq_true rfl)) dX6_staysInside_36 ⟨Nat.le_of_ble_eq_true rfl, Nat.le_of_ble_eq_true rfl⟩) (fun r_7 hr_7 => ?_)
      try dsimp only at hr_7
      refine lv_iload hx hb dX6_staysInside_39 (lv_at hl 0 rfl) ?_
      refine lv_iload_n hx hb dX6_staysInside_41 rfl (lv_at hl 4 rfl) ?_
      refine lv_imul hx hb dX6_staysInside_42 ?_
      refine lv_topi (fun y_8 ey_8 => ?_)
      refine lv_iadd hx hb dX6_staysInside_43 ?_
      refine lv_topi (fun y_9 ey_9 => ?_)
      refine lv_aload_n hx hb dX6_staysInside_44 rfl (lv_at hl 1 rfl) ?_
      refine lv_iload hx hb dX6_staysInside_45 (lv_at hl 6 rfl) ?_
      refine lv_iconst (v := 2) hx hb dX6_staysInside_47 (by decide) ?_
      have hPc := hP.sub (ws' := [(h0, .inr (6, [.ref x0, .int fi, .int pl, .int db, .int go])), (x0, .inl (cI, 36, .inl g))]) [0, 1] rfl
      have hKc := hK.sub (tys' := [(cI, .int)]) [0] rfl
      refine vp_callSi (W.runV (As := [.int kk, .int 2]) (rest := [.int y_9, .int y_6]) ⟨hx, hb, hml, hown, hts⟩ (c_X6_coord l dC dI h0 x0 fi pl db go g cI kk 2 (by first | omega | assumption) (by first | omega | assumption) (by first | omega | assumption) (by first | omega | assumption) (by first | omega | assumption) (by first | omega | assumption)) (cwV 2 hts g_X6_staysInside__X6_coord_33 rfl rfl rfl (by decide +kernel) ⟨Nat.le_of_ble_eq_true rfl, Nat.le_of_ble_eq_true rfl⟩) ⟨fun a U g mk q => by obtain ⟨q0, qP, qK⟩ := q; exact ⟨q0, qP, va_K.moved (u := U) (U := U.calling g mk a) (Vm.Alike.refl U.vm) qK⟩, va_recv hKc hPc (ci := 6) (q0 := 0) rfl rfl, fun U hU hW => ⟨rfl, by rw [hU]; exact hPc, va_K.moved hW.alike hKc⟩⟩ rfl rfl hl.1 rfl (lv_room (Nat.le_of_ble_eq_true rfl)) dX6_staysInside_48 ⟨Nat.le_of_ble_eq_true rfl, Nat.le_of_ble_eq_true rfl⟩) (fun r_10 hr_10 => ?_)
      try dsimp only at hr_10
      refine lv_iload hx hb dX6_staysInside_51 (lv_at hl 0 rfl) ?_
      refine lv_iload hx hb dX6_staysInside_53 (lv_at hl 5 rfl) ?_
      refine lv_imul hx hb dX6_staysInside_55 ?_
      refine lv_topi (fun y_11 ey_11 => ?_)
      refine lv_iadd hx hb dX6_staysInside_56 ?_
      refine lv_topi (fun y_12 ey_12 => ?_)
      obtain ⟨n, hn⟩ : ∃ n : Nat, (kk.toInt - 1 - p1.toInt).toNat = n := ⟨_, rfl⟩
      obtain ⟨q, hq⟩ : ∃ q : Nat, (3 * (p1.toInt + 1 - fi.toInt)).toNat = q := ⟨_, rfl⟩
      rw [hn, hq] at hS7
      have hj := nI_of_toInt (x := y_3) (n := n + 1) (by omega)
      have w0 := co_v (q := q) (n := n) (k := 0) hr_4 (by unfold ixc; omega) ey_5 ey_6 hj
      have w1 := co_v (q := q) (n := n) (k := 1) hr_7 (by unfold ixc; omega) ey_8 ey_9 hj
      have w2 := co_v (q := q) (n := n) (k := 2) hr_10 (by unfold ixc; omega) ey_11 ey_12 hj
      refine vp_callSi (va_Run.run (va_runSN (As := [.int y_6, .int y_9, .int y_12]) (rest := []) ⟨hx, hb, hml, hown, hts⟩ (c_X8_isPlace l dC dI y_6 y_9 y_12) ⟨(va_cnB (host := RX8) 3 hts g_X6_staysInside__X8_isPlace_71 rfl rfl rfl (XN_X6_71 hN) (hts (.initialized RX8) (by decide +kernel)) (by decide +kernel) ⟨Nat.le_of_ble_eq_true rfl, Nat.le_of_ble_eq_true rfl⟩), (hts (.static yX8_isPlace) (by decide +kernel)), trivial⟩ ⟨fun a U g mk q => by obtain ⟨q0, q1⟩ := q; exact ⟨q0, q1⟩, fun U hU hW => ⟨rfl, trivial⟩⟩ rfl rfl hl.1 rfl (lv_room (Nat.le_of_ble_eq_true rfl)) dX6_staysInside_57 ⟨Nat.le_of_ble_eq_true rfl, Nat.le_of_ble_eq_true rfl⟩)) (fun r_13 hr_13 => ?_)
      try dsimp only at hr_13
      rcases bo_split hr_13 with ⟨rfl, q_57⟩ | ⟨rfl, q_57⟩
      · refine lv_if_ne (tgt := 65) hx hb dX6_staysInside_60 (by decide) (fun _ => ?_) (fun h9 => absurd h9 (by decide))
        obtain ⟨y_14, ey_14⟩ : ∃ y : Int32, y = kk + 1 := ⟨_, rfl⟩
        have ty_14 : y_14.toInt = kk.toInt + 1 := by rw [ey_14]; have := fb_addI (x := kk) (y := 1) (by omega) (by omega); omega
        refine lv_iinc (v := y_14) (lv' := [(5, .int y_14), (6, .int y_3), (0, .ref h0), (1, .int p1), (2, .int p2), (3, .int p3), (4, .int p4)]) hx hb dX6_staysInside_65 hl (k := 6) rfl (by rw [ey_14]; rfl) (by decide) rfl (fun ls hl => ?_)
        refine lv_goto (tgt := 5) hx hb dX6_staysInside_68 (by decide) ?_
        exact ih_5 y_14 (by omega) (by omega) (by rw [show (y_14.toInt - 1 - p1.toInt).toNat = n + 1 by omega, hq]; subst w0; subst w1; subst w2; exact stK_up hS7 q_57) (by omega) ls (lv_sub hl [2, 3, 4, 5, 6, 0] rfl)
      · refine lv_if_ne (tgt := 65) hx hb dX6_staysInside_60 (by decide) (fun h9 => absurd h9 (by decide)) (fun _ => ?_)
        refine lv_iconst (v := 0) hx hb dX6_staysInside_63 (by decide) ?_
        exact W.zret (v := 0) hx hb hr rfl (fun t ht _ => ⟨_, rfl, (Or.inr ⟨rfl, fun h => q_57 (by rw [hq] at h; subst w0; subst w1; subst w2; exact h n (by omega))⟩), ht⟩) (fun _ h => absurd h List.not_mem_nil) dX6_staysInside_64
