def wk_X8_partsStayInside : List Cond := .code yX8_partsStayInside cX8_partsStayInside 4 (some .boolean) :: (([] : List Cond) ++ ((va_wsS RX8 127 yX8_partDriftX wk_X8_partDriftX) ++ ((va_wsS RX8 131 yX8_partDriftY wk_X8_partDriftY) ++ ((wsV RX8 248 RX6 yX6_staysInside wk_X6_staysInside) ++ ([])))))
theorem gw_X8_partsStayInside : AG wk_X8_partsStayInside := AG_ca (AG_l (by decide +kernel)) (AG_app (AG_S gw_X8_partDriftX) (AG_app (AG_S gw_X8_partDriftY) (AG_app (AG_V gw_X6_staysInside) (AG_nil))))
theorem g_X8_partsStayInside__X8_partDriftX_127 : GoodIn wk_X8_partsStayInside (va_wsS RX8 127 yX8_partDriftX wk_X8_partDriftX) := goodIn_m (fun _ h => List.mem_cons_of_mem _ (List.mem_append_right _ (List.mem_append_left _ h))) (AG_S gw_X8_partDriftX)
theorem g_X8_partsStayInside__X8_partDriftY_131 : GoodIn wk_X8_partsStayInside (va_wsS RX8 131 yX8_partDriftY wk_X8_partDriftY) := goodIn_m (fun _ h => List.mem_cons_of_mem _ (List.mem_append_right _ (List.mem_append_right _ (List.mem_append_left _ h)))) (AG_S gw_X8_partDriftY)
theorem g_X8_partsStayInside__X6_staysInside_248 : GoodIn wk_X8_partsStayInside (wsV RX8 248 RX6 yX6_staysInside wk_X6_staysInside) := goodIn_m (fun _ h => List.mem_cons_of_mem _ (List.mem_append_right _ (List.mem_append_right _ (List.mem_append_right _ (List.mem_append_left _ h))))) (AG_V gw_X6_staysInside)
set_option maxHeartbeats 4000000 in
set_option maxRecDepth 100000 in
theorem c_X8_partsStayInside (l : Launch) (dC : Nat → ClassId) (dI : Nat → Nat → Nat) (h0 : Nat) (x0 : Nat) (fi : Int32) (pl : Int32) (db : Int32) (go : Int32) (g : Nat → Int32) (cI : ClassId) (p1 : Int32) (p2 : Int32) (ht : tOK fi pl) (hs0 : fi.toInt ≤ p1.toInt) (hs1 : p1.toInt < fi.toInt + pl.toInt) (hn0 : 0 ≤ p2.toInt) (hn1 : p2.toInt ≤ 6) : Met l yX8_partsStayInside wk_X8_partsStayInside ({ frames := 3, cells := 0, slots := 0, locals := 70 }) (va_Pc [.ref h0, .int p1, .int p2] (fun U => va_P (dC, dI) vwCl [(h0, .inr (6, [.ref x0, .int fi, .int pl, .int db, .int go])), (x0, .inl (cI, 36, .inl g))] U.heap ∧ va_K (dC, dI) vwCl [(cI, .int)] U ∧ XN U)) (vp_Si (fun r => (r = 1 ∧ gsN g fi pl p1 p2 p2.toInt.toNat) ∨ (r = 0 ∧ ¬ gsN g fi pl p1 p2 p2.toInt.toNat))) 0 0 (fun _ => False) := by
  refine Met.ofW (cc := cX8_partsStayInside) (maxL := 4) (ret := (some .boolean)) (by decide) rfl ?_
  intro p e s m args below meth c s₁ B hml hv
  obtain ⟨rfl, hP, hK, hN⟩ := hv
  have hx := B.exec
  have hb := B.bytes
  have hr := B.returns
  have hts := atoms_spec (ws := wk_X8_partsStayInside) B.pre
  have hown : s.vm.findClass RX8 = some m.cls := findClass_of_methodNamed B.named
  have hlocks := B.notSynchronized
  have hP : va_P (dC, dI) vwCl [(h0, .inr (6, [.ref x0, .int fi, .int pl, .int db, .int go])), (x0, .inl (cI, 36, .inl g))] s.heap := hP
  have hl := lv_entry ([.ref h0, .int p1, .int p2]) (n := 4) (Nat.le_of_ble_eq_true rfl)
  rw [lg_entry_eq]
  generalize (lg_sl ([.ref h0, .int p1, .int p2]) ++ List.replicate (4 - (lg_sl ([.ref h0, .int p1, .int p2])).length) Slot.unset).toArray = ls at hl ⊢
  have hl : lv_has ls 4 [(0, .ref h0), (1, .int p1), (2, .int p2)] := hl
  have kl_0 : (0 : Int32).toInt = 0 := by decide
  have kl_1 : (1 : Int32).toInt = 1 := by decide
  obtain ⟨hf0, hf1, hq0, hq1⟩ := id ht
  refine lv_iconst (v := 0) hx hb dX8_partsStayInside_0 (by decide) ?_
  refine lv_istore_n (lv' := [(3, .int 0), (0, .ref h0), (1, .int p1), (2, .int p2)]) hx hb dX8_partsStayInside_1 rfl hl (by decide) rfl (fun ls hl => ?_)
  refine (show ∀ (k : Nat) (i3 : Int32) (hi0 : 0 ≤ i3.toInt) (hi1 : i3.toInt ≤ p2.toInt) (hI : gsN g fi pl p1 p2 i3.toInt.toNat) (hk_2 : (p2.toInt - i3.toInt).toNat < k) (ls : Array Slot) (hl : lv_has ls 4 [(0, .ref h0), (1, .int p1), (2, .int p2), (3, .int i3)]), W p l e _ s m _ below meth c s.heap [] 0 0 _ (F0 m 2 ls []) from ?_) _ 0 (by omega) (by omega) (by exact fun k hk => absurd hk (by omega)) (Nat.lt_succ_self _) ls (lv_sub hl [1, 2, 3, 0] rfl)
  intro k
  induction k with
  | zero => intro i3 hi0 hi1 hI hk_2; exact absurd hk_2 (Nat.not_lt_zero _)
  | succ k ih_2 =>
    intro i3 hi0 hi1 hI hk_2 ls hl
    refine lv_iload_n hx hb dX8_partsStayInside_2 rfl (lv_at hl 3 rfl) ?_
    refine lv_iload_n hx hb dX8_partsStayInside_3 rfl (lv_at hl 2 rfl) ?_
    refine lv_icmp_ge (tgt := 33) hx hb dX8_partsStayInside_4 (by decide) (fun c_4 => ?_) (fun c_4 => ?_)
    · have t_4 := (fa_le _ _).mp c_4
      refine lv_iconst (v := 1) hx hb dX8_partsStayInside_33 (by decide) ?_
      exact W.zret (v := 1) hx hb hr rfl (fun t ht _ => ⟨_, rfl, (Or.inl ⟨rfl, by rw [show p2.toInt.toNat = i3.toInt.toNat by omega]; exact hI⟩), ht⟩) (fun _ h => absurd h List.not_mem_nil) dX8_partsStayInside_34
    · have t_4 := mt (fa_le _ _).mpr c_4
      refine lv_aload_n hx hb dX8_partsStayInside_7 rfl (lv_at hl 0 rfl) ?_
      refine lv_iload_n hx hb dX8_partsStayInside_8 rfl (lv_at hl 1 rfl) ?_
      refine lv_iload_n hx hb dX8_partsStayInside_9 rfl (lv_at hl 3 rfl) ?_
      refine lv_iload_n hx hb dX8_partsStayInside_10 rfl (lv_at hl 2 rfl) ?_
      refine vp_callSi (W.runS (As := [.int i3, .int p2]) (rest := [.int p1, .ref h0]) ⟨hx, hb, hml, hown, hts⟩ (c_X8_partDriftX l dC dI i3 p2) (va_cwS 2 hts g_X8_partsStayInside__X8_partDriftX_127 rfl rfl rfl (by decide +kernel) ⟨Nat.le_of_ble_eq_true rfl, Nat.le_of_ble_eq_true rfl⟩) ⟨fun a U g mk q => by obtain ⟨q0, q1⟩ := q; exact ⟨q0, q1⟩, fun U hU hW => ⟨rfl, trivial⟩⟩ rfl rfl hl.1 rfl (lv_room (Nat.le_of_ble_eq_true rfl)) dX8_partsStayInside_11 ⟨Nat.le_of_ble_eq_true rfl, Nat.le_of_ble_eq_true rfl⟩) (fun r_1 hr_1 => ?_)
      try dsimp only at hr_1
      refine lv_iload_n hx hb dX8_partsStayInside_14 rfl (lv_at hl 3 rfl) ?_
      refine vp_callSi (W.runS (As := [.int i3]) (rest := [.int r_1, .int p1, .ref h0]) ⟨hx, hb, hml, hown, hts⟩ (c_X8_partDriftY l dC dI i3) (va_cwS 1 hts g_X8_partsStayInside__X8_partDriftY_131 rfl rfl rfl (by decide +kernel) ⟨Nat.le_of_ble_eq_true rfl, Nat.le_of_ble_eq_true rfl⟩) ⟨fun a U g mk q => by obtain ⟨q0, q1⟩ := q; exact ⟨q0, q1⟩, fun U hU hW => ⟨rfl, trivial⟩⟩ rfl rfl hl.1 rfl (lv_room (Nat.le_of_ble_eq_true rfl)) dX8_partsStayInside_15 ⟨Nat.le_of_ble_eq_true rfl, Nat.le_of_ble_eq_true rfl⟩) (fun r_2 hr_2 => ?_)
      try dsimp only at hr_2
      refine lv_iconst (v := 0) hx hb dX8_partsStayInside_18 (by decide) ?_
      have hPc := hP.sub (ws' := [(h0, .inr (6, [.ref x0, .int fi, .int pl, .int db, .int go])), (x0, .inl (cI, 36, .inl g))]) [0, 1] rfl
      have hKc := hK.sub (tys' := [(cI, .int)]) [0] rfl
      refine vp_callSi (W.runV (As := [.int p1, .int r_1, .int r_2, .int 0]) (rest := []) ⟨hx, hb, hml, hown, hts⟩ (c_X6_staysInside l dC dI h0 x0 fi pl db go g cI p1 r_1 r_2 0 (by first | assumption | omega) (by first | assumption | omega) (by first | assumption | omega)) (cwV 4 hts g_X8_partsStayInside__X6_staysInside_248 rfl rfl rfl (by decide +kernel) ⟨Nat.le_of_ble_eq_true rfl, Nat.le_of_ble_eq_true rfl⟩) ⟨fun a U g mk q => by obtain ⟨q0, qP, qK, qN⟩ := q; exact ⟨q0, qP, va_K.moved (u := U) (U := U.calling g mk a) (Vm.Alike.refl U.vm) qK, XN_same (U := U) (U2 := U.calling g mk a) rfl qN⟩, va_recv hKc hPc (ci := 6) (q0 := 0) rfl rfl, fun U hU hW => ⟨rfl, by rw [hU]; exact hPc, va_K.moved hW.alike hKc, XN_warm hW hN⟩⟩ rfl rfl hl.1 rfl (lv_room (Nat.le_of_ble_eq_true rfl)) dX8_partsStayInside_19 ⟨Nat.le_of_ble_eq_true rfl, Nat.le_of_ble_eq_true rfl⟩) (fun r_3 hr_3 => ?_)
      try dsimp only at hr_3
      refine lv_if_ne (tgt := 27) hx hb dX8_partsStayInside_22 (by decide) (fun c_22 => ?_) (fun c_22 => ?_)
      · have t_22 := mt (fa_eq _ _).mpr c_22
        obtain ⟨y_4, ey_4⟩ : ∃ y : Int32, y = i3 + 1 := ⟨_, rfl⟩
        have ty_4 : y_4.toInt = i3.toInt + 1 := by rw [ey_4]; have := fb_addI (x := i3) (y := 1) (by omega) (by omega); omega
        refine lv_iinc (v := y_4) (lv' := [(3, .int y_4), (0, .ref h0), (1, .int p1), (2, .int p2)]) hx hb dX8_partsStayInside_27 hl (k := 3) rfl (by rw [ey_4]; rfl) (by decide) rfl (fun ls hl => ?_)
        refine lv_goto (tgt := 2) hx hb dX8_partsStayInside_30 (by decide) ?_
        exact ih_2 y_4 (by omega) (by omega) (by rw [show (y_4).toInt.toNat = i3.toInt.toNat + 1 by omega]; refine gsN_up hI ?_; rw [← nI_of_toInt (x := i3) (n := i3.toInt.toNat) (by omega)]; rcases hr_3 with h | h; all_goals (first | (rw [hr_1, hr_2] at h; exact h.2) | (rw [h.1] at c_22; exact absurd rfl c_22))) (by omega) ls (lv_sub hl [1, 2, 3, 0] rfl)
      · have t_22 := (fa_eq _ _).mp c_22
        refine lv_iconst (v := 0) hx hb dX8_partsStayInside_25 (by decide) ?_
        exact W.zret (v := 0) hx hb hr rfl (fun t ht _ => ⟨_, rfl, (Or.inr ⟨rfl, fun z => by have w := z i3.toInt.toNat (by omega); rw [← nI_of_toInt (x := i3) (n := i3.toInt.toNat) (by omega)] at w; rcases hr_3 with h | h; all_goals (first | (rw [h.1] at c_22; exact absurd c_22 (by decide)) | (rw [hr_1, hr_2] at h; exact h.2 w))⟩), ht⟩) (fun _ h => absurd h List.not_mem_nil) dX8_partsStayInside_26
