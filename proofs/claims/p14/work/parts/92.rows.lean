def wk_X8_at : List Cond := .code yX8_at cX8_at 5 (some .int) :: (([.fieldLink RX8 12 "MeetingsAbove" "now" "LMeetingsAbove$Catalogue;", .constant RX8 107 (-100001), .constant RX8 116 (-100003), .constant RX8 87 (-100002)] : List Cond) ++ (wsX80 ++ ((wsV RX8 103 RX1 yX1_find wk_X1_find) ++ ((va_wsS RX8 76 yX8_isStep wk_X8_isStep) ++ ((va_wsS RX8 84 yX8_isWithin wk_X8_isWithin) ++ ((wsV RX8 120 RX6 yX6_hasPlace wk_X6_hasPlace) ++ ((wsV RX8 149 RX6 yX6_coord wk_X6_coord) ++ ([]))))))))
theorem in_X8_at_X8 : ∀ w ∈ wsX80, w ∈ wk_X8_at := fun _ h => List.mem_cons_of_mem _ (List.mem_append_right _ (List.mem_append_left _ h))
theorem gw_X8_at : AG wk_X8_at := AG_ca (AG_l (by decide +kernel)) (AG_app ag_X8 (AG_app (AG_V gw_X1_find) (AG_app (AG_S gw_X8_isStep) (AG_app (AG_S gw_X8_isWithin) (AG_app (AG_V gw_X6_hasPlace) (AG_app (AG_V gw_X6_coord) (AG_nil)))))))
theorem g_X8_at__X1_find_103 : GoodIn wk_X8_at (wsV RX8 103 RX1 yX1_find wk_X1_find) := goodIn_m (fun _ h => List.mem_cons_of_mem _ (List.mem_append_right _ (List.mem_append_right _ (List.mem_append_left _ h)))) (AG_V gw_X1_find)
theorem g_X8_at__X8_isStep_76 : GoodIn wk_X8_at (va_wsS RX8 76 yX8_isStep wk_X8_isStep) := goodIn_m (fun _ h => List.mem_cons_of_mem _ (List.mem_append_right _ (List.mem_append_right _ (List.mem_append_right _ (List.mem_append_left _ h))))) (AG_S gw_X8_isStep)
theorem g_X8_at__X8_isWithin_84 : GoodIn wk_X8_at (va_wsS RX8 84 yX8_isWithin wk_X8_isWithin) := goodIn_m (fun _ h => List.mem_cons_of_mem _ (List.mem_append_right _ (List.mem_append_right _ (List.mem_append_right _ (List.mem_append_right _ (List.mem_append_left _ h)))))) (AG_S gw_X8_isWithin)
theorem g_X8_at__X6_hasPlace_120 : GoodIn wk_X8_at (wsV RX8 120 RX6 yX6_hasPlace wk_X6_hasPlace) := goodIn_m (fun _ h => List.mem_cons_of_mem _ (List.mem_append_right _ (List.mem_append_right _ (List.mem_append_right _ (List.mem_append_right _ (List.mem_append_right _ (List.mem_append_left _ h))))))) (AG_V gw_X6_hasPlace)
theorem g_X8_at__X6_coord_149 : GoodIn wk_X8_at (wsV RX8 149 RX6 yX6_coord wk_X6_coord) := goodIn_m (fun _ h => List.mem_cons_of_mem _ (List.mem_append_right _ (List.mem_append_right _ (List.mem_append_right _ (List.mem_append_right _ (List.mem_append_right _ (List.mem_append_right _ (List.mem_append_left _ h)))))))) (AG_V gw_X6_coord)
set_option maxHeartbeats 4000000 in
set_option maxRecDepth 100000 in
theorem c_X8_at (l : Launch) (dC : Nat → ClassId) (dI : Nat → Nat → Nat) (h0 : Nat) (n0 : Nat) (s0 : Nat) (s1 : Nat) (d0 : Nat) (o0 : Nat) (w0 : Nat) (e0 : Nat) (f0 : Nat) (t0 : Nat) (b0 : Nat) (dn : Int32) (nn : Int32) (la : Int32) (ne : Int32) (wi : Int32) (lm : Int32) (na : Nat) (cT : ClassId) (sz9 : Int32) (ga : Nat → Option Nat) (cI : ClassId) (L : List Nat) (f : Nat → va_E) (p1 : Int32) (p2 : Int32) (p3 : Int32) (hC : catOK L f cI sz9 ga) : Met l yX8_at wk_X8_at ({ frames := 2, cells := 0, slots := 0, locals := 42 }) (va_Pc [.ref h0, .int p1, .int p2, .int p3] (fun U => va_P (dC, dI) vwCl (([(h0, .inr (8, [.ref n0, .ref s0, .ref s1, .ref d0, .ref o0, .int dn, .int nn, .int la, .int ne, .int wi, .ref w0, .ref e0, .ref f0, .ref t0, .ref b0, .int lm])), (n0, .inr (1, [.ref na, .int sz9])), (na, .inl (cT, 16, .inr (.inr (.inr (.inr ga)))))] : va_W) ++ va_pl L f) U.heap ∧ va_K (dC, dI) vwCl [(cT, .object "MeetingsAbove$Thing"), (cI, .int)] U)) (vp_Si (fun r => (¬ (0 ≤ p1.toInt ∧ p1.toInt < sz9.toInt) ∧ r = -100001) ∨ ((0 ≤ p1.toInt ∧ p1.toInt < sz9.toInt) ∧ ¬ ((0 ≤ p2.toInt ∧ p2.toInt ≤ 39) ∧ (0 ≤ p3.toInt ∧ p3.toInt ≤ 2)) ∧ r = -100002) ∨ ((0 ≤ p1.toInt ∧ p1.toInt < sz9.toInt) ∧ ((0 ≤ p2.toInt ∧ p2.toInt ≤ 39) ∧ (0 ≤ p3.toInt ∧ p3.toInt ≤ 2)) ∧ ∃ (a x : Nat) (fi pl db go : Int32) (g : Nat → Int32), ga p1.toNatClampNeg = some a ∧ f a = .inr (6, [.ref x, .int fi, .int pl, .int db, .int go]) ∧ f x = .inl (cI, 36, .inl g) ∧ ((fi.toInt ≤ p2.toInt ∧ p2.toInt < fi.toInt + pl.toInt ∧ r = g (ixc fi p2 p3)) ∨ (¬ (fi.toInt ≤ p2.toInt ∧ p2.toInt < fi.toInt + pl.toInt) ∧ r = -100003))))) 0 0 (fun _ => False) := by
  refine Met.ofW (cc := cX8_at) (maxL := 5) (ret := (some .int)) (by decide) rfl ?_
  intro p e s m args below meth c s₁ B hml hv
  obtain ⟨rfl, hP, hK⟩ := hv
  have hx := B.exec
  have hb := B.bytes
  have hr := B.returns
  have hts := atoms_spec (ws := wk_X8_at) B.pre
  have hown : s.vm.findClass RX8 = some m.cls := findClass_of_methodNamed B.named
  have hlocks := B.notSynchronized
  have hP : va_P (dC, dI) vwCl (([(h0, .inr (8, [.ref n0, .ref s0, .ref s1, .ref d0, .ref o0, .int dn, .int nn, .int la, .int ne, .int wi, .ref w0, .ref e0, .ref f0, .ref t0, .ref b0, .int lm])), (n0, .inr (1, [.ref na, .int sz9])), (na, .inl (cT, 16, .inr (.inr (.inr (.inr ga)))))] : va_W) ++ va_pl L f) s.heap := hP
  have hl := lv_entry ([.ref h0, .int p1, .int p2, .int p3]) (n := 5) (Nat.le_of_ble_eq_true rfl)
  rw [lg_entry_eq]
  generalize (lg_sl ([.ref h0, .int p1, .int p2, .int p3]) ++ List.replicate (5 - (lg_sl ([.ref h0, .int p1, .int p2, .int p3])).length) Slot.unset).toArray = ls at hl ⊢
  have hl : lv_has ls 5 [(0, .ref h0), (1, .int p1), (2, .int p2), (3, .int p3)] := hl
  have kl_m100003 : (-100003 : Int32).toInt = -100003 := by decide
  have kl_m100002 : (-100002 : Int32).toInt = -100002 := by decide
  have kl_m100001 : (-100001 : Int32).toInt = -100001 := by decide
  have kl_0 : (0 : Int32).toInt = 0 := by decide
  have kl_2 : (2 : Int32).toInt = 2 := by decide
  obtain ⟨hC0, hC1, hC2⟩ := id hC
  refine lv_aload_n hx hb dX8_at_0 rfl (lv_at hl 0 rfl) ?_
  refine va_get (D := (dC, dI)) (ci := 8) (v := .ref n0) (C := RX8) (T := TX8) (N := 16) hx hb hts in_X8_at_X8 hown hK hP 0 rfl rfl 0 (by decide) (hts (.fieldLink RX8 12 "MeetingsAbove" "now" "LMeetingsAbove$Catalogue;") (by decide +kernel)) (fun _ h9 => h9) rfl dX8_at_1 ?_
  refine lv_iload_n hx hb dX8_at_4 rfl (lv_at hl 1 rfl) ?_
  have hPc := hP.sub (ws' := [(n0, .inr (1, [.ref na, .int sz9])), (na, .inl (cT, 16, .inr (.inr (.inr (.inr ga)))))]) [1, 2] rfl
  have hKc := hK.sub (tys' := [(cT, .object "MeetingsAbove$Thing")]) [0] rfl
  refine va_csq (W.runV (As := [.int p1]) (rest := []) ⟨hx, hb, hml, hown, hts⟩ (c_X1_find l dC dI n0 na cT sz9 ga p1) (cwV 1 hts g_X8_at__X1_find_103 rfl rfl rfl (by decide +kernel) ⟨Nat.le_of_ble_eq_true rfl, Nat.le_of_ble_eq_true rfl⟩) ⟨fun a U g mk q => by obtain ⟨q0, qP, qK⟩ := q; exact ⟨q0, qP, va_K.moved (u := U) (U := U.calling g mk a) (Vm.Alike.refl U.vm) qK⟩, va_recv hKc hPc (ci := 1) (q0 := 0) rfl rfl, fun U hU hW => ⟨rfl, by rw [hU]; exact hPc, va_K.moved hW.alike hKc⟩⟩ rfl rfl hl.1 rfl (lv_room (Nat.le_of_ble_eq_true rfl)) dX8_at_5 ⟨Nat.le_of_ble_eq_true rfl, Nat.le_of_ble_eq_true rfl⟩) (fun r_1 hr_1 => ?_)
  try dsimp only at hr_1
  rcases r_1 with _ | w_2
  · refine W.eq (g2 := F0 m 8 ls [.null]) rfl ?_
    have hno_8 := fd_none hC hr_1
    refine lv_astoreN (lv' := [(4, .null), (0, .ref h0), (1, .int p1), (2, .int p2), (3, .int p3)]) hx hb dX8_at_8 hl (by decide) rfl (fun ls hl => ?_)
    refine lv_aloadN hx hb dX8_at_10 (lv_at hl 0 rfl) ?_
    refine lv_ifnonnullN hx hb dX8_at_12 ?_
    refine lv_ldc hx hb hown (hts (.constant RX8 107 (-100001)) (by decide +kernel)) dX8_at_15 ?_
    exact W.iret (v := (-100001)) hx hb hr (fun t ht _ => ⟨_, rfl, (by first | exact Or.inl ⟨by assumption, rfl⟩ | exact Or.inr (Or.inl ⟨by omega, by omega, rfl⟩) | exact Or.inr (Or.inr ⟨by omega, by omega, _, _, _, _, _, _, _, hw_w_2, hf_w_2, hg_w_2, Or.inl ⟨by omega, by omega, hrz_none⟩⟩) | exact Or.inr (Or.inr ⟨by omega, by omega, _, _, _, _, _, _, _, hw_w_2, hf_w_2, hg_w_2, Or.inr ⟨by omega, rfl⟩⟩)), ht⟩) (fun _ h => absurd h List.not_mem_nil) dX8_at_17
  · refine W.eq (g2 := F0 m 8 ls [.ref w_2]) rfl ?_
    obtain ⟨hi_w_2, hw_w_2⟩ := fd_some hr_1
    obtain ⟨x_w_2, fi_w_2, pl_w_2, db_w_2, go_w_2, g_w_2, hL_w_2, hX_w_2, hf_w_2, hg_w_2, ht_w_2, hgo_w_2⟩ := th_of hC (by rw [tc_I (by omega)]; omega) hw_w_2
    obtain ⟨q1_w_2, q2_w_2, q3_w_2, q4_w_2⟩ := id ht_w_2
    refine lv_astore (lv' := [(4, .ref w_2), (0, .ref h0), (1, .int p1), (2, .int p2), (3, .int p3)]) hx hb dX8_at_8 hl (by decide) rfl (fun ls hl => ?_)
    refine lv_aload hx hb dX8_at_10 (lv_at hl 0 rfl) ?_
    refine lv_ifnonnull (tgt := 18) hx hb dX8_at_12 (by decide) ?_
    refine lv_iload_n hx hb dX8_at_18 rfl (lv_at hl 3 rfl) ?_
    refine vp_callSi (W.runS (As := [.int p2]) (rest := []) ⟨hx, hb, hml, hown, hts⟩ (c_X8_isStep l dC dI p2) (va_cwS 1 hts g_X8_at__X8_isStep_76 rfl rfl rfl (by decide +kernel) ⟨Nat.le_of_ble_eq_true rfl, Nat.le_of_ble_eq_true rfl⟩) ⟨fun a U g mk q => by obtain ⟨q0, q1⟩ := q; exact ⟨q0, q1⟩, fun U hU hW => ⟨rfl, trivial⟩⟩ rfl rfl hl.1 rfl (lv_room (Nat.le_of_ble_eq_true rfl)) dX8_at_19 ⟨Nat.le_of_ble_eq_true rfl, Nat.le_of_ble_eq_true rfl⟩) (fun r_4 hr_4 => ?_)
    try dsimp only at hr_4
    rcases bo_split hr_4 with ⟨rfl, q_19⟩ | ⟨rfl, q_19⟩
    · refine lv_if_eq (tgt := 34) hx hb dX8_at_22 (by decide) (fun h9 => absurd h9 (by decide)) (fun _ => ?_)
      refine lv_iload_n hx hb dX8_at_25 rfl (lv_at hl 4 rfl) ?_
      refine lv_iconst (v := 0) hx hb dX8_at_26 (by decide) ?_
      refine lv_iconst (v := 2) hx hb dX8_at_27 (by decide) ?_
      refine vp_callSi (W.runS (As := [.int p3, .int 0, .int 2]) (rest := []) ⟨hx, hb, hml, hown, hts⟩ (c_X8_isWithin l dC dI p3 0 2) (va_cwS 3 hts g_X8_at__X8_isWithin_84 rfl rfl rfl (by decide +kernel) ⟨Nat.le_of_ble_eq_true rfl, Nat.le_of_ble_eq_true rfl⟩) ⟨fun a U g mk q => by obtain ⟨q0, q1⟩ := q; exact ⟨q0, q1⟩, fun U hU hW => ⟨rfl, trivial⟩⟩ rfl rfl hl.1 rfl (lv_room (Nat.le_of_ble_eq_true rfl)) dX8_at_28 ⟨Nat.le_of_ble_eq_true rfl, Nat.le_of_ble_eq_true rfl⟩) (fun r_5 hr_5 => ?_)
      try dsimp only at hr_5
      rcases bo_split hr_5 with ⟨rfl, q_28⟩ | ⟨rfl, q_28⟩
      · refine lv_if_ne (tgt := 37) hx hb dX8_at_31 (by decide) (fun _ => ?_) (fun h9 => absurd h9 (by decide))
        refine lv_aload hx hb dX8_at_37 (lv_at hl 0 rfl) ?_
        refine lv_iload_n hx hb dX8_at_39 rfl (lv_at hl 3 rfl) ?_
        have hPc : va_P (dC, dI) vwCl [(w_2, .inr (6, [.ref x_w_2, .int fi_w_2, .int pl_w_2, .int db_w_2, .int go_w_2]))] s.heap := P_cons (pl_at (X := [(h0, .inr (8, [.ref n0, .ref s0, .ref s1, .ref d0, .ref o0, .int dn, .int nn, .int la, .int ne, .int wi, .ref w0, .ref e0, .ref f0, .ref t0, .ref b0, .int lm])), (n0, .inr (1, [.ref na, .int sz9])), (na, .inl (cT, 16, .inr (.inr (.inr (.inr ga)))))]) hP hL_w_2 hf_w_2) (P_nil)
        have hKc := hK.sub (tys' := []) [] rfl
        refine vp_callSi (W.runV (As := [.int p2]) (rest := []) ⟨hx, hb, hml, hown, hts⟩ (c_X6_hasPlace l dC dI w_2 x_w_2 fi_w_2 pl_w_2 db_w_2 go_w_2 p2 (by first | assumption | omega)) (cwV 1 hts g_X8_at__X6_hasPlace_120 rfl rfl rfl (by decide +kernel) ⟨Nat.le_of_ble_eq_true rfl, Nat.le_of_ble_eq_true rfl⟩) ⟨fun a U g mk q => by obtain ⟨q0, qP, qK⟩ := q; exact ⟨q0, qP, va_K.moved (u := U) (U := U.calling g mk a) (Vm.Alike.refl U.vm) qK⟩, va_recv hKc hPc (ci := 6) (q0 := 0) rfl rfl, fun U hU hW => ⟨rfl, by rw [hU]; exact hPc, va_K.moved hW.alike hKc⟩⟩ rfl rfl hl.1 rfl (lv_room (Nat.le_of_ble_eq_true rfl)) dX8_at_40 ⟨Nat.le_of_ble_eq_true rfl, Nat.le_of_ble_eq_true rfl⟩) (fun r_6 hr_6 => ?_)
        try dsimp only at hr_6
        rcases bo_split hr_6 with ⟨rfl, q_40⟩ | ⟨rfl, q_40⟩
        · refine lv_if_eq (tgt := 56) hx hb dX8_at_43 (by decide) (fun h9 => absurd h9 (by decide)) (fun _ => ?_)
          refine lv_aload hx hb dX8_at_46 (lv_at hl 0 rfl) ?_
          refine lv_iload_n hx hb dX8_at_48 rfl (lv_at hl 3 rfl) ?_
          refine lv_iload_n hx hb dX8_at_49 rfl (lv_at hl 4 rfl) ?_
          have hPc : va_P (dC, dI) vwCl [(w_2, .inr (6, [.ref x_w_2, .int fi_w_2, .int pl_w_2, .int db_w_2, .int go_w_2])), (x_w_2, .inl (cI, 36, .inl g_w_2))] s.heap := P_cons (pl_at (X := [(h0, .inr (8, [.ref n0, .ref s0, .ref s1, .ref d0, .ref o0, .int dn, .int nn, .int la, .int ne, .int wi, .ref w0, .ref e0, .ref f0, .ref t0, .ref b0, .int lm])), (n0, .inr (1, [.ref na, .int sz9])), (na, .inl (cT, 16, .inr (.inr (.inr (.inr ga)))))]) hP hL_w_2 hf_w_2) (P_cons (pl_at (X := [(h0, .inr (8, [.ref n0, .ref s0, .ref s1, .ref d0, .ref o0, .int dn, .int nn, .int la, .int ne, .int wi, .ref w0, .ref e0, .ref f0, .ref t0, .ref b0, .int lm])), (n0, .inr (1, [.ref na, .int sz9])), (na, .inl (cT, 16, .inr (.inr (.inr (.inr ga)))))]) hP hX_w_2 hg_w_2) (P_nil))
          have hKc := hK.sub (tys' := [(cI, .int)]) [1] rfl
          refine vp_callSi (W.runV (As := [.int p2, .int p3]) (rest := []) ⟨hx, hb, hml, hown, hts⟩ (c_X6_coord l dC dI w_2 x_w_2 fi_w_2 pl_w_2 db_w_2 go_w_2 g_w_2 cI p2 p3 (by first | omega | assumption) (by first | omega | assumption) (by first | omega | assumption) (by first | omega | assumption) (by first | omega | assumption) (by first | omega | assumption)) (cwV 2 hts g_X8_at__X6_coord_149 rfl rfl rfl (by decide +kernel) ⟨Nat.le_of_ble_eq_true rfl, Nat.le_of_ble_eq_true rfl⟩) ⟨fun a U g mk q => by obtain ⟨q0, qP, qK⟩ := q; exact ⟨q0, qP, va_K.moved (u := U) (U := U.calling g mk a) (Vm.Alike.refl U.vm) qK⟩, va_recv hKc hPc (ci := 6) (q0 := 0) rfl rfl, fun U hU hW => ⟨rfl, by rw [hU]; exact hPc, va_K.moved hW.alike hKc⟩⟩ rfl rfl hl.1 rfl (lv_room (Nat.le_of_ble_eq_true rfl)) dX8_at_50 ⟨Nat.le_of_ble_eq_true rfl, Nat.le_of_ble_eq_true rfl⟩) (fun r_7 hr_7 => ?_)
          try dsimp only at hr_7
          refine lv_goto (tgt := 58) hx hb dX8_at_53 (by decide) ?_
          exact W.iret (v := r_7) hx hb hr (fun t ht _ => ⟨_, rfl, (by first | exact Or.inl ⟨by assumption, rfl⟩ | exact Or.inr (Or.inl ⟨by omega, by omega, rfl⟩) | exact Or.inr (Or.inr ⟨by omega, by omega, _, _, _, _, _, _, _, hw_w_2, hf_w_2, hg_w_2, Or.inl ⟨by omega, by omega, hr_7⟩⟩) | exact Or.inr (Or.inr ⟨by omega, by omega, _, _, _, _, _, _, _, hw_w_2, hf_w_2, hg_w_2, Or.inr ⟨by omega, rfl⟩⟩)), ht⟩) (fun _ h => absurd h List.not_mem_nil) dX8_at_58
        · refine lv_if_eq (tgt := 56) hx hb dX8_at_43 (by decide) (fun _ => ?_) (fun h9 => absurd h9 (by decide))
          refine lv_ldc hx hb hown (hts (.constant RX8 116 (-100003)) (by decide +kernel)) dX8_at_56 ?_
          exact W.iret (v := (-100003)) hx hb hr (fun t ht _ => ⟨_, rfl, (by first | exact Or.inl ⟨by assumption, rfl⟩ | exact Or.inr (Or.inl ⟨by omega, by omega, rfl⟩) | exact Or.inr (Or.inr ⟨by omega, by omega, _, _, _, _, _, _, _, hw_w_2, hf_w_2, hg_w_2, Or.inl ⟨by omega, by omega, hr_7⟩⟩) | exact Or.inr (Or.inr ⟨by omega, by omega, _, _, _, _, _, _, _, hw_w_2, hf_w_2, hg_w_2, Or.inr ⟨by omega, rfl⟩⟩)), ht⟩) (fun _ h => absurd h List.not_mem_nil) dX8_at_58
      · refine lv_if_ne (tgt := 37) hx hb dX8_at_31 (by decide) (fun h9 => absurd h9 (by decide)) (fun _ => ?_)
        refine lv_ldc hx hb hown (hts (.constant RX8 87 (-100002)) (by decide +kernel)) dX8_at_34 ?_
        exact W.iret (v := (-100002)) hx hb hr (fun t ht _ => ⟨_, rfl, (by first | exact Or.inl ⟨by assumption, rfl⟩ | exact Or.inr (Or.inl ⟨by omega, by omega, rfl⟩) | exact Or.inr (Or.inr ⟨by omega, by omega, _, _, _, _, _, _, _, hw_w_2, hf_w_2, hg_w_2, Or.inl ⟨by omega, by omega, hr_7⟩⟩) | exact Or.inr (Or.inr ⟨by omega, by omega, _, _, _, _, _, _, _, hw_w_2, hf_w_2, hg_w_2, Or.inr ⟨by omega, rfl⟩⟩)), ht⟩) (fun _ h => absurd h List.not_mem_nil) dX8_at_36
    · refine lv_if_eq (tgt := 34) hx hb dX8_at_22 (by decide) (fun _ => ?_) (fun h9 => absurd h9 (by decide))
      refine lv_ldc hx hb hown (hts (.constant RX8 87 (-100002)) (by decide +kernel)) dX8_at_34 ?_
      exact W.iret (v := (-100002)) hx hb hr (fun t ht _ => ⟨_, rfl, (by first | exact Or.inl ⟨by assumption, rfl⟩ | exact Or.inr (Or.inl ⟨by omega, by omega, rfl⟩) | exact Or.inr (Or.inr ⟨by omega, by omega, _, _, _, _, _, _, _, hw_w_2, hf_w_2, hg_w_2, Or.inl ⟨by omega, by omega, hr_7⟩⟩) | exact Or.inr (Or.inr ⟨by omega, by omega, _, _, _, _, _, _, _, hw_w_2, hf_w_2, hg_w_2, Or.inr ⟨by omega, rfl⟩⟩)), ht⟩) (fun _ h => absurd h List.not_mem_nil) dX8_at_36
