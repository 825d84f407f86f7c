def wk_X8_areApart : List Cond := .code yX8_areApart cX8_areApart 6 (some .boolean) :: (([.fieldLink RX8 34 "MeetingsAbove" "near" "I"] : List Cond) ++ (wsX80 ++ ((wsV RX8 327 RX6 yX6_lowest wk_X6_lowest) ++ ((wsV RX8 330 RX6 yX6_highest wk_X6_highest) ++ ([])))))
theorem in_X8_areApart_X8 : ∀ w ∈ wsX80, w ∈ wk_X8_areApart := fun _ h => List.mem_cons_of_mem _ (List.mem_append_right _ (List.mem_append_left _ h))
theorem gw_X8_areApart : AG wk_X8_areApart := AG_ca (AG_l (by decide +kernel)) (AG_app ag_X8 (AG_app (AG_V gw_X6_lowest) (AG_app (AG_V gw_X6_highest) (AG_nil))))
theorem g_X8_areApart__X6_lowest_327 : GoodIn wk_X8_areApart (wsV RX8 327 RX6 yX6_lowest wk_X6_lowest) := goodIn_m (fun _ h => List.mem_cons_of_mem _ (List.mem_append_right _ (List.mem_append_right _ (List.mem_append_left _ h)))) (AG_V gw_X6_lowest)
theorem g_X8_areApart__X6_highest_330 : GoodIn wk_X8_areApart (wsV RX8 330 RX6 yX6_highest wk_X6_highest) := goodIn_m (fun _ h => List.mem_cons_of_mem _ (List.mem_append_right _ (List.mem_append_right _ (List.mem_append_right _ (List.mem_append_left _ h))))) (AG_V gw_X6_highest)
set_option maxHeartbeats 4000000 in
set_option maxRecDepth 100000 in
theorem c_X8_areApart (l : Launch) (dC : Nat → ClassId) (dI : Nat → Nat → Nat) (h0 : Nat) (n0 : Nat) (s0 : Nat) (s1 : Nat) (d0 : Nat) (o0 : Nat) (w0 : Nat) (e0 : Nat) (f0 : Nat) (t0 : Nat) (b0 : Nat) (dn : Int32) (nn : Int32) (la : Int32) (ne : Int32) (wi : Int32) (lm : Int32) (h1 : Nat) (x1 : Nat) (fi1 : Int32) (pl1 : Int32) (db1 : Int32) (go1 : Int32) (g1 : Nat → Int32) (h2 : Nat) (x2 : Nat) (fi2 : Int32) (pl2 : Int32) (db2 : Int32) (go2 : Int32) (g2 : Nat → Int32) (cI : ClassId) (p1 : Int32) (p2 : Int32) (ht1 : tOK fi1 pl1) (ht2 : tOK fi2 pl2) (hf1 : fi1.toInt ≤ p1.toInt) (hf2 : fi2.toInt ≤ p1.toInt) (hl1 : p2.toInt < fi1.toInt + pl1.toInt) (hl2 : p2.toInt < fi2.toInt + pl2.toInt) (hft : p1.toInt ≤ p2.toInt) : Met l yX8_areApart wk_X8_areApart ({ frames := 2, cells := 0, slots := 0, locals := 48 }) (va_Pc [.ref h0, .ref h1, .ref h2, .int p1, .int p2] (fun U => va_P (dC, dI) vwCl [(h0, .inr (8, [.ref n0, .ref s0, .ref s1, .ref d0, .ref o0, .int dn, .int nn, .int la, .int ne, .int wi, .ref w0, .ref e0, .ref f0, .ref t0, .ref b0, .int lm])), (h1, .inr (6, [.ref x1, .int fi1, .int pl1, .int db1, .int go1])), (x1, .inl (cI, 36, .inl g1)), (h2, .inr (6, [.ref x2, .int fi2, .int pl2, .int db2, .int go2])), (x2, .inl (cI, 36, .inl g2))] U.heap ∧ va_K (dC, dI) vwCl [(cI, .int)] U)) (vp_Si (fun r => r = 1 ∨ r = 0)) 0 0 (fun _ => False) := by
  refine Met.ofW (cc := cX8_areApart) (maxL := 6) (ret := (some .boolean)) (by decide) rfl ?_
  intro p e s m args below meth c s₁ B hml hv
  obtain ⟨rfl, hP, hK⟩ := hv
  have hx := B.exec
  have hb := B.bytes
  have hr := B.returns
  have hts := atoms_spec (ws := wk_X8_areApart) B.pre
  have hown : s.vm.findClass RX8 = some m.cls := findClass_of_methodNamed B.named
  have hlocks := B.notSynchronized
  have hP : va_P (dC, dI) vwCl [(h0, .inr (8, [.ref n0, .ref s0, .ref s1, .ref d0, .ref o0, .int dn, .int nn, .int la, .int ne, .int wi, .ref w0, .ref e0, .ref f0, .ref t0, .ref b0, .int lm])), (h1, .inr (6, [.ref x1, .int fi1, .int pl1, .int db1, .int go1])), (x1, .inl (cI, 36, .inl g1)), (h2, .inr (6, [.ref x2, .int fi2, .int pl2, .int db2, .int go2])), (x2, .inl (cI, 36, .inl g2))] s.heap := hP
  have hl := lv_entry ([.ref h0, .ref h1, .ref h2, .int p1, .int p2]) (n := 6) (Nat.le_of_ble_eq_true rfl)
  rw [lg_entry_eq]
  generalize (lg_sl ([.ref h0, .ref h1, .ref h2, .int p1, .int p2]) ++ List.replicate (6 - (lg_sl ([.ref h0, .ref h1, .ref h2, .int p1, .int p2])).length) Slot.unset).toArray = ls at hl ⊢
  have hl : lv_has ls 6 [(0, .ref h0), (1, .ref h1), (2, .ref h2), (3, .int p1), (4, .int p2)] := hl
  have kl_0 : (0 : Int32).toInt = 0 := by decide
  have kl_1 : (1 : Int32).toInt = 1 := by decide
  have kl_3 : (3 : Int32).toInt = 3 := by decide
  obtain ⟨hf10, hf11, hq10, hq11⟩ := id ht1
  obtain ⟨hf20, hf21, hq20, hq21⟩ := id ht2
  refine lv_iconst (v := 0) hx hb dX8_areApart_0 (by decide) ?_
  refine lv_istore (lv' := [(5, .int 0), (0, .ref h0), (1, .ref h1), (2, .ref h2), (3, .int p1), (4, .int p2)]) hx hb dX8_areApart_1 hl (by decide) rfl (fun ls hl => ?_)
  refine (show ∀ (k : Nat) (ax : Int32) (ha0 : 0 ≤ ax.toInt) (ha1 : ax.toInt ≤ 3) (hk_3 : (3 - ax.toInt).toNat < k) (ls : Array Slot) (hl : lv_has ls 6 [(0, .ref h0), (1, .ref h1), (2, .ref h2), (3, .int p1), (4, .int p2), (5, .int ax)]), W p l e _ s m _ below meth c s.heap [] 0 0 _ (F0 m 3 ls []) from ?_) _ 0 (by omega) (by omega) (Nat.lt_succ_self _) ls (lv_sub hl [1, 2, 3, 4, 5, 0] rfl)
  intro k
  induction k with
  | zero => intro ax ha0 ha1 hk_3; exact absurd hk_3 (Nat.not_lt_zero _)
  | succ k ih_3 =>
    intro ax ha0 ha1 hk_3 ls hl
    refine lv_iload hx hb dX8_areApart_3 (lv_at hl 5 rfl) ?_
    refine lv_iconst (v := 3) hx hb dX8_areApart_5 (by decide) ?_
    refine lv_icmp_ge (tgt := 69) hx hb dX8_areApart_6 (by decide) (fun c_6 => ?_) (fun c_6 => ?_)
    · have t_6 := (fa_le _ _).mp c_6
      refine lv_iconst (v := 0) hx hb dX8_areApart_69 (by decide) ?_
      exact W.zret (v := 0) hx hb hr rfl (fun t ht _ => ⟨_, rfl, (by first | exact Or.inl rfl | exact Or.inr rfl), ht⟩) (fun _ h => absurd h List.not_mem_nil) dX8_areApart_70
    · have t_6 := mt (fa_le _ _).mpr c_6
      refine lv_aload_n hx hb dX8_areApart_9 rfl (lv_at hl 1 rfl) ?_
      refine lv_iload_n hx hb dX8_areApart_10 rfl (lv_at hl 3 rfl) ?_
      refine lv_iload hx hb dX8_areApart_11 (lv_at hl 4 rfl) ?_
      refine lv_iload hx hb dX8_areApart_13 (lv_at hl 5 rfl) ?_
      have hPc := hP.sub (ws' := [(h1, .inr (6, [.ref x1, .int fi1, .int pl1, .int db1, .int go1])), (x1, .inl (cI, 36, .inl g1))]) [1, 2] rfl
      have hKc := hK.sub (tys' := [(cI, .int)]) [0] rfl
      refine vp_callSi (W.runV (As := [.int p1, .int p2, .int ax]) (rest := []) ⟨hx, hb, hml, hown, hts⟩ (c_X6_lowest l dC dI h1 x1 fi1 pl1 db1 go1 g1 cI p1 p2 ax (by first | assumption | omega) (by first | omega | assumption) (by first | omega | assumption) (by first | omega | assumption) (by first | omega | assumption) (by first | omega | assumption)) (cwV 3 hts g_X8_areApart__X6_lowest_327 rfl rfl rfl (by decide +kernel) ⟨Nat.le_of_ble_eq_true rfl, Nat.le_of_ble_eq_true rfl⟩) ⟨fun a U g mk q => by obtain ⟨q0, qP, qK⟩ := q; exact ⟨q0, qP, va_K.moved (u := U) (U := U.calling g mk a) (Vm.Alike.refl U.vm) qK⟩, va_recv hKc hPc (ci := 6) (q0 := 0) rfl rfl, fun U hU hW => ⟨rfl, by rw [hU]; exact hPc, va_K.moved hW.alike hKc⟩⟩ rfl rfl hl.1 rfl (lv_room (Nat.le_of_ble_eq_true rfl)) dX8_areApart_15 ⟨Nat.le_of_ble_eq_true rfl, Nat.le_of_ble_eq_true rfl⟩) (fun r_1 hr_1 => ?_)
      try dsimp only at hr_1
      refine lv_aload_n hx hb dX8_areApart_18 rfl (lv_at hl 2 rfl) ?_
      refine lv_iload_n hx hb dX8_areApart_19 rfl (lv_at hl 3 rfl) ?_
      refine lv_iload hx hb dX8_areApart_20 (lv_at hl 4 rfl) ?_
      refine lv_iload hx hb dX8_areApart_22 (lv_at hl 5 rfl) ?_
      have hPc := hP.sub (ws' := [(h2, .inr (6, [.ref x2, .int fi2, .int pl2, .int db2, .int go2])), (x2, .inl (cI, 36, .inl g2))]) [3, 4] rfl
      have hKc := hK.sub (tys' := [(cI, .int)]) [0] rfl
      refine vp_callSi (W.runV (As := [.int p1, .int p2, .int ax]) (rest := [.int r_1]) ⟨hx, hb, hml, hown, hts⟩ (c_X6_highest l dC dI h2 x2 fi2 pl2 db2 go2 g2 cI p1 p2 ax (by first | assumption | omega) (by first | omega | assumption) (by first | omega | assumption) (by first | omega | assumption) (by first | omega | assumption) (by first | omega | assumption)) (cwV 3 hts g_X8_areApart__X6_highest_330 rfl rfl rfl (by decide +kernel) ⟨Nat.le_of_ble_eq_true rfl, Nat.le_of_ble_eq_true rfl⟩) ⟨fun a U g mk q => by obtain ⟨q0, qP, qK⟩ := q; exact ⟨q0, qP, va_K.moved (u := U) (U := U.calling g mk a) (Vm.Alike.refl U.vm) qK⟩, va_recv hKc hPc (ci := 6) (q0 := 0) rfl rfl, fun U hU hW => ⟨rfl, by rw [hU]; exact hPc, va_K.moved hW.alike hKc⟩⟩ rfl rfl hl.1 rfl (lv_room (Nat.le_of_ble_eq_true rfl)) dX8_areApart_24 ⟨Nat.le_of_ble_eq_true rfl, Nat.le_of_ble_eq_true rfl⟩) (fun r_2 hr_2 => ?_)
      try dsimp only at hr_2
      refine lv_isub hx hb dX8_areApart_27 ?_
      refine lv_topi (fun y_3 ey_3 => ?_)
      refine lv_aload_n hx hb dX8_areApart_28 rfl (lv_at hl 0 rfl) ?_
      refine va_get (D := (dC, dI)) (ci := 8) (v := .int ne) (C := RX8) (T := TX8) (N := 16) hx hb hts in_X8_areApart_X8 hown hK hP 0 rfl rfl 8 (by decide) (hts (.fieldLink RX8 34 "MeetingsAbove" "near" "I") (by decide +kernel)) (fun _ h9 => h9) rfl dX8_areApart_29 ?_
      refine lv_icmp_ge (tgt := 61) hx hb dX8_areApart_32 (by decide) (fun c_32 => ?_) (fun c_32 => ?_)
      · have t_32 := (fa_le _ _).mp c_32
        refine lv_iconst (v := 1) hx hb dX8_areApart_61 (by decide) ?_
        exact W.zret (v := 1) hx hb hr rfl (fun t ht _ => ⟨_, rfl, (by first | exact Or.inl rfl | exact Or.inr rfl), ht⟩) (fun _ h => absurd h List.not_mem_nil) dX8_areApart_62
      · have t_32 := mt (fa_le _ _).mpr c_32
        refine lv_aload_n hx hb dX8_areApart_35 rfl (lv_at hl 2 rfl) ?_
        refine lv_iload_n hx hb dX8_areApart_36 rfl (lv_at hl 3 rfl) ?_
        refine lv_iload hx hb dX8_areApart_37 (lv_at hl 4 rfl) ?_
        refine lv_iload hx hb dX8_areApart_39 (lv_at hl 5 rfl) ?_
        have hPc := hP.sub (ws' := [(h2, .inr (6, [.ref x2, .int fi2, .int pl2, .int db2, .int go2])), (x2, .inl (cI, 36, .inl g2))]) [3, 4] rfl
        have hKc := hK.sub (tys' := [(cI, .int)]) [0] rfl
        refine vp_callSi (W.runV (As := [.int p1, .int p2, .int ax]) (rest := []) ⟨hx, hb, hml, hown, hts⟩ (c_X6_lowest l dC dI h2 x2 fi2 pl2 db2 go2 g2 cI p1 p2 ax (by first | assumption | omega) (by first | omega | assumption) (by first | omega | assumption) (by first | omega | assumption) (by first | omega | assumption) (by first | omega | assumption)) (cwV 3 hts g_X8_areApart__X6_lowest_327 rfl rfl rfl (by decide +kernel) ⟨Nat.le_of_ble_eq_true rfl, Nat.le_of_ble_eq_true rfl⟩) ⟨fun a U g mk q => by obtain ⟨q0, qP, qK⟩ := q; exact ⟨q0, qP, va_K.moved (u := U) (U := U.calling g mk a) (Vm.Alike.refl U.vm) qK⟩, va_recv hKc hPc (ci := 6) (q0 := 0) rfl rfl, fun U hU hW => ⟨rfl, by rw [hU]; exact hPc, va_K.moved hW.alike hKc⟩⟩ rfl rfl hl.1 rfl (lv_room (Nat.le_of_ble_eq_true rfl)) dX8_areApart_41 ⟨Nat.le_of_ble_eq_true rfl, Nat.le_of_ble_eq_true rfl⟩) (fun r_4 hr_4 => ?_)
        try dsimp only at hr_4
        refine lv_aload_n hx hb dX8_areApart_44 rfl (lv_at hl 1 rfl) ?_
        refine lv_iload_n hx hb dX8_areApart_45 rfl (lv_at hl 3 rfl) ?_
        refine lv_iload hx hb dX8_areApart_46 (lv_at hl 4 rfl) ?_
        refine lv_iload hx hb dX8_areApart_48 (lv_at hl 5 rfl) ?_
        have hPc := hP.sub (ws' := [(h1, .inr (6, [.ref x1, .int fi1, .int pl1, .int db1, .int go1])), (x1, .inl (cI, 36, .inl g1))]) [1, 2] rfl
        have hKc := hK.sub (tys' := [(cI, .int)]) [0] rfl
        refine vp_callSi (W.runV (As := [.int p1, .int p2, .int ax]) (rest := [.int r_4]) ⟨hx, hb, hml, hown, hts⟩ (c_X6_highest l dC dI h1 x1 fi1 pl1 db1 go1 g1 cI p1 p2 ax (by first | assumption | omega) (by first | omega | assumption) (by first | omega | assumption) (by first | omega | assumption) (by first | omega | assumption) (by first | omega | assumption)) (cwV 3 hts g_X8_areApart__X6_highest_330 rfl rfl rfl (by decide +kernel) ⟨Nat.le_of_ble_eq_true rfl, Nat.le_of_ble_eq_true rfl⟩) ⟨fun a U g mk q => by obtain ⟨q0, qP, qK⟩ := q; exact ⟨q0, qP, va_K.moved (u := U) (U := U.calling g mk a) (Vm.Alike.refl U.vm) qK⟩, va_recv hKc hPc (ci := 6) (q0 := 0) rfl rfl, fun U hU hW => ⟨rfl, by rw [hU]; exact hPc, va_K.moved hW.alike hKc⟩⟩ rfl rfl hl.1 rfl (lv_room (Nat.le_of_ble_eq_true rfl)) dX8_areApart_50 ⟨Nat.le_of_ble_eq_true rfl, Nat.le_of_ble_eq_true rfl⟩) (fun r_5 hr_5 => ?_)
        try dsimp only at hr_5
        refine lv_isub hx hb dX8_areApart_53 ?_
        refine lv_topi (fun y_6 ey_6 => ?_)
        refine lv_aload_n hx hb dX8_areApart_54 rfl (lv_at hl 0 rfl) ?_
        refine va_get (D := (dC, dI)) (ci := 8) (v := .int ne) (C := RX8) (T := TX8) (N := 16) hx hb hts in_X8_areApart_X8 hown hK hP 0 rfl rfl 8 (by decide) (hts (.fieldLink RX8 34 "MeetingsAbove" "near" "I") (by decide +kernel)) (fun _ h9 => h9) rfl dX8_areApart_55 ?_
        refine lv_icmp_lt (tgt := 63) hx hb dX8_areApart_58 (by decide) (fun c_58 => ?_) (fun c_58 => ?_)
        · have t_58 := (fa_lt _ _).mp c_58
          obtain ⟨y_7, ey_7⟩ : ∃ y : Int32, y = ax + 1 := ⟨_, rfl⟩
          have ty_7 : y_7.toInt = ax.toInt + 1 := by rw [ey_7]; have := fb_addI (x := ax) (y := 1) (by omega) (by omega); omega
          refine lv_iinc (v := y_7) (lv' := [(5, .int y_7), (0, .ref h0), (1, .ref h1), (2, .ref h2), (3, .int p1), (4, .int p2)]) hx hb dX8_areApart_63 hl (k := 5) rfl (by rw [ey_7]; rfl) (by decide) rfl (fun ls hl => ?_)
          refine lv_goto (tgt := 3) hx hb dX8_areApart_66 (by decide) ?_
          exact ih_3 y_7 (by omega) (by omega) (by omega) ls (lv_sub hl [1, 2, 3, 4, 5, 0] rfl)
        · have t_58 := mt (fa_lt _ _).mpr c_58
          refine lv_iconst (v := 1) hx hb dX8_areApart_61 (by decide) ?_
          exact W.zret (v := 1) hx hb hr rfl (fun t ht _ => ⟨_, rfl, (by first | exact Or.inl rfl | exact Or.inr rfl), ht⟩) (fun _ h => absurd h List.not_mem_nil) dX8_areApart_62
def wk_X8_areApartOnEachWay : List Cond := .code yX8_areApartOnEachWay cX8_areApartOnEachWay 6 (some .boolean) :: (([] : List Cond) ++ ((wsV RX8 180 RX8 yX8_areApart wk_X8_areApart) ++ ([])))
theorem gw_X8_areApartOnEachWay : AG wk_X8_areApartOnEachWay := AG_ca (AG_l (by decide +kernel)) (AG_app (AG_V gw_X8_areApart) (AG_nil))
theorem g_X8_areApartOnEachWay__X8_areApart_180 : GoodIn wk_X8_areApartOnEachWay (wsV RX8 180 RX8 yX8_areApart wk_X8_areApart) := goodIn_m (fun _ h => List.mem_cons_of_mem _ (List.mem_append_right _ (List.mem_append_left _ h))) (AG_V gw_X8_areApart)
set_option maxHeartbeats 4000000 in
set_option maxRecDepth 100000 in
theorem c_X8_areApartOnEachWay (l : Launch) (dC : Nat → ClassId) (dI : Nat → Nat → Nat) (h0 : Nat) (n0 : Nat) (s0 : Nat) (s1 : Nat) (d0 : Nat) (o0 : Nat) (w0 : Nat) (e0 : Nat) (f0 : Nat) (t0 : Nat) (b0 : Nat) (dn : Int32) (nn : Int32) (la : Int32) (ne : Int32) (wi : Int32) (lm : Int32) (h1 : Nat) (x1 : Nat) (fi1 : Int32) (pl1 : Int32) (db1 : Int32) (go1 : Int32) (g1 : Nat → Int32) (h2 : Nat) (x2 : Nat) (fi2 : Int32) (pl2 : Int32) (db2 : Int32) (go2 : Int32) (g2 : Nat → Int32) (cI : ClassId) (p1 : Int32) (p2 : Int32) (ht1 : tOK fi1 pl1) (ht2 : tOK fi2 pl2) (hf1 : fi1.toInt ≤ p1.toInt) (hf2 : fi2.toInt ≤ p1.toInt) (hl1 : p2.toInt < fi1.toInt + pl1.toInt) (hl2 : p2.toInt < fi2.toInt + pl2.toInt) (hft : p1.toInt ≤ p2.toInt) : Met l yX8_areApartOnEachWay wk_X8_areApartOnEachWay ({ frames := 3, cells := 0, slots := 0, locals := 73 }) (va_Pc [.ref h0, .ref h1, .ref h2, .int p1, .int p2] (fun U => va_P (dC, dI) vwCl [(h0, .inr (8, [.ref n0, .ref s0, .ref s1, .ref d0, .ref o0, .int dn, .int nn, .int la, .int ne, .int wi, .ref w0, .ref e0, .ref f0, .ref t0, .ref b0, .int lm])), (h1, .inr (6, [.ref x1, .int fi1, .int pl1, .int db1, .int go1])), (x1, .inl (cI, 36, .inl g1)), (h2, .inr (6, [.ref x2, .int fi2, .int pl2, .int db2, .int go2])), (x2, .inl (cI, 36, .inl g2))] U.heap ∧ va_K (dC, dI) vwCl [(cI, .int)] U)) (vp_Si (fun r => r = 1 ∨ r = 0)) 0 0 (fun _ => False) := by
  refine Met.ofW (cc := cX8_areApartOnEachWay) (maxL := 6) (ret := (some .boolean)) (by decide) rfl ?_
  intro p e s m args below meth c s₁ B hml hv
  obtain ⟨rfl, hP, hK⟩ := hv
  have hx := B.exec
  have hb := B.bytes
  have hr := B.returns
  have hts := atoms_spec (ws := wk_X8_areApartOnEachWay) B.pre
  have hown : s.vm.findClass RX8 = some m.cls := findClass_of_methodNamed B.named
  have hlocks := B.notSynchronized
  have hP : va_P (dC, dI) vwCl [(h0, .inr (8, [.ref n0, .ref s0, .ref s1, .ref d0, .ref o0, .int dn, .int nn, .int la, .int ne, .int wi, .ref w0, .ref e0, .ref f0, .ref t0, .ref b0, .int lm])), (h1, .inr (6, [.ref x1, .int fi1, .int pl1, .int db1, .int go1])), (x1, .inl (cI, 36, .inl g1)), (h2, .inr (6, [.ref x2, .int fi2, .int pl2, .int db2, .int go2])), (x2, .inl (cI, 36, .inl g2))] s.heap := hP
  have hl := lv_entry ([.ref h0, .ref h1, .ref h2, .int p1, .int p2]) (n := 6) (Nat.le_of_ble_eq_true rfl)
  rw [lg_entry_eq]
  generalize (lg_sl ([.ref h0, .ref h1, .ref h2, .int p1, .int p2]) ++ List.replicate (6 - (lg_sl ([.ref h0, .ref h1, .ref h2, .int p1, .int p2])).length) Slot.unset).toArray = ls at hl ⊢
  have hl : lv_has ls 6 [(0, .ref h0), (1, .ref h1), (2, .ref h2), (3, .int p1), (4, .int p2)] := hl
  have kl_0 : (0 : Int32).toInt = 0 := by decide
  have kl_1 : (1 : Int32).toInt = 1 := by decide
  obtain ⟨hf10, hf11, hq10, hq11⟩ := id ht1
  obtain ⟨hf20, hf21, hq20, hq21⟩ := id ht2
  refine lv_iload_n hx hb dX8_areApartOnEachWay_0 rfl (lv_at hl 3 rfl) ?_
  refine lv_iload hx hb dX8_areApartOnEachWay_1 (lv_at hl 4 rfl) ?_
  refine lv_icmp_ne (tgt := 16) hx hb dX8_areApartOnEachWay_3 (by decide) (fun c_3 => ?_) (fun c_3 => ?_)
  · have t_3 := mt (fa_eq _ _).mpr c_3
    refine lv_iload_n hx hb dX8_areApartOnEachWay_16 rfl (lv_at hl 3 rfl) ?_
    refine lv_istore (lv' := [(5, .int p1), (0, .ref h0), (1, .ref h1), (2, .ref h2), (3, .int p1), (4, .int p2)]) hx hb dX8_areApartOnEachWay_17 hl (by decide) rfl (fun ls hl => ?_)
    refine (show ∀ (k : Nat) (k5 : Int32) (hk0 : p1.toInt ≤ k5.toInt) (hk1 : k5.toInt ≤ p2.toInt) (hk_19 : (p2.toInt - k5.toInt).toNat < k) (ls : Array Slot) (hl : lv_has ls 6 [(0, .ref h0), (1, .ref h1), (2, .ref h2), (3, .int p1), (4, .int p2), (5, .int k5)]), W p l e _ s m _ below meth c s.heap [] 0 0 _ (F0 m 19 ls []) from ?_) _ p1 (by omega) (by omega) (Nat.lt_succ_self _) ls (lv_sub hl [1, 2, 3, 4, 5, 0] rfl)
    intro k
    induction k with
    | zero => intro k5 hk0 hk1 hk_19; exact absurd hk_19 (Nat.not_lt_zero _)
    | succ k ih_19 =>
      intro k5 hk0 hk1 hk_19 ls hl
      refine lv_iload hx hb dX8_areApartOnEachWay_19 (lv_at hl 5 rfl) ?_
      refine lv_iload hx hb dX8_areApartOnEachWay_21 (lv_at hl 4 rfl) ?_
      refine lv_icmp_ge (tgt := 49) hx hb dX8_areApartOnEachWay_23 (by decide) (fun c_23 => ?_) (fun c_23 => ?_)
      · have t_23 := (fa_le _ _).mp c_23
        refine lv_iconst (v := 1) hx hb dX8_areApartOnEachWay_49 (by decide) ?_
        exact W.zret (v := 1) hx hb hr rfl (fun t ht _ => ⟨_, rfl, (by first | exact Or.inl rfl | exact Or.inr rfl), ht⟩) (fun _ h => absurd h List.not_mem_nil) dX8_areApartOnEachWay_50
      · have t_23 := mt (fa_le _ _).mpr c_23
        refine lv_aload_n hx hb dX8_areApartOnEachWay_26 rfl (lv_at hl 0 rfl) ?_
        refine lv_aload_n hx hb dX8_areApartOnEachWay_27 rfl (lv_at hl 1 rfl) ?_
        refine lv_aload_n hx hb dX8_areApartOnEachWay_28 rfl (lv_at hl 2 rfl) ?_
        refine lv_iload hx hb dX8_areApartOnEachWay_29 (lv_at hl 5 rfl) ?_
        refine lv_iload hx hb dX8_areApartOnEachWay_31 (lv_at hl 5 rfl) ?_
        refine lv_iconst (v := 1) hx hb dX8_areApartOnEachWay_33 (by decide) ?_
        refine lv_iadd hx hb dX8_areApartOnEachWay_34 ?_
        refine lv_topi (fun y_1 ey_1 => ?_)
        have ty_1 : y_1.toInt = k5.toInt + 1 := by rw [ey_1]; have := fb_addI (x := k5) (y := 1) (by omega) (by omega); omega
        have hPc := hP.sub (ws' := [(h0, .inr (8, [.ref n0, .ref s0, .ref s1, .ref d0, .ref o0, .int dn, .int nn, .int la, .int ne, .int wi, .ref w0, .ref e0, .ref f0, .ref t0, .ref b0, .int lm])), (h1, .inr (6, [.ref x1, .int fi1, .int pl1, .int db1, .int go1])), (x1, .inl (cI, 36, .inl g1)), (h2, .inr (6, [.ref x2, .int fi2, .int pl2, .int db2, .int go2])), (x2, .inl (cI, 36, .inl g2))]) [0, 1, 2, 3, 4] rfl
        have hKc := hK.sub (tys' := [(cI, .int)]) [0] rfl
        refine vp_callSi (W.runV (As := [.ref h1, .ref h2, .int k5, .int y_1]) (rest := []) ⟨hx, hb, hml, hown, hts⟩ (c_X8_areApart l dC dI h0 n0 s0 s1 d0 o0 w0 e0 f0 t0 b0 dn nn la ne wi lm h1 x1 fi1 pl1 db1 go1 g1 h2 x2 fi2 pl2 db2 go2 g2 cI k5 y_1 (by first | assumption | omega) (by first | assumption | omega) (by first | omega | assumption) (by first | omega | assumption) (by first | omega | assumption) (by first | omega | assumption) (by first | omega | assumption)) (cwV 4 hts g_X8_areApartOnEachWay__X8_areApart_180 rfl rfl rfl (by decide +kernel) ⟨Nat.le_of_ble_eq_true rfl, Nat.le_of_ble_eq_true rfl⟩) ⟨fun a U g mk q => by obtain ⟨q0, qP, qK⟩ := q; exact ⟨q0, qP, va_K.moved (u := U) (U := U.calling g mk a) (Vm.Alike.refl U.vm) qK⟩, va_recv hKc hPc (ci := 8) (q0 := 0) rfl rfl, fun U hU hW => ⟨rfl, by rw [hU]; exact hPc, va_K.moved hW.alike hKc⟩⟩ rfl rfl hl.1 rfl (lv_room (Nat.le_of_ble_eq_true rfl)) dX8_areApartOnEachWay_35 ⟨Nat.le_of_ble_eq_true rfl, Nat.le_of_ble_eq_true rfl⟩) (fun r_2 hr_2 => ?_)
        try dsimp only at hr_2
        refine lv_if_ne (tgt := 43) hx hb dX8_areApartOnEachWay_38 (by decide) (fun c_38 => ?_) (fun c_38 => ?_)
        · have t_38 := mt (fa_eq _ _).mpr c_38
          obtain ⟨y_3, ey_3⟩ : ∃ y : Int32, y = k5 + 1 := ⟨_, rfl⟩
          have ty_3 : y_3.toInt = k5.toInt + 1 := by rw [ey_3]; have := fb_addI (x := k5) (y := 1) (by omega) (by omega); omega
          refine lv_iinc (v := y_3) (lv' := [(5, .int y_3), (0, .ref h0), (1, .ref h1), (2, .ref h2), (3, .int p1), (4, .int p2)]) hx hb dX8_areApartOnEachWay_43 hl (k := 5) rfl (by rw [ey_3]; rfl) (by decide) rfl (fun ls hl => ?_)
          refine lv_goto (tgt := 19) hx hb dX8_areApartOnEachWay_46 (by decide) ?_
          exact ih_19 y_3 (by omega) (by omega) (by omega) ls (lv_sub hl [1, 2, 3, 4, 5, 0] rfl)
        · have t_38 := (fa_eq _ _).mp c_38
          refine lv_iconst (v := 0) hx hb dX8_areApartOnEachWay_41 (by decide) ?_
          exact W.zret (v := 0) hx hb hr rfl (fun t ht _ => ⟨_, rfl, (by first | exact Or.inl rfl | exact Or.inr rfl), ht⟩) (fun _ h => absurd h List.not_mem_nil) dX8_areApartOnEachWay_42
  · have t_3 := (fa_eq _ _).mp c_3
    refine lv_aload_n hx hb dX8_areApartOnEachWay_6 rfl (lv_at hl 0 rfl) ?_
    refine lv_aload_n hx hb dX8_areApartOnEachWay_7 rfl (lv_at hl 1 rfl) ?_
    refine lv_aload_n hx hb dX8_areApartOnEachWay_8 rfl (lv_at hl 2 rfl) ?_
    refine lv_iload_n hx hb dX8_areApartOnEachWay_9 rfl (lv_at hl 3 rfl) ?_
    refine lv_iload hx hb dX8_areApartOnEachWay_10 (lv_at hl 4 rfl) ?_
    have hPc := hP.sub (ws' := [(h0, .inr (8, [.ref n0, .ref s0, .ref s1, .ref d0, .ref o0, .int dn, .int nn, .int la, .int ne, .int wi, .ref w0, .ref e0, .ref f0, .ref t0, .ref b0, .int lm])), (h1, .inr (6, [.ref x1, .int fi1, .int pl1, .int db1, .int go1])), (x1, .inl (cI, 36, .inl g1)), (h2, .inr (6, [.ref x2, .int fi2, .int pl2, .int db2, .int go2])), (x2, .inl (cI, 36, .inl g2))]) [0, 1, 2, 3, 4] rfl
    have hKc := hK.sub (tys' := [(cI, .int)]) [0] rfl
    refine vp_callSi (W.runV (As := [.ref h1, .ref h2, .int p1, .int p2]) (rest := []) ⟨hx, hb, hml, hown, hts⟩ (c_X8_areApart l dC dI h0 n0 s0 s1 d0 o0 w0 e0 f0 t0 b0 dn nn la ne wi lm h1 x1 fi1 pl1 db1 go1 g1 h2 x2 fi2 pl2 db2 go2 g2 cI p1 p2 (by first | assumption | omega) (by first | assumption | omega) (by first | omega | assumption) (by first | omega | assumption) (by first | omega | assumption) (by first | omega | assumption) (by first | omega | assumption)) (cwV 4 hts g_X8_areApartOnEachWay__X8_areApart_180 rfl rfl rfl (by decide +kernel) ⟨Nat.le_of_ble_eq_true rfl, Nat.le_of_ble_eq_true rfl⟩) ⟨fun a U g mk q => by obtain ⟨q0, qP, qK⟩ := q; exact ⟨q0, qP, va_K.moved (u := U) (U := U.calling g mk a) (Vm.Alike.refl U.vm) qK⟩, va_recv hKc hPc (ci := 8) (q0 := 0) rfl rfl, fun U hU hW => ⟨rfl, by rw [hU]; exact hPc, va_K.moved hW.alike hKc⟩⟩ rfl rfl hl.1 rfl (lv_room (Nat.le_of_ble_eq_true rfl)) dX8_areApartOnEachWay_12 ⟨Nat.le_of_ble_eq_true rfl, Nat.le_of_ble_eq_true rfl⟩) (fun r_4 hr_4 => ?_)
    try dsimp only at hr_4
    exact W.zret (v := r_4) hx hb hr (by rcases hr_4 with h | h <;> rw [h] <;> rfl) (fun t ht _ => ⟨_, rfl, hr_4, ht⟩) (fun _ h => absurd h List.not_mem_nil) dX8_areApartOnEachWay_15
def wk_X8_partsStayInside : List Cond := .code yX8_partsStayInside cX8_partsStayInside 4 (some .boolean) :: (([] : List Cond) ++ ((va_wsS RX8 127 yX8_partDriftX wk_X8_partDriftX) ++ ((va_wsS RX8 131 yX8_partDriftY wk_X8_partDriftY) ++ ((wsV RX8 248 RX6 yX6_staysInside wk_X6_staysInside) ++ ([])))))
theorem gw_X8_partsStayInside : AG wk_X8_partsStayInside := AG_ca (AG_l (by decide +kernel)) (AG_app (AG_S gw_X8_partDriftX) (AG_app (AG_S gw_X8_partDriftY) (AG_app (AG_V gw_X6_staysInside) (AG_nil))))
theorem g_X8_partsStayInside__X8_partDriftX_127 : GoodIn wk_X8_partsStayInside (va_wsS RX8 127 yX8_partDriftX wk_X8_partDriftX) := goodIn_m (fun _ h => List.mem_cons_of_mem _ (List.mem_append_right _ (List.mem_append_left _ h))) (AG_S gw_X8_partDriftX)
theorem g_X8_partsStayInside__X8_partDriftY_131 : GoodIn wk_X8_partsStayInside (va_wsS RX8 131 yX8_partDriftY wk_X8_partDriftY) := goodIn_m (fun _ h => List.mem_cons_of_mem _ (List.mem_append_right _ (List.mem_append_right _ (List.mem_append_left _ h)))) (AG_S gw_X8_partDriftY)
theorem g_X8_partsStayInside__X6_staysInside_248 : GoodIn wk_X8_partsStayInside (wsV RX8 248 RX6 yX6_staysInside wk_X6_staysInside) := goodIn_m (fun _ h => List.mem_cons_of_mem _ (List.mem_append_right _ (List.mem_append_right _ (List.mem_append_right _ (List.mem_append_left _ h))))) (AG_V gw_X6_staysInside)
set_option maxHeartbeats 4000000 in
set_option maxRecDepth 100000 in
theorem c_X8_partsStayInside (l : Launch) (dC : Nat → ClassId) (dI : Nat → Nat → Nat) (h0 : Nat) (x0 : Nat) (fi : Int32) (pl : Int32) (db : Int32) (go : Int32) (g : Nat → Int32) (cI : ClassId) (p1 : Int32) (p2 : Int32) (ht : tOK fi pl) (hs0 : fi.toInt ≤ p1.toInt) (hs1 : p1.toInt < fi.toInt + pl.toInt) (hn0 : 0 ≤ p2.toInt) (hn1 : p2.toInt ≤ 6) : Met l yX8_partsStayInside wk_X8_partsStayInside ({ frames := 3, cells := 0, slots := 0, locals := 70 }) (va_Pc [.ref h0, .int p1, .int p2] (fun U => va_P (dC, dI) vwCl [(h0, .inr (6, [.ref x0, .int fi, .int pl, .int db, .int go])), (x0, .inl (cI, 36, .inl g))] U.heap ∧ va_K (dC, dI) vwCl [(cI, .int)] U ∧ XN U)) (vp_Si (fun r => (r = 1 ∧ gsN g fi pl p1 p2 p2.toInt.toNat) ∨ (r = 0 ∧ ¬ gsN g fi pl p1 p2 p2.toInt.toNat))) 0 0 (fun _ => False) := by
  refine Met.ofW (cc := cX8_partsStayInside) (maxL := 4) (ret := (some .boolean)) (by decide) rfl ?_
  intro p e s m args below meth c s₁ B hml hv
  obtain ⟨rfl, hP, hK, hN⟩ := hv
  have hx := B.exec
  have hb := B.bytes
  have hr := B.returns
  have hts := atoms_spec (ws := wk_X8_partsStayInside) B.pre
  have hown : s.vm.findClass RX8 = some m.cls := findClass_of_methodNamed B.named
  have hlocks := B.notSynchronized
  have hP : va_P (dC, dI) vwCl [(h0, .inr (6, [.ref x0, .int fi, .int pl, .int db, .int go])), (x0, .inl (cI, 36, .inl g))] s.heap := hP
  have hl := lv_entry ([.ref h0, .int p1, .int p2]) (n := 4) (Nat.le_of_ble_eq_true rfl)
  rw [lg_entry_eq]
  generalize (lg_sl ([.ref h0, .int p1, .int p2]) ++ List.replicate (4 - (lg_sl ([.ref h0, .int p1, .int p2])).length) Slot.unset).toArray = ls at hl ⊢
  have hl : lv_has ls 4 [(0, .ref h0), (1, .int p1), (2, .int p2)] := hl
  have kl_0 : (0 : Int32).toInt = 0 := by decide
  have kl_1 : (1 : Int32).toInt = 1 := by decide
  obtain ⟨hf0, hf1, hq0, hq1⟩ := id ht
  refine lv_iconst (v := 0) hx hb dX8_partsStayInside_0 (by decide) ?_
  refine lv_istore_n (lv' := [(3, .int 0), (0, .ref h0), (1, .int p1), (2, .int p2)]) hx hb dX8_partsStayInside_1 rfl hl (by decide) rfl (fun ls hl => ?_)
  refine (show ∀ (k : Nat) (i3 : Int32) (hi0 : 0 ≤ i3.toInt) (hi1 : i3.toInt ≤ p2.toInt) (hI : gsN g fi pl p1 p2 i3.toInt.toNat) (hk_2 : (p2.toInt - i3.toInt).toNat < k) (ls : Array Slot) (hl : lv_has ls 4 [(0, .ref h0), (1, .int p1), (2, .int p2), (3, .int i3)]), W p l e _ s m _ below meth c s.heap [] 0 0 _ (F0 m 2 ls []) from ?_) _ 0 (by omega) (by omega) (by exact fun k hk => absurd hk (by omega)) (Nat.lt_succ_self _) ls (lv_sub hl [1, 2, 3, 0] rfl)
  intro k
  induction k with
  | zero => intro i3 hi0 hi1 hI hk_2; exact absurd hk_2 (Nat.not_lt_zero _)
  | succ k ih_2 =>
    intro i3 hi0 hi1 hI hk_2 ls hl
    refine lv_iload_n hx hb dX8_partsStayInside_2 rfl (lv_at hl 3 rfl) ?_
    refine lv_iload_n hx hb dX8_partsStayInside_3 rfl (lv_at hl 2 rfl) ?_
    refine lv_icmp_ge (tgt := 33) hx hb dX8_partsStayInside_4 (by decide) (fun c_4 => ?_) (fun c_4 => ?_)
    · have t_4 := (fa_le _ _).mp c_4
      refine lv_iconst (v := 1) hx hb dX8_partsStayInside_33 (by decide) ?_
      exact W.zret (v := 1) hx hb hr rfl (fun t ht _ => ⟨_, rfl, (Or.inl ⟨rfl, by rw [show p2.toInt.toNat = i3.toInt.toNat by omega]; exact hI⟩), ht⟩) (fun _ h => absurd h List.not_mem_nil) dX8_partsStayInside_34
    · have t_4 := mt (fa_le _ _).mpr c_4
      refine lv_aload_n hx hb dX8_partsStayInside_7 rfl (lv_at hl 0 rfl) ?_
      refine lv_iload_n hx hb dX8_partsStayInside_8 rfl (lv_at hl 1 rfl) ?_
      refine lv_iload_n hx hb dX8_partsStayInside_9 rfl (lv_at hl 3 rfl) ?_
      refine lv_iload_n hx hb dX8_partsStayInside_10 rfl (lv_at hl 2 rfl) ?_
      refine vp_callSi (W.runS (As := [.int i3, .int p2]) (rest := [.int p1, .ref h0]) ⟨hx, hb, hml, hown, hts⟩ (c_X8_partDriftX l dC dI i3 p2) (va_cwS 2 hts g_X8_partsStayInside__X8_partDriftX_127 rfl rfl rfl (by decide +kernel) ⟨Nat.le_of_ble_eq_true rfl, Nat.le_of_ble_eq_true rfl⟩) ⟨fun a U g mk q => by obtain ⟨q0, q1⟩ := q; exact ⟨q0, q1⟩, fun U hU hW => ⟨rfl, trivial⟩⟩ rfl rfl hl.1 rfl (lv_room (Nat.le_of_ble_eq_true rfl)) dX8_partsStayInside_11 ⟨Nat.le_of_ble_eq_true rfl, Nat.le_of_ble_eq_true rfl⟩) (fun r_1 hr_1 => ?_)
      try dsimp only at hr_1
      refine lv_iload_n hx hb dX8_partsStayInside_14 rfl (lv_at hl 3 rfl) ?_
      refine vp_callSi (W.runS (As := [.int i3]) (rest := [.int r_1, .int p1, .ref h0]) ⟨hx, hb, hml, hown, hts⟩ (c_X8_partDriftY l dC dI i3) (va_cwS 1 hts g_X8_partsStayInside__X8_partDriftY_131 rfl rfl rfl (by decide +kernel) ⟨Nat.le_of_ble_eq_true rfl, Nat.le_of_ble_eq_true rfl⟩) ⟨fun a U g mk q => by obtain ⟨q0, q1⟩ := q; exact ⟨q0, q1⟩, fun U hU hW => ⟨rfl, trivial⟩⟩ rfl rfl hl.1 rfl (lv_room (Nat.le_of_ble_eq_true rfl)) dX8_partsStayInside_15 ⟨Nat.le_of_ble_eq_true rfl, Nat.le_of_ble_eq_true rfl⟩) (fun r_2 hr_2 => ?_)
      try dsimp only at hr_2
      refine lv_iconst (v := 0) hx hb dX8_partsStayInside_18 (by decide) ?_
      have hPc := hP.sub (ws' := [(h0, .inr (6, [.ref x0, .int fi, .int pl, .int db, .int go])), (x0, .inl (cI, 36, .inl g))]) [0, 1] rfl
      have hKc := hK.sub (tys' := [(cI, .int)]) [0] rfl
      refine vp_callSi (W.runV (As := [.int p1, .int r_1, .int r_2, .int 0]) (rest := []) ⟨hx, hb, hml, hown, hts⟩ (c_X6_staysInside l dC dI h0 x0 fi pl db go g cI p1 r_1 r_2 0 (by first | assumption | omega) (by first | omega | assumption) (by first | omega | assumption)) (cwV 4 hts g_X8_partsStayInside__X6_staysInside_248 rfl rfl rfl (by decide +kernel) ⟨Nat.le_of_ble_eq_true rfl, Nat.le_of_ble_eq_true rfl⟩) ⟨fun a U g mk q => by obtain ⟨q0, qP, qK, qN⟩ := q; exact ⟨q0, qP, va_K.moved (u := U) (U := U.calling g mk a) (Vm.Alike.refl U.vm) qK, XN_same (U := U) (U2 := U.calling g mk a) rfl qN⟩, va_recv hKc hPc (ci := 6) (q0 := 0) rfl rfl, fun U hU hW => ⟨rfl, by rw [hU]; exact hPc, va_K.moved hW.alike hKc, XN_warm hW hN⟩⟩ rfl rfl hl.1 rfl (lv_room (Nat.le_of_ble_eq_true rfl)) dX8_partsStayInside_19 ⟨Nat.le_of_ble_eq_true rfl, Nat.le_of_ble_eq_true rfl⟩) (fun r_3 hr_3 => ?_)
      try dsimp only at hr_3
      refine lv_if_ne (tgt := 27) hx hb dX8_partsStayInside_22 (by decide) (fun c_22 => ?_) (fun c_22 => ?_)
      · have t_22 := mt (fa_eq _ _).mpr c_22
        obtain ⟨y_4, ey_4⟩ : ∃ y : Int32, y = i3 + 1 := ⟨_, rfl⟩
        have ty_4 : y_4.toInt = i3.toInt + 1 := by rw [ey_4]; have := fb_addI (x := i3) (y := 1) (by omega) (by omega); omega
        refine lv_iinc (v := y_4) (lv' := [(3, .int y_4), (0, .ref h0), (1, .int p1), (2, .int p2)]) hx hb dX8_partsStayInside_27 hl (k := 3) rfl (by rw [ey_4]; rfl) (by decide) rfl (fun ls hl => ?_)
        refine lv_goto (tgt := 2) hx hb dX8_partsStayInside_30 (by decide) ?_
        exact ih_2 y_4 (by omega) (by omega) (by rw [show (y_4).toInt.toNat = i3.toInt.toNat + 1 by omega]; refine gsN_up hI ?_; rw [← nI_of_toInt (x := i3) (n := i3.toInt.toNat) (by omega)]; rcases hr_3 with h | h; all_goals (first | (rw [hr_1, hr_2] at h; exact h.2) | (rw [h.1] at c_22; exact absurd rfl c_22))) (by omega) ls (lv_sub hl [1, 2, 3, 0] rfl)
      · have t_22 := (fa_eq _ _).mp c_22
        refine lv_iconst (v := 0) hx hb dX8_partsStayInside_25 (by decide) ?_
        exact W.zret (v := 0) hx hb hr rfl (fun t ht _ => ⟨_, rfl, (Or.inr ⟨rfl, fun z => by have w := z i3.toInt.toNat (by omega); rw [← nI_of_toInt (x := i3) (n := i3.toInt.toNat) (by omega)] at w; rcases hr_3 with h | h; all_goals (first | (rw [h.1] at c_22; exact absurd c_22 (by decide)) | (rw [hr_1, hr_2] at h; exact h.2 w))⟩), ht⟩) (fun _ h => absurd h List.not_mem_nil) dX8_partsStayInside_26
