def wk_X8_lastNoticeOf : List Cond := .code yX8_lastNoticeOf cX8_lastNoticeOf 5 (some .int) :: (([.fieldLink RX8 164 "MeetingsAbove" "noticeCount" "I", .fieldLink RX8 280 "MeetingsAbove$Notice" "lesser" "I", .fieldLink RX8 283 "MeetingsAbove$Notice" "greater" "I"] : List Cond) ++ (wsX80 ++ (wsX50 ++ ((wsV RX8 292 RX8 yX8_findNotice wk_X8_findNotice) ++ ([])))))
theorem in_X8_lastNoticeOf_X5 : ∀ w ∈ wsX50, w ∈ wk_X8_lastNoticeOf := fun _ h => List.mem_cons_of_mem _ (List.mem_append_right _ (List.mem_append_right _ (List.mem_append_left _ h)))
theorem in_X8_lastNoticeOf_X8 : ∀ w ∈ wsX80, w ∈ wk_X8_lastNoticeOf := fun _ h => List.mem_cons_of_mem _ (List.mem_append_right _ (List.mem_append_left _ h))
theorem gw_X8_lastNoticeOf : AG wk_X8_lastNoticeOf := AG_ca (AG_l (by decide +kernel)) (AG_app ag_X8 (AG_app ag_X5 (AG_app (AG_V gw_X8_findNotice) (AG_nil))))
theorem g_X8_lastNoticeOf__X8_findNotice_292 : GoodIn wk_X8_lastNoticeOf (wsV RX8 292 RX8 yX8_findNotice wk_X8_findNotice) := goodIn_m (fun _ h => List.mem_cons_of_mem _ (List.mem_append_right _ (List.mem_append_right _ (List.mem_append_right _ (List.mem_append_left _ h))))) (AG_V gw_X8_findNotice)
set_option maxHeartbeats 4000000 in
set_option maxRecDepth 100000 in
theorem c_X8_lastNoticeOf (l : Launch) (dC : Nat → ClassId) (dI : Nat → Nat → Nat) (h0 : Nat) (n0 : Nat) (s0 : Nat) (s1 : Nat) (d0 : Nat) (o0 : Nat) (w0 : Nat) (e0 : Nat) (f0 : Nat) (t0 : Nat) (b0 : Nat) (dn : Int32) (nn : Int32) (la : Int32) (ne : Int32) (wi : Int32) (lm : Int32) (cO : ClassId) (gn : Nat → Option Nat) (L : List Nat) (f : Nat → va_E) (p1 : Int32) (p2 : Int32) (hNO : notOK L f nn gn) : Met l yX8_lastNoticeOf wk_X8_lastNoticeOf ({ frames := 1, cells := 0, slots := 0, locals := 21 }) (va_Pc [.ref h0, .int p1, .int p2] (fun U => va_P (dC, dI) vwCl (([(h0, .inr (8, [.ref n0, .ref s0, .ref s1, .ref d0, .ref o0, .int dn, .int nn, .int la, .int ne, .int wi, .ref w0, .ref e0, .ref f0, .ref t0, .ref b0, .int lm])), (o0, .inl (cO, 40, .inr (.inr (.inr (.inr gn)))))] : va_W) ++ va_pl L f) U.heap ∧ va_K (dC, dI) vwCl [(cO, .object "MeetingsAbove$Notice")] U)) (vp_Si (fun r => -1 ≤ r.toInt ∧ r.toInt < nn.toInt ∨ r.toInt = -1)) 0 0 (fun _ => False) := by
  refine Met.ofW (cc := cX8_lastNoticeOf) (maxL := 5) (ret := (some .int)) (by decide) rfl ?_
  intro p e s m args below meth c s₁ B hml hv
  obtain ⟨rfl, hP, hK⟩ := hv
  have hx := B.exec
  have hb := B.bytes
  have hr := B.returns
  have hts := atoms_spec (ws := wk_X8_lastNoticeOf) B.pre
  have hown : s.vm.findClass RX8 = some m.cls := findClass_of_methodNamed B.named
  have hlocks := B.notSynchronized
  have hP : va_P (dC, dI) vwCl (([(h0, .inr (8, [.ref n0, .ref s0, .ref s1, .ref d0, .ref o0, .int dn, .int nn, .int la, .int ne, .int wi, .ref w0, .ref e0, .ref f0, .ref t0, .ref b0, .int lm])), (o0, .inl (cO, 40, .inr (.inr (.inr (.inr gn)))))] : va_W) ++ va_pl L f) s.heap := hP
  have hl := lv_entry ([.ref h0, .int p1, .int p2]) (n := 5) (Nat.le_of_ble_eq_true rfl)
  rw [lg_entry_eq]
  generalize (lg_sl ([.ref h0, .int p1, .int p2]) ++ List.replicate (5 - (lg_sl ([.ref h0, .int p1, .int p2])).length) Slot.unset).toArray = ls at hl ⊢
  have hl : lv_has ls 5 [(0, .ref h0), (1, .int p1), (2, .int p2)] := hl
  have kl_0 : (0 : Int32).toInt = 0 := by decide
  have kl_1 : (1 : Int32).toInt = 1 := by decide
  obtain ⟨hN0, hN1, hN2⟩ := id hNO
  refine lv_aload_n hx hb dX8_lastNoticeOf_0 rfl (lv_at hl 0 rfl) ?_
  refine va_get (D := (dC, dI)) (ci := 8) (v := .int nn) (C := RX8) (T := TX8) (N := 16) hx hb hts in_X8_lastNoticeOf_X8 hown hK hP 0 rfl rfl 6 (by decide) (hts (.fieldLink RX8 164 "MeetingsAbove" "noticeCount" "I") (by decide +kernel)) (fun _ h9 => h9) rfl dX8_lastNoticeOf_1 ?_
  refine lv_iconst (v := 1) hx hb dX8_lastNoticeOf_4 (by decide) ?_
  refine lv_isub hx hb dX8_lastNoticeOf_5 ?_
  refine lv_topi (fun y_1 ey_1 => ?_)
  have ty_1 : y_1.toInt = nn.toInt - 1 := by rw [ey_1]; have := fb_subI (x := nn) (y := 1) (by omega) (by omega); omega
  refine lv_istore_n (lv' := [(3, .int y_1), (0, .ref h0), (1, .int p1), (2, .int p2)]) hx hb dX8_lastNoticeOf_6 rfl hl (by decide) rfl (fun ls hl => ?_)
  refine (show ∀ (k : Nat) (k3 : Int32) (hk0 : -1 ≤ k3.toInt) (hk1 : k3.toInt < nn.toInt) (hk_7 : (k3.toInt + 1).toNat < k) (ls : Array Slot) (hl : lv_has ls 5 [(0, .ref h0), (1, .int p1), (2, .int p2), (3, .int k3)]), W p l e _ s m _ below meth c s.heap [] 0 0 _ (F0 m 7 ls []) from ?_) _ y_1 (by omega) (by omega) (Nat.lt_succ_self _) ls (lv_sub hl [1, 2, 3, 0] rfl)
  intro k
  induction k with
  | zero => intro k3 hk0 hk1 hk_7; exact absurd hk_7 (Nat.not_lt_zero _)
  | succ k ih_7 =>
    intro k3 hk0 hk1 hk_7 ls hl
    refine lv_iload_n hx hb dX8_lastNoticeOf_7 rfl (lv_at hl 3 rfl) ?_
    refine lv_if_lt (tgt := 49) hx hb dX8_lastNoticeOf_8 (by decide) (fun c_8 => ?_) (fun c_8 => ?_)
    · have t_8 := (fa_lt _ _).mp c_8
      refine lv_iconst (v := (-1)) hx hb dX8_lastNoticeOf_49 (by decide) ?_
      exact W.iret (v := (-1)) hx hb hr (fun t ht _ => ⟨_, rfl, (Or.inr (by decide)), ht⟩) (fun _ h => absurd h List.not_mem_nil) dX8_lastNoticeOf_50
    · have t_8 := mt (fa_lt _ _).mpr c_8
      refine lv_aload_n hx hb dX8_lastNoticeOf_11 rfl (lv_at hl 0 rfl) ?_
      refine lv_iload_n hx hb dX8_lastNoticeOf_12 rfl (lv_at hl 3 rfl) ?_
      have hPc := hP.sub (ws' := [(h0, .inr (8, [.ref n0, .ref s0, .ref s1, .ref d0, .ref o0, .int dn, .int nn, .int la, .int ne, .int wi, .ref w0, .ref e0, .ref f0, .ref t0, .ref b0, .int lm])), (o0, .inl (cO, 40, .inr (.inr (.inr (.inr gn)))))]) [0, 1] rfl
      have hKc := hK.sub (tys' := [(cO, .object "MeetingsAbove$Notice")]) [0] rfl
      refine va_csq (W.runV (As := [.int k3]) (rest := []) ⟨hx, hb, hml, hown, hts⟩ (c_X8_findNotice l dC dI h0 n0 s0 s1 d0 o0 w0 e0 f0 t0 b0 dn nn la ne wi lm cO gn k3) (cwV 1 hts g_X8_lastNoticeOf__X8_findNotice_292 rfl rfl rfl (by decide +kernel) ⟨Nat.le_of_ble_eq_true rfl, Nat.le_of_ble_eq_true rfl⟩) ⟨fun a U g mk q => by obtain ⟨q0, qP, qK⟩ := q; exact ⟨q0, qP, va_K.moved (u := U) (U := U.calling g mk a) (Vm.Alike.refl U.vm) qK⟩, va_recv hKc hPc (ci := 8) (q0 := 0) rfl rfl, fun U hU hW => ⟨rfl, by rw [hU]; exact hPc, va_K.moved hW.alike hKc⟩⟩ rfl rfl hl.1 rfl (lv_room (Nat.le_of_ble_eq_true rfl)) dX8_lastNoticeOf_13 ⟨Nat.le_of_ble_eq_true rfl, Nat.le_of_ble_eq_true rfl⟩) (fun r_2 hr_2 => ?_)
      try dsimp only at hr_2
      rcases r_2 with _ | w_3
      · refine W.eq (g2 := F0 m 16 ls [.null]) rfl ?_
        refine lv_astoreN (lv' := [(4, .null), (0, .ref h0), (1, .int p1), (2, .int p2), (3, .int k3)]) hx hb dX8_lastNoticeOf_16 hl (by decide) rfl (fun ls hl => ?_)
        refine lv_aloadN hx hb dX8_lastNoticeOf_18 (lv_at hl 0 rfl) ?_
        refine lv_ifnullN (tgt := 43) hx hb dX8_lastNoticeOf_20 (by decide) ?_
        obtain ⟨y_4, ey_4⟩ : ∃ y : Int32, y = k3 + (-1) := ⟨_, rfl⟩
        have ty_4 : y_4.toInt = k3.toInt - 1 := dec_I ey_4 (by omega)
        refine lv_iinc (v := y_4) (lv' := [(3, .int y_4), (4, .null), (0, .ref h0), (1, .int p1), (2, .int p2)]) hx hb dX8_lastNoticeOf_43 hl (k := 4) rfl (by rw [ey_4]; rfl) (by decide) rfl (fun ls hl => ?_)
        refine lv_goto (tgt := 7) hx hb dX8_lastNoticeOf_46 (by decide) ?_
        exact ih_7 y_4 (by omega) (by omega) (by omega) ls (lv_sub hl [2, 3, 4, 0] rfl)
      · refine W.eq (g2 := F0 m 16 ls [.ref w_3]) rfl ?_
        obtain ⟨hi_w_3, hw_w_3⟩ := fd_some hr_2
        obtain ⟨v1_w_3, v2_w_3, v3_w_3, v4_w_3, v5_w_3, v6_w_3, v7_w_3, v8_w_3, hL_w_3, hf_w_3, hh_w_3⟩ := nt_of hNO (by rw [tc_I (by omega)]; omega) hw_w_3
        refine lv_astore (lv' := [(4, .ref w_3), (0, .ref h0), (1, .int p1), (2, .int p2), (3, .int k3)]) hx hb dX8_lastNoticeOf_16 hl (by decide) rfl (fun ls hl => ?_)
        refine lv_aload hx hb dX8_lastNoticeOf_18 (lv_at hl 0 rfl) ?_
        refine lv_ifnull hx hb dX8_lastNoticeOf_20 ?_
        refine lv_aload hx hb dX8_lastNoticeOf_23 (lv_at hl 0 rfl) ?_
        obtain ⟨k_5, hk_5⟩ := pl_ix (X := [(h0, .inr (8, [.ref n0, .ref s0, .ref s1, .ref d0, .ref o0, .int dn, .int nn, .int la, .int ne, .int wi, .ref w0, .ref e0, .ref f0, .ref t0, .ref b0, .int lm])), (o0, .inl (cO, 40, .inr (.inr (.inr (.inr gn)))))]) hL_w_3 hf_w_3
        refine va_get (D := (dC, dI)) (ci := 5) (v := .int v1_w_3) (C := RX5) (T := TX5) (N := 8) hx hb hts in_X8_lastNoticeOf_X5 hown hK hP k_5 hk_5 rfl 0 (by decide) (hts (.fieldLink RX8 280 "MeetingsAbove$Notice" "lesser" "I") (by decide +kernel)) (fun _ h9 => h9) rfl dX8_lastNoticeOf_25 ?_
        refine lv_iload_n hx hb dX8_lastNoticeOf_28 rfl (lv_at hl 2 rfl) ?_
        refine lv_icmp_ne (tgt := 43) hx hb dX8_lastNoticeOf_29 (by decide) (fun c_29 => ?_) (fun c_29 => ?_)
        · have t_29 := mt (fa_eq _ _).mpr c_29
          obtain ⟨y_6, ey_6⟩ : ∃ y : Int32, y = k3 + (-1) := ⟨_, rfl⟩
          have ty_6 : y_6.toInt = k3.toInt - 1 := dec_I ey_6 (by omega)
          refine lv_iinc (v := y_6) (lv' := [(3, .int y_6), (4, .ref w_3), (0, .ref h0), (1, .int p1), (2, .int p2)]) hx hb dX8_lastNoticeOf_43 hl (k := 4) rfl (by rw [ey_6]; rfl) (by decide) rfl (fun ls hl => ?_)
          refine lv_goto (tgt := 7) hx hb dX8_lastNoticeOf_46 (by decide) ?_
          exact ih_7 y_6 (by omega) (by omega) (by omega) ls (lv_sub hl [2, 3, 4, 0] rfl)
        · have t_29 := (fa_eq _ _).mp c_29
          refine lv_aload hx hb dX8_lastNoticeOf_32 (lv_at hl 0 rfl) ?_
          obtain ⟨k_7, hk_7⟩ := pl_ix (X := [(h0, .inr (8, [.ref n0, .ref s0, .ref s1, .ref d0, .ref o0, .int dn, .int nn, .int la, .int ne, .int wi, .ref w0, .ref e0, .ref f0, .ref t0, .ref b0, .int lm])), (o0, .inl (cO, 40, .inr (.inr (.inr (.inr gn)))))]) hL_w_3 hf_w_3
          refine va_get (D := (dC, dI)) (ci := 5) (v := .int v2_w_3) (C := RX5) (T := TX5) (N := 8) hx hb hts in_X8_lastNoticeOf_X5 hown hK hP k_7 hk_7 rfl 1 (by decide) (hts (.fieldLink RX8 283 "MeetingsAbove$Notice" "greater" "I") (by decide +kernel)) (fun _ h9 => h9) rfl dX8_lastNoticeOf_34 ?_
          refine lv_iload_n hx hb dX8_lastNoticeOf_37 rfl (lv_at hl 3 rfl) ?_
          refine lv_icmp_ne (tgt := 43) hx hb dX8_lastNoticeOf_38 (by decide) (fun c_38 => ?_) (fun c_38 => ?_)
          · have t_38 := mt (fa_eq _ _).mpr c_38
            obtain ⟨y_8, ey_8⟩ : ∃ y : Int32, y = k3 + (-1) := ⟨_, rfl⟩
            have ty_8 : y_8.toInt = k3.toInt - 1 := dec_I ey_8 (by omega)
            refine lv_iinc (v := y_8) (lv' := [(3, .int y_8), (4, .ref w_3), (0, .ref h0), (1, .int p1), (2, .int p2)]) hx hb dX8_lastNoticeOf_43 hl (k := 4) rfl (by rw [ey_8]; rfl) (by decide) rfl (fun ls hl => ?_)
            refine lv_goto (tgt := 7) hx hb dX8_lastNoticeOf_46 (by decide) ?_
            exact ih_7 y_8 (by omega) (by omega) (by omega) ls (lv_sub hl [2, 3, 4, 0] rfl)
          · have t_38 := (fa_eq _ _).mp c_38
            refine lv_iload_n hx hb dX8_lastNoticeOf_41 rfl (lv_at hl 4 rfl) ?_
            exact W.iret (v := k3) hx hb hr (fun t ht _ => ⟨_, rfl, (by omega), ht⟩) (fun _ h => absurd h List.not_mem_nil) dX8_lastNoticeOf_42
def wk_X1_countDifferences : List Cond := .code yX1_countDifferences cX1_countDifferences 6 (some .int) :: (([.fieldLink RX1 17 "MeetingsAbove$Catalogue" "size" "I"] : List Cond) ++ (wsX10 ++ ((wsV RX1 22 RX1 yX1_find wk_X1_find) ++ ((wsV RX1 41 RX6 yX6_isSame wk_X6_isSame) ++ ([])))))
theorem in_X1_countDifferences_X1 : ∀ w ∈ wsX10, w ∈ wk_X1_countDifferences := fun _ h => List.mem_cons_of_mem _ (List.mem_append_right _ (List.mem_append_left _ h))
theorem gw_X1_countDifferences : AG wk_X1_countDifferences := AG_ca (AG_l (by decide +kernel)) (AG_app ag_X1 (AG_app (AG_V gw_X1_find) (AG_app (AG_V gw_X6_isSame) (AG_nil))))
theorem g_X1_countDifferences__X1_find_22 : GoodIn wk_X1_countDifferences (wsV RX1 22 RX1 yX1_find wk_X1_find) := goodIn_m (fun _ h => List.mem_cons_of_mem _ (List.mem_append_right _ (List.mem_append_right _ (List.mem_append_left _ h)))) (AG_V gw_X1_find)
theorem g_X1_countDifferences__X6_isSame_41 : GoodIn wk_X1_countDifferences (wsV RX1 41 RX6 yX6_isSame wk_X6_isSame) := goodIn_m (fun _ h => List.mem_cons_of_mem _ (List.mem_append_right _ (List.mem_append_right _ (List.mem_append_right _ (List.mem_append_left _ h))))) (AG_V gw_X6_isSame)
set_option maxHeartbeats 4000000 in
set_option maxRecDepth 100000 in
theorem c_X1_countDifferences (l : Launch) (dC : Nat → ClassId) (dI : Nat → Nat → Nat) (h0 : Nat) (na : Nat) (cT : ClassId) (sz9 : Int32) (ga : Nat → Option Nat) (cI : ClassId) (L : List Nat) (f : Nat → va_E) (h1 : Nat) (na1 : Nat) (sz1 : Int32) (ga1 : Nat → Option Nat) (hC : catOK L f cI sz9 ga) (hC1 : catOK L f cI sz1 ga1) : Met l yX1_countDifferences wk_X1_countDifferences ({ frames := 1, cells := 0, slots := 0, locals := 22 }) (va_Pc [.ref h0, .ref h1] (fun U => va_P (dC, dI) vwCl (([(h0, .inr (1, [.ref na, .int sz9])), (na, .inl (cT, 16, .inr (.inr (.inr (.inr ga))))), (h1, .inr (1, [.ref na1, .int sz1])), (na1, .inl (cT, 16, .inr (.inr (.inr (.inr ga1)))))] : va_W) ++ va_pl L f) U.heap ∧ va_K (dC, dI) vwCl [(cT, .object "MeetingsAbove$Thing"), (cI, .int)] U)) (vp_Si (fun r => True)) 0 0 (fun _ => False) := by
  refine Met.ofW (cc := cX1_countDifferences) (maxL := 6) (ret := (some .int)) (by decide) rfl ?_
  intro p e s m args below meth c s₁ B hml hv
  obtain ⟨rfl, hP, hK⟩ := hv
  have hx := B.exec
  have hb := B.bytes
  have hr := B.returns
  have hts := atoms_spec (ws := wk_X1_countDifferences) B.pre
  have hown : s.vm.findClass RX1 = some m.cls := findClass_of_methodNamed B.named
  have hlocks := B.notSynchronized
  have hP : va_P (dC, dI) vwCl (([(h0, .inr (1, [.ref na, .int sz9])), (na, .inl (cT, 16, .inr (.inr (.inr (.inr ga))))), (h1, .inr (1, [.ref na1, .int sz1])), (na1, .inl (cT, 16, .inr (.inr (.inr (.inr ga1)))))] : va_W) ++ va_pl L f) s.heap := hP
  have hl := lv_entry ([.ref h0, .ref h1]) (n := 6) (Nat.le_of_ble_eq_true rfl)
  rw [lg_entry_eq]
  generalize (lg_sl ([.ref h0, .ref h1]) ++ List.replicate (6 - (lg_sl ([.ref h0, .ref h1])).length) Slot.unset).toArray = ls at hl ⊢
  have hl : lv_has ls 6 [(0, .ref h0), (1, .ref h1)] := hl
  have kl_0 : (0 : Int32).toInt = 0 := by decide
  have kl_1 : (1 : Int32).toInt = 1 := by decide
  obtain ⟨hB0, hB1, hB2⟩ := id hC
  obtain ⟨hE0, hE1, hE2⟩ := id hC1
  refine lv_iconst (v := 0) hx hb dX1_countDifferences_0 (by decide) ?_
  refine lv_istore_n (lv' := [(2, .int 0), (0, .ref h0), (1, .ref h1)]) hx hb dX1_countDifferences_1 rfl hl (by decide) rfl (fun ls hl => ?_)
  refine lv_iconst (v := 0) hx hb dX1_countDifferences_2 (by decide) ?_
  refine lv_istore_n (lv' := [(3, .int 0), (2, .int 0), (0, .ref h0), (1, .ref h1)]) hx hb dX1_countDifferences_3 rfl hl (by decide) rfl (fun ls hl => ?_)
  refine (show ∀ (k : Nat) (n2 : Int32) (t3 : Int32) (hk0 : 0 ≤ t3.toInt) (hk1 : t3.toInt ≤ 16) (hk_4 : (16 - t3.toInt).toNat < k) (ls : Array Slot) (hl : lv_has ls 6 [(0, .ref h0), (1, .ref h1), (2, .int n2), (3, .int t3)]), W p l e _ s m _ below meth c s.heap [] 0 0 _ (F0 m 4 ls []) from ?_) _ 0 0 (by omega) (by omega) (Nat.lt_succ_self _) ls (lv_sub hl [2, 3, 1, 0] rfl)
  intro k
  induction k with
  | zero => intro n2 t3 hk0 hk1 hk_4; exact absurd hk_4 (Nat.not_lt_zero _)
  | succ k ih_4 =>
    intro n2 t3 hk0 hk1 hk_4 ls hl
    refine lv_iload_n hx hb dX1_countDifferences_4 rfl (lv_at hl 3 rfl) ?_
    refine lv_aload_n hx hb dX1_countDifferences_5 rfl (lv_at hl 0 rfl) ?_
    refine va_get (D := (dC, dI)) (ci := 1) (v := .int sz9) (C := RX1) (T := TX1) (N := 2) hx hb hts in_X1_countDifferences_X1 hown hK hP 0 rfl rfl 1 (by decide) (hts (.fieldLink RX1 17 "MeetingsAbove$Catalogue" "size" "I") (by decide +kernel)) (fun _ h9 => h9) rfl dX1_countDifferences_6 ?_
    refine lv_icmp_lt (tgt := 20) hx hb dX1_countDifferences_9 (by decide) (fun c_9 => ?_) (fun c_9 => ?_)
    · have t_9 := (fa_lt _ _).mp c_9
      refine lv_aload_n hx hb dX1_countDifferences_20 rfl (lv_at hl 0 rfl) ?_
      refine lv_iload_n hx hb dX1_countDifferences_21 rfl (lv_at hl 3 rfl) ?_
      have hPc := hP.sub (ws' := [(h0, .inr (1, [.ref na, .int sz9])), (na, .inl (cT, 16, .inr (.inr (.inr (.inr ga)))))]) [0, 1] rfl
      have hKc := hK.sub (tys' := [(cT, .object "MeetingsAbove$Thing")]) [0] rfl
      refine va_csq (W.runV (As := [.int t3]) (rest := []) ⟨hx, hb, hml, hown, hts⟩ (c_X1_find l dC dI h0 na cT sz9 ga t3) (cwV 1 hts g_X1_countDifferences__X1_find_22 rfl rfl rfl (by decide +kernel) ⟨Nat.le_of_ble_eq_true rfl, Nat.le_of_ble_eq_true rfl⟩) ⟨fun a U g mk q => by obtain ⟨q0, qP, qK⟩ := q; exact ⟨q0, qP, va_K.moved (u := U) (U := U.calling g mk a) (Vm.Alike.refl U.vm) qK⟩, va_recv hKc hPc (ci := 1) (q0 := 0) rfl rfl, fun U hU hW => ⟨rfl, by rw [hU]; exact hPc, va_K.moved hW.alike hKc⟩⟩ rfl rfl hl.1 rfl (lv_room (Nat.le_of_ble_eq_true rfl)) dX1_countDifferences_22 ⟨Nat.le_of_ble_eq_true rfl, Nat.le_of_ble_eq_true rfl⟩) (fun r_1 hr_1 => ?_)
      try dsimp only at hr_1
      rcases r_1 with _ | w_2
      · refine W.eq (g2 := F0 m 25 ls [.null]) rfl ?_
        refine lv_astoreN (lv' := [(4, .null), (0, .ref h0), (1, .ref h1), (2, .int n2), (3, .int t3)]) hx hb dX1_countDifferences_25 hl (by decide) rfl (fun ls hl => ?_)
        refine lv_aload_n hx hb dX1_countDifferences_27 rfl (lv_at hl 2 rfl) ?_
        refine lv_iload_n hx hb dX1_countDifferences_28 rfl (lv_at hl 4 rfl) ?_
        have hPc := hP.sub (ws' := [(h1, .inr (1, [.ref na1, .int sz1])), (na1, .inl (cT, 16, .inr (.inr (.inr (.inr ga1)))))]) [2, 3] rfl
        have hKc := hK.sub (tys' := [(cT, .object "MeetingsAbove$Thing")]) [0] rfl
        refine va_csq (W.runV (As := [.int t3]) (rest := []) ⟨hx, hb, hml, hown, hts⟩ (c_X1_find l dC dI h1 na1 cT sz1 ga1 t3) (cwV 1 hts g_X1_countDifferences__X1_find_22 rfl rfl rfl (by decide +kernel) ⟨Nat.le_of_ble_eq_true rfl, Nat.le_of_ble_eq_true rfl⟩) ⟨fun a U g mk q => by obtain ⟨q0, qP, qK⟩ := q; exact ⟨q0, qP, va_K.moved (u := U) (U := U.calling g mk a) (Vm.Alike.refl U.vm) qK⟩, va_recv hKc hPc (ci := 1) (q0 := 0) rfl rfl, fun U hU hW => ⟨rfl, by rw [hU]; exact hPc, va_K.moved hW.alike hKc⟩⟩ rfl rfl hl.1 rfl (lv_room (Nat.le_of_ble_eq_true rfl)) dX1_countDifferences_29 ⟨Nat.le_of_ble_eq_true rfl, Nat.le_of_ble_eq_true rfl⟩) (fun r_3 hr_3 => ?_)
        try dsimp only at hr_3
        rcases r_3 with _ | w_4
        · refine W.eq (g2 := F0 m 32 ls [.null]) rfl ?_
          refine lv_astoreN (lv' := [(5, .null), (4, .null), (0, .ref h0), (1, .ref h1), (2, .int n2), (3, .int t3)]) hx hb dX1_countDifferences_32 hl (by decide) rfl (fun ls hl => ?_)
          refine lv_aloadN hx hb dX1_countDifferences_34 (lv_at hl 1 rfl) ?_
          refine lv_ifnullN (tgt := 54) hx hb dX1_countDifferences_36 (by decide) ?_
          obtain ⟨y_5, ey_5⟩ : ∃ y : Int32, y = n2 + 1 := ⟨_, rfl⟩
          refine lv_iinc (v := y_5) (lv' := [(2, .int y_5), (5, .null), (4, .null), (0, .ref h0), (1, .ref h1), (3, .int t3)]) hx hb dX1_countDifferences_54 hl (k := 4) rfl (by rw [ey_5]; rfl) (by decide) rfl (fun ls hl => ?_)
          obtain ⟨y_6, ey_6⟩ : ∃ y : Int32, y = t3 + 1 := ⟨_, rfl⟩
          have ty_6 : y_6.toInt = t3.toInt + 1 := by rw [ey_6]; have := fb_addI (x := t3) (y := 1) (by omega) (by omega); omega
          refine lv_iinc (v := y_6) (lv' := [(3, .int y_6), (2, .int y_5), (5, .null), (4, .null), (0, .ref h0), (1, .ref h1)]) hx hb dX1_countDifferences_57 hl (k := 5) rfl (by rw [ey_6]; rfl) (by decide) rfl (fun ls hl => ?_)
          refine lv_goto (tgt := 4) hx hb dX1_countDifferences_60 (by decide) ?_
          exact ih_4 y_5 y_6 (by omega) (by omega) (by omega) ls (lv_sub hl [4, 5, 1, 0] rfl)
        · refine W.eq (g2 := F0 m 32 ls [.ref w_4]) rfl ?_
          obtain ⟨hi_w_4, hw_w_4⟩ := fd_some hr_3
          obtain ⟨x_w_4, fi_w_4, pl_w_4, db_w_4, go_w_4, g_w_4, hL_w_4, hX_w_4, hf_w_4, hg_w_4, ht_w_4, hgo_w_4⟩ := th_of hC1 (by rw [tc_I (by omega)]; omega) hw_w_4
          obtain ⟨q1_w_4, q2_w_4, q3_w_4, q4_w_4⟩ := id ht_w_4
          refine lv_astore (lv' := [(5, .ref w_4), (4, .null), (0, .ref h0), (1, .ref h1), (2, .int n2), (3, .int t3)]) hx hb dX1_countDifferences_32 hl (by decide) rfl (fun ls hl => ?_)
          refine lv_aloadN hx hb dX1_countDifferences_34 (lv_at hl 1 rfl) ?_
          refine lv_ifnullN (tgt := 54) hx hb dX1_countDifferences_36 (by decide) ?_
          obtain ⟨y_8, ey_8⟩ : ∃ y : Int32, y = n2 + 1 := ⟨_, rfl⟩
          refine lv_iinc (v := y_8) (lv' := [(2, .int y_8), (5, .ref w_4), (4, .null), (0, .ref h0), (1, .ref h1), (3, .int t3)]) hx hb dX1_countDifferences_54 hl (k := 4) rfl (by rw [ey_8]; rfl) (by decide) rfl (fun ls hl => ?_)
          obtain ⟨y_9, ey_9⟩ : ∃ y : Int32, y = t3 + 1 := ⟨_, rfl⟩
          have ty_9 : y_9.toInt = t3.toInt + 1 := by rw [ey_9]; have := fb_addI (x := t3) (y := 1) (by omega) (by omega); omega
          refine lv_iinc (v := y_9) (lv' := [(3, .int y_9), (2, .int y_8), (5, .ref w_4), (4, .null), (0, .ref h0), (1, .ref h1)]) hx hb dX1_countDifferences_57 hl (k := 5) rfl (by rw [ey_9]; rfl) (by decide) rfl (fun ls hl => ?_)
          refine lv_goto (tgt := 4) hx hb dX1_countDifferences_60 (by decide) ?_
          exact ih_4 y_8 y_9 (by omega) (by omega) (by omega) ls (lv_sub hl [4, 5, 1, 0] rfl)
      · refine W.eq (g2 := F0 m 25 ls [.ref w_2]) rfl ?_
        obtain ⟨hi_w_2, hw_w_2⟩ := fd_some hr_1
        obtain ⟨x_w_2, fi_w_2, pl_w_2, db_w_2, go_w_2, g_w_2, hL_w_2, hX_w_2, hf_w_2, hg_w_2, ht_w_2, hgo_w_2⟩ := th_of hC (by rw [tc_I (by omega)]; omega) hw_w_2
        obtain ⟨q1_w_2, q2_w_2, q3_w_2, q4_w_2⟩ := id ht_w_2
        refine lv_astore (lv' := [(4, .ref w_2), (0, .ref h0), (1, .ref h1), (2, .int n2), (3, .int t3)]) hx hb dX1_countDifferences_25 hl (by decide) rfl (fun ls hl => ?_)
        refine lv_aload_n hx hb dX1_countDifferences_27 rfl (lv_at hl 2 rfl) ?_
        refine lv_iload_n hx hb dX1_countDifferences_28 rfl (lv_at hl 4 rfl) ?_
        have hPc := hP.sub (ws' := [(h1, .inr (1, [.ref na1, .int sz1])), (na1, .inl (cT, 16, .inr (.inr (.inr (.inr ga1)))))]) [2, 3] rfl
        have hKc := hK.sub (tys' := [(cT, .object "MeetingsAbove$Thing")]) [0] rfl
        refine va_csq (W.runV (As := [.int t3]) (rest := []) ⟨hx, hb, hml, hown, hts⟩ (c_X1_find l dC dI h1 na1 cT sz1 ga1 t3) (cwV 1 hts g_X1_countDifferences__X1_find_22 rfl rfl rfl (by decide +kernel) ⟨Nat.le_of_ble_eq_true rfl, Nat.le_of_ble_eq_true rfl⟩) ⟨fun a U g mk q => by obtain ⟨q0, qP, qK⟩ := q; exact ⟨q0, qP, va_K.moved (u := U) (U := U.calling g mk a) (Vm.Alike.refl U.vm) qK⟩, va_recv hKc hPc (ci := 1) (q0 := 0) rfl rfl, fun U hU hW => ⟨rfl, by rw [hU]; exact hPc, va_K.moved hW.alike hKc⟩⟩ rfl rfl hl.1 rfl (lv_room (Nat.le_of_ble_eq_true rfl)) dX1_countDifferences_29 ⟨Nat.le_of_ble_eq_true rfl, Nat.le_of_ble_eq_true rfl⟩) (fun r_11 hr_11 => ?_)
        try dsimp only at hr_11
        rcases r_11 with _ | w_12
        · refine W.eq (g2 := F0 m 32 ls [.null]) rfl ?_
          refine lv_astoreN (lv' := [(5, .null), (4, .ref w_2), (0, .ref h0), (1, .ref h1), (2, .int n2), (3, .int t3)]) hx hb dX1_countDifferences_32 hl (by decide) rfl (fun ls hl => ?_)
          refine lv_aload hx hb dX1_countDifferences_34 (lv_at hl 1 rfl) ?_
          refine lv_ifnull hx hb dX1_countDifferences_36 ?_
          refine lv_aloadN hx hb dX1_countDifferences_39 (lv_at hl 0 rfl) ?_
          refine lv_ifnullN (tgt := 54) hx hb dX1_countDifferences_41 (by decide) ?_
          obtain ⟨y_13, ey_13⟩ : ∃ y : Int32, y = n2 + 1 := ⟨_, rfl⟩
          refine lv_iinc (v := y_13) (lv' := [(2, .int y_13), (5, .null), (4, .ref w_2), (0, .ref h0), (1, .ref h1), (3, .int t3)]) hx hb dX1_countDifferences_54 hl (k := 4) rfl (by rw [ey_13]; rfl) (by decide) rfl (fun ls hl => ?_)
          obtain ⟨y_14, ey_14⟩ : ∃ y : Int32, y = t3 + 1 := ⟨_, rfl⟩
          have ty_14 : y_14.toInt = t3.toInt + 1 := by rw [ey_14]; have := fb_addI (x := t3) (y := 1) (by omega) (by omega); omega
          refine lv_iinc (v := y_14) (lv' := [(3, .int y_14), (2, .int y_13), (5, .null), (4, .ref w_2), (0, .ref h0), (1, .ref h1)]) hx hb dX1_countDifferences_57 hl (k := 5) rfl (by rw [ey_14]; rfl) (by decide) rfl (fun ls hl => ?_)
          refine lv_goto (tgt := 4) hx hb dX1_countDifferences_60 (by decide) ?_
          exact ih_4 y_13 y_14 (by omega) (by omega) (by omega) ls (lv_sub hl [4, 5, 1, 0] rfl)
        · refine W.eq (g2 := F0 m 32 ls [.ref w_12]) rfl ?_
          obtain ⟨hi_w_12, hw_w_12⟩ := fd_some hr_11
          obtain ⟨x_w_12, fi_w_12, pl_w_12, db_w_12, go_w_12, g_w_12, hL_w_12, hX_w_12, hf_w_12, hg_w_12, ht_w_12, hgo_w_12⟩ := th_of hC1 (by rw [tc_I (by omega)]; omega) hw_w_12
          obtain ⟨q1_w_12, q2_w_12, q3_w_12, q4_w_12⟩ := id ht_w_12
          refine lv_astore (lv' := [(5, .ref w_12), (4, .ref w_2), (0, .ref h0), (1, .ref h1), (2, .int n2), (3, .int t3)]) hx hb dX1_countDifferences_32 hl (by decide) rfl (fun ls hl => ?_)
          refine lv_aload hx hb dX1_countDifferences_34 (lv_at hl 1 rfl) ?_
          refine lv_ifnull hx hb dX1_countDifferences_36 ?_
          refine lv_aload hx hb dX1_countDifferences_39 (lv_at hl 0 rfl) ?_
          refine lv_ifnull hx hb dX1_countDifferences_41 ?_
          refine lv_aload hx hb dX1_countDifferences_44 (lv_at hl 1 rfl) ?_
          refine lv_aload hx hb dX1_countDifferences_46 (lv_at hl 0 rfl) ?_
          have hPc : va_P (dC, dI) vwCl [(w_2, .inr (6, [.ref x_w_2, .int fi_w_2, .int pl_w_2, .int db_w_2, .int go_w_2])), (x_w_2, .inl (cI, 36, .inl g_w_2)), (w_12, .inr (6, [.ref x_w_12, .int fi_w_12, .int pl_w_12, .int db_w_12, .int go_w_12])), (x_w_12, .inl (cI, 36, .inl g_w_12))] s.heap := P_cons (pl_at (X := [(h0, .inr (1, [.ref na, .int sz9])), (na, .inl (cT, 16, .inr (.inr (.inr (.inr ga))))), (h1, .inr (1, [.ref na1, .int sz1])), (na1, .inl (cT, 16, .inr (.inr (.inr (.inr ga1)))))]) hP hL_w_2 hf_w_2) (P_cons (pl_at (X := [(h0, .inr (1, [.ref na, .int sz9])), (na, .inl (cT, 16, .inr (.inr (.inr (.inr ga))))), (h1, .inr (1, [.ref na1, .int sz1])), (na1, .inl (cT, 16, .inr (.inr (.inr (.inr ga1)))))]) hP hX_w_2 hg_w_2) (P_cons (pl_at (X := [(h0, .inr (1, [.ref na, .int sz9])), (na, .inl (cT, 16, .inr (.inr (.inr (.inr ga))))), (h1, .inr (1, [.ref na1, .int sz1])), (na1, .inl (cT, 16, .inr (.inr (.inr (.inr ga1)))))]) hP hL_w_12 hf_w_12) (P_cons (pl_at (X := [(h0, .inr (1, [.ref na, .int sz9])), (na, .inl (cT, 16, .inr (.inr (.inr (.inr ga))))), (h1, .inr (1, [.ref na1, .int sz1])), (na1, .inl (cT, 16, .inr (.inr (.inr (.inr ga1)))))]) hP hX_w_12 hg_w_12) (P_nil))))
          have hKc := hK.sub (tys' := [(cI, .int)]) [1] rfl
          refine vp_callSi (W.runV (As := [.ref w_12]) (rest := []) ⟨hx, hb, hml, hown, hts⟩ (c_X6_isSame l dC dI w_2 x_w_2 fi_w_2 pl_w_2 db_w_2 go_w_2 g_w_2 w_12 x_w_12 fi_w_12 pl_w_12 db_w_12 go_w_12 g_w_12 cI (by first | assumption | omega)) (cwV 1 hts g_X1_countDifferences__X6_isSame_41 rfl rfl rfl (by decide +kernel) ⟨Nat.le_of_ble_eq_true rfl, Nat.le_of_ble_eq_true rfl⟩) ⟨fun a U g mk q => by obtain ⟨q0, qP, qK⟩ := q; exact ⟨q0, qP, va_K.moved (u := U) (U := U.calling g mk a) (Vm.Alike.refl U.vm) qK⟩, va_recv hKc hPc (ci := 6) (q0 := 0) rfl rfl, fun U hU hW => ⟨rfl, by rw [hU]; exact hPc, va_K.moved hW.alike hKc⟩⟩ rfl rfl hl.1 rfl (lv_room (Nat.le_of_ble_eq_true rfl)) dX1_countDifferences_48 ⟨Nat.le_of_ble_eq_true rfl, Nat.le_of_ble_eq_true rfl⟩) (fun r_16 hr_16 => ?_)
          try dsimp only at hr_16
          refine lv_if_ne (tgt := 57) hx hb dX1_countDifferences_51 (by decide) (fun c_51 => ?_) (fun c_51 => ?_)
          · have t_51 := mt (fa_eq _ _).mpr c_51
            obtain ⟨y_17, ey_17⟩ : ∃ y : Int32, y = t3 + 1 := ⟨_, rfl⟩
            have ty_17 : y_17.toInt = t3.toInt + 1 := by rw [ey_17]; have := fb_addI (x := t3) (y := 1) (by omega) (by omega); omega
            refine lv_iinc (v := y_17) (lv' := [(3, .int y_17), (5, .ref w_12), (4, .ref w_2), (0, .ref h0), (1, .ref h1), (2, .int n2)]) hx hb dX1_countDifferences_57 hl (k := 5) rfl (by rw [ey_17]; rfl) (by decide) rfl (fun ls hl => ?_)
            refine lv_goto (tgt := 4) hx hb dX1_countDifferences_60 (by decide) ?_
            exact ih_4 n2 y_17 (by omega) (by omega) (by omega) ls (lv_sub hl [3, 4, 5, 0] rfl)
          · have t_51 := (fa_eq _ _).mp c_51
            obtain ⟨y_18, ey_18⟩ : ∃ y : Int32, y = n2 + 1 := ⟨_, rfl⟩
            refine lv_iinc (v := y_18) (lv' := [(2, .int y_18), (5, .ref w_12), (4, .ref w_2), (0, .ref h0), (1, .ref h1), (3, .int t3)]) hx hb dX1_countDifferences_54 hl (k := 4) rfl (by rw [ey_18]; rfl) (by decide) rfl (fun ls hl => ?_)
            obtain ⟨y_19, ey_19⟩ : ∃ y : Int32, y = t3 + 1 := ⟨_, rfl⟩
            have ty_19 : y_19.toInt = t3.toInt + 1 := by rw [ey_19]; have := fb_addI (x := t3) (y := 1) (by omega) (by omega); omega
            refine lv_iinc (v := y_19) (lv' := [(3, .int y_19), (2, .int y_18), (5, .ref w_12), (4, .ref w_2), (0, .ref h0), (1, .ref h1)]) hx hb dX1_countDifferences_57 hl (k := 5) rfl (by rw [ey_19]; rfl) (by decide) rfl (fun ls hl => ?_)
            refine lv_goto (tgt := 4) hx hb dX1_countDifferences_60 (by decide) ?_
            exact ih_4 y_18 y_19 (by omega) (by omega) (by omega) ls (lv_sub hl [4, 5, 1, 0] rfl)
    · have t_9 := mt (fa_lt _ _).mpr c_9
      refine lv_iload_n hx hb dX1_countDifferences_12 rfl (lv_at hl 3 rfl) ?_
      refine lv_aload_n hx hb dX1_countDifferences_13 rfl (lv_at hl 1 rfl) ?_
      refine va_get (D := (dC, dI)) (ci := 1) (v := .int sz1) (C := RX1) (T := TX1) (N := 2) hx hb hts in_X1_countDifferences_X1 hown hK hP 2 rfl rfl 1 (by decide) (hts (.fieldLink RX1 17 "MeetingsAbove$Catalogue" "size" "I") (by decide +kernel)) (fun _ h9 => h9) rfl dX1_countDifferences_14 ?_
      refine lv_icmp_ge (tgt := 63) hx hb dX1_countDifferences_17 (by decide) (fun c_17 => ?_) (fun c_17 => ?_)
      · have t_17 := (fa_le _ _).mp c_17
        refine lv_iload_n hx hb dX1_countDifferences_63 rfl (lv_at hl 2 rfl) ?_
        exact W.iret (v := n2) hx hb hr (fun t ht _ => ⟨_, rfl, trivial, ht⟩) (fun _ h => absurd h List.not_mem_nil) dX1_countDifferences_64
      · have t_17 := mt (fa_le _ _).mpr c_17
        refine lv_aload_n hx hb dX1_countDifferences_20 rfl (lv_at hl 0 rfl) ?_
        refine lv_iload_n hx hb dX1_countDifferences_21 rfl (lv_at hl 3 rfl) ?_
        have hPc := hP.sub (ws' := [(h0, .inr (1, [.ref na, .int sz9])), (na, .inl (cT, 16, .inr (.inr (.inr (.inr ga)))))]) [0, 1] rfl
        have hKc := hK.sub (tys' := [(cT, .object "MeetingsAbove$Thing")]) [0] rfl
        refine va_csq (W.runV (As := [.int t3]) (rest := []) ⟨hx, hb, hml, hown, hts⟩ (c_X1_find l dC dI h0 na cT sz9 ga t3) (cwV 1 hts g_X1_countDifferences__X1_find_22 rfl rfl rfl (by decide +kernel) ⟨Nat.le_of_ble_eq_true rfl, Nat.le_of_ble_eq_true rfl⟩) ⟨fun a U g mk q => by obtain ⟨q0, qP, qK⟩ := q; exact ⟨q0, qP, va_K.moved (u := U) (U := U.calling g mk a) (Vm.Alike.refl U.vm) qK⟩, va_recv hKc hPc (ci := 1) (q0 := 0) rfl rfl, fun U hU hW => ⟨rfl, by rw [hU]; exact hPc, va_K.moved hW.alike hKc⟩⟩ rfl rfl hl.1 rfl (lv_room (Nat.le_of_ble_eq_true rfl)) dX1_countDifferences_22 ⟨Nat.le_of_ble_eq_true rfl, Nat.le_of_ble_eq_true rfl⟩) (fun r_20 hr_20 => ?_)
        try dsimp only at hr_20
        rcases r_20 with _ | w_21
        · refine W.eq (g2 := F0 m 25 ls [.null]) rfl ?_
          refine lv_astoreN (lv' := [(4, .null), (0, .ref h0), (1, .ref h1), (2, .int n2), (3, .int t3)]) hx hb dX1_countDifferences_25 hl (by decide) rfl (fun ls hl => ?_)
          refine lv_aload_n hx hb dX1_countDifferences_27 rfl (lv_at hl 2 rfl) ?_
          refine lv_iload_n hx hb dX1_countDifferences_28 rfl (lv_at hl 4 rfl) ?_
          have hPc := hP.sub (ws' := [(h1, .inr (1, [.ref na1, .int sz1])), (na1, .inl (cT, 16, .inr (.inr (.inr (.inr ga1)))))]) [2, 3] rfl
          have hKc := hK.sub (tys' := [(cT, .object "MeetingsAbove$Thing")]) [0] rfl
          refine va_csq (W.runV (As := [.int t3]) (rest := []) ⟨hx, hb, hml, hown, hts⟩ (c_X1_find l dC dI h1 na1 cT sz1 ga1 t3) (cwV 1 hts g_X1_countDifferences__X1_find_22 rfl rfl rfl (by decide +kernel) ⟨Nat.le_of_ble_eq_true rfl, Nat.le_of_ble_eq_true rfl⟩) ⟨fun a U g mk q => by obtain ⟨q0, qP, qK⟩ := q; exact ⟨q0, qP, va_K.moved (u := U) (U := U.calling g mk a) (Vm.Alike.refl U.vm) qK⟩, va_recv hKc hPc (ci := 1) (q0 := 0) rfl rfl, fun U hU hW => ⟨rfl, by rw [hU]; exact hPc, va_K.moved hW.alike hKc⟩⟩ rfl rfl hl.1 rfl (lv_room (Nat.le_of_ble_eq_true rfl)) dX1_countDifferences_29 ⟨Nat.le_of_ble_eq_true rfl, Nat.le_of_ble_eq_true rfl⟩) (fun r_22 hr_22 => ?_)
          try dsimp only at hr_22
          rcases r_22 with _ | w_23
          · refine W.eq (g2 := F0 m 32 ls [.null]) rfl ?_
            refine lv_astoreN (lv' := [(5, .null), (4, .null), (0, .ref h0), (1, .ref h1), (2, .int n2), (3, .int t3)]) hx hb dX1_countDifferences_32 hl (by decide) rfl (fun ls hl => ?_)
            refine lv_aloadN hx hb dX1_countDifferences_34 (lv_at hl 1 rfl) ?_
            refine lv_ifnullN (tgt := 54) hx hb dX1_countDifferences_36 (by decide) ?_
            obtain ⟨y_24, ey_24⟩ : ∃ y : Int32, y = n2 + 1 := ⟨_, rfl⟩
            refine lv_iinc (v := y_24) (lv' := [(2, .int y_24), (5, .null), (4, .null), (0, .ref h0), (1, .ref h1), (3, .int t3)]) hx hb dX1_countDifferences_54 hl (k := 4) rfl (by rw [ey_24]; rfl) (by decide) rfl (fun ls hl => ?_)
            obtain ⟨y_25, ey_25⟩ : ∃ y : Int32, y = t3 + 1 := ⟨_, rfl⟩
            have ty_25 : y_25.toInt = t3.toInt + 1 := by rw [ey_25]; have := fb_addI (x := t3) (y := 1) (by omega) (by omega); omega
            refine lv_iinc (v := y_25) (lv' := [(3, .int y_25), (2, .int y_24), (5, .null), (4, .null), (0, .ref h0), (1, .ref h1)]) hx hb dX1_countDifferences_57 hl (k := 5) rfl (by rw [ey_25]; rfl) (by decide) rfl (fun ls hl => ?_)
            refine lv_goto (tgt := 4) hx hb dX1_countDifferences_60 (by decide) ?_
            exact ih_4 y_24 y_25 (by omega) (by omega) (by omega) ls (lv_sub hl [4, 5, 1, 0] rfl)
          · refine W.eq (g2 := F0 m 32 ls [.ref w_23]) rfl ?_
            obtain ⟨hi_w_23, hw_w_23⟩ := fd_some hr_22
            obtain ⟨x_w_23, fi_w_23, pl_w_23, db_w_23, go_w_23, g_w_23, hL_w_23, hX_w_23, hf_w_23, hg_w_23, ht_w_23, hgo_w_23⟩ := th_of hC1 (by rw [tc_I (by omega)]; omega) hw_w_23
            obtain ⟨q1_w_23, q2_w_23, q3_w_23, q4_w_23⟩ := id ht_w_23
            refine lv_astore (lv' := [(5, .ref w_23), (4, .null), (0, .ref h0), (1, .ref h1), (2, .int n2), (3, .int t3)]) hx hb dX1_countDifferences_32 hl (by decide) rfl (fun ls hl => ?_)
            refine lv_aloadN hx hb dX1_countDifferences_34 (lv_at hl 1 rfl) ?_
            refine lv_ifnullN (tgt := 54) hx hb dX1_countDifferences_36 (by decide) ?_
            obtain ⟨y_27, ey_27⟩ : ∃ y : Int32, y = n2 + 1 := ⟨_, rfl⟩
            refine lv_iinc (v := y_27) (lv' := [(2, .int y_27), (5, .ref w_23), (4, .null), (0, .ref h0), (1, .ref h1), (3, .int t3)]) hx hb dX1_countDifferences_54 hl (k := 4) rfl (by rw [ey_27]; rfl) (by decide) rfl (fun ls hl => ?_)
            obtain ⟨y_28, ey_28⟩ : ∃ y : Int32, y = t3 + 1 := ⟨_, rfl⟩
            have ty_28 : y_28.toInt = t3.toInt + 1 := by rw [ey_28]; have := fb_addI (x := t3) (y := 1) (by omega) (by omega); omega
            refine lv_iinc (v := y_28) (lv' := [(3, .int y_28), (2, .int y_27), (5, .ref w_23), (4, .null), (0, .ref h0), (1, .ref h1)]) hx hb dX1_countDifferences_57 hl (k := 5) rfl (by rw [ey_28]; rfl) (by decide) rfl (fun ls hl => ?_)
            refine lv_goto (tgt := 4) hx hb dX1_countDifferences_60 (by decide) ?_
            exact ih_4 y_27 y_28 (by omega) (by omega) (by omega) ls (lv_sub hl [4, 5, 1, 0] rfl)
        · refine W.eq (g2 := F0 m 25 ls [.ref w_21]) rfl ?_
          obtain ⟨hi_w_21, hw_w_21⟩ := fd_some hr_20
          obtain ⟨x_w_21, fi_w_21, pl_w_21, db_w_21, go_w_21, g_w_21, hL_w_21, hX_w_21, hf_w_21, hg_w_21, ht_w_21, hgo_w_21⟩ := th_of hC (by rw [tc_I (by omega)]; omega) hw_w_21
          obtain ⟨q1_w_21, q2_w_21, q3_w_21, q4_w_21⟩ := id ht_w_21
          refine lv_astore (lv' := [(4, .ref w_21), (0, .ref h0), (1, .ref h1), (2, .int n2), (3, .int t3)]) hx hb dX1_countDifferences_25 hl (by decide) rfl (fun ls hl => ?_)
          refine lv_aload_n hx hb dX1_countDifferences_27 rfl (lv_at hl 2 rfl) ?_
          refine lv_iload_n hx hb dX1_countDifferences_28 rfl (lv_at hl 4 rfl) ?_
          have hPc := hP.sub (ws' := [(h1, .inr (1, [.ref na1, .int sz1])), (na1, .inl (cT, 16, .inr (.inr (.inr (.inr ga1)))))]) [2, 3] rfl
          have hKc := hK.sub (tys' := [(cT, .object "MeetingsAbove$Thing")]) [0] rfl
          refine va_csq (W.runV (As := [.int t3]) (rest := []) ⟨hx, hb, hml, hown, hts⟩ (c_X1_find l dC dI h1 na1 cT sz1 ga1 t3) (cwV 1 hts g_X1_countDifferences__X1_find_22 rfl rfl rfl (by decide +kernel) ⟨Nat.le_of_ble_eq_true rfl, Nat.le_of_ble_eq_true rfl⟩) ⟨fun a U g mk q => by obtain ⟨q0, qP, qK⟩ := q; exact ⟨q0, qP, va_K.moved (u := U) (U := U.calling g mk a) (Vm.Alike.refl U.vm) qK⟩, va_recv hKc hPc (ci := 1) (q0 := 0) rfl rfl, fun U hU hW => ⟨rfl, by rw [hU]; exact hPc, va_K.moved hW.alike hKc⟩⟩ rfl rfl hl.1 rfl (lv_room (Nat.le_of_ble_eq_true rfl)) dX1_countDifferences_29 ⟨Nat.le_of_ble_eq_true rfl, Nat.le_of_ble_eq_true rfl⟩) (fun r_30 hr_30 => ?_)
          try dsimp only at hr_30
          rcases r_30 with _ | w_31
          · refine W.eq (g2 := F0 m 32 ls [.null]) rfl ?_
            refine lv_astoreN (lv' := [(5, .null), (4, .ref w_21), (0, .ref h0), (1, .ref h1), (2, .int n2), (3, .int t3)]) hx hb dX1_countDifferences_32 hl (by decide) rfl (fun ls hl => ?_)
            refine lv_aload hx hb dX1_countDifferences_34 (lv_at hl 1 rfl) ?_
            refine lv_ifnull hx hb dX1_countDifferences_36 ?_
            refine lv_aloadN hx hb dX1_countDifferences_39 (lv_at hl 0 rfl) ?_
            refine lv_ifnullN (tgt := 54) hx hb dX1_countDifferences_41 (by decide) ?_
            obtain ⟨y_32, ey_32⟩ : ∃ y : Int32, y = n2 + 1 := ⟨_, rfl⟩
            refine lv_iinc (v := y_32) (lv' := [(2, .int y_32), (5, .null), (4, .ref w_21), (0, .ref h0), (1, .ref h1), (3, .int t3)]) hx hb dX1_countDifferences_54 hl (k := 4) rfl (by rw [ey_32]; rfl) (by decide) rfl (fun ls hl => ?_)
            obtain ⟨y_33, ey_33⟩ : ∃ y : Int32, y = t3 + 1 := ⟨_, rfl⟩
            have ty_33 : y_33.toInt = t3.toInt + 1 := by rw [ey_33]; have := fb_addI (x := t3) (y := 1) (by omega) (by omega); omega
            refine lv_iinc (v := y_33) (lv' := [(3, .int y_33), (2, .int y_32), (5, .null), (4, .ref w_21), (0, .ref h0), (1, .ref h1)]) hx hb dX1_countDifferences_57 hl (k := 5) rfl (by rw [ey_33]; rfl) (by decide) rfl (fun ls hl => ?_)
            refine lv_goto (tgt := 4) hx hb dX1_countDifferences_60 (by decide) ?_
            exact ih_4 y_32 y_33 (by omega) (by omega) (by omega) ls (lv_sub hl [4, 5, 1, 0] rfl)
          · refine W.eq (g2 := F0 m 32 ls [.ref w_31]) rfl ?_
            obtain ⟨hi_w_31, hw_w_31⟩ := fd_some hr_30
            obtain ⟨x_w_31, fi_w_31, pl_w_31, db_w_31, go_w_31, g_w_31, hL_w_31, hX_w_31, hf_w_31, hg_w_31, ht_w_31, hgo_w_31⟩ := th_of hC1 (by rw [tc_I (by omega)]; omega) hw_w_31
            obtain ⟨q1_w_31, q2_w_31, q3_w_31, q4_w_31⟩ := id ht_w_31
            refine lv_astore (lv' := [(5, .ref w_31), (4, .ref w_21), (0, .ref h0), (1, .ref h1), (2, .int n2), (3, .int t3)]) hx hb dX1_countDifferences_32 hl (by decide) rfl (fun ls hl => ?_)
            refine lv_aload hx hb dX1_countDifferences_34 (lv_at hl 1 rfl) ?_
            refine lv_ifnull hx hb dX1_countDifferences_36 ?_
            refine lv_aload hx hb dX1_countDifferences_39 (lv_at hl 0 rfl) ?_
            refine lv_ifnull hx hb dX1_countDifferences_41 ?_
            refine lv_aload hx hb dX1_countDifferences_44 (lv_at hl 1 rfl) ?_
            refine lv_aload hx hb dX1_countDifferences_46 (lv_at hl 0 rfl) ?_
            have hPc : va_P (dC, dI) vwCl [(w_21, .inr (6, [.ref x_w_21, .int fi_w_21, .int pl_w_21, .int db_w_21, .int go_w_21])), (x_w_21, .inl (cI, 36, .inl g_w_21)), (w_31, .inr (6, [.ref x_w_31, .int fi_w_31, .int pl_w_31, .int db_w_31, .int go_w_31])), (x_w_31, .inl (cI, 36, .inl g_w_31))] s.heap := P_cons (pl_at (X := [(h0, .inr (1, [.ref na, .int sz9])), (na, .inl (cT, 16, .inr (.inr (.inr (.inr ga))))), (h1, .inr (1, [.ref na1, .int sz1])), (na1, .inl (cT, 16, .inr (.inr (.inr (.inr ga1)))))]) hP hL_w_21 hf_w_21) (P_cons (pl_at (X := [(h0, .inr (1, [.ref na, .int sz9])), (na, .inl (cT, 16, .inr (.inr (.inr (.inr ga))))), (h1, .inr (1, [.ref na1, .int sz1])), (na1, .inl (cT, 16, .inr (.inr (.inr (.inr ga1)))))]) hP hX_w_21 hg_w_21) (P_cons (pl_at (X := [(h0, .inr (1, [.ref na, .int sz9])), (na, .inl (cT, 16, .inr (.inr (.inr (.inr ga))))), (h1, .inr (1, [.ref na1, .int sz1])), (na1, .inl (cT, 16, .inr (.inr (.inr (.inr ga1)))))]) hP hL_w_31 hf_w_31) (P_cons (pl_at (X := [(h0, .inr (1, [.ref na, .int sz9])), (na, .inl (cT, 16, .inr (.inr (.inr (.inr ga))))), (h1, .inr (1, [.ref na1, .int sz1])), (na1, .inl (cT, 16, .inr (.inr (.inr (.inr ga1)))))]) hP hX_w_31 hg_w_31) (P_nil))))
            have hKc := hK.sub (tys' := [(cI, .int)]) [1] rfl
            refine vp_callSi (W.runV (As := [.ref w_31]) (rest := []) ⟨hx, hb, hml, hown, hts⟩ (c_X6_isSame l dC dI w_21 x_w_21 fi_w_21 pl_w_21 db_w_21 go_w_21 g_w_21 w_31 x_w_31 fi_w_31 pl_w_31 db_w_31 go_w_31 g_w_31 cI (by first | assumption | omega)) (cwV 1 hts g_X1_countDifferences__X6_isSame_41 rfl rfl rfl (by decide +kernel) ⟨Nat.le_of_ble_eq_true rfl, Nat.le_of_ble_eq_true rfl⟩) ⟨fun a U g mk q => by obtain ⟨q0, qP, qK⟩ := q; exact ⟨q0, qP, va_K.moved (u := U) (U := U.calling g mk a) (Vm.Alike.refl U.vm) qK⟩, va_recv hKc hPc (ci := 6) (q0 := 0) rfl rfl, fun U hU hW => ⟨rfl, by rw [hU]; exact hPc, va_K.moved hW.alike hKc⟩⟩ rfl rfl hl.1 rfl (lv_room (Nat.le_of_ble_eq_true rfl)) dX1_countDifferences_48 ⟨Nat.le_of_ble_eq_true rfl, Nat.le_of_ble_eq_true rfl⟩) (fun r_35 hr_35 => ?_)
            try dsimp only at hr_35
            refine lv_if_ne (tgt := 57) hx hb dX1_countDifferences_51 (by decide) (fun c_51 => ?_) (fun c_51 => ?_)
            · have t_51 := mt (fa_eq _ _).mpr c_51
              obtain ⟨y_36, ey_36⟩ : ∃ y : Int32, y = t3 + 1 := ⟨_, rfl⟩
              have ty_36 : y_36.toInt = t3.toInt + 1 := by rw [ey_36]; have := fb_addI (x := t3) (y := 1) (by omega) (by omega); omega
              refine lv_iinc (v := y_36) (lv' := [(3, .int y_36), (5, .ref w_31), (4, .ref w_21), (0, .ref h0), (1, .ref h1), (2, .int n2)]) hx hb dX1_countDifferences_57 hl (k := 5) rfl (by rw [ey_36]; rfl) (by decide) rfl (fun ls hl => ?_)
              refine lv_goto (tgt := 4) hx hb dX1_countDifferences_60 (by decide) ?_
              exact ih_4 n2 y_36 (by omega) (by omega) (by omega) ls (lv_sub hl [3, 4, 5, 0] rfl)
            · have t_51 := (fa_eq _ _).mp c_51
              obtain ⟨y_37, ey_37⟩ : ∃ y : Int32, y = n2 + 1 := ⟨_, rfl⟩
              refine lv_iinc (v := y_37) (lv' := [(2, .int y_37), (5, .ref w_31), (4, .ref w_21), (0, .ref h0), (1, .ref h1), (3, .int t3)]) hx hb dX1_countDifferences_54 hl (k := 4) rfl (by rw [ey_37]; rfl) (by decide) rfl (fun ls hl => ?_)
              obtain ⟨y_38, ey_38⟩ : ∃ y : Int32, y = t3 + 1 := ⟨_, rfl⟩
              have ty_38 : y_38.toInt = t3.toInt + 1 := by rw [ey_38]; have := fb_addI (x := t3) (y := 1) (by omega) (by omega); omega
              refine lv_iinc (v := y_38) (lv' := [(3, .int y_38), (2, .int y_37), (5, .ref w_31), (4, .ref w_21), (0, .ref h0), (1, .ref h1)]) hx hb dX1_countDifferences_57 hl (k := 5) rfl (by rw [ey_38]; rfl) (by decide) rfl (fun ls hl => ?_)
              refine lv_goto (tgt := 4) hx hb dX1_countDifferences_60 (by decide) ?_
              exact ih_4 y_37 y_38 (by omega) (by omega) (by omega) ls (lv_sub hl [4, 5, 1, 0] rfl)
