def wk_X1_countThereE : List Cond := .code yX1_countThere cX1_countThere 4 (some .int) :: (([.fieldLink RX1 17 "MeetingsAbove$Catalogue" "size" "I", .fieldLink RX1 37 "MeetingsAbove$Thing" "gone" "Z"] : List Cond) ++ (wsX10 ++ (wsX60 ++ ((wsV RX1 22 RX1 yX1_find wk_X1_find) ++ ([])))))
theorem in_X1_countThereE_X1 : ∀ w ∈ wsX10, w ∈ wk_X1_countThereE := fun _ h => List.mem_cons_of_mem _ (List.mem_append_right _ (List.mem_append_left _ h))
theorem in_X1_countThereE_X6 : ∀ w ∈ wsX60, w ∈ wk_X1_countThereE := fun _ h => List.mem_cons_of_mem _ (List.mem_append_right _ (List.mem_append_right _ (List.mem_append_left _ h)))
theorem gw_X1_countThereE : AG wk_X1_countThereE := AG_ca (AG_l (by decide +kernel)) (AG_app ag_X1 (AG_app ag_X6 (AG_app (AG_V gw_X1_find) (AG_nil))))
theorem g_X1_countThereE__X1_find_22 : GoodIn wk_X1_countThereE (wsV RX1 22 RX1 yX1_find wk_X1_find) := goodIn_m (fun _ h => List.mem_cons_of_mem _ (List.mem_append_right _ (List.mem_append_right _ (List.mem_append_right _ (List.mem_append_left _ h))))) (AG_V gw_X1_find)
set_option maxHeartbeats 4000000 in
set_option maxRecDepth 100000 in
theorem c_X1_countThereE (l : Launch) (dC : Nat → ClassId) (dI : Nat → Nat → Nat) (h0 : Nat) (na : Nat) (cT : ClassId) (sz9 : Int32) (ga : Nat → Option Nat) (cI : ClassId) (L : List Nat) (f : Nat → va_E) (ow : Nat → Nat) (v : Nat → TV) (hV : nowV L f cI ow sz9 ga v) : Met l yX1_countThere wk_X1_countThereE ({ frames := 1, cells := 0, slots := 0, locals := 21 }) (va_Pc [.ref h0] (fun U => va_P (dC, dI) vwCl (([(h0, .inr (1, [.ref na, .int sz9])), (na, .inl (cT, 16, .inr (.inr (.inr (.inr ga)))))] : va_W) ++ va_pl L f) U.heap ∧ va_K (dC, dI) vwCl [(cT, .object "MeetingsAbove$Thing"), (cI, .int)] U)) (vp_Si (fun r => r.toInt = gnN v sz9.toInt.toNat)) 0 0 (fun _ => False) := by
  refine Met.ofW (cc := cX1_countThere) (maxL := 4) (ret := (some .int)) (by decide) rfl ?_
  intro p e s m args below meth c s₁ B hml hv
  obtain ⟨rfl, hP, hK⟩ := hv
  have hx := B.exec
  have hb := B.bytes
  have hr := B.returns
  have hts := atoms_spec (ws := wk_X1_countThereE) B.pre
  have hown : s.vm.findClass RX1 = some m.cls := findClass_of_methodNamed B.named
  have hlocks := B.notSynchronized
  have hP : va_P (dC, dI) vwCl (([(h0, .inr (1, [.ref na, .int sz9])), (na, .inl (cT, 16, .inr (.inr (.inr (.inr ga)))))] : va_W) ++ va_pl L f) s.heap := hP
  have hl := lv_entry ([.ref h0]) (n := 4) (Nat.le_of_ble_eq_true rfl)
  rw [lg_entry_eq]
  generalize (lg_sl ([.ref h0]) ++ List.replicate (4 - (lg_sl ([.ref h0])).length) Slot.unset).toArray = ls at hl ⊢
  have hl : lv_has ls 4 [(0, .ref h0)] := hl
  have kl_0 : (0 : Int32).toInt = 0 := by decide
  have kl_1 : (1 : Int32).toInt = 1 := by decide
  have hC := nowV_cat hV
  obtain ⟨hC0, hC1, hC2⟩ := id hC
  refine lv_iconst (v := 0) hx hb dX1_countThere_0 (by decide) ?_
  refine lv_istore_n (lv' := [(1, .int 0), (0, .ref h0)]) hx hb dX1_countThere_1 rfl hl (by decide) rfl (fun ls hl => ?_)
  refine lv_iconst (v := 0) hx hb dX1_countThere_2 (by decide) ?_
  refine lv_istore_n (lv' := [(2, .int 0), (1, .int 0), (0, .ref h0)]) hx hb dX1_countThere_3 rfl hl (by decide) rfl (fun ls hl => ?_)
  refine (show ∀ (k : Nat) (n1 : Int32) (t2 : Int32) (hk0 : 0 ≤ t2.toInt) (hk1 : t2.toInt ≤ sz9.toInt) (hn : n1.toInt = gnN v t2.toInt.toNat) (hk_4 : (sz9.toInt - t2.toInt).toNat < k) (ls : Array Slot) (hl : lv_has ls 4 [(0, .ref h0), (1, .int n1), (2, .int t2)]), W p l e _ s m _ below meth c s.heap [] 0 0 _ (F0 m 4 ls []) from ?_) _ 0 0 (by omega) (by omega) (by rw [show (0 : Int32).toInt.toNat = 0 by omega]; exact kl_0) (Nat.lt_succ_self _) ls (lv_sub hl [2, 1, 0] rfl)
  intro k
  induction k with
  | zero => intro n1 t2 hk0 hk1 hn hk_4; exact absurd hk_4 (Nat.not_lt_zero _)
  | succ k ih_4 =>
    intro n1 t2 hk0 hk1 hn hk_4 ls hl
    refine lv_iload_n hx hb dX1_countThere_4 rfl (lv_at hl 2 rfl) ?_
    refine lv_aload_n hx hb dX1_countThere_5 rfl (lv_at hl 0 rfl) ?_
    refine va_get (D := (dC, dI)) (ci := 1) (v := .int sz9) (C := RX1) (T := TX1) (N := 2) hx hb hts in_X1_countThereE_X1 hown hK hP 0 rfl rfl 1 (by decide) (hts (.fieldLink RX1 17 "MeetingsAbove$Catalogue" "size" "I") (by decide +kernel)) (fun _ h9 => h9) rfl dX1_countThere_6 ?_
    refine lv_icmp_ge (tgt := 38) hx hb dX1_countThere_9 (by decide) (fun c_9 => ?_) (fun c_9 => ?_)
    · have t_9 := (fa_le _ _).mp c_9
      refine lv_iload_n hx hb dX1_countThere_38 rfl (lv_at hl 1 rfl) ?_
      exact W.iret (v := n1) hx hb hr (fun t ht _ => ⟨_, rfl, (by rw [show sz9.toInt.toNat = t2.toInt.toNat by omega]; exact hn), ht⟩) (fun _ h => absurd h List.not_mem_nil) dX1_countThere_39
    · have t_9 := mt (fa_le _ _).mpr c_9
      refine lv_aload_n hx hb dX1_countThere_12 rfl (lv_at hl 0 rfl) ?_
      refine lv_iload_n hx hb dX1_countThere_13 rfl (lv_at hl 2 rfl) ?_
      have hPc := hP.sub (ws' := [(h0, .inr (1, [.ref na, .int sz9])), (na, .inl (cT, 16, .inr (.inr (.inr (.inr ga)))))]) [0, 1] rfl
      have hKc := hK.sub (tys' := [(cT, .object "MeetingsAbove$Thing")]) [0] rfl
      refine va_csq (W.runV (As := [.int t2]) (rest := []) ⟨hx, hb, hml, hown, hts⟩ (c_X1_find l dC dI h0 na cT sz9 ga t2) (cwV 1 hts g_X1_countThereE__X1_find_22 rfl rfl rfl (by decide +kernel) ⟨Nat.le_of_ble_eq_true rfl, Nat.le_of_ble_eq_true rfl⟩) ⟨fun a U g mk q => by obtain ⟨q0, qP, qK⟩ := q; exact ⟨q0, qP, va_K.moved (u := U) (U := U.calling g mk a) (Vm.Alike.refl U.vm) qK⟩, va_recv hKc hPc (ci := 1) (q0 := 0) rfl rfl, fun U hU hW => ⟨rfl, by rw [hU]; exact hPc, va_K.moved hW.alike hKc⟩⟩ rfl rfl hl.1 rfl (lv_room (Nat.le_of_ble_eq_true rfl)) dX1_countThere_14 ⟨Nat.le_of_ble_eq_true rfl, Nat.le_of_ble_eq_true rfl⟩) (fun r_1 hr_1 => ?_)
      try dsimp only at hr_1
      rcases r_1 with _ | w_2
      · refine W.eq (g2 := F0 m 17 ls [.null]) rfl ?_
        have hno_17 := fd_none hC hr_1
        refine lv_astore_nN (lv' := [(3, .null), (0, .ref h0), (1, .int n1), (2, .int t2)]) hx hb dX1_countThere_17 rfl hl (by decide) rfl (fun ls hl => ?_)
        refine lv_aload_nN hx hb dX1_countThere_18 rfl (lv_at hl 0 rfl) ?_
        refine lv_ifnullN (tgt := 32) hx hb dX1_countThere_19 (by decide) ?_
        have hN9 : (n1).toInt = gnN v (t2.toInt.toNat + 1) := by rw [show gnN v (t2.toInt.toNat + 1) = gnN v t2.toInt.toNat from cnC_0 (P := (fun t => (v t).2.2.2.1.toInt = 0)) (n := t2.toInt.toNat) (fun z9 => by first | (exfalso; omega) | (have z1 : (v t2.toNatClampNeg).2.2.2.1.toInt = 0 := z9; rw [hv_w_2] at z1; have z2 : go_w_2.toInt = 0 := z1; omega))]; exact hn
        obtain ⟨y_3, ey_3⟩ : ∃ y : Int32, y = t2 + 1 := ⟨_, rfl⟩
        have ty_3 : y_3.toInt = t2.toInt + 1 := by rw [ey_3]; have := fb_addI (x := t2) (y := 1) (by omega) (by omega); omega
        refine lv_iinc (v := y_3) (lv' := [(2, .int y_3), (3, .null), (0, .ref h0), (1, .int n1)]) hx hb dX1_countThere_32 hl (k := 3) rfl (by rw [ey_3]; rfl) (by decide) rfl (fun ls hl => ?_)
        refine lv_goto (tgt := 4) hx hb dX1_countThere_35 (by decide) ?_
        exact ih_4 n1 y_3 (by omega) (by omega) (by rw [show (y_3).toInt.toNat = t2.toInt.toNat + 1 by omega]; exact hN9) (by omega) ls (lv_sub hl [2, 3, 0] rfl)
      · refine W.eq (g2 := F0 m 17 ls [.ref w_2]) rfl ?_
        obtain ⟨hi_w_2, hw_w_2⟩ := fd_some hr_1
        obtain ⟨x_w_2, fi_w_2, pl_w_2, db_w_2, go_w_2, g_w_2, hL_w_2, hX_w_2, hf_w_2, hg_w_2, ht_w_2, hgo_w_2, hdb_w_2, hco_w_2, h4_w_2, hv_w_2, oa_w_2, ox_w_2, hne_w_2⟩ := nv_of hV (by rw [tc_I (by omega)]; omega) hw_w_2
        obtain ⟨q1_w_2, q2_w_2, q3_w_2, q4_w_2⟩ := id ht_w_2
        obtain ⟨d1_w_2, d2_w_2⟩ := id hdb_w_2
        obtain ⟨e1_w_2, e2_w_2⟩ := id h4_w_2
        have ni_w_2 : ((t2.toNatClampNeg : Nat) : Int) = t2.toInt := tc_I (by omega)
        have v1_w_2 : ((v t2.toNatClampNeg).1).toInt = fi_w_2.toInt := by rw [hv_w_2]
        have v2_w_2 : ((v t2.toNatClampNeg).2.1).toInt = pl_w_2.toInt := by rw [hv_w_2]
        have v4_w_2 : ((v t2.toNatClampNeg).2.2.2.1).toInt = go_w_2.toInt := by rw [hv_w_2]
        refine lv_astore_n (lv' := [(3, .ref w_2), (0, .ref h0), (1, .int n1), (2, .int t2)]) hx hb dX1_countThere_17 rfl hl (by decide) rfl (fun ls hl => ?_)
        refine lv_aload_n hx hb dX1_countThere_18 rfl (lv_at hl 0 rfl) ?_
        refine lv_ifnull hx hb dX1_countThere_19 ?_
        refine lv_aload_n hx hb dX1_countThere_22 rfl (lv_at hl 0 rfl) ?_
        obtain ⟨k_4, hk_4⟩ := pl_ix (X := [(h0, .inr (1, [.ref na, .int sz9])), (na, .inl (cT, 16, .inr (.inr (.inr (.inr ga)))))]) hL_w_2 hf_w_2
        refine va_get (D := (dC, dI)) (ci := 6) (v := .int go_w_2) (C := RX6) (T := TX6) (N := 5) hx hb hts in_X1_countThereE_X6 hown hK hP k_4 hk_4 rfl 4 (by decide) (hts (.fieldLink RX1 37 "MeetingsAbove$Thing" "gone" "Z") (by decide +kernel)) (fun _ h9 => h9) rfl dX1_countThere_23 ?_
        refine lv_if_ne (tgt := 32) hx hb dX1_countThere_26 (by decide) (fun c_26 => ?_) (fun c_26 => ?_)
        · have t_26 := mt (fa_eq _ _).mpr c_26
          have hN9 : (n1).toInt = gnN v (t2.toInt.toNat + 1) := by rw [show gnN v (t2.toInt.toNat + 1) = gnN v t2.toInt.toNat from cnC_0 (P := (fun t => (v t).2.2.2.1.toInt = 0)) (n := t2.toInt.toNat) (fun z9 => by first | (exfalso; omega) | (have z1 : (v t2.toNatClampNeg).2.2.2.1.toInt = 0 := z9; rw [hv_w_2] at z1; have z2 : go_w_2.toInt = 0 := z1; omega))]; exact hn
          obtain ⟨y_5, ey_5⟩ : ∃ y : Int32, y = t2 + 1 := ⟨_, rfl⟩
          have ty_5 : y_5.toInt = t2.toInt + 1 := by rw [ey_5]; have := fb_addI (x := t2) (y := 1) (by omega) (by omega); omega
          refine lv_iinc (v := y_5) (lv' := [(2, .int y_5), (3, .ref w_2), (0, .ref h0), (1, .int n1)]) hx hb dX1_countThere_32 hl (k := 3) rfl (by rw [ey_5]; rfl) (by decide) rfl (fun ls hl => ?_)
          refine lv_goto (tgt := 4) hx hb dX1_countThere_35 (by decide) ?_
          exact ih_4 n1 y_5 (by omega) (by omega) (by rw [show (y_5).toInt.toNat = t2.toInt.toNat + 1 by omega]; exact hN9) (by omega) ls (lv_sub hl [2, 3, 0] rfl)
        · have t_26 := (fa_eq _ _).mp c_26
          have b9 : gnN v t2.toInt.toNat ≤ t2.toInt.toNat := cnC_le _ _
          obtain ⟨y_6, ey_6⟩ : ∃ y : Int32, y = n1 + 1 := ⟨_, rfl⟩
          have ty_6 : y_6.toInt = n1.toInt + 1 := by rw [ey_6]; have := fb_addI (x := n1) (y := 1) (by omega) (by omega); omega
          refine lv_iinc (v := y_6) (lv' := [(1, .int y_6), (3, .ref w_2), (0, .ref h0), (2, .int t2)]) hx hb dX1_countThere_29 hl (k := 2) rfl (by rw [ey_6]; rfl) (by decide) rfl (fun ls hl => ?_)
          have hN9 : (y_6).toInt = gnN v (t2.toInt.toNat + 1) := by rw [show gnN v (t2.toInt.toNat + 1) = gnN v t2.toInt.toNat + 1 from cnC_1 (P := (fun t => (v t).2.2.2.1.toInt = 0)) (n := t2.toInt.toNat) (by show (v t2.toNatClampNeg).2.2.2.1.toInt = 0; rw [hv_w_2]; show go_w_2.toInt = 0; omega)]; omega
          obtain ⟨y_7, ey_7⟩ : ∃ y : Int32, y = t2 + 1 := ⟨_, rfl⟩
          have ty_7 : y_7.toInt = t2.toInt + 1 := by rw [ey_7]; have := fb_addI (x := t2) (y := 1) (by omega) (by omega); omega
          refine lv_iinc (v := y_7) (lv' := [(2, .int y_7), (1, .int y_6), (3, .ref w_2), (0, .ref h0)]) hx hb dX1_countThere_32 hl (k := 3) rfl (by rw [ey_7]; rfl) (by decide) rfl (fun ls hl => ?_)
          refine lv_goto (tgt := 4) hx hb dX1_countThere_35 (by decide) ?_
          exact ih_4 y_6 y_7 (by omega) (by omega) (by rw [show (y_7).toInt.toNat = t2.toInt.toNat + 1 by omega]; exact hN9) (by omega) ls (lv_sub hl [3, 1, 0] rfl)
def wk_X8_countHoldingE : List Cond := .code yX8_countHolding cX8_countHolding 4 (some .int) :: (([.fieldLink RX8 164 "MeetingsAbove" "noticeCount" "I", .fieldLink RX8 296 "MeetingsAbove$Notice" "holds" "Z"] : List Cond) ++ (wsX80 ++ (wsX50 ++ ((wsV RX8 292 RX8 yX8_findNotice wk_X8_findNotice) ++ ([])))))
theorem in_X8_countHoldingE_X5 : ∀ w ∈ wsX50, w ∈ wk_X8_countHoldingE := fun _ h => List.mem_cons_of_mem _ (List.mem_append_right _ (List.mem_append_right _ (List.mem_append_left _ h)))
theorem in_X8_countHoldingE_X8 : ∀ w ∈ wsX80, w ∈ wk_X8_countHoldingE := fun _ h => List.mem_cons_of_mem _ (List.mem_append_right _ (List.mem_append_left _ h))
theorem gw_X8_countHoldingE : AG wk_X8_countHoldingE := AG_ca (AG_l (by decide +kernel)) (AG_app ag_X8 (AG_app ag_X5 (AG_app (AG_V gw_X8_findNotice) (AG_nil))))
theorem g_X8_countHoldingE__X8_findNotice_292 : GoodIn wk_X8_countHoldingE (wsV RX8 292 RX8 yX8_findNotice wk_X8_findNotice) := goodIn_m (fun _ h => List.mem_cons_of_mem _ (List.mem_append_right _ (List.mem_append_right _ (List.mem_append_right _ (List.mem_append_left _ h))))) (AG_V gw_X8_findNotice)
set_option maxHeartbeats 4000000 in
set_option maxRecDepth 100000 in
theorem c_X8_countHoldingE (l : Launch) (dC : Nat → ClassId) (dI : Nat → Nat → Nat) (h0 : Nat) (n0 : Nat) (s0 : Nat) (s1 : Nat) (d0 : Nat) (o0 : Nat) (w0 : Nat) (e0 : Nat) (f0 : Nat) (t0 : Nat) (b0 : Nat) (dn : Int32) (nn : Int32) (la : Int32) (ne : Int32) (wi : Int32) (lm : Int32) (cO : ClassId) (gn : Nat → Option Nat) (L : List Nat) (f : Nat → va_E) (ow : Nat → Nat) (w : Nat → NV) (hNV : notV L f ow nn gn w) : Met l yX8_countHolding wk_X8_countHoldingE ({ frames := 1, cells := 0, slots := 0, locals := 21 }) (va_Pc [.ref h0] (fun U => va_P (dC, dI) vwCl (([(h0, .inr (8, [.ref n0, .ref s0, .ref s1, .ref d0, .ref o0, .int dn, .int nn, .int la, .int ne, .int wi, .ref w0, .ref e0, .ref f0, .ref t0, .ref b0, .int lm])), (o0, .inl (cO, 40, .inr (.inr (.inr (.inr gn)))))] : va_W) ++ va_pl L f) U.heap ∧ va_K (dC, dI) vwCl [(cO, .object "MeetingsAbove$Notice")] U)) (vp_Si (fun r => r.toInt = hdN w nn.toInt.toNat)) 0 0 (fun _ => False) := by
  refine Met.ofW (cc := cX8_countHolding) (maxL := 4) (ret := (some .int)) (by decide) rfl ?_
  intro p e s m args below meth c s₁ B hml hv
  obtain ⟨rfl, hP, hK⟩ := hv
  have hx := B.exec
  have hb := B.bytes
  have hr := B.returns
  have hts := atoms_spec (ws := wk_X8_countHoldingE) B.pre
  have hown : s.vm.findClass RX8 = some m.cls := findClass_of_methodNamed B.named
  have hlocks := B.notSynchronized
  have hP : va_P (dC, dI) vwCl (([(h0, .inr (8, [.ref n0, .ref s0, .ref s1, .ref d0, .ref o0, .int dn, .int nn, .int la, .int ne, .int wi, .ref w0, .ref e0, .ref f0, .ref t0, .ref b0, .int lm])), (o0, .inl (cO, 40, .inr (.inr (.inr (.inr gn)))))] : va_W) ++ va_pl L f) s.heap := hP
  have hl := lv_entry ([.ref h0]) (n := 4) (Nat.le_of_ble_eq_true rfl)
  rw [lg_entry_eq]
  generalize (lg_sl ([.ref h0]) ++ List.replicate (4 - (lg_sl ([.ref h0])).length) Slot.unset).toArray = ls at hl ⊢
  have hl : lv_has ls 4 [(0, .ref h0)] := hl
  have kl_0 : (0 : Int32).toInt = 0 := by decide
  have kl_1 : (1 : Int32).toInt = 1 := by decide
  obtain ⟨⟨hB0, hB1⟩, hB2⟩ := id hNV
  refine lv_iconst (v := 0) hx hb dX8_countHolding_0 (by decide) ?_
  refine lv_istore_n (lv' := [(1, .int 0), (0, .ref h0)]) hx hb dX8_countHolding_1 rfl hl (by decide) rfl (fun ls hl => ?_)
  refine lv_iconst (v := 0) hx hb dX8_countHolding_2 (by decide) ?_
  refine lv_istore_n (lv' := [(2, .int 0), (1, .int 0), (0, .ref h0)]) hx hb dX8_countHolding_3 rfl hl (by decide) rfl (fun ls hl => ?_)
  refine (show ∀ (k : Nat) (n1 : Int32) (k2 : Int32) (hk0 : 0 ≤ k2.toInt) (hk1 : k2.toInt ≤ nn.toInt) (hn : n1.toInt = hdN w k2.toInt.toNat) (hk_4 : (nn.toInt - k2.toInt).toNat < k) (ls : Array Slot) (hl : lv_has ls 4 [(0, .ref h0), (1, .int n1), (2, .int k2)]), W p l e _ s m _ below meth c s.heap [] 0 0 _ (F0 m 4 ls []) from ?_) _ 0 0 (by omega) (by omega) (by rw [show (0 : Int32).toInt.toNat = 0 by omega]; exact kl_0) (Nat.lt_succ_self _) ls (lv_sub hl [2, 1, 0] rfl)
  intro k
  induction k with
  | zero => intro n1 k2 hk0 hk1 hn hk_4; exact absurd hk_4 (Nat.not_lt_zero _)
  | succ k ih_4 =>
    intro n1 k2 hk0 hk1 hn hk_4 ls hl
    refine lv_iload_n hx hb dX8_countHolding_4 rfl (lv_at hl 2 rfl) ?_
    refine lv_aload_n hx hb dX8_countHolding_5 rfl (lv_at hl 0 rfl) ?_
    refine va_get (D := (dC, dI)) (ci := 8) (v := .int nn) (C := RX8) (T := TX8) (N := 16) hx hb hts in_X8_countHoldingE_X8 hown hK hP 0 rfl rfl 6 (by decide) (hts (.fieldLink RX8 164 "MeetingsAbove" "noticeCount" "I") (by decide +kernel)) (fun _ h9 => h9) rfl dX8_countHolding_6 ?_
    refine lv_icmp_ge (tgt := 38) hx hb dX8_countHolding_9 (by decide) (fun c_9 => ?_) (fun c_9 => ?_)
    · have t_9 := (fa_le _ _).mp c_9
      refine lv_iload_n hx hb dX8_countHolding_38 rfl (lv_at hl 1 rfl) ?_
      exact W.iret (v := n1) hx hb hr (fun t ht _ => ⟨_, rfl, (by rw [show nn.toInt.toNat = k2.toInt.toNat by omega]; exact hn), ht⟩) (fun _ h => absurd h List.not_mem_nil) dX8_countHolding_39
    · have t_9 := mt (fa_le _ _).mpr c_9
      refine lv_aload_n hx hb dX8_countHolding_12 rfl (lv_at hl 0 rfl) ?_
      refine lv_iload_n hx hb dX8_countHolding_13 rfl (lv_at hl 2 rfl) ?_
      have hPc := hP.sub (ws' := [(h0, .inr (8, [.ref n0, .ref s0, .ref s1, .ref d0, .ref o0, .int dn, .int nn, .int la, .int ne, .int wi, .ref w0, .ref e0, .ref f0, .ref t0, .ref b0, .int lm])), (o0, .inl (cO, 40, .inr (.inr (.inr (.inr gn)))))]) [0, 1] rfl
      have hKc := hK.sub (tys' := [(cO, .object "MeetingsAbove$Notice")]) [0] rfl
      refine va_csq (W.runV (As := [.int k2]) (rest := []) ⟨hx, hb, hml, hown, hts⟩ (c_X8_findNotice l dC dI h0 n0 s0 s1 d0 o0 w0 e0 f0 t0 b0 dn nn la ne wi lm cO gn k2) (cwV 1 hts g_X8_countHoldingE__X8_findNotice_292 rfl rfl rfl (by decide +kernel) ⟨Nat.le_of_ble_eq_true rfl, Nat.le_of_ble_eq_true rfl⟩) ⟨fun a U g mk q => by obtain ⟨q0, qP, qK⟩ := q; exact ⟨q0, qP, va_K.moved (u := U) (U := U.calling g mk a) (Vm.Alike.refl U.vm) qK⟩, va_recv hKc hPc (ci := 8) (q0 := 0) rfl rfl, fun U hU hW => ⟨rfl, by rw [hU]; exact hPc, va_K.moved hW.alike hKc⟩⟩ rfl rfl hl.1 rfl (lv_room (Nat.le_of_ble_eq_true rfl)) dX8_countHolding_14 ⟨Nat.le_of_ble_eq_true rfl, Nat.le_of_ble_eq_true rfl⟩) (fun r_1 hr_1 => ?_)
      try dsimp only at hr_1
      rcases r_1 with _ | w_2
      · refine W.eq (g2 := F0 m 17 ls [.null]) rfl ?_
        have hno_17 := nt_none hNV hr_1
        refine lv_astore_nN (lv' := [(3, .null), (0, .ref h0), (1, .int n1), (2, .int k2)]) hx hb dX8_countHolding_17 rfl hl (by decide) rfl (fun ls hl => ?_)
        refine lv_aload_nN hx hb dX8_countHolding_18 rfl (lv_at hl 0 rfl) ?_
        refine lv_ifnullN (tgt := 32) hx hb dX8_countHolding_19 (by decide) ?_
        have hN9 : (n1).toInt = hdN w (k2.toInt.toNat + 1) := by rw [show hdN w (k2.toInt.toNat + 1) = hdN w k2.toInt.toNat from cnC_0 (P := (fun k => (w k).2.2.2.2.2.2.2.toInt = 1)) (n := k2.toInt.toNat) (fun z9 => by first | (exfalso; omega) | (have z1 : (w k2.toNatClampNeg).2.2.2.2.2.2.2.toInt = 1 := z9; rw [hv_w_2] at z1; have z2 : v8_w_2.toInt = 1 := z1; omega))]; exact hn
        obtain ⟨y_3, ey_3⟩ : ∃ y : Int32, y = k2 + 1 := ⟨_, rfl⟩
        have ty_3 : y_3.toInt = k2.toInt + 1 := by rw [ey_3]; have := fb_addI (x := k2) (y := 1) (by omega) (by omega); omega
        refine lv_iinc (v := y_3) (lv' := [(2, .int y_3), (3, .null), (0, .ref h0), (1, .int n1)]) hx hb dX8_countHolding_32 hl (k := 3) rfl (by rw [ey_3]; rfl) (by decide) rfl (fun ls hl => ?_)
        refine lv_goto (tgt := 4) hx hb dX8_countHolding_35 (by decide) ?_
        exact ih_4 n1 y_3 (by omega) (by omega) (by rw [show (y_3).toInt.toNat = k2.toInt.toNat + 1 by omega]; exact hN9) (by omega) ls (lv_sub hl [2, 3, 0] rfl)
      · refine W.eq (g2 := F0 m 17 ls [.ref w_2]) rfl ?_
        obtain ⟨hi_w_2, hw_w_2⟩ := fd_some hr_1
        have ni_w_2 : ((k2.toNatClampNeg : Nat) : Int) = k2.toInt := tc_I (by omega)
        obtain ⟨v1_w_2, v2_w_2, v3_w_2, v4_w_2, v5_w_2, v6_w_2, v7_w_2, v8_w_2, hL_w_2, hf_w_2, hh_w_2, hv_w_2, oa_w_2⟩ := nw_of hNV (by omega) hw_w_2
        refine lv_astore_n (lv' := [(3, .ref w_2), (0, .ref h0), (1, .int n1), (2, .int k2)]) hx hb dX8_countHolding_17 rfl hl (by decide) rfl (fun ls hl => ?_)
        refine lv_aload_n hx hb dX8_countHolding_18 rfl (lv_at hl 0 rfl) ?_
        refine lv_ifnull hx hb dX8_countHolding_19 ?_
        refine lv_aload_n hx hb dX8_countHolding_22 rfl (lv_at hl 0 rfl) ?_
        obtain ⟨k_4, hk_4⟩ := pl_ix (X := [(h0, .inr (8, [.ref n0, .ref s0, .ref s1, .ref d0, .ref o0, .int dn, .int nn, .int la, .int ne, .int wi, .ref w0, .ref e0, .ref f0, .ref t0, .ref b0, .int lm])), (o0, .inl (cO, 40, .inr (.inr (.inr (.inr gn)))))]) hL_w_2 hf_w_2
        refine va_get (D := (dC, dI)) (ci := 5) (v := .int v8_w_2) (C := RX5) (T := TX5) (N := 8) hx hb hts in_X8_countHoldingE_X5 hown hK hP k_4 hk_4 rfl 7 (by decide) (hts (.fieldLink RX8 296 "MeetingsAbove$Notice" "holds" "Z") (by decide +kernel)) (fun _ h9 => h9) rfl dX8_countHolding_23 ?_
        refine lv_if_eq (tgt := 32) hx hb dX8_countHolding_26 (by decide) (fun c_26 => ?_) (fun c_26 => ?_)
        · have t_26 := (fa_eq _ _).mp c_26
          have hN9 : (n1).toInt = hdN w (k2.toInt.toNat + 1) := by rw [show hdN w (k2.toInt.toNat + 1) = hdN w k2.toInt.toNat from cnC_0 (P := (fun k => (w k).2.2.2.2.2.2.2.toInt = 1)) (n := k2.toInt.toNat) (fun z9 => by first | (exfalso; omega) | (have z1 : (w k2.toNatClampNeg).2.2.2.2.2.2.2.toInt = 1 := z9; rw [hv_w_2] at z1; have z2 : v8_w_2.toInt = 1 := z1; omega))]; exact hn
          obtain ⟨y_5, ey_5⟩ : ∃ y : Int32, y = k2 + 1 := ⟨_, rfl⟩
          have ty_5 : y_5.toInt = k2.toInt + 1 := by rw [ey_5]; have := fb_addI (x := k2) (y := 1) (by omega) (by omega); omega
          refine lv_iinc (v := y_5) (lv' := [(2, .int y_5), (3, .ref w_2), (0, .ref h0), (1, .int n1)]) hx hb dX8_countHolding_32 hl (k := 3) rfl (by rw [ey_5]; rfl) (by decide) rfl (fun ls hl => ?_)
          refine lv_goto (tgt := 4) hx hb dX8_countHolding_35 (by decide) ?_
          exact ih_4 n1 y_5 (by omega) (by omega) (by rw [show (y_5).toInt.toNat = k2.toInt.toNat + 1 by omega]; exact hN9) (by omega) ls (lv_sub hl [2, 3, 0] rfl)
        · have t_26 := mt (fa_eq _ _).mpr c_26
          have b9 : hdN w k2.toInt.toNat ≤ k2.toInt.toNat := cnC_le _ _
          obtain ⟨y_6, ey_6⟩ : ∃ y : Int32, y = n1 + 1 := ⟨_, rfl⟩
          have ty_6 : y_6.toInt = n1.toInt + 1 := by rw [ey_6]; have := fb_addI (x := n1) (y := 1) (by omega) (by omega); omega
          refine lv_iinc (v := y_6) (lv' := [(1, .int y_6), (3, .ref w_2), (0, .ref h0), (2, .int k2)]) hx hb dX8_countHolding_29 hl (k := 2) rfl (by rw [ey_6]; rfl) (by decide) rfl (fun ls hl => ?_)
          have hN9 : (y_6).toInt = hdN w (k2.toInt.toNat + 1) := by rw [show hdN w (k2.toInt.toNat + 1) = hdN w k2.toInt.toNat + 1 from cnC_1 (P := (fun k => (w k).2.2.2.2.2.2.2.toInt = 1)) (n := k2.toInt.toNat) (by show (w k2.toNatClampNeg).2.2.2.2.2.2.2.toInt = 1; rw [hv_w_2]; show v8_w_2.toInt = 1; rcases hh_w_2 with h9 | h9 <;> rw [h9] <;> first | rfl | (exfalso; rw [h9] at c_26; exact c_26 rfl))]; omega
          obtain ⟨y_7, ey_7⟩ : ∃ y : Int32, y = k2 + 1 := ⟨_, rfl⟩
          have ty_7 : y_7.toInt = k2.toInt + 1 := by rw [ey_7]; have := fb_addI (x := k2) (y := 1) (by omega) (by omega); omega
          refine lv_iinc (v := y_7) (lv' := [(2, .int y_7), (1, .int y_6), (3, .ref w_2), (0, .ref h0)]) hx hb dX8_countHolding_32 hl (k := 3) rfl (by rw [ey_7]; rfl) (by decide) rfl (fun ls hl => ?_)
          refine lv_goto (tgt := 4) hx hb dX8_countHolding_35 (by decide) ?_
          exact ih_4 y_6 y_7 (by omega) (by omega) (by rw [show (y_7).toInt.toNat = k2.toInt.toNat + 1 by omega]; exact hN9) (by omega) ls (lv_sub hl [3, 1, 0] rfl)
def wk_X8_countDotsOfE : List Cond := .code yX8_countDotsOf cX8_countDotsOf 6 (some .int) :: (([.fieldLink RX8 158 "MeetingsAbove" "dotCount" "I", .fieldLink RX8 12 "MeetingsAbove" "now" "LMeetingsAbove$Catalogue;"] : List Cond) ++ (wsX80 ++ ((wsV RX8 258 RX8 yX8_findDot wk_X8_findDot) ++ ((wsV RX8 262 RX1 yX1_countHolders wk_X1_countHoldersE) ++ ((va_wsS RX8 84 yX8_isWithin wk_X8_isWithin) ++ ([]))))))
theorem in_X8_countDotsOfE_X8 : ∀ w ∈ wsX80, w ∈ wk_X8_countDotsOfE := fun _ h => List.mem_cons_of_mem _ (List.mem_append_right _ (List.mem_append_left _ h))
theorem gw_X8_countDotsOfE : AG wk_X8_countDotsOfE := AG_ca (AG_l (by decide +kernel)) (AG_app ag_X8 (AG_app (AG_V gw_X8_findDot) (AG_app (AG_V gw_X1_countHoldersE) (AG_app (AG_S gw_X8_isWithin) (AG_nil)))))
theorem g_X8_countDotsOfE__X8_findDot_258 : GoodIn wk_X8_countDotsOfE (wsV RX8 258 RX8 yX8_findDot wk_X8_findDot) := goodIn_m (fun _ h => List.mem_cons_of_mem _ (List.mem_append_right _ (List.mem_append_right _ (List.mem_append_left _ h)))) (AG_V gw_X8_findDot)
theorem g_X8_countDotsOfE__X1_countHoldersE_262 : GoodIn wk_X8_countDotsOfE (wsV RX8 262 RX1 yX1_countHolders wk_X1_countHoldersE) := goodIn_m (fun _ h => List.mem_cons_of_mem _ (List.mem_append_right _ (List.mem_append_right _ (List.mem_append_right _ (List.mem_append_left _ h))))) (AG_V gw_X1_countHoldersE)
theorem g_X8_countDotsOfE__X8_isWithin_84 : GoodIn wk_X8_countDotsOfE (va_wsS RX8 84 yX8_isWithin wk_X8_isWithin) := goodIn_m (fun _ h => List.mem_cons_of_mem _ (List.mem_append_right _ (List.mem_append_right _ (List.mem_append_right _ (List.mem_append_right _ (List.mem_append_left _ h)))))) (AG_S gw_X8_isWithin)
set_option maxHeartbeats 4000000 in
set_option maxRecDepth 100000 in
theorem c_X8_countDotsOfE (l : Launch) (dC : Nat → ClassId) (dI : Nat → Nat → Nat) (h0 : Nat) (n0 : Nat) (s0 : Nat) (s1 : Nat) (d0 : Nat) (o0 : Nat) (w0 : Nat) (e0 : Nat) (f0 : Nat) (t0 : Nat) (b0 : Nat) (dn : Int32) (nn : Int32) (la : Int32) (ne : Int32) (wi : Int32) (lm : Int32) (na : Nat) (cT : ClassId) (sz9 : Int32) (ga : Nat → Option Nat) (cI : ClassId) (L : List Nat) (f : Nat → va_E) (ow : Nat → Nat) (v : Nat → TV) (u : Nat → DV) (cD : ClassId) (gd : Nat → Option Nat) (p1 : Int32) (p2 : Int32) (hV : nowV L f cI ow sz9 ga v) (hDV : dotV L f ow dn gd u) (hp0 : 0 ≤ p1.toInt) (hp1 : 0 ≤ p2.toInt) : Met l yX8_countDotsOf wk_X8_countDotsOfE ({ frames := 5, cells := 0, slots := 0, locals := 108 }) (va_Pc [.ref h0, .int p1, .int p2] (fun U => va_P (dC, dI) vwCl (([(h0, .inr (8, [.ref n0, .ref s0, .ref s1, .ref d0, .ref o0, .int dn, .int nn, .int la, .int ne, .int wi, .ref w0, .ref e0, .ref f0, .ref t0, .ref b0, .int lm])), (n0, .inr (1, [.ref na, .int sz9])), (na, .inl (cT, 16, .inr (.inr (.inr (.inr ga))))), (d0, .inl (cD, 40, .inr (.inr (.inr (.inr gd)))))] : va_W) ++ va_pl L f) U.heap ∧ va_K (dC, dI) vwCl [(cT, .object "MeetingsAbove$Thing"), (cI, .int), (cD, .object "MeetingsAbove$Dot")] U)) (vp_Si (fun r => r.toInt = dsN v sz9.toInt.toNat u p1.toInt.toNat p2.toInt.toNat dn.toInt.toNat)) 0 0 (fun _ => False) := by
  refine Met.ofW (cc := cX8_countDotsOf) (maxL := 6) (ret := (some .int)) (by decide) rfl ?_
  intro p e s m args below meth c s₁ B hml hv
  obtain ⟨rfl, hP, hK⟩ := hv
  have hx := B.exec
  have hb := B.bytes
  have hr := B.returns
  have hts := atoms_spec (ws := wk_X8_countDotsOfE) B.pre
  have hown : s.vm.findClass RX8 = some m.cls := findClass_of_methodNamed B.named
  have hlocks := B.notSynchronized
  have hP : va_P (dC, dI) vwCl (([(h0, .inr (8, [.ref n0, .ref s0, .ref s1, .ref d0, .ref o0, .int dn, .int nn, .int la, .int ne, .int wi, .ref w0, .ref e0, .ref f0, .ref t0, .ref b0, .int lm])), (n0, .inr (1, [.ref na, .int sz9])), (na, .inl (cT, 16, .inr (.inr (.inr (.inr ga))))), (d0, .inl (cD, 40, .inr (.inr (.inr (.inr gd)))))] : va_W) ++ va_pl L f) s.heap := hP
  have hl := lv_entry ([.ref h0, .int p1, .int p2]) (n := 6) (Nat.le_of_ble_eq_true rfl)
  rw [lg_entry_eq]
  generalize (lg_sl ([.ref h0, .int p1, .int p2]) ++ List.replicate (6 - (lg_sl ([.ref h0, .int p1, .int p2])).length) Slot.unset).toArray = ls at hl ⊢
  have hl : lv_has ls 6 [(0, .ref h0), (1, .int p1), (2, .int p2)] := hl
  have kl_0 : (0 : Int32).toInt = 0 := by decide
  have kl_1 : (1 : Int32).toInt = 1 := by decide
  have hC := nowV_cat hV
  obtain ⟨hC0, hC1, hC2⟩ := id hC
  obtain ⟨⟨hB0, hB1⟩, hB2⟩ := id hDV
  refine lv_iconst (v := 0) hx hb dX8_countDotsOf_0 (by decide) ?_
  refine lv_istore_n (lv' := [(3, .int 0), (0, .ref h0), (1, .int p1), (2, .int p2)]) hx hb dX8_countDotsOf_1 rfl hl (by decide) rfl (fun ls hl => ?_)
  refine lv_iconst (v := 0) hx hb dX8_countDotsOf_2 (by decide) ?_
  refine lv_istore (lv' := [(4, .int 0), (3, .int 0), (0, .ref h0), (1, .int p1), (2, .int p2)]) hx hb dX8_countDotsOf_3 hl (by decide) rfl (fun ls hl => ?_)
  refine (show ∀ (k : Nat) (n3 : Int32) (d4 : Int32) (hk0 : 0 ≤ d4.toInt) (hk1 : d4.toInt ≤ dn.toInt) (hn : n3.toInt = dsN v sz9.toInt.toNat u p1.toInt.toNat p2.toInt.toNat d4.toInt.toNat) (hk_5 : (dn.toInt - d4.toInt).toNat < k) (ls : Array Slot) (hl : lv_has ls 6 [(0, .ref h0), (1, .int p1), (2, .int p2), (3, .int n3), (4, .int d4)]), W p l e _ s m _ below meth c s.heap [] 0 0 _ (F0 m 5 ls []) from ?_) _ 0 0 (by omega) (by omega) (by rw [show (0 : Int32).toInt.toNat = 0 by omega]; exact kl_0) (Nat.lt_succ_self _) ls (lv_sub hl [2, 3, 4, 1, 0] rfl)
  intro k
  induction k with
  | zero => intro n3 d4 hk0 hk1 hn hk_5; exact absurd hk_5 (Nat.not_lt_zero _)
  | succ k ih_5 =>
    intro n3 d4 hk0 hk1 hn hk_5 ls hl
    refine lv_iload hx hb dX8_countDotsOf_5 (lv_at hl 4 rfl) ?_
    refine lv_aload_n hx hb dX8_countDotsOf_7 rfl (lv_at hl 0 rfl) ?_
    refine va_get (D := (dC, dI)) (ci := 8) (v := .int dn) (C := RX8) (T := TX8) (N := 16) hx hb hts in_X8_countDotsOfE_X8 hown hK hP 0 rfl rfl 5 (by decide) (hts (.fieldLink RX8 158 "MeetingsAbove" "dotCount" "I") (by decide +kernel)) (fun _ h9 => h9) rfl dX8_countDotsOf_8 ?_
    refine lv_icmp_ge (tgt := 53) hx hb dX8_countDotsOf_11 (by decide) (fun c_11 => ?_) (fun c_11 => ?_)
    · have t_11 := (fa_le _ _).mp c_11
      refine lv_iload_n hx hb dX8_countDotsOf_53 rfl (lv_at hl 3 rfl) ?_
      exact W.iret (v := n3) hx hb hr (fun t ht _ => ⟨_, rfl, (by rw [show dn.toInt.toNat = d4.toInt.toNat by omega]; exact hn), ht⟩) (fun _ h => absurd h List.not_mem_nil) dX8_countDotsOf_54
    · have t_11 := mt (fa_le _ _).mpr c_11
      refine lv_aload_n hx hb dX8_countDotsOf_14 rfl (lv_at hl 0 rfl) ?_
      refine lv_iload hx hb dX8_countDotsOf_15 (lv_at hl 4 rfl) ?_
      have hPc := hP.sub (ws' := [(h0, .inr (8, [.ref n0, .ref s0, .ref s1, .ref d0, .ref o0, .int dn, .int nn, .int la, .int ne, .int wi, .ref w0, .ref e0, .ref f0, .ref t0, .ref b0, .int lm])), (d0, .inl (cD, 40, .inr (.inr (.inr (.inr gd)))))]) [0, 3] rfl
      have hKc := hK.sub (tys' := [(cD, .object "MeetingsAbove$Dot")]) [2] rfl
      refine va_csq (W.runV (As := [.int d4]) (rest := []) ⟨hx, hb, hml, hown, hts⟩ (c_X8_findDot l dC dI h0 n0 s0 s1 d0 o0 w0 e0 f0 t0 b0 dn nn la ne wi lm cD gd d4) (cwV 1 hts g_X8_countDotsOfE__X8_findDot_258 rfl rfl rfl (by decide +kernel) ⟨Nat.le_of_ble_eq_true rfl, Nat.le_of_ble_eq_true rfl⟩) ⟨fun a U g mk q => by obtain ⟨q0, qP, qK⟩ := q; exact ⟨q0, qP, va_K.moved (u := U) (U := U.calling g mk a) (Vm.Alike.refl U.vm) qK⟩, va_recv hKc hPc (ci := 8) (q0 := 0) rfl rfl, fun U hU hW => ⟨rfl, by rw [hU]; exact hPc, va_K.moved hW.alike hKc⟩⟩ rfl rfl hl.1 rfl (lv_room (Nat.le_of_ble_eq_true rfl)) dX8_countDotsOf_17 ⟨Nat.le_of_ble_eq_true rfl, Nat.le_of_ble_eq_true rfl⟩) (fun r_1 hr_1 => ?_)
      try dsimp only at hr_1
      rcases r_1 with _ | w_2
      · refine W.eq (g2 := F0 m 20 ls [.null]) rfl ?_
        have hno_20 := fd_noD hDV hr_1
        refine lv_astoreN (lv' := [(5, .null), (0, .ref h0), (1, .int p1), (2, .int p2), (3, .int n3), (4, .int d4)]) hx hb dX8_countDotsOf_20 hl (by decide) rfl (fun ls hl => ?_)
        refine lv_aloadN hx hb dX8_countDotsOf_22 (lv_at hl 0 rfl) ?_
        refine lv_ifnullN (tgt := 47) hx hb dX8_countDotsOf_24 (by decide) ?_
        have hN9 : (n3).toInt = dsN v sz9.toInt.toNat u p1.toInt.toNat p2.toInt.toNat (d4.toInt.toNat + 1) := by rw [show dsN v sz9.toInt.toNat u p1.toInt.toNat p2.toInt.toNat (d4.toInt.toNat + 1) = dsN v sz9.toInt.toNat u p1.toInt.toNat p2.toInt.toNat d4.toInt.toNat from cnC_0 (P := (fun d => p1.toInt.toNat ≤ dtN v sz9.toInt.toNat (u d) ∧ dtN v sz9.toInt.toNat (u d) ≤ p2.toInt.toNat)) (n := d4.toInt.toNat) (fun z9 => by first | (exfalso; omega) | (have e9 : zz_none.toInt = dtN v sz9.toInt.toNat (u d4.toNatClampNeg) := (by rw [hu_w_2]; exact hzz_none); have z1 : p1.toInt.toNat ≤ dtN v sz9.toInt.toNat (u d4.toNatClampNeg) := z9.1; have z2 : dtN v sz9.toInt.toNat (u d4.toNatClampNeg) ≤ p2.toInt.toNat := z9.2; omega))]; exact hn
        obtain ⟨y_3, ey_3⟩ : ∃ y : Int32, y = d4 + 1 := ⟨_, rfl⟩
        have ty_3 : y_3.toInt = d4.toInt + 1 := by rw [ey_3]; have := fb_addI (x := d4) (y := 1) (by omega) (by omega); omega
        refine lv_iinc (v := y_3) (lv' := [(4, .int y_3), (5, .null), (0, .ref h0), (1, .int p1), (2, .int p2), (3, .int n3)]) hx hb dX8_countDotsOf_47 hl (k := 5) rfl (by rw [ey_3]; rfl) (by decide) rfl (fun ls hl => ?_)
        refine lv_goto (tgt := 5) hx hb dX8_countDotsOf_50 (by decide) ?_
        exact ih_5 n3 y_3 (by omega) (by omega) (by rw [show (y_3).toInt.toNat = d4.toInt.toNat + 1 by omega]; exact hN9) (by omega) ls (lv_sub hl [2, 3, 4, 5, 0] rfl)
      · refine W.eq (g2 := F0 m 20 ls [.ref w_2]) rfl ?_
        obtain ⟨hi_w_2, hw_w_2⟩ := fd_some hr_1
        obtain ⟨s_w_2, x_w_2, y_w_2, z_w_2, hL_w_2, hf_w_2, ho_w_2, hu_w_2⟩ := dw_of hDV (by rw [tc_I (by omega)]; omega) hw_w_2
        refine lv_astore (lv' := [(5, .ref w_2), (0, .ref h0), (1, .int p1), (2, .int p2), (3, .int n3), (4, .int d4)]) hx hb dX8_countDotsOf_20 hl (by decide) rfl (fun ls hl => ?_)
        refine lv_aload hx hb dX8_countDotsOf_22 (lv_at hl 0 rfl) ?_
        refine lv_ifnull hx hb dX8_countDotsOf_24 ?_
        refine lv_aload_n hx hb dX8_countDotsOf_27 rfl (lv_at hl 1 rfl) ?_
        refine va_get (D := (dC, dI)) (ci := 8) (v := .ref n0) (C := RX8) (T := TX8) (N := 16) hx hb hts in_X8_countDotsOfE_X8 hown hK hP 0 rfl rfl 0 (by decide) (hts (.fieldLink RX8 12 "MeetingsAbove" "now" "LMeetingsAbove$Catalogue;") (by decide +kernel)) (fun _ h9 => h9) rfl dX8_countDotsOf_28 ?_
        refine lv_aload hx hb dX8_countDotsOf_31 (lv_at hl 0 rfl) ?_
        have hP : va_P (dC, dI) vwCl (([(h0, .inr (8, [.ref n0, .ref s0, .ref s1, .ref d0, .ref o0, .int dn, .int nn, .int la, .int ne, .int wi, .ref w0, .ref e0, .ref f0, .ref t0, .ref b0, .int lm])), (n0, .inr (1, [.ref na, .int sz9])), (na, .inl (cT, 16, .inr (.inr (.inr (.inr ga))))), (d0, .inl (cD, 40, .inr (.inr (.inr (.inr gd))))), (w_2, .inr (2, [.int s_w_2, .int x_w_2, .int y_w_2, .int z_w_2]))] : va_W) ++ va_pl L f) s.heap := P_open (X := [(h0, .inr (8, [.ref n0, .ref s0, .ref s1, .ref d0, .ref o0, .int dn, .int nn, .int la, .int ne, .int wi, .ref w0, .ref e0, .ref f0, .ref t0, .ref b0, .int lm])), (n0, .inr (1, [.ref na, .int sz9])), (na, .inl (cT, 16, .inr (.inr (.inr (.inr ga))))), (d0, .inl (cD, 40, .inr (.inr (.inr (.inr gd)))))]) hP hL_w_2 hf_w_2
        have hPc := hP.part (cx := [(n0, .inr (1, [.ref na, .int sz9])), (na, .inl (cT, 16, .inr (.inr (.inr (.inr ga))))), (w_2, .inr (2, [.int s_w_2, .int x_w_2, .int y_w_2, .int z_w_2]))]) [1, 2, 4] rfl
        have hKc := hK.sub (tys' := [(cT, .object "MeetingsAbove$Thing"), (cI, .int)]) [0, 1] rfl
        refine vp_callSi (W.runV (As := [.ref w_2]) (rest := []) ⟨hx, hb, hml, hown, hts⟩ (c_X1_countHoldersE l dC dI n0 na cT sz9 ga cI L f ow v w_2 s_w_2 x_w_2 y_w_2 z_w_2 (by first | assumption | omega) (by first | assumption | omega)) (cwV 1 hts g_X8_countDotsOfE__X1_countHoldersE_262 rfl rfl rfl (by decide +kernel) ⟨Nat.le_of_ble_eq_true rfl, Nat.le_of_ble_eq_true rfl⟩) ⟨fun a U g mk q => by obtain ⟨q0, qP, qK⟩ := q; exact ⟨q0, qP, va_K.moved (u := U) (U := U.calling g mk a) (Vm.Alike.refl U.vm) qK⟩, va_recv hKc hPc (ci := 1) (q0 := 0) rfl rfl, fun U hU hW => ⟨rfl, by rw [hU]; exact hPc, va_K.moved hW.alike hKc⟩⟩ rfl rfl hl.1 rfl (lv_room (Nat.le_of_ble_eq_true rfl)) dX8_countDotsOf_33 ⟨Nat.le_of_ble_eq_true rfl, Nat.le_of_ble_eq_true rfl⟩) (fun r_4 hr_4 => ?_)
        try dsimp only at hr_4
        refine lv_iload_n hx hb dX8_countDotsOf_36 rfl (lv_at hl 2 rfl) ?_
        refine lv_iload_n hx hb dX8_countDotsOf_37 rfl (lv_at hl 3 rfl) ?_
        refine vp_callSi (W.runS (As := [.int r_4, .int p1, .int p2]) (rest := []) ⟨hx, hb, hml, hown, hts⟩ (c_X8_isWithin l dC dI r_4 p1 p2) (va_cwS 3 hts g_X8_countDotsOfE__X8_isWithin_84 rfl rfl rfl (by decide +kernel) ⟨Nat.le_of_ble_eq_true rfl, Nat.le_of_ble_eq_true rfl⟩) ⟨fun a U g mk q => by obtain ⟨q0, q1⟩ := q; exact ⟨q0, q1⟩, fun U hU hW => ⟨rfl, trivial⟩⟩ rfl rfl hl.1 rfl (lv_room (Nat.le_of_ble_eq_true rfl)) dX8_countDotsOf_38 ⟨Nat.le_of_ble_eq_true rfl, Nat.le_of_ble_eq_true rfl⟩) (fun r_5 hr_5 => ?_)
        try dsimp only at hr_5
        rcases bo_split hr_5 with ⟨rfl, q_38⟩ | ⟨rfl, q_38⟩
        · refine lv_if_eq (tgt := 47) hx hb dX8_countDotsOf_41 (by decide) (fun h9 => absurd h9 (by decide)) (fun _ => ?_)
          have b9 : dsN v sz9.toInt.toNat u p1.toInt.toNat p2.toInt.toNat d4.toInt.toNat ≤ d4.toInt.toNat := cnC_le _ _
          obtain ⟨y_6, ey_6⟩ : ∃ y : Int32, y = n3 + 1 := ⟨_, rfl⟩
          have ty_6 : y_6.toInt = n3.toInt + 1 := by rw [ey_6]; have := fb_addI (x := n3) (y := 1) (by omega) (by omega); omega
          refine lv_iinc (v := y_6) (lv' := [(3, .int y_6), (5, .ref w_2), (0, .ref h0), (1, .int p1), (2, .int p2), (4, .int d4)]) hx hb dX8_countDotsOf_44 hl (k := 4) rfl (by rw [ey_6]; rfl) (by decide) rfl (fun ls hl => ?_)
          have hN9 : (y_6).toInt = dsN v sz9.toInt.toNat u p1.toInt.toNat p2.toInt.toNat (d4.toInt.toNat + 1) := by have e9 : r_4.toInt = dtN v sz9.toInt.toNat (u d4.toNatClampNeg) := (by rw [hu_w_2]; exact hr_4); rw [show dsN v sz9.toInt.toNat u p1.toInt.toNat p2.toInt.toNat (d4.toInt.toNat + 1) = dsN v sz9.toInt.toNat u p1.toInt.toNat p2.toInt.toNat d4.toInt.toNat + 1 from cnC_1 (P := (fun d => p1.toInt.toNat ≤ dtN v sz9.toInt.toNat (u d) ∧ dtN v sz9.toInt.toNat (u d) ≤ p2.toInt.toNat)) (n := d4.toInt.toNat) ⟨(by omega : p1.toInt.toNat ≤ dtN v sz9.toInt.toNat (u d4.toNatClampNeg)), (by omega : dtN v sz9.toInt.toNat (u d4.toNatClampNeg) ≤ p2.toInt.toNat)⟩]; omega
          obtain ⟨y_7, ey_7⟩ : ∃ y : Int32, y = d4 + 1 := ⟨_, rfl⟩
          have ty_7 : y_7.toInt = d4.toInt + 1 := by rw [ey_7]; have := fb_addI (x := d4) (y := 1) (by omega) (by omega); omega
          refine lv_iinc (v := y_7) (lv' := [(4, .int y_7), (3, .int y_6), (5, .ref w_2), (0, .ref h0), (1, .int p1), (2, .int p2)]) hx hb dX8_countDotsOf_47 hl (k := 5) rfl (by rw [ey_7]; rfl) (by decide) rfl (fun ls hl => ?_)
          refine lv_goto (tgt := 5) hx hb dX8_countDotsOf_50 (by decide) ?_
          exact ih_5 y_6 y_7 (by omega) (by omega) (by rw [show (y_7).toInt.toNat = d4.toInt.toNat + 1 by omega]; exact hN9) (by omega) ls (lv_sub hl [3, 4, 5, 1, 0] rfl)
        · refine lv_if_eq (tgt := 47) hx hb dX8_countDotsOf_41 (by decide) (fun _ => ?_) (fun h9 => absurd h9 (by decide))
          have hN9 : (n3).toInt = dsN v sz9.toInt.toNat u p1.toInt.toNat p2.toInt.toNat (d4.toInt.toNat + 1) := by rw [show dsN v sz9.toInt.toNat u p1.toInt.toNat p2.toInt.toNat (d4.toInt.toNat + 1) = dsN v sz9.toInt.toNat u p1.toInt.toNat p2.toInt.toNat d4.toInt.toNat from cnC_0 (P := (fun d => p1.toInt.toNat ≤ dtN v sz9.toInt.toNat (u d) ∧ dtN v sz9.toInt.toNat (u d) ≤ p2.toInt.toNat)) (n := d4.toInt.toNat) (fun z9 => by first | (exfalso; omega) | (have e9 : r_4.toInt = dtN v sz9.toInt.toNat (u d4.toNatClampNeg) := (by rw [hu_w_2]; exact hr_4); have z1 : p1.toInt.toNat ≤ dtN v sz9.toInt.toNat (u d4.toNatClampNeg) := z9.1; have z2 : dtN v sz9.toInt.toNat (u d4.toNatClampNeg) ≤ p2.toInt.toNat := z9.2; omega))]; exact hn
          obtain ⟨y_8, ey_8⟩ : ∃ y : Int32, y = d4 + 1 := ⟨_, rfl⟩
          have ty_8 : y_8.toInt = d4.toInt + 1 := by rw [ey_8]; have := fb_addI (x := d4) (y := 1) (by omega) (by omega); omega
          refine lv_iinc (v := y_8) (lv' := [(4, .int y_8), (5, .ref w_2), (0, .ref h0), (1, .int p1), (2, .int p2), (3, .int n3)]) hx hb dX8_countDotsOf_47 hl (k := 5) rfl (by rw [ey_8]; rfl) (by decide) rfl (fun ls hl => ?_)
          refine lv_goto (tgt := 5) hx hb dX8_countDotsOf_50 (by decide) ?_
          exact ih_5 n3 y_8 (by omega) (by omega) (by rw [show (y_8).toInt.toNat = d4.toInt.toNat + 1 by omega]; exact hN9) (by omega) ls (lv_sub hl [2, 3, 4, 5, 0] rfl)
def wk_X8_countE : List Cond := .code yX8_count cX8_count 2 (some .int) :: (([.constant RX8 87 (-100002), .fieldLink RX8 12 "MeetingsAbove" "now" "LMeetingsAbove$Catalogue;", .fieldLink RX8 88 "MeetingsAbove$Catalogue" "size" "I", .fieldLink RX8 158 "MeetingsAbove" "dotCount" "I", .fieldLink RX8 164 "MeetingsAbove" "noticeCount" "I", .fieldLink RX8 170 "MeetingsAbove" "lateAnswers" "I"] : List Cond) ++ (wsX80 ++ (wsX10 ++ ((wsV RX8 152 RX1 yX1_countThere wk_X1_countThereE) ++ ((wsV RX8 155 RX8 yX8_countMeetings wk_X8_countMeetingsE) ++ ((wsV RX8 161 RX8 yX8_countDotsOf wk_X8_countDotsOfE) ++ ((wsV RX8 167 RX8 yX8_countHolding wk_X8_countHoldingE) ++ ([]))))))))
theorem in_X8_countE_X1 : ∀ w ∈ wsX10, w ∈ wk_X8_countE := fun _ h => List.mem_cons_of_mem _ (List.mem_append_right _ (List.mem_append_right _ (List.mem_append_left _ h)))
theorem in_X8_countE_X8 : ∀ w ∈ wsX80, w ∈ wk_X8_countE := fun _ h => List.mem_cons_of_mem _ (List.mem_append_right _ (List.mem_append_left _ h))
theorem gw_X8_countE : AG wk_X8_countE := AG_ca (AG_l (by decide +kernel)) (AG_app ag_X8 (AG_app ag_X1 (AG_app (AG_V gw_X1_countThereE) (AG_app (AG_V gw_X8_countMeetingsE) (AG_app (AG_V gw_X8_countDotsOfE) (AG_app (AG_V gw_X8_countHoldingE) (AG_nil)))))))
theorem g_X8_countE__X1_countThereE_152 : GoodIn wk_X8_countE (wsV RX8 152 RX1 yX1_countThere wk_X1_countThereE) := goodIn_m (fun _ h => List.mem_cons_of_mem _ (List.mem_append_right _ (List.mem_append_right _ (List.mem_append_right _ (List.mem_append_left _ h))))) (AG_V gw_X1_countThereE)
theorem g_X8_countE__X8_countMeetingsE_155 : GoodIn wk_X8_countE (wsV RX8 155 RX8 yX8_countMeetings wk_X8_countMeetingsE) := goodIn_m (fun _ h => List.mem_cons_of_mem _ (List.mem_append_right _ (List.mem_append_right _ (List.mem_append_right _ (List.mem_append_right _ (List.mem_append_left _ h)))))) (AG_V gw_X8_countMeetingsE)
theorem g_X8_countE__X8_countDotsOfE_161 : GoodIn wk_X8_countE (wsV RX8 161 RX8 yX8_countDotsOf wk_X8_countDotsOfE) := goodIn_m (fun _ h => List.mem_cons_of_mem _ (List.mem_append_right _ (List.mem_append_right _ (List.mem_append_right _ (List.mem_append_right _ (List.mem_append_right _ (List.mem_append_left _ h))))))) (AG_V gw_X8_countDotsOfE)
theorem g_X8_countE__X8_countHoldingE_167 : GoodIn wk_X8_countE (wsV RX8 167 RX8 yX8_countHolding wk_X8_countHoldingE) := goodIn_m (fun _ h => List.mem_cons_of_mem _ (List.mem_append_right _ (List.mem_append_right _ (List.mem_append_right _ (List.mem_append_right _ (List.mem_append_right _ (List.mem_append_right _ (List.mem_append_left _ h)))))))) (AG_V gw_X8_countHoldingE)
set_option maxHeartbeats 4000000 in
set_option maxRecDepth 100000 in
theorem c_X8_countE (l : Launch) (dC : Nat → ClassId) (dI : Nat → Nat → Nat) (h0 : Nat) (n0 : Nat) (s0 : Nat) (s1 : Nat) (d0 : Nat) (o0 : Nat) (w0 : Nat) (e0 : Nat) (f0 : Nat) (t0 : Nat) (b0 : Nat) (dn : Int32) (nn : Int32) (la : Int32) (ne : Int32) (wi : Int32) (lm : Int32) (na : Nat) (cT : ClassId) (sz9 : Int32) (ga : Nat → Option Nat) (cI : ClassId) (L : List Nat) (f : Nat → va_E) (ow : Nat → Nat) (v : Nat → TV) (wu : Int64) (wl : Int64) (wp : Int64) (u : Nat → DV) (cD : ClassId) (gd : Nat → Option Nat) (cO : ClassId) (gn : Nat → Option Nat) (w : Nat → NV) (p1 : Int32) (sz : Nat) (hV : nowV L f cI ow sz9 ga v) (hDV : dotV L f ow dn gd u) (hNV : notV L f ow nn gn w) (hne0 : 0 ≤ ne.toInt) (hne1 : ne.toInt ≤ 3000) : Met l yX8_count wk_X8_countE ({ frames := 6, cells := 0, slots := 0, locals := 134 }) (va_Pc [.ref h0, .int p1] (fun U => U.heap.size = sz ∧ va_P (dC, dI) vwCl (([(h0, .inr (8, [.ref n0, .ref s0, .ref s1, .ref d0, .ref o0, .int dn, .int nn, .int la, .int ne, .int wi, .ref w0, .ref e0, .ref f0, .ref t0, .ref b0, .int lm])), (n0, .inr (1, [.ref na, .int sz9])), (na, .inl (cT, 16, .inr (.inr (.inr (.inr ga))))), (w0, .inr (7, [.long wu, .long wl, .long wp])), (d0, .inl (cD, 40, .inr (.inr (.inr (.inr gd))))), (o0, .inl (cO, 40, .inr (.inr (.inr (.inr gn)))))] : va_W) ++ va_pl L f) U.heap ∧ va_K (dC, dI) vwCl [(cT, .object "MeetingsAbove$Thing"), (cI, .int), (cD, .object "MeetingsAbove$Dot"), (cO, .object "MeetingsAbove$Notice")] U ∧ va_D (fun _ => True) (([(h0, .inr (8, [.ref n0, .ref s0, .ref s1, .ref d0, .ref o0, .int dn, .int nn, .int la, .int ne, .int wi, .ref w0, .ref e0, .ref f0, .ref t0, .ref b0, .int lm])), (n0, .inr (1, [.ref na, .int sz9])), (na, .inl (cT, 16, .inr (.inr (.inr (.inr ga))))), (w0, .inr (7, [.long wu, .long wl, .long wp])), (d0, .inl (cD, 40, .inr (.inr (.inr (.inr gd))))), (o0, .inl (cO, 40, .inr (.inr (.inr (.inr gn)))))] : va_W) ++ va_pl L f))) (va_Qi (fun (r : Int32) (_ : Unit) => coP sz9 dn nn la v u w ne.toInt p1.toInt r.toInt) (fun (_ : Unit) (t : State) => ∃ (wu9 : Int64) (wl9 : Int64) (wp9 : Int64), va_P (dC, dI) vwCl (([(h0, .inr (8, [.ref n0, .ref s0, .ref s1, .ref d0, .ref o0, .int dn, .int nn, .int la, .int ne, .int wi, .ref w0, .ref e0, .ref f0, .ref t0, .ref b0, .int lm])), (n0, .inr (1, [.ref na, .int sz9])), (na, .inl (cT, 16, .inr (.inr (.inr (.inr ga))))), (w0, .inr (7, [.long wu9, .long wl9, .long wp9])), (d0, .inl (cD, 40, .inr (.inr (.inr (.inr gd))))), (o0, .inl (cO, 40, .inr (.inr (.inr (.inr gn)))))] : va_W) ++ va_pl L f) t.heap ∧ va_K (dC, dI) vwCl [(cT, .object "MeetingsAbove$Thing"), (cI, .int), (cD, .object "MeetingsAbove$Dot"), (cO, .object "MeetingsAbove$Notice")] t ∧ va_D (va_A (([(h0, .inr (8, [.ref n0, .ref s0, .ref s1, .ref d0, .ref o0, .int dn, .int nn, .int la, .int ne, .int wi, .ref w0, .ref e0, .ref f0, .ref t0, .ref b0, .int lm])), (n0, .inr (1, [.ref na, .int sz9])), (na, .inl (cT, 16, .inr (.inr (.inr (.inr ga))))), (w0, .inr (7, [.long wu, .long wl, .long wp])), (d0, .inl (cD, 40, .inr (.inr (.inr (.inr gd))))), (o0, .inl (cO, 40, .inr (.inr (.inr (.inr gn)))))] : va_W) ++ va_pl L f) sz) (([(h0, .inr (8, [.ref n0, .ref s0, .ref s1, .ref d0, .ref o0, .int dn, .int nn, .int la, .int ne, .int wi, .ref w0, .ref e0, .ref f0, .ref t0, .ref b0, .int lm])), (n0, .inr (1, [.ref na, .int sz9])), (na, .inl (cT, 16, .inr (.inr (.inr (.inr ga))))), (w0, .inr (7, [.long wu9, .long wl9, .long wp9])), (d0, .inl (cD, 40, .inr (.inr (.inr (.inr gd))))), (o0, .inl (cO, 40, .inr (.inr (.inr (.inr gn)))))] : va_W) ++ va_pl L f)) (va_A (([(h0, .inr (8, [.ref n0, .ref s0, .ref s1, .ref d0, .ref o0, .int dn, .int nn, .int la, .int ne, .int wi, .ref w0, .ref e0, .ref f0, .ref t0, .ref b0, .int lm])), (n0, .inr (1, [.ref na, .int sz9])), (na, .inl (cT, 16, .inr (.inr (.inr (.inr ga))))), (w0, .inr (7, [.long wu, .long wl, .long wp])), (d0, .inl (cD, 40, .inr (.inr (.inr (.inr gd))))), (o0, .inl (cO, 40, .inr (.inr (.inr (.inr gn)))))] : va_W) ++ va_pl L f) sz)) 0 0 (va_A (([(h0, .inr (8, [.ref n0, .ref s0, .ref s1, .ref d0, .ref o0, .int dn, .int nn, .int la, .int ne, .int wi, .ref w0, .ref e0, .ref f0, .ref t0, .ref b0, .int lm])), (n0, .inr (1, [.ref na, .int sz9])), (na, .inl (cT, 16, .inr (.inr (.inr (.inr ga))))), (w0, .inr (7, [.long wu, .long wl, .long wp])), (d0, .inl (cD, 40, .inr (.inr (.inr (.inr gd))))), (o0, .inl (cO, 40, .inr (.inr (.inr (.inr gn)))))] : va_W) ++ va_pl L f) sz) := by
  refine Met.ofW (cc := cX8_count) (maxL := 2) (ret := (some .int)) (by decide) rfl ?_
  intro p e s m args below meth c s₁ B hml hv
  obtain ⟨rfl, hsz, hP, hK, hD0⟩ := hv
  have hx := B.exec
  have hb := B.bytes
  have hr := B.returns
  have hts := atoms_spec (ws := wk_X8_countE) B.pre
  have hown : s.vm.findClass RX8 = some m.cls := findClass_of_methodNamed B.named
  have hlocks := B.notSynchronized
  subst hsz
  have hD := hD0.self (sz := s.heap.size)
  generalize hAe : va_A (([(h0, .inr (8, [.ref n0, .ref s0, .ref s1, .ref d0, .ref o0, .int dn, .int nn, .int la, .int ne, .int wi, .ref w0, .ref e0, .ref f0, .ref t0, .ref b0, .int lm])), (n0, .inr (1, [.ref na, .int sz9])), (na, .inl (cT, 16, .inr (.inr (.inr (.inr ga))))), (w0, .inr (7, [.long wu, .long wl, .long wp])), (d0, .inl (cD, 40, .inr (.inr (.inr (.inr gd))))), (o0, .inl (cO, 40, .inr (.inr (.inr (.inr gn)))))] : va_W) ++ va_pl L f) s.heap.size = A at hD ⊢
  have hA : ∀ q : Nat, s.heap.size ≤ q → A q := fun q h => by rw [← hAe]; exact Or.inr h
  have hS : va_S A s.heap s.heap [] := va_S.rf
  have hP : va_P (dC, dI) vwCl (([(h0, .inr (8, [.ref n0, .ref s0, .ref s1, .ref d0, .ref o0, .int dn, .int nn, .int la, .int ne, .int wi, .ref w0, .ref e0, .ref f0, .ref t0, .ref b0, .int lm])), (n0, .inr (1, [.ref na, .int sz9])), (na, .inl (cT, 16, .inr (.inr (.inr (.inr ga))))), (w0, .inr (7, [.long wu, .long wl, .long wp])), (d0, .inl (cD, 40, .inr (.inr (.inr (.inr gd))))), (o0, .inl (cO, 40, .inr (.inr (.inr (.inr gn)))))] : va_W) ++ va_pl L f) s.heap := hP
  have hl := lv_entry ([.ref h0, .int p1]) (n := 2) (Nat.le_of_ble_eq_true rfl)
  rw [lg_entry_eq]
  generalize (lg_sl ([.ref h0, .int p1]) ++ List.replicate (2 - (lg_sl ([.ref h0, .int p1])).length) Slot.unset).toArray = ls at hl ⊢
  have hl : lv_has ls 2 [(0, .ref h0), (1, .int p1)] := hl
  have kl_m100002 : (-100002 : Int32).toInt = -100002 := by decide
  have kl_0 : (0 : Int32).toInt = 0 := by decide
  have kl_1 : (1 : Int32).toInt = 1 := by decide
  have kl_2 : (2 : Int32).toInt = 2 := by decide
  have kl_16 : (16 : Int32).toInt = 16 := by decide
  have hC := nowV_cat hV
  obtain ⟨hC0, hC1, hC2⟩ := id hC
  obtain ⟨⟨hB0, hB1⟩, hB2⟩ := id hNV
  refine lv_iload_n hx hb dX8_count_0 rfl (lv_at hl 1 rfl) ?_
  rcases sw_10 p1 with o_1 | rfl | rfl | rfl | rfl | rfl | rfl | rfl | rfl | rfl | rfl
  · refine lv_tableOut (tgt := 119) hx hb dX8_count_1 o_1 (by decide) ?_
    refine lv_ldc hx hb hown (hts (.constant RX8 87 (-100002)) (by decide +kernel)) dX8_count_119 ?_
    have hP9 := hP.part (cx := [(h0, .inr (8, [.ref n0, .ref s0, .ref s1, .ref d0, .ref o0, .int dn, .int nn, .int la, .int ne, .int wi, .ref w0, .ref e0, .ref f0, .ref t0, .ref b0, .int lm])), (n0, .inr (1, [.ref na, .int sz9])), (na, .inl (cT, 16, .inr (.inr (.inr (.inr ga))))), (w0, .inr (7, [.long wu, .long wl, .long wp])), (d0, .inl (cD, 40, .inr (.inr (.inr (.inr gd))))), (o0, .inl (cO, 40, .inr (.inr (.inr (.inr gn)))))]) [0, 1, 2, 3, 4, 5] rfl
    have hD9 := hD.part (cx := [(h0, .inr (8, [.ref n0, .ref s0, .ref s1, .ref d0, .ref o0, .int dn, .int nn, .int la, .int ne, .int wi, .ref w0, .ref e0, .ref f0, .ref t0, .ref b0, .int lm])), (n0, .inr (1, [.ref na, .int sz9])), (na, .inl (cT, 16, .inr (.inr (.inr (.inr ga))))), (w0, .inr (7, [.long wu, .long wl, .long wp])), (d0, .inl (cD, 40, .inr (.inr (.inr (.inr gd))))), (o0, .inl (cO, 40, .inr (.inr (.inr (.inr gn)))))]) [0, 1, 2, 3, 4, 5] (by decide) rfl
    have hK9 := hK.sub (tys' := [(cT, .object "MeetingsAbove$Thing"), (cI, .int), (cD, .object "MeetingsAbove$Dot"), (cO, .object "MeetingsAbove$Notice")]) [0, 1, 2, 3] rfl
    refine W.widen (k := 0) (n := 0) (by omega) (by omega) ?_
    exact W.iret (v := (-100002)) hx hb hr (fun t ht hW => ⟨⟨_, (), rfl, (Or.inl ⟨by omega, by decide⟩), wu, wl, wp, by rw [ht]; exact hP9, va_K.moved hW.alike hK9, hD9⟩, hS.F ht⟩) hS.2.2 dX8_count_121
  · refine lv_tableIn (tgt := 56) (off := 55) hx hb dX8_count_1 (by decide) (by decide) (by decide) (by decide) ?_
    refine lv_aload_n hx hb dX8_count_56 rfl (lv_at hl 0 rfl) ?_
    refine va_get (D := (dC, dI)) (ci := 8) (v := .ref n0) (C := RX8) (T := TX8) (N := 16) hx hb hts in_X8_countE_X8 hown hK hP 0 rfl rfl 0 (by decide) (hts (.fieldLink RX8 12 "MeetingsAbove" "now" "LMeetingsAbove$Catalogue;") (by decide +kernel)) (fun _ h9 => h9) rfl dX8_count_57 ?_
    refine va_get (D := (dC, dI)) (ci := 1) (v := .int sz9) (C := RX1) (T := TX1) (N := 2) hx hb hts in_X8_countE_X1 hown hK hP 1 rfl rfl 1 (by decide) (hts (.fieldLink RX8 88 "MeetingsAbove$Catalogue" "size" "I") (by decide +kernel)) (fun _ h9 => h9) rfl dX8_count_60 ?_
    have hP9 := hP.part (cx := [(h0, .inr (8, [.ref n0, .ref s0, .ref s1, .ref d0, .ref o0, .int dn, .int nn, .int la, .int ne, .int wi, .ref w0, .ref e0, .ref f0, .ref t0, .ref b0, .int lm])), (n0, .inr (1, [.ref na, .int sz9])), (na, .inl (cT, 16, .inr (.inr (.inr (.inr ga))))), (w0, .inr (7, [.long wu, .long wl, .long wp])), (d0, .inl (cD, 40, .inr (.inr (.inr (.inr gd))))), (o0, .inl (cO, 40, .inr (.inr (.inr (.inr gn)))))]) [0, 1, 2, 3, 4, 5] rfl
    have hD9 := hD.part (cx := [(h0, .inr (8, [.ref n0, .ref s0, .ref s1, .ref d0, .ref o0, .int dn, .int nn, .int la, .int ne, .int wi, .ref w0, .ref e0, .ref f0, .ref t0, .ref b0, .int lm])), (n0, .inr (1, [.ref na, .int sz9])), (na, .inl (cT, 16, .inr (.inr (.inr (.inr ga))))), (w0, .inr (7, [.long wu, .long wl, .long wp])), (d0, .inl (cD, 40, .inr (.inr (.inr (.inr gd))))), (o0, .inl (cO, 40, .inr (.inr (.inr (.inr gn)))))]) [0, 1, 2, 3, 4, 5] (by decide) rfl
    have hK9 := hK.sub (tys' := [(cT, .object "MeetingsAbove$Thing"), (cI, .int), (cD, .object "MeetingsAbove$Dot"), (cO, .object "MeetingsAbove$Notice")]) [0, 1, 2, 3] rfl
    refine W.widen (k := 0) (n := 0) (by omega) (by omega) ?_
    exact W.iret (v := sz9) hx hb hr (fun t ht hW => ⟨⟨_, (), rfl, (Or.inr (Or.inl ⟨by decide, rfl⟩)), wu, wl, wp, by rw [ht]; exact hP9, va_K.moved hW.alike hK9, hD9⟩, hS.F ht⟩) hS.2.2 dX8_count_63
  · refine lv_tableIn (tgt := 64) (off := 63) hx hb dX8_count_1 (by decide) (by decide) (by decide) (by decide) ?_
    refine lv_aload_n hx hb dX8_count_64 rfl (lv_at hl 0 rfl) ?_
    refine va_get (D := (dC, dI)) (ci := 8) (v := .ref n0) (C := RX8) (T := TX8) (N := 16) hx hb hts in_X8_countE_X8 hown hK hP 0 rfl rfl 0 (by decide) (hts (.fieldLink RX8 12 "MeetingsAbove" "now" "LMeetingsAbove$Catalogue;") (by decide +kernel)) (fun _ h9 => h9) rfl dX8_count_65 ?_
    have hPc := hP.part (cx := [(n0, .inr (1, [.ref na, .int sz9])), (na, .inl (cT, 16, .inr (.inr (.inr (.inr ga)))))]) [1, 2] rfl
    have hKc := hK.sub (tys' := [(cT, .object "MeetingsAbove$Thing"), (cI, .int)]) [0, 1] rfl
    refine vp_callSi (W.runV (As := []) (rest := []) ⟨hx, hb, hml, hown, hts⟩ (c_X1_countThereE l dC dI n0 na cT sz9 ga cI L f ow v (by first | assumption | omega)) (cwV 0 hts g_X8_countE__X1_countThereE_152 rfl rfl rfl (by decide +kernel) ⟨Nat.le_of_ble_eq_true rfl, Nat.le_of_ble_eq_true rfl⟩) ⟨fun a U g mk q => by obtain ⟨q0, qP, qK⟩ := q; exact ⟨q0, qP, va_K.moved (u := U) (U := U.calling g mk a) (Vm.Alike.refl U.vm) qK⟩, va_recv hKc hPc (ci := 1) (q0 := 0) rfl rfl, fun U hU hW => ⟨rfl, by rw [hU]; exact hPc, va_K.moved hW.alike hKc⟩⟩ rfl rfl hl.1 rfl (lv_room (Nat.le_of_ble_eq_true rfl)) dX8_count_68 ⟨Nat.le_of_ble_eq_true rfl, Nat.le_of_ble_eq_true rfl⟩) (fun r_1 hr_1 => ?_)
    try dsimp only at hr_1
    have hP9 := hP.part (cx := [(h0, .inr (8, [.ref n0, .ref s0, .ref s1, .ref d0, .ref o0, .int dn, .int nn, .int la, .int ne, .int wi, .ref w0, .ref e0, .ref f0, .ref t0, .ref b0, .int lm])), (n0, .inr (1, [.ref na, .int sz9])), (na, .inl (cT, 16, .inr (.inr (.inr (.inr ga))))), (w0, .inr (7, [.long wu, .long wl, .long wp])), (d0, .inl (cD, 40, .inr (.inr (.inr (.inr gd))))), (o0, .inl (cO, 40, .inr (.inr (.inr (.inr gn)))))]) [0, 1, 2, 3, 4, 5] rfl
    have hD9 := hD.part (cx := [(h0, .inr (8, [.ref n0, .ref s0, .ref s1, .ref d0, .ref o0, .int dn, .int nn, .int la, .int ne, .int wi, .ref w0, .ref e0, .ref f0, .ref t0, .ref b0, .int lm])), (n0, .inr (1, [.ref na, .int sz9])), (na, .inl (cT, 16, .inr (.inr (.inr (.inr ga))))), (w0, .inr (7, [.long wu, .long wl, .long wp])), (d0, .inl (cD, 40, .inr (.inr (.inr (.inr gd))))), (o0, .inl (cO, 40, .inr (.inr (.inr (.inr gn)))))]) [0, 1, 2, 3, 4, 5] (by decide) rfl
    have hK9 := hK.sub (tys' := [(cT, .object "MeetingsAbove$Thing"), (cI, .int), (cD, .object "MeetingsAbove$Dot"), (cO, .object "MeetingsAbove$Notice")]) [0, 1, 2, 3] rfl
    refine W.widen (k := 0) (n := 0) (by omega) (by omega) ?_
    exact W.iret (v := r_1) hx hb hr (fun t ht hW => ⟨⟨_, (), rfl, (Or.inr (Or.inr (Or.inl ⟨by decide, hr_1⟩))), wu, wl, wp, by rw [ht]; exact hP9, va_K.moved hW.alike hK9, hD9⟩, hS.F ht⟩) hS.2.2 dX8_count_71
  · refine lv_tableIn (tgt := 72) (off := 71) hx hb dX8_count_1 (by decide) (by decide) (by decide) (by decide) ?_
    refine lv_aload_n hx hb dX8_count_72 rfl (lv_at hl 0 rfl) ?_
    have hPc := hP.part (cx := [(h0, .inr (8, [.ref n0, .ref s0, .ref s1, .ref d0, .ref o0, .int dn, .int nn, .int la, .int ne, .int wi, .ref w0, .ref e0, .ref f0, .ref t0, .ref b0, .int lm])), (n0, .inr (1, [.ref na, .int sz9])), (na, .inl (cT, 16, .inr (.inr (.inr (.inr ga))))), (w0, .inr (7, [.long wu, .long wl, .long wp]))]) [0, 1, 2, 3] rfl
    have hKc := hK.sub (tys' := [(cT, .object "MeetingsAbove$Thing"), (cI, .int)]) [0, 1] rfl
    have hDc := hD.part (cx := [(h0, .inr (8, [.ref n0, .ref s0, .ref s1, .ref d0, .ref o0, .int dn, .int nn, .int la, .int ne, .int wi, .ref w0, .ref e0, .ref f0, .ref t0, .ref b0, .int lm])), (n0, .inr (1, [.ref na, .int sz9])), (na, .inl (cT, 16, .inr (.inr (.inr (.inr ga))))), (w0, .inr (7, [.long wu, .long wl, .long wp]))]) [0, 1, 2, 3] (by decide) rfl
    have hFc := va_freeP (cx := [(h0, .inr (8, [.ref n0, .ref s0, .ref s1, .ref d0, .ref o0, .int dn, .int nn, .int la, .int ne, .int wi, .ref w0, .ref e0, .ref f0, .ref t0, .ref b0, .int lm])), (n0, .inr (1, [.ref na, .int sz9])), (na, .inl (cT, 16, .inr (.inr (.inr (.inr ga))))), (w0, .inr (7, [.long wu, .long wl, .long wp]))]) hD hS hA [0, 1, 2, 3] rfl
    refine va_calli (va_runV (As := []) (rest := []) ⟨hx, hb, hml, hown, hts⟩ (c_X8_countMeetingsE l dC dI h0 n0 s0 s1 d0 o0 w0 e0 f0 t0 b0 dn nn la ne wi lm na cT sz9 ga cI L f ow v wu wl wp s.heap.size (by first | assumption | omega) (by first | omega | assumption) (by first | omega | assumption)) (cwV 0 hts g_X8_countE__X8_countMeetingsE_155 rfl rfl rfl (by decide +kernel) ⟨Nat.le_of_ble_eq_true rfl, Nat.le_of_ble_eq_true rfl⟩) ⟨fun a U g mk q => by obtain ⟨q0, q1, qP, qK, qD⟩ := q; exact ⟨q0, q1, qP, va_K.moved (u := U) (U := U.calling g mk a) (Vm.Alike.refl U.vm) qK, qD⟩, va_recv hKc hPc (ci := 8) (q0 := 0) rfl rfl, fun U hU hW => ⟨rfl, by rw [hU], by rw [hU]; exact hPc, va_K.moved hW.alike hKc, hDc.weaken (fun _ _ _ _ => trivial)⟩⟩ rfl rfl hl.1 rfl (lv_room (Nat.le_of_ble_eq_true rfl)) dX8_count_73 ⟨Nat.le_of_ble_eq_true rfl, Nat.le_of_ble_eq_true rfl⟩) hS (fun q _ h => hFc q h) hFc (fun r_3 u_2 t H1 locs ht hvm hw_3 hB hz1 hk1 hS => ?_)
    obtain ⟨wu9_4, wl9_5, wp9_6, hP1, hK1, hD1⟩ := hB
    rw [ht] at hP1
    have hK1 := va_K.moved hvm.symm hK1
    obtain ⟨hP, hD⟩ := va_joinP (wr := [(d0, .inl (cD, 40, .inr (.inr (.inr (.inr gd))))), (o0, .inl (cO, 40, .inr (.inr (.inr (.inr gn)))))]) (rx := [(h0, .inr (8, [.ref n0, .ref s0, .ref s1, .ref d0, .ref o0, .int dn, .int nn, .int la, .int ne, .int wi, .ref w0, .ref e0, .ref f0, .ref t0, .ref b0, .int lm])), (n0, .inr (1, [.ref na, .int sz9])), (na, .inl (cT, 16, .inr (.inr (.inr (.inr ga))))), (w0, .inr (7, [.long wu9_4, .long wl9_5, .long wp9_6]))]) hP hD [0, 1, 2, 3] [4, 5] rfl rfl (by decide) (by decide) hk1 hFc hP1 hD1
    have hK := (hK.sub (tys' := [(cT, .object "MeetingsAbove$Thing"), (cI, .int), (cD, .object "MeetingsAbove$Dot"), (cO, .object "MeetingsAbove$Notice")]) [0, 1, 2, 3] rfl).app hK1
    generalize H1 = H at hP hS ⊢
    have hP : va_P (dC, dI) vwCl (([(d0, .inl (cD, 40, .inr (.inr (.inr (.inr gd))))), (o0, .inl (cO, 40, .inr (.inr (.inr (.inr gn))))), (h0, .inr (8, [.ref n0, .ref s0, .ref s1, .ref d0, .ref o0, .int dn, .int nn, .int la, .int ne, .int wi, .ref w0, .ref e0, .ref f0, .ref t0, .ref b0, .int lm])), (n0, .inr (1, [.ref na, .int sz9])), (na, .inl (cT, 16, .inr (.inr (.inr (.inr ga))))), (w0, .inr (7, [.long wu9_4, .long wl9_5, .long wp9_6]))] : va_W) ++ va_pl L f) H := hP
    have hD : va_D A (([(d0, .inl (cD, 40, .inr (.inr (.inr (.inr gd))))), (o0, .inl (cO, 40, .inr (.inr (.inr (.inr gn))))), (h0, .inr (8, [.ref n0, .ref s0, .ref s1, .ref d0, .ref o0, .int dn, .int nn, .int la, .int ne, .int wi, .ref w0, .ref e0, .ref f0, .ref t0, .ref b0, .int lm])), (n0, .inr (1, [.ref na, .int sz9])), (na, .inl (cT, 16, .inr (.inr (.inr (.inr ga))))), (w0, .inr (7, [.long wu9_4, .long wl9_5, .long wp9_6]))] : va_W) ++ va_pl L f) := hD
    have hK : va_K (dC, dI) vwCl [(cT, .object "MeetingsAbove$Thing"), (cI, .int), (cD, .object "MeetingsAbove$Dot"), (cO, .object "MeetingsAbove$Notice"), (cT, .object "MeetingsAbove$Thing"), (cI, .int)] s := hK
    refine W.widen (k := 0) (n := 0) (by omega) (by omega) ?_
    try dsimp only at hw_3
    have hP9 := hP.part (cx := [(h0, .inr (8, [.ref n0, .ref s0, .ref s1, .ref d0, .ref o0, .int dn, .int nn, .int la, .int ne, .int wi, .ref w0, .ref e0, .ref f0, .ref t0, .ref b0, .int lm])), (n0, .inr (1, [.ref na, .int sz9])), (na, .inl (cT, 16, .inr (.inr (.inr (.inr ga))))), (w0, .inr (7, [.long wu9_4, .long wl9_5, .long wp9_6])), (d0, .inl (cD, 40, .inr (.inr (.inr (.inr gd))))), (o0, .inl (cO, 40, .inr (.inr (.inr (.inr gn)))))]) [2, 3, 4, 5, 0, 1] rfl
    have hD9 := hD.part (cx := [(h0, .inr (8, [.ref n0, .ref s0, .ref s1, .ref d0, .ref o0, .int dn, .int nn, .int la, .int ne, .int wi, .ref w0, .ref e0, .ref f0, .ref t0, .ref b0, .int lm])), (n0, .inr (1, [.ref na, .int sz9])), (na, .inl (cT, 16, .inr (.inr (.inr (.inr ga))))), (w0, .inr (7, [.long wu9_4, .long wl9_5, .long wp9_6])), (d0, .inl (cD, 40, .inr (.inr (.inr (.inr gd))))), (o0, .inl (cO, 40, .inr (.inr (.inr (.inr gn)))))]) [2, 3, 4, 5, 0, 1] (by decide) rfl
    have hK9 := hK.sub (tys' := [(cT, .object "MeetingsAbove$Thing"), (cI, .int), (cD, .object "MeetingsAbove$Dot"), (cO, .object "MeetingsAbove$Notice")]) [0, 1, 2, 3] rfl
    refine W.widen (k := 0) (n := 0) (by omega) (by omega) ?_
    exact W.iret (v := r_3) hx hb hr (fun t ht hW => ⟨⟨_, (), rfl, (Or.inr (Or.inr (Or.inr (Or.inl ⟨by decide, hw_3⟩)))), wu9_4, wl9_5, wp9_6, by rw [ht]; exact hP9, va_K.moved hW.alike hK9, hD9⟩, hS.F ht⟩) hS.2.2 dX8_count_76
  · refine lv_tableIn (tgt := 77) (off := 76) hx hb dX8_count_1 (by decide) (by decide) (by decide) (by decide) ?_
    refine lv_aload_n hx hb dX8_count_77 rfl (lv_at hl 0 rfl) ?_
    refine va_get (D := (dC, dI)) (ci := 8) (v := .int dn) (C := RX8) (T := TX8) (N := 16) hx hb hts in_X8_countE_X8 hown hK hP 0 rfl rfl 5 (by decide) (hts (.fieldLink RX8 158 "MeetingsAbove" "dotCount" "I") (by decide +kernel)) (fun _ h9 => h9) rfl dX8_count_78 ?_
    have hP9 := hP.part (cx := [(h0, .inr (8, [.ref n0, .ref s0, .ref s1, .ref d0, .ref o0, .int dn, .int nn, .int la, .int ne, .int wi, .ref w0, .ref e0, .ref f0, .ref t0, .ref b0, .int lm])), (n0, .inr (1, [.ref na, .int sz9])), (na, .inl (cT, 16, .inr (.inr (.inr (.inr ga))))), (w0, .inr (7, [.long wu, .long wl, .long wp])), (d0, .inl (cD, 40, .inr (.inr (.inr (.inr gd))))), (o0, .inl (cO, 40, .inr (.inr (.inr (.inr gn)))))]) [0, 1, 2, 3, 4, 5] rfl
    have hD9 := hD.part (cx := [(h0, .inr (8, [.ref n0, .ref s0, .ref s1, .ref d0, .ref o0, .int dn, .int nn, .int la, .int ne, .int wi, .ref w0, .ref e0, .ref f0, .ref t0, .ref b0, .int lm])), (n0, .inr (1, [.ref na, .int sz9])), (na, .inl (cT, 16, .inr (.inr (.inr (.inr ga))))), (w0, .inr (7, [.long wu, .long wl, .long wp])), (d0, .inl (cD, 40, .inr (.inr (.inr (.inr gd))))), (o0, .inl (cO, 40, .inr (.inr (.inr (.inr gn)))))]) [0, 1, 2, 3, 4, 5] (by decide) rfl
    have hK9 := hK.sub (tys' := [(cT, .object "MeetingsAbove$Thing"), (cI, .int), (cD, .object "MeetingsAbove$Dot"), (cO, .object "MeetingsAbove$Notice")]) [0, 1, 2, 3] rfl
    refine W.widen (k := 0) (n := 0) (by omega) (by omega) ?_
    exact W.iret (v := dn) hx hb hr (fun t ht hW => ⟨⟨_, (), rfl, (Or.inr (Or.inr (Or.inr (Or.inr (Or.inl ⟨by decide, rfl⟩))))), wu, wl, wp, by rw [ht]; exact hP9, va_K.moved hW.alike hK9, hD9⟩, hS.F ht⟩) hS.2.2 dX8_count_81
  · refine lv_tableIn (tgt := 82) (off := 81) hx hb dX8_count_1 (by decide) (by decide) (by decide) (by decide) ?_
    refine lv_aload_n hx hb dX8_count_82 rfl (lv_at hl 0 rfl) ?_
    refine lv_iconst (v := 1) hx hb dX8_count_83 (by decide) ?_
    refine lv_iconst (v := 1) hx hb dX8_count_84 (by decide) ?_
    have hPc := hP.part (cx := [(h0, .inr (8, [.ref n0, .ref s0, .ref s1, .ref d0, .ref o0, .int dn, .int nn, .int la, .int ne, .int wi, .ref w0, .ref e0, .ref f0, .ref t0, .ref b0, .int lm])), (n0, .inr (1, [.ref na, .int sz9])), (na, .inl (cT, 16, .inr (.inr (.inr (.inr ga))))), (d0, .inl (cD, 40, .inr (.inr (.inr (.inr gd)))))]) [0, 1, 2, 4] rfl
    have hKc := hK.sub (tys' := [(cT, .object "MeetingsAbove$Thing"), (cI, .int), (cD, .object "MeetingsAbove$Dot")]) [0, 1, 2] rfl
    refine vp_callSi (W.runV (As := [.int 1, .int 1]) (rest := []) ⟨hx, hb, hml, hown, hts⟩ (c_X8_countDotsOfE l dC dI h0 n0 s0 s1 d0 o0 w0 e0 f0 t0 b0 dn nn la ne wi lm na cT sz9 ga cI L f ow v u cD gd 1 1 (by first | assumption | omega) (by first | assumption | omega) (by first | omega | assumption) (by first | omega | assumption)) (cwV 2 hts g_X8_countE__X8_countDotsOfE_161 rfl rfl rfl (by decide +kernel) ⟨Nat.le_of_ble_eq_true rfl, Nat.le_of_ble_eq_true rfl⟩) ⟨fun a U g mk q => by obtain ⟨q0, qP, qK⟩ := q; exact ⟨q0, qP, va_K.moved (u := U) (U := U.calling g mk a) (Vm.Alike.refl U.vm) qK⟩, va_recv hKc hPc (ci := 8) (q0 := 0) rfl rfl, fun U hU hW => ⟨rfl, by rw [hU]; exact hPc, va_K.moved hW.alike hKc⟩⟩ rfl rfl hl.1 rfl (lv_room (Nat.le_of_ble_eq_true rfl)) dX8_count_85 ⟨Nat.le_of_ble_eq_true rfl, Nat.le_of_ble_eq_true rfl⟩) (fun r_7 hr_7 => ?_)
    try dsimp only at hr_7
    have hP9 := hP.part (cx := [(h0, .inr (8, [.ref n0, .ref s0, .ref s1, .ref d0, .ref o0, .int dn, .int nn, .int la, .int ne, .int wi, .ref w0, .ref e0, .ref f0, .ref t0, .ref b0, .int lm])), (n0, .inr (1, [.ref na, .int sz9])), (na, .inl (cT, 16, .inr (.inr (.inr (.inr ga))))), (w0, .inr (7, [.long wu, .long wl, .long wp])), (d0, .inl (cD, 40, .inr (.inr (.inr (.inr gd))))), (o0, .inl (cO, 40, .inr (.inr (.inr (.inr gn)))))]) [0, 1, 2, 3, 4, 5] rfl
    have hD9 := hD.part (cx := [(h0, .inr (8, [.ref n0, .ref s0, .ref s1, .ref d0, .ref o0, .int dn, .int nn, .int la, .int ne, .int wi, .ref w0, .ref e0, .ref f0, .ref t0, .ref b0, .int lm])), (n0, .inr (1, [.ref na, .int sz9])), (na, .inl (cT, 16, .inr (.inr (.inr (.inr ga))))), (w0, .inr (7, [.long wu, .long wl, .long wp])), (d0, .inl (cD, 40, .inr (.inr (.inr (.inr gd))))), (o0, .inl (cO, 40, .inr (.inr (.inr (.inr gn)))))]) [0, 1, 2, 3, 4, 5] (by decide) rfl
    have hK9 := hK.sub (tys' := [(cT, .object "MeetingsAbove$Thing"), (cI, .int), (cD, .object "MeetingsAbove$Dot"), (cO, .object "MeetingsAbove$Notice")]) [0, 1, 2, 3] rfl
    refine W.widen (k := 0) (n := 0) (by omega) (by omega) ?_
    exact W.iret (v := r_7) hx hb hr (fun t ht hW => ⟨⟨_, (), rfl, (Or.inr (Or.inr (Or.inr (Or.inr (Or.inr (Or.inl ⟨by decide, by have e9 := hr_7; rw [show (1 : Int32).toInt.toNat = 1 by decide] at e9; exact e9⟩)))))), wu, wl, wp, by rw [ht]; exact hP9, va_K.moved hW.alike hK9, hD9⟩, hS.F ht⟩) hS.2.2 dX8_count_88
  · refine lv_tableIn (tgt := 89) (off := 88) hx hb dX8_count_1 (by decide) (by decide) (by decide) (by decide) ?_
    refine lv_aload_n hx hb dX8_count_89 rfl (lv_at hl 0 rfl) ?_
    refine lv_iconst (v := 2) hx hb dX8_count_90 (by decide) ?_
    refine lv_bipush (v := 16) hx hb dX8_count_91 (by decide) ?_
    have hPc := hP.part (cx := [(h0, .inr (8, [.ref n0, .ref s0, .ref s1, .ref d0, .ref o0, .int dn, .int nn, .int la, .int ne, .int wi, .ref w0, .ref e0, .ref f0, .ref t0, .ref b0, .int lm])), (n0, .inr (1, [.ref na, .int sz9])), (na, .inl (cT, 16, .inr (.inr (.inr (.inr ga))))), (d0, .inl (cD, 40, .inr (.inr (.inr (.inr gd)))))]) [0, 1, 2, 4] rfl
    have hKc := hK.sub (tys' := [(cT, .object "MeetingsAbove$Thing"), (cI, .int), (cD, .object "MeetingsAbove$Dot")]) [0, 1, 2] rfl
    refine vp_callSi (W.runV (As := [.int 2, .int 16]) (rest := []) ⟨hx, hb, hml, hown, hts⟩ (c_X8_countDotsOfE l dC dI h0 n0 s0 s1 d0 o0 w0 e0 f0 t0 b0 dn nn la ne wi lm na cT sz9 ga cI L f ow v u cD gd 2 16 (by first | assumption | omega) (by first | assumption | omega) (by first | omega | assumption) (by first | omega | assumption)) (cwV 2 hts g_X8_countE__X8_countDotsOfE_161 rfl rfl rfl (by decide +kernel) ⟨Nat.le_of_ble_eq_true rfl, Nat.le_of_ble_eq_true rfl⟩) ⟨fun a U g mk q => by obtain ⟨q0, qP, qK⟩ := q; exact ⟨q0, qP, va_K.moved (u := U) (U := U.calling g mk a) (Vm.Alike.refl U.vm) qK⟩, va_recv hKc hPc (ci := 8) (q0 := 0) rfl rfl, fun U hU hW => ⟨rfl, by rw [hU]; exact hPc, va_K.moved hW.alike hKc⟩⟩ rfl rfl hl.1 rfl (lv_room (Nat.le_of_ble_eq_true rfl)) dX8_count_93 ⟨Nat.le_of_ble_eq_true rfl, Nat.le_of_ble_eq_true rfl⟩) (fun r_8 hr_8 => ?_)
    try dsimp only at hr_8
    have hP9 := hP.part (cx := [(h0, .inr (8, [.ref n0, .ref s0, .ref s1, .ref d0, .ref o0, .int dn, .int nn, .int la, .int ne, .int wi, .ref w0, .ref e0, .ref f0, .ref t0, .ref b0, .int lm])), (n0, .inr (1, [.ref na, .int sz9])), (na, .inl (cT, 16, .inr (.inr (.inr (.inr ga))))), (w0, .inr (7, [.long wu, .long wl, .long wp])), (d0, .inl (cD, 40, .inr (.inr (.inr (.inr gd))))), (o0, .inl (cO, 40, .inr (.inr (.inr (.inr gn)))))]) [0, 1, 2, 3, 4, 5] rfl
    have hD9 := hD.part (cx := [(h0, .inr (8, [.ref n0, .ref s0, .ref s1, .ref d0, .ref o0, .int dn, .int nn, .int la, .int ne, .int wi, .ref w0, .ref e0, .ref f0, .ref t0, .ref b0, .int lm])), (n0, .inr (1, [.ref na, .int sz9])), (na, .inl (cT, 16, .inr (.inr (.inr (.inr ga))))), (w0, .inr (7, [.long wu, .long wl, .long wp])), (d0, .inl (cD, 40, .inr (.inr (.inr (.inr gd))))), (o0, .inl (cO, 40, .inr (.inr (.inr (.inr gn)))))]) [0, 1, 2, 3, 4, 5] (by decide) rfl
    have hK9 := hK.sub (tys' := [(cT, .object "MeetingsAbove$Thing"), (cI, .int), (cD, .object "MeetingsAbove$Dot"), (cO, .object "MeetingsAbove$Notice")]) [0, 1, 2, 3] rfl
    refine W.widen (k := 0) (n := 0) (by omega) (by omega) ?_
    exact W.iret (v := r_8) hx hb hr (fun t ht hW => ⟨⟨_, (), rfl, (Or.inr (Or.inr (Or.inr (Or.inr (Or.inr (Or.inr (Or.inl ⟨by decide, by have e9 := hr_8; rw [show (2 : Int32).toInt.toNat = 2 by decide, show (16 : Int32).toInt.toNat = 16 by decide] at e9; exact e9⟩))))))), wu, wl, wp, by rw [ht]; exact hP9, va_K.moved hW.alike hK9, hD9⟩, hS.F ht⟩) hS.2.2 dX8_count_96
  · refine lv_tableIn (tgt := 97) (off := 96) hx hb dX8_count_1 (by decide) (by decide) (by decide) (by decide) ?_
    refine lv_aload_n hx hb dX8_count_97 rfl (lv_at hl 0 rfl) ?_
    refine lv_iconst (v := 0) hx hb dX8_count_98 (by decide) ?_
    refine lv_iconst (v := 0) hx hb dX8_count_99 (by decide) ?_
    have hPc := hP.part (cx := [(h0, .inr (8, [.ref n0, .ref s0, .ref s1, .ref d0, .ref o0, .int dn, .int nn, .int la, .int ne, .int wi, .ref w0, .ref e0, .ref f0, .ref t0, .ref b0, .int lm])), (n0, .inr (1, [.ref na, .int sz9])), (na, .inl (cT, 16, .inr (.inr (.inr (.inr ga))))), (d0, .inl (cD, 40, .inr (.inr (.inr (.inr gd)))))]) [0, 1, 2, 4] rfl
    have hKc := hK.sub (tys' := [(cT, .object "MeetingsAbove$Thing"), (cI, .int), (cD, .object "MeetingsAbove$Dot")]) [0, 1, 2] rfl
    refine vp_callSi (W.runV (As := [.int 0, .int 0]) (rest := []) ⟨hx, hb, hml, hown, hts⟩ (c_X8_countDotsOfE l dC dI h0 n0 s0 s1 d0 o0 w0 e0 f0 t0 b0 dn nn la ne wi lm na cT sz9 ga cI L f ow v u cD gd 0 0 (by first | assumption | omega) (by first | assumption | omega) (by first | omega | assumption) (by first | omega | assumption)) (cwV 2 hts g_X8_countE__X8_countDotsOfE_161 rfl rfl rfl (by decide +kernel) ⟨Nat.le_of_ble_eq_true rfl, Nat.le_of_ble_eq_true rfl⟩) ⟨fun a U g mk q => by obtain ⟨q0, qP, qK⟩ := q; exact ⟨q0, qP, va_K.moved (u := U) (U := U.calling g mk a) (Vm.Alike.refl U.vm) qK⟩, va_recv hKc hPc (ci := 8) (q0 := 0) rfl rfl, fun U hU hW => ⟨rfl, by rw [hU]; exact hPc, va_K.moved hW.alike hKc⟩⟩ rfl rfl hl.1 rfl (lv_room (Nat.le_of_ble_eq_true rfl)) dX8_count_100 ⟨Nat.le_of_ble_eq_true rfl, Nat.le_of_ble_eq_true rfl⟩) (fun r_9 hr_9 => ?_)
    try dsimp only at hr_9
    have hP9 := hP.part (cx := [(h0, .inr (8, [.ref n0, .ref s0, .ref s1, .ref d0, .ref o0, .int dn, .int nn, .int la, .int ne, .int wi, .ref w0, .ref e0, .ref f0, .ref t0, .ref b0, .int lm])), (n0, .inr (1, [.ref na, .int sz9])), (na, .inl (cT, 16, .inr (.inr (.inr (.inr ga))))), (w0, .inr (7, [.long wu, .long wl, .long wp])), (d0, .inl (cD, 40, .inr (.inr (.inr (.inr gd))))), (o0, .inl (cO, 40, .inr (.inr (.inr (.inr gn)))))]) [0, 1, 2, 3, 4, 5] rfl
    have hD9 := hD.part (cx := [(h0, .inr (8, [.ref n0, .ref s0, .ref s1, .ref d0, .ref o0, .int dn, .int nn, .int la, .int ne, .int wi, .ref w0, .ref e0, .ref f0, .ref t0, .ref b0, .int lm])), (n0, .inr (1, [.ref na, .int sz9])), (na, .inl (cT, 16, .inr (.inr (.inr (.inr ga))))), (w0, .inr (7, [.long wu, .long wl, .long wp])), (d0, .inl (cD, 40, .inr (.inr (.inr (.inr gd))))), (o0, .inl (cO, 40, .inr (.inr (.inr (.inr gn)))))]) [0, 1, 2, 3, 4, 5] (by decide) rfl
    have hK9 := hK.sub (tys' := [(cT, .object "MeetingsAbove$Thing"), (cI, .int), (cD, .object "MeetingsAbove$Dot"), (cO, .object "MeetingsAbove$Notice")]) [0, 1, 2, 3] rfl
    refine W.widen (k := 0) (n := 0) (by omega) (by omega) ?_
    exact W.iret (v := r_9) hx hb hr (fun t ht hW => ⟨⟨_, (), rfl, (Or.inr (Or.inr (Or.inr (Or.inr (Or.inr (Or.inr (Or.inr (Or.inl ⟨by decide, by have e9 := hr_9; rw [show (0 : Int32).toInt.toNat = 0 by decide] at e9; exact e9⟩)))))))), wu, wl, wp, by rw [ht]; exact hP9, va_K.moved hW.alike hK9, hD9⟩, hS.F ht⟩) hS.2.2 dX8_count_103
  · refine lv_tableIn (tgt := 104) (off := 103) hx hb dX8_count_1 (by decide) (by decide) (by decide) (by decide) ?_
    refine lv_aload_n hx hb dX8_count_104 rfl (lv_at hl 0 rfl) ?_
    refine va_get (D := (dC, dI)) (ci := 8) (v := .int nn) (C := RX8) (T := TX8) (N := 16) hx hb hts in_X8_countE_X8 hown hK hP 0 rfl rfl 6 (by decide) (hts (.fieldLink RX8 164 "MeetingsAbove" "noticeCount" "I") (by decide +kernel)) (fun _ h9 => h9) rfl dX8_count_105 ?_
    have hP9 := hP.part (cx := [(h0, .inr (8, [.ref n0, .ref s0, .ref s1, .ref d0, .ref o0, .int dn, .int nn, .int la, .int ne, .int wi, .ref w0, .ref e0, .ref f0, .ref t0, .ref b0, .int lm])), (n0, .inr (1, [.ref na, .int sz9])), (na, .inl (cT, 16, .inr (.inr (.inr (.inr ga))))), (w0, .inr (7, [.long wu, .long wl, .long wp])), (d0, .inl (cD, 40, .inr (.inr (.inr (.inr gd))))), (o0, .inl (cO, 40, .inr (.inr (.inr (.inr gn)))))]) [0, 1, 2, 3, 4, 5] rfl
    have hD9 := hD.part (cx := [(h0, .inr (8, [.ref n0, .ref s0, .ref s1, .ref d0, .ref o0, .int dn, .int nn, .int la, .int ne, .int wi, .ref w0, .ref e0, .ref f0, .ref t0, .ref b0, .int lm])), (n0, .inr (1, [.ref na, .int sz9])), (na, .inl (cT, 16, .inr (.inr (.inr (.inr ga))))), (w0, .inr (7, [.long wu, .long wl, .long wp])), (d0, .inl (cD, 40, .inr (.inr (.inr (.inr gd))))), (o0, .inl (cO, 40, .inr (.inr (.inr (.inr gn)))))]) [0, 1, 2, 3, 4, 5] (by decide) rfl
    have hK9 := hK.sub (tys' := [(cT, .object "MeetingsAbove$Thing"), (cI, .int), (cD, .object "MeetingsAbove$Dot"), (cO, .object "MeetingsAbove$Notice")]) [0, 1, 2, 3] rfl
    refine W.widen (k := 0) (n := 0) (by omega) (by omega) ?_
    exact W.iret (v := nn) hx hb hr (fun t ht hW => ⟨⟨_, (), rfl, (Or.inr (Or.inr (Or.inr (Or.inr (Or.inr (Or.inr (Or.inr (Or.inr (Or.inl ⟨by decide, rfl⟩))))))))), wu, wl, wp, by rw [ht]; exact hP9, va_K.moved hW.alike hK9, hD9⟩, hS.F ht⟩) hS.2.2 dX8_count_108
  · refine lv_tableIn (tgt := 109) (off := 108) hx hb dX8_count_1 (by decide) (by decide) (by decide) (by decide) ?_
    refine lv_aload_n hx hb dX8_count_109 rfl (lv_at hl 0 rfl) ?_
    have hPc := hP.part (cx := [(h0, .inr (8, [.ref n0, .ref s0, .ref s1, .ref d0, .ref o0, .int dn, .int nn, .int la, .int ne, .int wi, .ref w0, .ref e0, .ref f0, .ref t0, .ref b0, .int lm])), (o0, .inl (cO, 40, .inr (.inr (.inr (.inr gn)))))]) [0, 5] rfl
    have hKc := hK.sub (tys' := [(cO, .object "MeetingsAbove$Notice")]) [3] rfl
    refine vp_callSi (W.runV (As := []) (rest := []) ⟨hx, hb, hml, hown, hts⟩ (c_X8_countHoldingE l dC dI h0 n0 s0 s1 d0 o0 w0 e0 f0 t0 b0 dn nn la ne wi lm cO gn L f ow w (by first | assumption | omega)) (cwV 0 hts g_X8_countE__X8_countHoldingE_167 rfl rfl rfl (by decide +kernel) ⟨Nat.le_of_ble_eq_true rfl, Nat.le_of_ble_eq_true rfl⟩) ⟨fun a U g mk q => by obtain ⟨q0, qP, qK⟩ := q; exact ⟨q0, qP, va_K.moved (u := U) (U := U.calling g mk a) (Vm.Alike.refl U.vm) qK⟩, va_recv hKc hPc (ci := 8) (q0 := 0) rfl rfl, fun U hU hW => ⟨rfl, by rw [hU]; exact hPc, va_K.moved hW.alike hKc⟩⟩ rfl rfl hl.1 rfl (lv_room (Nat.le_of_ble_eq_true rfl)) dX8_count_110 ⟨Nat.le_of_ble_eq_true rfl, Nat.le_of_ble_eq_true rfl⟩) (fun r_10 hr_10 => ?_)
    try dsimp only at hr_10
    have hP9 := hP.part (cx := [(h0, .inr (8, [.ref n0, .ref s0, .ref s1, .ref d0, .ref o0, .int dn, .int nn, .int la, .int ne, .int wi, .ref w0, .ref e0, .ref f0, .ref t0, .ref b0, .int lm])), (n0, .inr (1, [.ref na, .int sz9])), (na, .inl (cT, 16, .inr (.inr (.inr (.inr ga))))), (w0, .inr (7, [.long wu, .long wl, .long wp])), (d0, .inl (cD, 40, .inr (.inr (.inr (.inr gd))))), (o0, .inl (cO, 40, .inr (.inr (.inr (.inr gn)))))]) [0, 1, 2, 3, 4, 5] rfl
    have hD9 := hD.part (cx := [(h0, .inr (8, [.ref n0, .ref s0, .ref s1, .ref d0, .ref o0, .int dn, .int nn, .int la, .int ne, .int wi, .ref w0, .ref e0, .ref f0, .ref t0, .ref b0, .int lm])), (n0, .inr (1, [.ref na, .int sz9])), (na, .inl (cT, 16, .inr (.inr (.inr (.inr ga))))), (w0, .inr (7, [.long wu, .long wl, .long wp])), (d0, .inl (cD, 40, .inr (.inr (.inr (.inr gd))))), (o0, .inl (cO, 40, .inr (.inr (.inr (.inr gn)))))]) [0, 1, 2, 3, 4, 5] (by decide) rfl
    have hK9 := hK.sub (tys' := [(cT, .object "MeetingsAbove$Thing"), (cI, .int), (cD, .object "MeetingsAbove$Dot"), (cO, .object "MeetingsAbove$Notice")]) [0, 1, 2, 3] rfl
    refine W.widen (k := 0) (n := 0) (by omega) (by omega) ?_
    exact W.iret (v := r_10) hx hb hr (fun t ht hW => ⟨⟨_, (), rfl, (Or.inr (Or.inr (Or.inr (Or.inr (Or.inr (Or.inr (Or.inr (Or.inr (Or.inr (Or.inl ⟨by decide, hr_10⟩)))))))))), wu, wl, wp, by rw [ht]; exact hP9, va_K.moved hW.alike hK9, hD9⟩, hS.F ht⟩) hS.2.2 dX8_count_113
  · refine lv_tableIn (tgt := 114) (off := 113) hx hb dX8_count_1 (by decide) (by decide) (by decide) (by decide) ?_
    refine lv_aload_n hx hb dX8_count_114 rfl (lv_at hl 0 rfl) ?_
    refine va_get (D := (dC, dI)) (ci := 8) (v := .int la) (C := RX8) (T := TX8) (N := 16) hx hb hts in_X8_countE_X8 hown hK hP 0 rfl rfl 7 (by decide) (hts (.fieldLink RX8 170 "MeetingsAbove" "lateAnswers" "I") (by decide +kernel)) (fun _ h9 => h9) rfl dX8_count_115 ?_
    have hP9 := hP.part (cx := [(h0, .inr (8, [.ref n0, .ref s0, .ref s1, .ref d0, .ref o0, .int dn, .int nn, .int la, .int ne, .int wi, .ref w0, .ref e0, .ref f0, .ref t0, .ref b0, .int lm])), (n0, .inr (1, [.ref na, .int sz9])), (na, .inl (cT, 16, .inr (.inr (.inr (.inr ga))))), (w0, .inr (7, [.long wu, .long wl, .long wp])), (d0, .inl (cD, 40, .inr (.inr (.inr (.inr gd))))), (o0, .inl (cO, 40, .inr (.inr (.inr (.inr gn)))))]) [0, 1, 2, 3, 4, 5] rfl
    have hD9 := hD.part (cx := [(h0, .inr (8, [.ref n0, .ref s0, .ref s1, .ref d0, .ref o0, .int dn, .int nn, .int la, .int ne, .int wi, .ref w0, .ref e0, .ref f0, .ref t0, .ref b0, .int lm])), (n0, .inr (1, [.ref na, .int sz9])), (na, .inl (cT, 16, .inr (.inr (.inr (.inr ga))))), (w0, .inr (7, [.long wu, .long wl, .long wp])), (d0, .inl (cD, 40, .inr (.inr (.inr (.inr gd))))), (o0, .inl (cO, 40, .inr (.inr (.inr (.inr gn)))))]) [0, 1, 2, 3, 4, 5] (by decide) rfl
    have hK9 := hK.sub (tys' := [(cT, .object "MeetingsAbove$Thing"), (cI, .int), (cD, .object "MeetingsAbove$Dot"), (cO, .object "MeetingsAbove$Notice")]) [0, 1, 2, 3] rfl
    refine W.widen (k := 0) (n := 0) (by omega) (by omega) ?_
    exact W.iret (v := la) hx hb hr (fun t ht hW => ⟨⟨_, (), rfl, (Or.inr (Or.inr (Or.inr (Or.inr (Or.inr (Or.inr (Or.inr (Or.inr (Or.inr (Or.inr (⟨by decide, rfl⟩))))))))))), wu, wl, wp, by rw [ht]; exact hP9, va_K.moved hW.alike hK9, hD9⟩, hS.F ht⟩) hS.2.2 dX8_count_118
