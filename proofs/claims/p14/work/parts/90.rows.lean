def wk_X1_countThere : List Cond := .code yX1_countThere cX1_countThere 4 (some .int) :: (([.fieldLink RX1 17 "MeetingsAbove$Catalogue" "size" "I", .fieldLink RX1 37 "MeetingsAbove$Thing" "gone" "Z"] : List Cond) ++ (wsX10 ++ (wsX60 ++ ((wsV RX1 22 RX1 yX1_find wk_X1_find) ++ ([])))))
theorem in_X1_countThere_X1 : ∀ w ∈ wsX10, w ∈ wk_X1_countThere := fun _ h => List.mem_cons_of_mem _ (List.mem_append_right _ (List.mem_append_left _ h))
theorem in_X1_countThere_X6 : ∀ w ∈ wsX60, w ∈ wk_X1_countThere := fun _ h => List.mem_cons_of_mem _ (List.mem_append_right _ (List.mem_append_right _ (List.mem_append_left _ h)))
theorem gw_X1_countThere : AG wk_X1_countThere := AG_ca (AG_l (by decide +kernel)) (AG_app ag_X1 (AG_app ag_X6 (AG_app (AG_V gw_X1_find) (AG_nil))))
theorem g_X1_countThere__X1_find_22 : GoodIn wk_X1_countThere (wsV RX1 22 RX1 yX1_find wk_X1_find) := goodIn_m (fun _ h => List.mem_cons_of_mem _ (List.mem_append_right _ (List.mem_append_right _ (List.mem_append_right _ (List.mem_append_left _ h))))) (AG_V gw_X1_find)
set_option maxHeartbeats 4000000 in
set_option maxRecDepth 100000 in
theorem c_X1_countThere (l : Launch) (dC : Nat → ClassId) (dI : Nat → Nat → Nat) (h0 : Nat) (na : Nat) (cT : ClassId) (sz9 : Int32) (ga : Nat → Option Nat) (cI : ClassId) (L : List Nat) (f : Nat → va_E) (hC : catOK L f cI sz9 ga) : Met l yX1_countThere wk_X1_countThere ({ frames := 1, cells := 0, slots := 0, locals := 21 }) (va_Pc [.ref h0] (fun U => va_P (dC, dI) vwCl (([(h0, .inr (1, [.ref na, .int sz9])), (na, .inl (cT, 16, .inr (.inr (.inr (.inr ga)))))] : va_W) ++ va_pl L f) U.heap ∧ va_K (dC, dI) vwCl [(cT, .object "MeetingsAbove$Thing"), (cI, .int)] U)) (vp_Si (fun r => True)) 0 0 (fun _ => False) := by
  refine Met.ofW (cc := cX1_countThere) (maxL := 4) (ret := (some .int)) (by decide) rfl ?_
  intro p e s m args below meth c s₁ B hml hv
  obtain ⟨rfl, hP, hK⟩ := hv
  have hx := B.exec
  have hb := B.bytes
  have hr := B.returns
  have hts := atoms_spec (ws := wk_X1_countThere) B.pre
  have hown : s.vm.findClass RX1 = some m.cls := findClass_of_methodNamed B.named
  have hlocks := B.notSynchronized
  have hP : va_P (dC, dI) vwCl (([(h0, .inr (1, [.ref na, .int sz9])), (na, .inl (cT, 16, .inr (.inr (.inr (.inr ga)))))] : va_W) ++ va_pl L f) s.heap := hP
  have hl := lv_entry ([.ref h0]) (n := 4) (Nat.le_of_ble_eq_true rfl)
  rw [lg_entry_eq]
  generalize (lg_sl ([.ref h0]) ++ List.replicate (4 - (lg_sl ([.ref h0])).length) Slot.unset).toArray = ls at hl ⊢
  have hl : lv_has ls 4 [(0, .ref h0)] := hl
  have kl_0 : (0 : Int32).toInt = 0 := by decide
  have kl_1 : (1 : Int32).toInt = 1 := by decide
  obtain ⟨hC0, hC1, hC2⟩ := id hC
  refine lv_iconst (v := 0) hx hb dX1_countThere_0 (by decide) ?_
  refine lv_istore_n (lv' := [(1, .int 0), (0, .ref h0)]) hx hb dX1_countThere_1 rfl hl (by decide) rfl (fun ls hl => ?_)
  refine lv_iconst (v := 0) hx hb dX1_countThere_2 (by decide) ?_
  refine lv_istore_n (lv' := [(2, .int 0), (1, .int 0), (0, .ref h0)]) hx hb dX1_countThere_3 rfl hl (by decide) rfl (fun ls hl => ?_)
  refine (show ∀ (k : Nat) (n1 : Int32) (t2 : Int32) (hk0 : 0 ≤ t2.toInt) (hk1 : t2.toInt ≤ sz9.toInt) (hk_4 : (sz9.toInt - t2.toInt).toNat < k) (ls : Array Slot) (hl : lv_has ls 4 [(0, .ref h0), (1, .int n1), (2, .int t2)]), W p l e _ s m _ below meth c s.heap [] 0 0 _ (F0 m 4 ls []) from ?_) _ 0 0 (by omega) (by omega) (Nat.lt_succ_self _) ls (lv_sub hl [2, 1, 0] rfl)
  intro k
  induction k with
  | zero => intro n1 t2 hk0 hk1 hk_4; exact absurd hk_4 (Nat.not_lt_zero _)
  | succ k ih_4 =>
    intro n1 t2 hk0 hk1 hk_4 ls hl
    refine lv_iload_n hx hb dX1_countThere_4 rfl (lv_at hl 2 rfl) ?_
    refine lv_aload_n hx hb dX1_countThere_5 rfl (lv_at hl 0 rfl) ?_
    refine va_get (D := (dC, dI)) (ci := 1) (v := .int sz9) (C := RX1) (T := TX1) (N := 2) hx hb hts in_X1_countThere_X1 hown hK hP 0 rfl rfl 1 (by decide) (hts (.fieldLink RX1 17 "MeetingsAbove$Catalogue" "size" "I") (by decide +kernel)) (fun _ h9 => h9) rfl dX1_countThere_6 ?_
    refine lv_icmp_ge (tgt := 38) hx hb dX1_countThere_9 (by decide) (fun c_9 => ?_) (fun c_9 => ?_)
    · have t_9 := (fa_le _ _).mp c_9
      refine lv_iload_n hx hb dX1_countThere_38 rfl (lv_at hl 1 rfl) ?_
      exact W.iret (v := n1) hx hb hr (fun t ht _ => ⟨_, rfl, trivial, ht⟩) (fun _ h => absurd h List.not_mem_nil) dX1_countThere_39
    · have t_9 := mt (fa_le _ _).mpr c_9
      refine lv_aload_n hx hb dX1_countThere_12 rfl (lv_at hl 0 rfl) ?_
      refine lv_iload_n hx hb dX1_countThere_13 rfl (lv_at hl 2 rfl) ?_
      have hPc := hP.sub (ws' := [(h0, .inr (1, [.ref na, .int sz9])), (na, .inl (cT, 16, .inr (.inr (.inr (.inr ga)))))]) [0, 1] rfl
      have hKc := hK.sub (tys' := [(cT, .object "MeetingsAbove$Thing")]) [0] rfl
      refine va_csq (W.runV (As := [.int t2]) (rest := []) ⟨hx, hb, hml, hown, hts⟩ (c_X1_find l dC dI h0 na cT sz9 ga t2) (cwV 1 hts g_X1_countThere__X1_find_22 rfl rfl rfl (by decide +kernel) ⟨Nat.le_of_ble_eq_true rfl, Nat.le_of_ble_eq_true rfl⟩) ⟨fun a U g mk q => by obtain ⟨q0, qP, qK⟩ := q; exact ⟨q0, qP, va_K.moved (u := U) (U := U.calling g mk a) (Vm.Alike.refl U.vm) qK⟩, va_recv hKc hPc (ci := 1) (q0 := 0) rfl rfl, fun U hU hW => ⟨rfl, by rw [hU]; exact hPc, va_K.moved hW.alike hKc⟩⟩ rfl rfl hl.1 rfl (lv_room (Nat.le_of_ble_eq_true rfl)) dX1_countThere_14 ⟨Nat.le_of_ble_eq_true rfl, Nat.le_of_ble_eq_true rfl⟩) (fun r_1 hr_1 => ?_)
      try dsimp only at hr_1
      rcases r_1 with _ | w_2
      · refine W.eq (g2 := F0 m 17 ls [.null]) rfl ?_
        refine lv_astore_nN (lv' := [(3, .null), (0, .ref h0), (1, .int n1), (2, .int t2)]) hx hb dX1_countThere_17 rfl hl (by decide) rfl (fun ls hl => ?_)
        refine lv_aload_nN hx hb dX1_countThere_18 rfl (lv_at hl 0 rfl) ?_
        refine lv_ifnullN (tgt := 32) hx hb dX1_countThere_19 (by decide) ?_
        obtain ⟨y_3, ey_3⟩ : ∃ y : Int32, y = t2 + 1 := ⟨_, rfl⟩
        have ty_3 : y_3.toInt = t2.toInt + 1 := by rw [ey_3]; have := fb_addI (x := t2) (y := 1) (by omega) (by omega); omega
        refine lv_iinc (v := y_3) (lv' := [(2, .int y_3), (3, .null), (0, .ref h0), (1, .int n1)]) hx hb dX1_countThere_32 hl (k := 3) rfl (by rw [ey_3]; rfl) (by decide) rfl (fun ls hl => ?_)
        refine lv_goto (tgt := 4) hx hb dX1_countThere_35 (by decide) ?_
        exact ih_4 n1 y_3 (by omega) (by omega) (by omega) ls (lv_sub hl [2, 3, 0] rfl)
      · refine W.eq (g2 := F0 m 17 ls [.ref w_2]) rfl ?_
        obtain ⟨hi_w_2, hw_w_2⟩ := fd_some hr_1
        obtain ⟨x_w_2, fi_w_2, pl_w_2, db_w_2, go_w_2, g_w_2, hL_w_2, hX_w_2, hf_w_2, hg_w_2, ht_w_2, hgo_w_2⟩ := th_of hC (by rw [tc_I (by omega)]; omega) hw_w_2
        refine lv_astore_n (lv' := [(3, .ref w_2), (0, .ref h0), (1, .int n1), (2, .int t2)]) hx hb dX1_countThere_17 rfl hl (by decide) rfl (fun ls hl => ?_)
        refine lv_aload_n hx hb dX1_countThere_18 rfl (lv_at hl 0 rfl) ?_
        refine lv_ifnull hx hb dX1_countThere_19 ?_
        refine lv_aload_n hx hb dX1_countThere_22 rfl (lv_at hl 0 rfl) ?_
        obtain ⟨k_5, hk_5⟩ := pl_ix (X := [(h0, .inr (1, [.ref na, .int sz9])), (na, .inl (cT, 16, .inr (.inr (.inr (.inr ga)))))]) hL_w_2 hf_w_2
        refine va_get (D := (dC, dI)) (ci := 6) (v := .int go_w_2) (C := RX6) (T := TX6) (N := 5) hx hb hts in_X1_countThere_X6 hown hK hP k_5 hk_5 rfl 4 (by decide) (hts (.fieldLink RX1 37 "MeetingsAbove$Thing" "gone" "Z") (by decide +kernel)) (fun _ h9 => h9) rfl dX1_countThere_23 ?_
        refine lv_if_ne (tgt := 32) hx hb dX1_countThere_26 (by decide) (fun c_26 => ?_) (fun c_26 => ?_)
        · have t_26 := mt (fa_eq _ _).mpr c_26
          obtain ⟨y_6, ey_6⟩ : ∃ y : Int32, y = t2 + 1 := ⟨_, rfl⟩
          have ty_6 : y_6.toInt = t2.toInt + 1 := by rw [ey_6]; have := fb_addI (x := t2) (y := 1) (by omega) (by omega); omega
          refine lv_iinc (v := y_6) (lv' := [(2, .int y_6), (3, .ref w_2), (0, .ref h0), (1, .int n1)]) hx hb dX1_countThere_32 hl (k := 3) rfl (by rw [ey_6]; rfl) (by decide) rfl (fun ls hl => ?_)
          refine lv_goto (tgt := 4) hx hb dX1_countThere_35 (by decide) ?_
          exact ih_4 n1 y_6 (by omega) (by omega) (by omega) ls (lv_sub hl [2, 3, 0] rfl)
        · have t_26 := (fa_eq _ _).mp c_26
          obtain ⟨y_7, ey_7⟩ : ∃ y : Int32, y = n1 + 1 := ⟨_, rfl⟩
          refine lv_iinc (v := y_7) (lv' := [(1, .int y_7), (3, .ref w_2), (0, .ref h0), (2, .int t2)]) hx hb dX1_countThere_29 hl (k := 2) rfl (by rw [ey_7]; rfl) (by decide) rfl (fun ls hl => ?_)
          obtain ⟨y_8, ey_8⟩ : ∃ y : Int32, y = t2 + 1 := ⟨_, rfl⟩
          have ty_8 : y_8.toInt = t2.toInt + 1 := by rw [ey_8]; have := fb_addI (x := t2) (y := 1) (by omega) (by omega); omega
          refine lv_iinc (v := y_8) (lv' := [(2, .int y_8), (1, .int y_7), (3, .ref w_2), (0, .ref h0)]) hx hb dX1_countThere_32 hl (k := 3) rfl (by rw [ey_8]; rfl) (by decide) rfl (fun ls hl => ?_)
          refine lv_goto (tgt := 4) hx hb dX1_countThere_35 (by decide) ?_
          exact ih_4 y_7 y_8 (by omega) (by omega) (by omega) ls (lv_sub hl [3, 1, 0] rfl)
