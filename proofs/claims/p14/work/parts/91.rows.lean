def wk_X1_isHolder : List Cond := .code yX1_isHolder cX1_isHolder 4 (some .boolean) :: (([.fieldLink RX1 37 "MeetingsAbove$Thing" "gone" "Z"] : List Cond) ++ (wsX60 ++ ((wsV RX1 22 RX1 yX1_find wk_X1_find) ++ ((wsV RX1 45 RX6 yX6_isBoxed wk_X6_isBoxed) ++ ([])))))
theorem in_X1_isHolder_X6 : ∀ w ∈ wsX60, w ∈ wk_X1_isHolder := fun _ h => List.mem_cons_of_mem _ (List.mem_append_right _ (List.mem_append_left _ h))
theorem gw_X1_isHolder : AG wk_X1_isHolder := AG_ca (AG_l (by decide +kernel)) (AG_app ag_X6 (AG_app (AG_V gw_X1_find) (AG_app (AG_V gw_X6_isBoxed) (AG_nil))))
theorem g_X1_isHolder__X1_find_22 : GoodIn wk_X1_isHolder (wsV RX1 22 RX1 yX1_find wk_X1_find) := goodIn_m (fun _ h => List.mem_cons_of_mem _ (List.mem_append_right _ (List.mem_append_right _ (List.mem_append_left _ h)))) (AG_V gw_X1_find)
theorem g_X1_isHolder__X6_isBoxed_45 : GoodIn wk_X1_isHolder (wsV RX1 45 RX6 yX6_isBoxed wk_X6_isBoxed) := goodIn_m (fun _ h => List.mem_cons_of_mem _ (List.mem_append_right _ (List.mem_append_right _ (List.mem_append_right _ (List.mem_append_left _ h))))) (AG_V gw_X6_isBoxed)
set_option maxHeartbeats 4000000 in
set_option maxRecDepth 100000 in
theorem c_X1_isHolder (l : Launch) (dC : Nat → ClassId) (dI : Nat → Nat → Nat) (h0 : Nat) (na : Nat) (cT : ClassId) (sz9 : Int32) (ga : Nat → Option Nat) (cI : ClassId) (L : List Nat) (f : Nat → va_E) (hd : Nat) (ds : Int32) (dx : Int32) (dy : Int32) (dz : Int32) (p1 : Int32) (hC : catOK L f cI sz9 ga) : Met l yX1_isHolder wk_X1_isHolder ({ frames := 3, cells := 0, slots := 0, locals := 62 }) (va_Pc [.ref h0, .int p1, .ref hd] (fun U => va_P (dC, dI) vwCl (([(h0, .inr (1, [.ref na, .int sz9])), (na, .inl (cT, 16, .inr (.inr (.inr (.inr ga))))), (hd, .inr (2, [.int ds, .int dx, .int dy, .int dz]))] : va_W) ++ va_pl L f) U.heap ∧ va_K (dC, dI) vwCl [(cT, .object "MeetingsAbove$Thing"), (cI, .int)] U)) (vp_Si (fun r => r = 1 ∨ r = 0)) 0 0 (fun _ => False) := by
  refine Met.ofW (cc := cX1_isHolder) (maxL := 4) (ret := (some .boolean)) (by decide) rfl ?_
  intro p e s m args below meth c s₁ B hml hv
  obtain ⟨rfl, hP, hK⟩ := hv
  have hx := B.exec
  have hb := B.bytes
  have hr := B.returns
  have hts := atoms_spec (ws := wk_X1_isHolder) B.pre
  have hown : s.vm.findClass RX1 = some m.cls := findClass_of_methodNamed B.named
  have hlocks := B.notSynchronized
  have hP : va_P (dC, dI) vwCl (([(h0, .inr (1, [.ref na, .int sz9])), (na, .inl (cT, 16, .inr (.inr (.inr (.inr ga))))), (hd, .inr (2, [.int ds, .int dx, .int dy, .int dz]))] : va_W) ++ va_pl L f) s.heap := hP
  have hl := lv_entry ([.ref h0, .int p1, .ref hd]) (n := 4) (Nat.le_of_ble_eq_true rfl)
  rw [lg_entry_eq]
  generalize (lg_sl ([.ref h0, .int p1, .ref hd]) ++ List.replicate (4 - (lg_sl ([.ref h0, .int p1, .ref hd])).length) Slot.unset).toArray = ls at hl ⊢
  have hl : lv_has ls 4 [(0, .ref h0), (1, .int p1), (2, .ref hd)] := hl
  have kl_0 : (0 : Int32).toInt = 0 := by decide
  have kl_1 : (1 : Int32).toInt = 1 := by decide
  obtain ⟨hC0, hC1, hC2⟩ := id hC
  refine lv_aload_n hx hb dX1_isHolder_0 rfl (lv_at hl 0 rfl) ?_
  refine lv_iload_n hx hb dX1_isHolder_1 rfl (lv_at hl 1 rfl) ?_
  have hPc := hP.sub (ws' := [(h0, .inr (1, [.ref na, .int sz9])), (na, .inl (cT, 16, .inr (.inr (.inr (.inr ga)))))]) [0, 1] rfl
  have hKc := hK.sub (tys' := [(cT, .object "MeetingsAbove$Thing")]) [0] rfl
  refine va_csq (W.runV (As := [.int p1]) (rest := []) ⟨hx, hb, hml, hown, hts⟩ (c_X1_find l dC dI h0 na cT sz9 ga p1) (cwV 1 hts g_X1_isHolder__X1_find_22 rfl rfl rfl (by decide +kernel) ⟨Nat.le_of_ble_eq_true rfl, Nat.le_of_ble_eq_true rfl⟩) ⟨fun a U g mk q => by obtain ⟨q0, qP, qK⟩ := q; exact ⟨q0, qP, va_K.moved (u := U) (U := U.calling g mk a) (Vm.Alike.refl U.vm) qK⟩, va_recv hKc hPc (ci := 1) (q0 := 0) rfl rfl, fun U hU hW => ⟨rfl, by rw [hU]; exact hPc, va_K.moved hW.alike hKc⟩⟩ rfl rfl hl.1 rfl (lv_room (Nat.le_of_ble_eq_true rfl)) dX1_isHolder_2 ⟨Nat.le_of_ble_eq_true rfl, Nat.le_of_ble_eq_true rfl⟩) (fun r_1 hr_1 => ?_)
  try dsimp only at hr_1
  rcases r_1 with _ | w_2
  · refine W.eq (g2 := F0 m 5 ls [.null]) rfl ?_
    refine lv_astore_nN (lv' := [(3, .null), (0, .ref h0), (1, .int p1), (2, .ref hd)]) hx hb dX1_isHolder_5 rfl hl (by decide) rfl (fun ls hl => ?_)
    refine lv_aload_nN hx hb dX1_isHolder_6 rfl (lv_at hl 0 rfl) ?_
    refine lv_ifnullN (tgt := 29) hx hb dX1_isHolder_7 (by decide) ?_
    refine lv_iconst (v := 0) hx hb dX1_isHolder_29 (by decide) ?_
    exact W.zret (v := 0) hx hb hr rfl (fun t ht _ => ⟨_, rfl, (by first | exact Or.inl rfl | exact Or.inr rfl), ht⟩) (fun _ h => absurd h List.not_mem_nil) dX1_isHolder_30
  · refine W.eq (g2 := F0 m 5 ls [.ref w_2]) rfl ?_
    obtain ⟨hi_w_2, hw_w_2⟩ := fd_some hr_1
    obtain ⟨x_w_2, fi_w_2, pl_w_2, db_w_2, go_w_2, g_w_2, hL_w_2, hX_w_2, hf_w_2, hg_w_2, ht_w_2, hgo_w_2⟩ := th_of hC (by rw [tc_I (by omega)]; omega) hw_w_2
    refine lv_astore_n (lv' := [(3, .ref w_2), (0, .ref h0), (1, .int p1), (2, .ref hd)]) hx hb dX1_isHolder_5 rfl hl (by decide) rfl (fun ls hl => ?_)
    refine lv_aload_n hx hb dX1_isHolder_6 rfl (lv_at hl 0 rfl) ?_
    refine lv_ifnull hx hb dX1_isHolder_7 ?_
    refine lv_aload_n hx hb dX1_isHolder_10 rfl (lv_at hl 0 rfl) ?_
    obtain ⟨k_4, hk_4⟩ := pl_ix (X := [(h0, .inr (1, [.ref na, .int sz9])), (na, .inl (cT, 16, .inr (.inr (.inr (.inr ga))))), (hd, .inr (2, [.int ds, .int dx, .int dy, .int dz]))]) hL_w_2 hf_w_2
    refine va_get (D := (dC, dI)) (ci := 6) (v := .int go_w_2) (C := RX6) (T := TX6) (N := 5) hx hb hts in_X1_isHolder_X6 hown hK hP k_4 hk_4 rfl 4 (by decide) (hts (.fieldLink RX1 37 "MeetingsAbove$Thing" "gone" "Z") (by decide +kernel)) (fun _ h9 => h9) rfl dX1_isHolder_11 ?_
    refine lv_if_ne (tgt := 29) hx hb dX1_isHolder_14 (by decide) (fun c_14 => ?_) (fun c_14 => ?_)
    · have t_14 := mt (fa_eq _ _).mpr c_14
      refine lv_iconst (v := 0) hx hb dX1_isHolder_29 (by decide) ?_
      exact W.zret (v := 0) hx hb hr rfl (fun t ht _ => ⟨_, rfl, (by first | exact Or.inl rfl | exact Or.inr rfl), ht⟩) (fun _ h => absurd h List.not_mem_nil) dX1_isHolder_30
    · have t_14 := (fa_eq _ _).mp c_14
      refine lv_aload_n hx hb dX1_isHolder_17 rfl (lv_at hl 0 rfl) ?_
      refine lv_aload_n hx hb dX1_isHolder_18 rfl (lv_at hl 3 rfl) ?_
      have hPc : va_P (dC, dI) vwCl [(w_2, .inr (6, [.ref x_w_2, .int fi_w_2, .int pl_w_2, .int db_w_2, .int go_w_2])), (x_w_2, .inl (cI, 36, .inl g_w_2)), (hd, .inr (2, [.int ds, .int dx, .int dy, .int dz]))] s.heap := P_cons (pl_at (X := [(h0, .inr (1, [.ref na, .int sz9])), (na, .inl (cT, 16, .inr (.inr (.inr (.inr ga))))), (hd, .inr (2, [.int ds, .int dx, .int dy, .int dz]))]) hP hL_w_2 hf_w_2) (P_cons (pl_at (X := [(h0, .inr (1, [.ref na, .int sz9])), (na, .inl (cT, 16, .inr (.inr (.inr (.inr ga))))), (hd, .inr (2, [.int ds, .int dx, .int dy, .int dz]))]) hP hX_w_2 hg_w_2) (P_cons (hP.sub (ws' := [(hd, .inr (2, [.int ds, .int dx, .int dy, .int dz]))]) [2] rfl) (P_nil)))
      have hKc := hK.sub (tys' := [(cI, .int)]) [1] rfl
      refine vp_callSi (W.runV (As := [.ref hd]) (rest := []) ⟨hx, hb, hml, hown, hts⟩ (c_X6_isBoxed l dC dI w_2 x_w_2 fi_w_2 pl_w_2 db_w_2 go_w_2 g_w_2 cI hd ds dx dy dz (by first | assumption | omega)) (cwV 1 hts g_X1_isHolder__X6_isBoxed_45 rfl rfl rfl (by decide +kernel) ⟨Nat.le_of_ble_eq_true rfl, Nat.le_of_ble_eq_true rfl⟩) ⟨fun a U g mk q => by obtain ⟨q0, qP, qK⟩ := q; exact ⟨q0, qP, va_K.moved (u := U) (U := U.calling g mk a) (Vm.Alike.refl U.vm) qK⟩, va_recv hKc hPc (ci := 6) (q0 := 0) rfl rfl, fun U hU hW => ⟨rfl, by rw [hU]; exact hPc, va_K.moved hW.alike hKc⟩⟩ rfl rfl hl.1 rfl (lv_room (Nat.le_of_ble_eq_true rfl)) dX1_isHolder_19 ⟨Nat.le_of_ble_eq_true rfl, Nat.le_of_ble_eq_true rfl⟩) (fun r_5 hr_5 => ?_)
      try dsimp only at hr_5
      refine lv_if_eq (tgt := 29) hx hb dX1_isHolder_22 (by decide) (fun c_22 => ?_) (fun c_22 => ?_)
      · have t_22 := (fa_eq _ _).mp c_22
        refine lv_iconst (v := 0) hx hb dX1_isHolder_29 (by decide) ?_
        exact W.zret (v := 0) hx hb hr rfl (fun t ht _ => ⟨_, rfl, (by first | exact Or.inl rfl | exact Or.inr rfl), ht⟩) (fun _ h => absurd h List.not_mem_nil) dX1_isHolder_30
      · have t_22 := mt (fa_eq _ _).mpr c_22
        refine lv_iconst (v := 1) hx hb dX1_isHolder_25 (by decide) ?_
        refine lv_goto (tgt := 30) hx hb dX1_isHolder_26 (by decide) ?_
        exact W.zret (v := 1) hx hb hr rfl (fun t ht _ => ⟨_, rfl, (by first | exact Or.inl rfl | exact Or.inr rfl), ht⟩) (fun _ h => absurd h List.not_mem_nil) dX1_isHolder_30
def wk_X1_countHolders : List Cond := .code yX1_countHolders cX1_countHolders 4 (some .int) :: (([.fieldLink RX1 17 "MeetingsAbove$Catalogue" "size" "I"] : List Cond) ++ (wsX10 ++ ((wsV RX1 49 RX1 yX1_isHolder wk_X1_isHolder) ++ ([]))))
theorem in_X1_countHolders_X1 : ∀ w ∈ wsX10, w ∈ wk_X1_countHolders := fun _ h => List.mem_cons_of_mem _ (List.mem_append_right _ (List.mem_append_left _ h))
theorem gw_X1_countHolders : AG wk_X1_countHolders := AG_ca (AG_l (by decide +kernel)) (AG_app ag_X1 (AG_app (AG_V gw_X1_isHolder) (AG_nil)))
theorem g_X1_countHolders__X1_isHolder_49 : GoodIn wk_X1_countHolders (wsV RX1 49 RX1 yX1_isHolder wk_X1_isHolder) := goodIn_m (fun _ h => List.mem_cons_of_mem _ (List.mem_append_right _ (List.mem_append_right _ (List.mem_append_left _ h)))) (AG_V gw_X1_isHolder)
set_option maxHeartbeats 4000000 in
set_option maxRecDepth 100000 in
theorem c_X1_countHolders (l : Launch) (dC : Nat → ClassId) (dI : Nat → Nat → Nat) (h0 : Nat) (na : Nat) (cT : ClassId) (sz9 : Int32) (ga : Nat → Option Nat) (cI : ClassId) (L : List Nat) (f : Nat → va_E) (hd : Nat) (ds : Int32) (dx : Int32) (dy : Int32) (dz : Int32) (hC : catOK L f cI sz9 ga) : Met l yX1_countHolders wk_X1_countHolders ({ frames := 4, cells := 0, slots := 0, locals := 85 }) (va_Pc [.ref h0, .ref hd] (fun U => va_P (dC, dI) vwCl (([(h0, .inr (1, [.ref na, .int sz9])), (na, .inl (cT, 16, .inr (.inr (.inr (.inr ga))))), (hd, .inr (2, [.int ds, .int dx, .int dy, .int dz]))] : va_W) ++ va_pl L f) U.heap ∧ va_K (dC, dI) vwCl [(cT, .object "MeetingsAbove$Thing"), (cI, .int)] U)) (vp_Si (fun r => True)) 0 0 (fun _ => False) := by
  refine Met.ofW (cc := cX1_countHolders) (maxL := 4) (ret := (some .int)) (by decide) rfl ?_
  intro p e s m args below meth c s₁ B hml hv
  obtain ⟨rfl, hP, hK⟩ := hv
  have hx := B.exec
  have hb := B.bytes
  have hr := B.returns
  have hts := atoms_spec (ws := wk_X1_countHolders) B.pre
  have hown : s.vm.findClass RX1 = some m.cls := findClass_of_methodNamed B.named
  have hlocks := B.notSynchronized
  have hP : va_P (dC, dI) vwCl (([(h0, .inr (1, [.ref na, .int sz9])), (na, .inl (cT, 16, .inr (.inr (.inr (.inr ga))))), (hd, .inr (2, [.int ds, .int dx, .int dy, .int dz]))] : va_W) ++ va_pl L f) s.heap := hP
  have hl := lv_entry ([.ref h0, .ref hd]) (n := 4) (Nat.le_of_ble_eq_true rfl)
  rw [lg_entry_eq]
  generalize (lg_sl ([.ref h0, .ref hd]) ++ List.replicate (4 - (lg_sl ([.ref h0, .ref hd])).length) Slot.unset).toArray = ls at hl ⊢
  have hl : lv_has ls 4 [(0, .ref h0), (1, .ref hd)] := hl
  have kl_0 : (0 : Int32).toInt = 0 := by decide
  have kl_1 : (1 : Int32).toInt = 1 := by decide
  obtain ⟨hC0, hC1, hC2⟩ := id hC
  refine lv_iconst (v := 0) hx hb dX1_countHolders_0 (by decide) ?_
  refine lv_istore_n (lv' := [(2, .int 0), (0, .ref h0), (1, .ref hd)]) hx hb dX1_countHolders_1 rfl hl (by decide) rfl (fun ls hl => ?_)
  refine lv_iconst (v := 0) hx hb dX1_countHolders_2 (by decide) ?_
  refine lv_istore_n (lv' := [(3, .int 0), (2, .int 0), (0, .ref h0), (1, .ref hd)]) hx hb dX1_countHolders_3 rfl hl (by decide) rfl (fun ls hl => ?_)
  refine (show ∀ (k : Nat) (n2 : Int32) (t3 : Int32) (hk0 : 0 ≤ t3.toInt) (hk1 : t3.toInt ≤ sz9.toInt) (hk_4 : (sz9.toInt - t3.toInt).toNat < k) (ls : Array Slot) (hl : lv_has ls 4 [(0, .ref h0), (1, .ref hd), (2, .int n2), (3, .int t3)]), W p l e _ s m _ below meth c s.heap [] 0 0 _ (F0 m 4 ls []) from ?_) _ 0 0 (by omega) (by omega) (Nat.lt_succ_self _) ls (lv_sub hl [2, 3, 1, 0] rfl)
  intro k
  induction k with
  | zero => intro n2 t3 hk0 hk1 hk_4; exact absurd hk_4 (Nat.not_lt_zero _)
  | succ k ih_4 =>
    intro n2 t3 hk0 hk1 hk_4 ls hl
    refine lv_iload_n hx hb dX1_countHolders_4 rfl (lv_at hl 3 rfl) ?_
    refine lv_aload_n hx hb dX1_countHolders_5 rfl (lv_at hl 0 rfl) ?_
    refine va_get (D := (dC, dI)) (ci := 1) (v := .int sz9) (C := RX1) (T := TX1) (N := 2) hx hb hts in_X1_countHolders_X1 hown hK hP 0 rfl rfl 1 (by decide) (hts (.fieldLink RX1 17 "MeetingsAbove$Catalogue" "size" "I") (by decide +kernel)) (fun _ h9 => h9) rfl dX1_countHolders_6 ?_
    refine lv_icmp_ge (tgt := 30) hx hb dX1_countHolders_9 (by decide) (fun c_9 => ?_) (fun c_9 => ?_)
    · have t_9 := (fa_le _ _).mp c_9
      refine lv_iload_n hx hb dX1_countHolders_30 rfl (lv_at hl 2 rfl) ?_
      exact W.iret (v := n2) hx hb hr (fun t ht _ => ⟨_, rfl, trivial, ht⟩) (fun _ h => absurd h List.not_mem_nil) dX1_countHolders_31
    · have t_9 := mt (fa_le _ _).mpr c_9
      refine lv_aload_n hx hb dX1_countHolders_12 rfl (lv_at hl 0 rfl) ?_
      refine lv_iload_n hx hb dX1_countHolders_13 rfl (lv_at hl 3 rfl) ?_
      refine lv_aload_n hx hb dX1_countHolders_14 rfl (lv_at hl 1 rfl) ?_
      have hPc := hP.part (cx := [(h0, .inr (1, [.ref na, .int sz9])), (na, .inl (cT, 16, .inr (.inr (.inr (.inr ga))))), (hd, .inr (2, [.int ds, .int dx, .int dy, .int dz]))]) [0, 1, 2] rfl
      have hKc := hK.sub (tys' := [(cT, .object "MeetingsAbove$Thing"), (cI, .int)]) [0, 1] rfl
      refine vp_callSi (W.runV (As := [.int t3, .ref hd]) (rest := []) ⟨hx, hb, hml, hown, hts⟩ (c_X1_isHolder l dC dI h0 na cT sz9 ga cI L f hd ds dx dy dz t3 (by first | assumption | omega)) (cwV 2 hts g_X1_countHolders__X1_isHolder_49 rfl rfl rfl (by decide +kernel) ⟨Nat.le_of_ble_eq_true rfl, Nat.le_of_ble_eq_true rfl⟩) ⟨fun a U g mk q => by obtain ⟨q0, qP, qK⟩ := q; exact ⟨q0, qP, va_K.moved (u := U) (U := U.calling g mk a) (Vm.Alike.refl U.vm) qK⟩, va_recv hKc hPc (ci := 1) (q0 := 0) rfl rfl, fun U hU hW => ⟨rfl, by rw [hU]; exact hPc, va_K.moved hW.alike hKc⟩⟩ rfl rfl hl.1 rfl (lv_room (Nat.le_of_ble_eq_true rfl)) dX1_countHolders_15 ⟨Nat.le_of_ble_eq_true rfl, Nat.le_of_ble_eq_true rfl⟩) (fun r_1 hr_1 => ?_)
      try dsimp only at hr_1
      refine lv_if_eq (tgt := 24) hx hb dX1_countHolders_18 (by decide) (fun c_18 => ?_) (fun c_18 => ?_)
      · have t_18 := (fa_eq _ _).mp c_18
        obtain ⟨y_2, ey_2⟩ : ∃ y : Int32, y = t3 + 1 := ⟨_, rfl⟩
        have ty_2 : y_2.toInt = t3.toInt + 1 := by rw [ey_2]; have := fb_addI (x := t3) (y := 1) (by omega) (by omega); omega
        refine lv_iinc (v := y_2) (lv' := [(3, .int y_2), (0, .ref h0), (1, .ref hd), (2, .int n2)]) hx hb dX1_countHolders_24 hl (k := 3) rfl (by rw [ey_2]; rfl) (by decide) rfl (fun ls hl => ?_)
        refine lv_goto (tgt := 4) hx hb dX1_countHolders_27 (by decide) ?_
        exact ih_4 n2 y_2 (by omega) (by omega) (by omega) ls (lv_sub hl [1, 2, 3, 0] rfl)
      · have t_18 := mt (fa_eq _ _).mpr c_18
        obtain ⟨y_3, ey_3⟩ : ∃ y : Int32, y = n2 + 1 := ⟨_, rfl⟩
        refine lv_iinc (v := y_3) (lv' := [(2, .int y_3), (0, .ref h0), (1, .ref hd), (3, .int t3)]) hx hb dX1_countHolders_21 hl (k := 2) rfl (by rw [ey_3]; rfl) (by decide) rfl (fun ls hl => ?_)
        obtain ⟨y_4, ey_4⟩ : ∃ y : Int32, y = t3 + 1 := ⟨_, rfl⟩
        have ty_4 : y_4.toInt = t3.toInt + 1 := by rw [ey_4]; have := fb_addI (x := t3) (y := 1) (by omega) (by omega); omega
        refine lv_iinc (v := y_4) (lv' := [(3, .int y_4), (2, .int y_3), (0, .ref h0), (1, .ref hd)]) hx hb dX1_countHolders_24 hl (k := 3) rfl (by rw [ey_4]; rfl) (by decide) rfl (fun ls hl => ?_)
        refine lv_goto (tgt := 4) hx hb dX1_countHolders_27 (by decide) ?_
        exact ih_4 y_3 y_4 (by omega) (by omega) (by omega) ls (lv_sub hl [2, 3, 1, 0] rfl)
def wk_X1_firstHolder : List Cond := .code yX1_firstHolder cX1_firstHolder 3 (some .int) :: (([.fieldLink RX1 17 "MeetingsAbove$Catalogue" "size" "I"] : List Cond) ++ (wsX10 ++ ((wsV RX1 49 RX1 yX1_isHolder wk_X1_isHolder) ++ ([]))))
theorem in_X1_firstHolder_X1 : ∀ w ∈ wsX10, w ∈ wk_X1_firstHolder := fun _ h => List.mem_cons_of_mem _ (List.mem_append_right _ (List.mem_append_left _ h))
theorem gw_X1_firstHolder : AG wk_X1_firstHolder := AG_ca (AG_l (by decide +kernel)) (AG_app ag_X1 (AG_app (AG_V gw_X1_isHolder) (AG_nil)))
theorem g_X1_firstHolder__X1_isHolder_49 : GoodIn wk_X1_firstHolder (wsV RX1 49 RX1 yX1_isHolder wk_X1_isHolder) := goodIn_m (fun _ h => List.mem_cons_of_mem _ (List.mem_append_right _ (List.mem_append_right _ (List.mem_append_left _ h)))) (AG_V gw_X1_isHolder)
set_option maxHeartbeats 4000000 in
set_option maxRecDepth 100000 in
theorem c_X1_firstHolder (l : Launch) (dC : Nat → ClassId) (dI : Nat → Nat → Nat) (h0 : Nat) (na : Nat) (cT : ClassId) (sz9 : Int32) (ga : Nat → Option Nat) (cI : ClassId) (L : List Nat) (f : Nat → va_E) (hd : Nat) (ds : Int32) (dx : Int32) (dy : Int32) (dz : Int32) (hC : catOK L f cI sz9 ga) : Met l yX1_firstHolder wk_X1_firstHolder ({ frames := 4, cells := 0, slots := 0, locals := 85 }) (va_Pc [.ref h0, .ref hd] (fun U => va_P (dC, dI) vwCl (([(h0, .inr (1, [.ref na, .int sz9])), (na, .inl (cT, 16, .inr (.inr (.inr (.inr ga))))), (hd, .inr (2, [.int ds, .int dx, .int dy, .int dz]))] : va_W) ++ va_pl L f) U.heap ∧ va_K (dC, dI) vwCl [(cT, .object "MeetingsAbove$Thing"), (cI, .int)] U)) (vp_Si (fun r => True)) 0 0 (fun _ => False) := by
  refine Met.ofW (cc := cX1_firstHolder) (maxL := 3) (ret := (some .int)) (by decide) rfl ?_
  intro p e s m args below meth c s₁ B hml hv
  obtain ⟨rfl, hP, hK⟩ := hv
  have hx := B.exec
  have hb := B.bytes
  have hr := B.returns
  have hts := atoms_spec (ws := wk_X1_firstHolder) B.pre
  have hown : s.vm.findClass RX1 = some m.cls := findClass_of_methodNamed B.named
  have hlocks := B.notSynchronized
  have hP : va_P (dC, dI) vwCl (([(h0, .inr (1, [.ref na, .int sz9])), (na, .inl (cT, 16, .inr (.inr (.inr (.inr ga))))), (hd, .inr (2, [.int ds, .int dx, .int dy, .int dz]))] : va_W) ++ va_pl L f) s.heap := hP
  have hl := lv_entry ([.ref h0, .ref hd]) (n := 3) (Nat.le_of_ble_eq_true rfl)
  rw [lg_entry_eq]
  generalize (lg_sl ([.ref h0, .ref hd]) ++ List.replicate (3 - (lg_sl ([.ref h0, .ref hd])).length) Slot.unset).toArray = ls at hl ⊢
  have hl : lv_has ls 3 [(0, .ref h0), (1, .ref hd)] := hl
  have kl_m1 : (-1 : Int32).toInt = -1 := by decide
  have kl_0 : (0 : Int32).toInt = 0 := by decide
  have kl_1 : (1 : Int32).toInt = 1 := by decide
  obtain ⟨hC0, hC1, hC2⟩ := id hC
  refine lv_iconst (v := 0) hx hb dX1_firstHolder_0 (by decide) ?_
  refine lv_istore_n (lv' := [(2, .int 0), (0, .ref h0), (1, .ref hd)]) hx hb dX1_firstHolder_1 rfl hl (by decide) rfl (fun ls hl => ?_)
  refine (show ∀ (k : Nat) (t2 : Int32) (hk0 : 0 ≤ t2.toInt) (hk1 : t2.toInt ≤ sz9.toInt) (hk_2 : (sz9.toInt - t2.toInt).toNat < k) (ls : Array Slot) (hl : lv_has ls 3 [(0, .ref h0), (1, .ref hd), (2, .int t2)]), W p l e _ s m _ below meth c s.heap [] 0 0 _ (F0 m 2 ls []) from ?_) _ 0 (by omega) (by omega) (Nat.lt_succ_self _) ls (lv_sub hl [1, 2, 0] rfl)
  intro k
  induction k with
  | zero => intro t2 hk0 hk1 hk_2; exact absurd hk_2 (Nat.not_lt_zero _)
  | succ k ih_2 =>
    intro t2 hk0 hk1 hk_2 ls hl
    refine lv_iload_n hx hb dX1_firstHolder_2 rfl (lv_at hl 2 rfl) ?_
    refine lv_aload_n hx hb dX1_firstHolder_3 rfl (lv_at hl 0 rfl) ?_
    refine va_get (D := (dC, dI)) (ci := 1) (v := .int sz9) (C := RX1) (T := TX1) (N := 2) hx hb hts in_X1_firstHolder_X1 hown hK hP 0 rfl rfl 1 (by decide) (hts (.fieldLink RX1 17 "MeetingsAbove$Catalogue" "size" "I") (by decide +kernel)) (fun _ h9 => h9) rfl dX1_firstHolder_4 ?_
    refine lv_icmp_ge (tgt := 27) hx hb dX1_firstHolder_7 (by decide) (fun c_7 => ?_) (fun c_7 => ?_)
    · have t_7 := (fa_le _ _).mp c_7
      refine lv_iconst (v := (-1)) hx hb dX1_firstHolder_27 (by decide) ?_
      exact W.iret (v := (-1)) hx hb hr (fun t ht _ => ⟨_, rfl, trivial, ht⟩) (fun _ h => absurd h List.not_mem_nil) dX1_firstHolder_28
    · have t_7 := mt (fa_le _ _).mpr c_7
      refine lv_aload_n hx hb dX1_firstHolder_10 rfl (lv_at hl 0 rfl) ?_
      refine lv_iload_n hx hb dX1_firstHolder_11 rfl (lv_at hl 2 rfl) ?_
      refine lv_aload_n hx hb dX1_firstHolder_12 rfl (lv_at hl 1 rfl) ?_
      have hPc := hP.part (cx := [(h0, .inr (1, [.ref na, .int sz9])), (na, .inl (cT, 16, .inr (.inr (.inr (.inr ga))))), (hd, .inr (2, [.int ds, .int dx, .int dy, .int dz]))]) [0, 1, 2] rfl
      have hKc := hK.sub (tys' := [(cT, .object "MeetingsAbove$Thing"), (cI, .int)]) [0, 1] rfl
      refine vp_callSi (W.runV (As := [.int t2, .ref hd]) (rest := []) ⟨hx, hb, hml, hown, hts⟩ (c_X1_isHolder l dC dI h0 na cT sz9 ga cI L f hd ds dx dy dz t2 (by first | assumption | omega)) (cwV 2 hts g_X1_firstHolder__X1_isHolder_49 rfl rfl rfl (by decide +kernel) ⟨Nat.le_of_ble_eq_true rfl, Nat.le_of_ble_eq_true rfl⟩) ⟨fun a U g mk q => by obtain ⟨q0, qP, qK⟩ := q; exact ⟨q0, qP, va_K.moved (u := U) (U := U.calling g mk a) (Vm.Alike.refl U.vm) qK⟩, va_recv hKc hPc (ci := 1) (q0 := 0) rfl rfl, fun U hU hW => ⟨rfl, by rw [hU]; exact hPc, va_K.moved hW.alike hKc⟩⟩ rfl rfl hl.1 rfl (lv_room (Nat.le_of_ble_eq_true rfl)) dX1_firstHolder_13 ⟨Nat.le_of_ble_eq_true rfl, Nat.le_of_ble_eq_true rfl⟩) (fun r_1 hr_1 => ?_)
      try dsimp only at hr_1
      refine lv_if_eq (tgt := 21) hx hb dX1_firstHolder_16 (by decide) (fun c_16 => ?_) (fun c_16 => ?_)
      · have t_16 := (fa_eq _ _).mp c_16
        obtain ⟨y_2, ey_2⟩ : ∃ y : Int32, y = t2 + 1 := ⟨_, rfl⟩
        have ty_2 : y_2.toInt = t2.toInt + 1 := by rw [ey_2]; have := fb_addI (x := t2) (y := 1) (by omega) (by omega); omega
        refine lv_iinc (v := y_2) (lv' := [(2, .int y_2), (0, .ref h0), (1, .ref hd)]) hx hb dX1_firstHolder_21 hl (k := 2) rfl (by rw [ey_2]; rfl) (by decide) rfl (fun ls hl => ?_)
        refine lv_goto (tgt := 2) hx hb dX1_firstHolder_24 (by decide) ?_
        exact ih_2 y_2 (by omega) (by omega) (by omega) ls (lv_sub hl [1, 2, 0] rfl)
      · have t_16 := mt (fa_eq _ _).mpr c_16
        refine lv_iload_n hx hb dX1_firstHolder_19 rfl (lv_at hl 2 rfl) ?_
        exact W.iret (v := t2) hx hb hr (fun t ht _ => ⟨_, rfl, trivial, ht⟩) (fun _ h => absurd h List.not_mem_nil) dX1_firstHolder_20
def wk_X8_findDot : List Cond := .code yX8_findDot cX8_findDot 2 (some (.object "MeetingsAbove$Dot")) :: (([.fieldLink RX8 158 "MeetingsAbove" "dotCount" "I", .fieldLink RX8 24 "MeetingsAbove" "dots" "[LMeetingsAbove$Dot;"] : List Cond) ++ (wsX80 ++ ([])))
theorem in_X8_findDot_X8 : ∀ w ∈ wsX80, w ∈ wk_X8_findDot := fun _ h => List.mem_cons_of_mem _ (List.mem_append_right _ (List.mem_append_left _ h))
theorem gw_X8_findDot : AG wk_X8_findDot := AG_ca (AG_l (by decide +kernel)) (AG_app ag_X8 (AG_nil))
set_option maxHeartbeats 4000000 in
set_option maxRecDepth 100000 in
theorem c_X8_findDot (l : Launch) (dC : Nat → ClassId) (dI : Nat → Nat → Nat) (h0 : Nat) (n0 : Nat) (s0 : Nat) (s1 : Nat) (d0 : Nat) (o0 : Nat) (w0 : Nat) (e0 : Nat) (f0 : Nat) (t0 : Nat) (b0 : Nat) (dn : Int32) (nn : Int32) (la : Int32) (ne : Int32) (wi : Int32) (lm : Int32) (cD : ClassId) (gd : Nat → Option Nat) (p1 : Int32) : Met l yX8_findDot wk_X8_findDot ({ frames := 0, cells := 0, slots := 0, locals := 0 }) (va_Pc [.ref h0, .int p1] (fun U => va_P (dC, dI) vwCl [(h0, .inr (8, [.ref n0, .ref s0, .ref s1, .ref d0, .ref o0, .int dn, .int nn, .int la, .int ne, .int wi, .ref w0, .ref e0, .ref f0, .ref t0, .ref b0, .int lm])), (d0, .inl (cD, 40, .inr (.inr (.inr (.inr gd)))))] U.heap ∧ va_K (dC, dI) vwCl [(cD, .object "MeetingsAbove$Dot")] U)) (va_Sq (fun r => r = if 0 ≤ p1.toInt ∧ p1.toInt < dn.toInt ∧ p1.toInt < 40 then gd p1.toNatClampNeg else none)) 0 0 (fun _ => False) := by
  refine Met.ofW (cc := cX8_findDot) (maxL := 2) (ret := (some (.object "MeetingsAbove$Dot"))) (by decide) rfl ?_
  intro p e s m args below meth c s₁ B hml hv
  obtain ⟨rfl, hP, hK⟩ := hv
  have hx := B.exec
  have hb := B.bytes
  have hr := B.returns
  have hts := atoms_spec (ws := wk_X8_findDot) B.pre
  have hown : s.vm.findClass RX8 = some m.cls := findClass_of_methodNamed B.named
  have hlocks := B.notSynchronized
  have hP : va_P (dC, dI) vwCl [(h0, .inr (8, [.ref n0, .ref s0, .ref s1, .ref d0, .ref o0, .int dn, .int nn, .int la, .int ne, .int wi, .ref w0, .ref e0, .ref f0, .ref t0, .ref b0, .int lm])), (d0, .inl (cD, 40, .inr (.inr (.inr (.inr gd)))))] s.heap := hP
  have hl := lv_entry ([.ref h0, .int p1]) (n := 2) (Nat.le_of_ble_eq_true rfl)
  rw [lg_entry_eq]
  generalize (lg_sl ([.ref h0, .int p1]) ++ List.replicate (2 - (lg_sl ([.ref h0, .int p1])).length) Slot.unset).toArray = ls at hl ⊢
  have hl : lv_has ls 2 [(0, .ref h0), (1, .int p1)] := hl
  have kl_0 : (0 : Int32).toInt = 0 := by decide
  have kl_40 : (40 : Int32).toInt = 40 := by decide
  refine lv_iload_n hx hb dX8_findDot_0 rfl (lv_at hl 1 rfl) ?_
  refine lv_if_lt (tgt := 30) hx hb dX8_findDot_1 (by decide) (fun c_1 => ?_) (fun c_1 => ?_)
  · have t_1 := (fa_lt _ _).mp c_1
    refine lv_null hx hb dX8_findDot_30 ?_
    exact W.aret hx hb hr (Or.inl ⟨_, rfl⟩) (Or.inl rfl) (fun t ht _ => ⟨none, rfl, (by first | exact (if_pos (by omega)).symm | exact (if_neg (by omega)).symm), ht⟩) (fun _ h => absurd h List.not_mem_nil) dX8_findDot_31
  · have t_1 := mt (fa_lt _ _).mpr c_1
    refine lv_iload_n hx hb dX8_findDot_4 rfl (lv_at hl 1 rfl) ?_
    refine lv_aload_n hx hb dX8_findDot_5 rfl (lv_at hl 0 rfl) ?_
    refine va_get (D := (dC, dI)) (ci := 8) (v := .int dn) (C := RX8) (T := TX8) (N := 16) hx hb hts in_X8_findDot_X8 hown hK hP 0 rfl rfl 5 (by decide) (hts (.fieldLink RX8 158 "MeetingsAbove" "dotCount" "I") (by decide +kernel)) (fun _ h9 => h9) rfl dX8_findDot_6 ?_
    refine lv_icmp_ge (tgt := 30) hx hb dX8_findDot_9 (by decide) (fun c_9 => ?_) (fun c_9 => ?_)
    · have t_9 := (fa_le _ _).mp c_9
      refine lv_null hx hb dX8_findDot_30 ?_
      exact W.aret hx hb hr (Or.inl ⟨_, rfl⟩) (Or.inl rfl) (fun t ht _ => ⟨none, rfl, (by first | exact (if_pos (by omega)).symm | exact (if_neg (by omega)).symm), ht⟩) (fun _ h => absurd h List.not_mem_nil) dX8_findDot_31
    · have t_9 := mt (fa_le _ _).mpr c_9
      refine lv_iload_n hx hb dX8_findDot_12 rfl (lv_at hl 1 rfl) ?_
      refine lv_aload_n hx hb dX8_findDot_13 rfl (lv_at hl 0 rfl) ?_
      refine va_get (D := (dC, dI)) (ci := 8) (v := .ref d0) (C := RX8) (T := TX8) (N := 16) hx hb hts in_X8_findDot_X8 hown hK hP 0 rfl rfl 3 (by decide) (hts (.fieldLink RX8 24 "MeetingsAbove" "dots" "[LMeetingsAbove$Dot;") (by decide +kernel)) (fun _ h9 => h9) rfl dX8_findDot_14 ?_
      refine va_alen (v := 40) hx hb hK hP 1 0 rfl rfl rfl dX8_findDot_17 ?_
      refine lv_icmp_ge (tgt := 30) hx hb dX8_findDot_18 (by decide) (fun c_18 => ?_) (fun c_18 => ?_)
      · have t_18 := (fa_le _ _).mp c_18
        refine lv_null hx hb dX8_findDot_30 ?_
        exact W.aret hx hb hr (Or.inl ⟨_, rfl⟩) (Or.inl rfl) (fun t ht _ => ⟨none, rfl, (by first | exact (if_pos (by omega)).symm | exact (if_neg (by omega)).symm), ht⟩) (fun _ h => absurd h List.not_mem_nil) dX8_findDot_31
      · have t_18 := mt (fa_le _ _).mpr c_18
        refine lv_aload_n hx hb dX8_findDot_21 rfl (lv_at hl 0 rfl) ?_
        refine va_get (D := (dC, dI)) (ci := 8) (v := .ref d0) (C := RX8) (T := TX8) (N := 16) hx hb hts in_X8_findDot_X8 hown hK hP 0 rfl rfl 3 (by decide) (hts (.fieldLink RX8 24 "MeetingsAbove" "dots" "[LMeetingsAbove$Dot;") (by decide +kernel)) (fun _ h9 => h9) rfl dX8_findDot_22 ?_
        refine lv_iload_n hx hb dX8_findDot_25 rfl (lv_at hl 1 rfl) ?_
        refine va_aldq hx hb hK hP 1 0 rfl rfl (vp_in_iff.mpr ⟨by omega, by omega⟩) dX8_findDot_26 ?_
        refine lv_goto (tgt := 31) hx hb dX8_findDot_27 (by decide) ?_
        exact W.aret hx hb hr (Or.inl ⟨_, rfl⟩) (va_rf_or _) (fun t ht _ => ⟨(gd (p1 : Int32).toNatClampNeg), rfl, (by first | exact (if_pos (by omega)).symm | exact (if_neg (by omega)).symm), ht⟩) (fun _ h => absurd h List.not_mem_nil) dX8_findDot_31
def wk_X8_findNotice : List Cond := .code yX8_findNotice cX8_findNotice 2 (some (.object "MeetingsAbove$Notice")) :: (([.fieldLink RX8 164 "MeetingsAbove" "noticeCount" "I", .fieldLink RX8 30 "MeetingsAbove" "notices" "[LMeetingsAbove$Notice;"] : List Cond) ++ (wsX80 ++ ([])))
theorem in_X8_findNotice_X8 : ∀ w ∈ wsX80, w ∈ wk_X8_findNotice := fun _ h => List.mem_cons_of_mem _ (List.mem_append_right _ (List.mem_append_left _ h))
theorem gw_X8_findNotice : AG wk_X8_findNotice := AG_ca (AG_l (by decide +kernel)) (AG_app ag_X8 (AG_nil))
set_option maxHeartbeats 4000000 in
set_option maxRecDepth 100000 in
theorem c_X8_findNotice (l : Launch) (dC : Nat → ClassId) (dI : Nat → Nat → Nat) (h0 : Nat) (n0 : Nat) (s0 : Nat) (s1 : Nat) (d0 : Nat) (o0 : Nat) (w0 : Nat) (e0 : Nat) (f0 : Nat) (t0 : Nat) (b0 : Nat) (dn : Int32) (nn : Int32) (la : Int32) (ne : Int32) (wi : Int32) (lm : Int32) (cO : ClassId) (gn : Nat → Option Nat) (p1 : Int32) : Met l yX8_findNotice wk_X8_findNotice ({ frames := 0, cells := 0, slots := 0, locals := 0 }) (va_Pc [.ref h0, .int p1] (fun U => va_P (dC, dI) vwCl [(h0, .inr (8, [.ref n0, .ref s0, .ref s1, .ref d0, .ref o0, .int dn, .int nn, .int la, .int ne, .int wi, .ref w0, .ref e0, .ref f0, .ref t0, .ref b0, .int lm])), (o0, .inl (cO, 40, .inr (.inr (.inr (.inr gn)))))] U.heap ∧ va_K (dC, dI) vwCl [(cO, .object "MeetingsAbove$Notice")] U)) (va_Sq (fun r => r = if 0 ≤ p1.toInt ∧ p1.toInt < nn.toInt ∧ p1.toInt < 40 then gn p1.toNatClampNeg else none)) 0 0 (fun _ => False) := by
  refine Met.ofW (cc := cX8_findNotice) (maxL := 2) (ret := (some (.object "MeetingsAbove$Notice"))) (by decide) rfl ?_
  intro p e s m args below meth c s₁ B hml hv
  obtain ⟨rfl, hP, hK⟩ := hv
  have hx := B.exec
  have hb := B.bytes
  have hr := B.returns
  have hts := atoms_spec (ws := wk_X8_findNotice) B.pre
  have hown : s.vm.findClass RX8 = some m.cls := findClass_of_methodNamed B.named
  have hlocks := B.notSynchronized
  have hP : va_P (dC, dI) vwCl [(h0, .inr (8, [.ref n0, .ref s0, .ref s1, .ref d0, .ref o0, .int dn, .int nn, .int la, .int ne, .int wi, .ref w0, .ref e0, .ref f0, .ref t0, .ref b0, .int lm])), (o0, .inl (cO, 40, .inr (.inr (.inr (.inr gn)))))] s.heap := hP
  have hl := lv_entry ([.ref h0, .int p1]) (n := 2) (Nat.le_of_ble_eq_true rfl)
  rw [lg_entry_eq]
  generalize (lg_sl ([.ref h0, .int p1]) ++ List.replicate (2 - (lg_sl ([.ref h0, .int p1])).length) Slot.unset).toArray = ls at hl ⊢
  have hl : lv_has ls 2 [(0, .ref h0), (1, .int p1)] := hl
  have kl_0 : (0 : Int32).toInt = 0 := by decide
  have kl_40 : (40 : Int32).toInt = 40 := by decide
  refine lv_iload_n hx hb dX8_findNotice_0 rfl (lv_at hl 1 rfl) ?_
  refine lv_if_lt (tgt := 30) hx hb dX8_findNotice_1 (by decide) (fun c_1 => ?_) (fun c_1 => ?_)
  · have t_1 := (fa_lt _ _).mp c_1
    refine lv_null hx hb dX8_findNotice_30 ?_
    exact W.aret hx hb hr (Or.inl ⟨_, rfl⟩) (Or.inl rfl) (fun t ht _ => ⟨none, rfl, (by first | exact (if_pos (by omega)).symm | exact (if_neg (by omega)).symm), ht⟩) (fun _ h => absurd h List.not_mem_nil) dX8_findNotice_31
  · have t_1 := mt (fa_lt _ _).mpr c_1
    refine lv_iload_n hx hb dX8_findNotice_4 rfl (lv_at hl 1 rfl) ?_
    refine lv_aload_n hx hb dX8_findNotice_5 rfl (lv_at hl 0 rfl) ?_
    refine va_get (D := (dC, dI)) (ci := 8) (v := .int nn) (C := RX8) (T := TX8) (N := 16) hx hb hts in_X8_findNotice_X8 hown hK hP 0 rfl rfl 6 (by decide) (hts (.fieldLink RX8 164 "MeetingsAbove" "noticeCount" "I") (by decide +kernel)) (fun _ h9 => h9) rfl dX8_findNotice_6 ?_
    refine lv_icmp_ge (tgt := 30) hx hb dX8_findNotice_9 (by decide) (fun c_9 => ?_) (fun c_9 => ?_)
    · have t_9 := (fa_le _ _).mp c_9
      refine lv_null hx hb dX8_findNotice_30 ?_
      exact W.aret hx hb hr (Or.inl ⟨_, rfl⟩) (Or.inl rfl) (fun t ht _ => ⟨none, rfl, (by first | exact (if_pos (by omega)).symm | exact (if_neg (by omega)).symm), ht⟩) (fun _ h => absurd h List.not_mem_nil) dX8_findNotice_31
    · have t_9 := mt (fa_le _ _).mpr c_9
      refine lv_iload_n hx hb dX8_findNotice_12 rfl (lv_at hl 1 rfl) ?_
      refine lv_aload_n hx hb dX8_findNotice_13 rfl (lv_at hl 0 rfl) ?_
      refine va_get (D := (dC, dI)) (ci := 8) (v := .ref o0) (C := RX8) (T := TX8) (N := 16) hx hb hts in_X8_findNotice_X8 hown hK hP 0 rfl rfl 4 (by decide) (hts (.fieldLink RX8 30 "MeetingsAbove" "notices" "[LMeetingsAbove$Notice;") (by decide +kernel)) (fun _ h9 => h9) rfl dX8_findNotice_14 ?_
      refine va_alen (v := 40) hx hb hK hP 1 0 rfl rfl rfl dX8_findNotice_17 ?_
      refine lv_icmp_ge (tgt := 30) hx hb dX8_findNotice_18 (by decide) (fun c_18 => ?_) (fun c_18 => ?_)
      · have t_18 := (fa_le _ _).mp c_18
        refine lv_null hx hb dX8_findNotice_30 ?_
        exact W.aret hx hb hr (Or.inl ⟨_, rfl⟩) (Or.inl rfl) (fun t ht _ => ⟨none, rfl, (by first | exact (if_pos (by omega)).symm | exact (if_neg (by omega)).symm), ht⟩) (fun _ h => absurd h List.not_mem_nil) dX8_findNotice_31
      · have t_18 := mt (fa_le _ _).mpr c_18
        refine lv_aload_n hx hb dX8_findNotice_21 rfl (lv_at hl 0 rfl) ?_
        refine va_get (D := (dC, dI)) (ci := 8) (v := .ref o0) (C := RX8) (T := TX8) (N := 16) hx hb hts in_X8_findNotice_X8 hown hK hP 0 rfl rfl 4 (by decide) (hts (.fieldLink RX8 30 "MeetingsAbove" "notices" "[LMeetingsAbove$Notice;") (by decide +kernel)) (fun _ h9 => h9) rfl dX8_findNotice_22 ?_
        refine lv_iload_n hx hb dX8_findNotice_25 rfl (lv_at hl 1 rfl) ?_
        refine va_aldq hx hb hK hP 1 0 rfl rfl (vp_in_iff.mpr ⟨by omega, by omega⟩) dX8_findNotice_26 ?_
        refine lv_goto (tgt := 31) hx hb dX8_findNotice_27 (by decide) ?_
        exact W.aret hx hb hr (Or.inl ⟨_, rfl⟩) (va_rf_or _) (fun t ht _ => ⟨(gn (p1 : Int32).toNatClampNeg), rfl, (by first | exact (if_pos (by omega)).symm | exact (if_neg (by omega)).symm), ht⟩) (fun _ h => absurd h List.not_mem_nil) dX8_findNotice_31
