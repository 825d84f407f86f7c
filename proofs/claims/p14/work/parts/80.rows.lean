def wk_X6_lastStep : List Cond := .code yX6_lastStep cX6_lastStep 1 (some .int) :: (([.fieldLink RX6 15 "MeetingsAbove$Thing" "first" "I", .fieldLink RX6 19 "MeetingsAbove$Thing" "places" "I"] : List Cond) ++ (wsX60 ++ ([])))
theorem in_X6_lastStep_X6 : ∀ w ∈ wsX60, w ∈ wk_X6_lastStep := fun _ h => List.mem_cons_of_mem _ (List.mem_append_right _ (List.mem_append_left _ h))
theorem gw_X6_lastStep : AG wk_X6_lastStep := AG_ca (AG_l (by decide +kernel)) (AG_app ag_X6 (AG_nil))
set_option maxHeartbeats 4000000 in
set_option maxRecDepth 100000 in
theorem c_X6_lastStep (l : Launch) (dC : Nat → ClassId) (dI : Nat → Nat → Nat) (h0 : Nat) (x0 : Nat) (fi : Int32) (pl : Int32) (db : Int32) (go : Int32) (ht : tOK fi pl) : Met l yX6_lastStep wk_X6_lastStep ({ frames := 0, cells := 0, slots := 0, locals := 0 }) (va_Pc [.ref h0] (fun U => va_P (dC, dI) vwCl [(h0, .inr (6, [.ref x0, .int fi, .int pl, .int db, .int go]))] U.heap ∧ va_K (dC, dI) vwCl [] U)) (vp_Si (fun r => r.toInt = fi.toInt + pl.toInt - 1)) 0 0 (fun _ => False) := by
  refine Met.ofW (cc := cX6_lastStep) (maxL := 1) (ret := (some .int)) (by decide) rfl ?_
  intro p e s m args below meth c s₁ B hml hv
  obtain ⟨rfl, hP, hK⟩ := hv
  have hx := B.exec
  have hb := B.bytes
  have hr := B.returns
  have hts := atoms_spec (ws := wk_X6_lastStep) B.pre
  have hown : s.vm.findClass RX6 = some m.cls := findClass_of_methodNamed B.named
  have hlocks := B.notSynchronized
  have hP : va_P (dC, dI) vwCl [(h0, .inr (6, [.ref x0, .int fi, .int pl, .int db, .int go]))] s.heap := hP
  have hl := lv_entry ([.ref h0]) (n := 1) (Nat.le_of_ble_eq_true rfl)
  rw [lg_entry_eq]
  generalize (lg_sl ([.ref h0]) ++ List.replicate (1 - (lg_sl ([.ref h0])).length) Slot.unset).toArray = ls at hl ⊢
  have hl : lv_has ls 1 [(0, .ref h0)] := hl
  have kl_1 : (1 : Int32).toInt = 1 := by decide
  obtain ⟨hf0, hf1, hq0, hq1⟩ := id ht
  refine lv_aload_n hx hb dX6_lastStep_0 rfl (lv_at hl 0 rfl) ?_
  refine va_get (D := (dC, dI)) (ci := 6) (v := .int fi) (C := RX6) (T := TX6) (N := 5) hx hb hts in_X6_lastStep_X6 hown hK hP 0 rfl rfl 1 (by decide) (hts (.fieldLink RX6 15 "MeetingsAbove$Thing" "first" "I") (by decide +kernel)) (fun _ h9 => h9) rfl dX6_lastStep_1 ?_
  refine lv_aload_n hx hb dX6_lastStep_4 rfl (lv_at hl 0 rfl) ?_
  refine va_get (D := (dC, dI)) (ci := 6) (v := .int pl) (C := RX6) (T := TX6) (N := 5) hx hb hts in_X6_lastStep_X6 hown hK hP 0 rfl rfl 2 (by decide) (hts (.fieldLink RX6 19 "MeetingsAbove$Thing" "places" "I") (by decide +kernel)) (fun _ h9 => h9) rfl dX6_lastStep_5 ?_
  refine lv_iadd hx hb dX6_lastStep_8 ?_
  refine lv_topi (fun y_1 ey_1 => ?_)
  have ty_1 : y_1.toInt = fi.toInt + pl.toInt := by rw [ey_1]; have := fb_addI (x := fi) (y := pl) (by omega) (by omega); omega
  refine lv_iconst (v := 1) hx hb dX6_lastStep_9 (by decide) ?_
  refine lv_isub hx hb dX6_lastStep_10 ?_
  refine lv_topi (fun y_2 ey_2 => ?_)
  have ty_2 : y_2.toInt = y_1.toInt - 1 := by rw [ey_2]; have := fb_subI (x := y_1) (y := 1) (by omega) (by omega); omega
  exact W.iret (v := y_2) hx hb hr (fun t ht _ => ⟨_, rfl, (by omega), ht⟩) (fun _ h => absurd h List.not_mem_nil) dX6_lastStep_11
def wk_X6_hasPlace : List Cond := .code yX6_hasPlace cX6_hasPlace 2 (some .boolean) :: (([.fieldLink RX6 15 "MeetingsAbove$Thing" "first" "I"] : List Cond) ++ (wsX60 ++ ((wsV RX6 29 RX6 yX6_lastStep wk_X6_lastStep) ++ ([]))))
theorem in_X6_hasPlace_X6 : ∀ w ∈ wsX60, w ∈ wk_X6_hasPlace := fun _ h => List.mem_cons_of_mem _ (List.mem_append_right _ (List.mem_append_left _ h))
theorem gw_X6_hasPlace : AG wk_X6_hasPlace := AG_ca (AG_l (by decide +kernel)) (AG_app ag_X6 (AG_app (AG_V gw_X6_lastStep) (AG_nil)))
theorem g_X6_hasPlace__X6_lastStep_29 : GoodIn wk_X6_hasPlace (wsV RX6 29 RX6 yX6_lastStep wk_X6_lastStep) := goodIn_m (fun _ h => List.mem_cons_of_mem _ (List.mem_append_right _ (List.mem_append_right _ (List.mem_append_left _ h)))) (AG_V gw_X6_lastStep)
set_option maxHeartbeats 4000000 in
set_option maxRecDepth 100000 in
theorem c_X6_hasPlace (l : Launch) (dC : Nat → ClassId) (dI : Nat → Nat → Nat) (h0 : Nat) (x0 : Nat) (fi : Int32) (pl : Int32) (db : Int32) (go : Int32) (p1 : Int32) (ht : tOK fi pl) : Met l yX6_hasPlace wk_X6_hasPlace ({ frames := 1, cells := 0, slots := 0, locals := 20 }) (va_Pc [.ref h0, .int p1] (fun U => va_P (dC, dI) vwCl [(h0, .inr (6, [.ref x0, .int fi, .int pl, .int db, .int go]))] U.heap ∧ va_K (dC, dI) vwCl [] U)) (vp_Si (fun r => r = if fi.toInt ≤ p1.toInt ∧ p1.toInt < fi.toInt + pl.toInt then 1 else 0)) 0 0 (fun _ => False) := by
  refine Met.ofW (cc := cX6_hasPlace) (maxL := 2) (ret := (some .boolean)) (by decide) rfl ?_
  intro p e s m args below meth c s₁ B hml hv
  obtain ⟨rfl, hP, hK⟩ := hv
  have hx := B.exec
  have hb := B.bytes
  have hr := B.returns
  have hts := atoms_spec (ws := wk_X6_hasPlace) B.pre
  have hown : s.vm.findClass RX6 = some m.cls := findClass_of_methodNamed B.named
  have hlocks := B.notSynchronized
  have hP : va_P (dC, dI) vwCl [(h0, .inr (6, [.ref x0, .int fi, .int pl, .int db, .int go]))] s.heap := hP
  have hl := lv_entry ([.ref h0, .int p1]) (n := 2) (Nat.le_of_ble_eq_true rfl)
  rw [lg_entry_eq]
  generalize (lg_sl ([.ref h0, .int p1]) ++ List.replicate (2 - (lg_sl ([.ref h0, .int p1])).length) Slot.unset).toArray = ls at hl ⊢
  have hl : lv_has ls 2 [(0, .ref h0), (1, .int p1)] := hl
  have kl_0 : (0 : Int32).toInt = 0 := by decide
  have kl_1 : (1 : Int32).toInt = 1 := by decide
  obtain ⟨hf0, hf1, hq0, hq1⟩ := id ht
  refine lv_iload_n hx hb dX6_hasPlace_0 rfl (lv_at hl 1 rfl) ?_
  refine lv_aload_n hx hb dX6_hasPlace_1 rfl (lv_at hl 0 rfl) ?_
  refine va_get (D := (dC, dI)) (ci := 6) (v := .int fi) (C := RX6) (T := TX6) (N := 5) hx hb hts in_X6_hasPlace_X6 hown hK hP 0 rfl rfl 1 (by decide) (hts (.fieldLink RX6 15 "MeetingsAbove$Thing" "first" "I") (by decide +kernel)) (fun _ h9 => h9) rfl dX6_hasPlace_2 ?_
  refine lv_icmp_lt (tgt := 20) hx hb dX6_hasPlace_5 (by decide) (fun c_5 => ?_) (fun c_5 => ?_)
  · have t_5 := (fa_lt _ _).mp c_5
    refine lv_iconst (v := 0) hx hb dX6_hasPlace_20 (by decide) ?_
    exact W.zret (v := 0) hx hb hr rfl (fun t ht _ => ⟨_, rfl, (by first | exact (if_pos (by omega)).symm | exact (if_neg (by omega)).symm), ht⟩) (fun _ h => absurd h List.not_mem_nil) dX6_hasPlace_21
  · have t_5 := mt (fa_lt _ _).mpr c_5
    refine lv_iload_n hx hb dX6_hasPlace_8 rfl (lv_at hl 1 rfl) ?_
    refine lv_aload_n hx hb dX6_hasPlace_9 rfl (lv_at hl 0 rfl) ?_
    have hPc := hP.sub (ws' := [(h0, .inr (6, [.ref x0, .int fi, .int pl, .int db, .int go]))]) [0] rfl
    have hKc := hK.sub (tys' := []) [] rfl
    refine vp_callSi (W.runV (As := []) (rest := [.int p1]) ⟨hx, hb, hml, hown, hts⟩ (c_X6_lastStep l dC dI h0 x0 fi pl db go (by first | assumption | omega)) (cwV 0 hts g_X6_hasPlace__X6_lastStep_29 rfl rfl rfl (by decide +kernel) ⟨Nat.le_of_ble_eq_true rfl, Nat.le_of_ble_eq_true rfl⟩) ⟨fun a U g mk q => by obtain ⟨q0, qP, qK⟩ := q; exact ⟨q0, qP, va_K.moved (u := U) (U := U.calling g mk a) (Vm.Alike.refl U.vm) qK⟩, va_recv hKc hPc (ci := 6) (q0 := 0) rfl rfl, fun U hU hW => ⟨rfl, by rw [hU]; exact hPc, va_K.moved hW.alike hKc⟩⟩ rfl rfl hl.1 rfl (lv_room (Nat.le_of_ble_eq_true rfl)) dX6_hasPlace_10 ⟨Nat.le_of_ble_eq_true rfl, Nat.le_of_ble_eq_true rfl⟩) (fun r_1 hr_1 => ?_)
    try dsimp only at hr_1
    refine lv_icmp_gt (tgt := 20) hx hb dX6_hasPlace_13 (by decide) (fun c_13 => ?_) (fun c_13 => ?_)
    · have t_13 := (fa_lt _ _).mp c_13
      refine lv_iconst (v := 0) hx hb dX6_hasPlace_20 (by decide) ?_
      exact W.zret (v := 0) hx hb hr rfl (fun t ht _ => ⟨_, rfl, (by first | exact (if_pos (by omega)).symm | exact (if_neg (by omega)).symm), ht⟩) (fun _ h => absurd h List.not_mem_nil) dX6_hasPlace_21
    · have t_13 := mt (fa_lt _ _).mpr c_13
      refine lv_iconst (v := 1) hx hb dX6_hasPlace_16 (by decide) ?_
      refine lv_goto (tgt := 21) hx hb dX6_hasPlace_17 (by decide) ?_
      exact W.zret (v := 1) hx hb hr rfl (fun t ht _ => ⟨_, rfl, (by first | exact (if_pos (by omega)).symm | exact (if_neg (by omega)).symm), ht⟩) (fun _ h => absurd h List.not_mem_nil) dX6_hasPlace_21
def wk_X6_coord : List Cond := .code yX6_coord cX6_coord 4 (some .int) :: (([.fieldLink RX6 15 "MeetingsAbove$Thing" "first" "I", .fieldLink RX6 9 "MeetingsAbove$Thing" "coords" "[I"] : List Cond) ++ (wsX60 ++ ([])))
theorem in_X6_coord_X6 : ∀ w ∈ wsX60, w ∈ wk_X6_coord := fun _ h => List.mem_cons_of_mem _ (List.mem_append_right _ (List.mem_append_left _ h))
theorem gw_X6_coord : AG wk_X6_coord := AG_ca (AG_l (by decide +kernel)) (AG_app ag_X6 (AG_nil))
set_option maxHeartbeats 4000000 in
set_option maxRecDepth 100000 in
theorem c_X6_coord (l : Launch) (dC : Nat → ClassId) (dI : Nat → Nat → Nat) (h0 : Nat) (x0 : Nat) (fi : Int32) (pl : Int32) (db : Int32) (go : Int32) (g : Nat → Int32) (cI : ClassId) (p1 : Int32) (p2 : Int32) (hf0 : 0 ≤ fi.toInt) (hf1 : fi.toInt ≤ 39) (hs0 : fi.toInt ≤ p1.toInt) (hs1 : p1.toInt < fi.toInt + 12) (hx0 : 0 ≤ p2.toInt) (hx1 : p2.toInt ≤ 2) : Met l yX6_coord wk_X6_coord ({ frames := 0, cells := 0, slots := 0, locals := 0 }) (va_Pc [.ref h0, .int p1, .int p2] (fun U => va_P (dC, dI) vwCl [(h0, .inr (6, [.ref x0, .int fi, .int pl, .int db, .int go])), (x0, .inl (cI, 36, .inl g))] U.heap ∧ va_K (dC, dI) vwCl [(cI, .int)] U)) (vp_Si (fun r => r = g (ixc fi p1 p2))) 0 0 (fun _ => False) := by
  refine Met.ofW (cc := cX6_coord) (maxL := 4) (ret := (some .int)) (by decide) rfl ?_
  intro p e s m args below meth c s₁ B hml hv
  obtain ⟨rfl, hP, hK⟩ := hv
  have hx := B.exec
  have hb := B.bytes
  have hr := B.returns
  have hts := atoms_spec (ws := wk_X6_coord) B.pre
  have hown : s.vm.findClass RX6 = some m.cls := findClass_of_methodNamed B.named
  have hlocks := B.notSynchronized
  have hP : va_P (dC, dI) vwCl [(h0, .inr (6, [.ref x0, .int fi, .int pl, .int db, .int go])), (x0, .inl (cI, 36, .inl g))] s.heap := hP
  have hl := lv_entry ([.ref h0, .int p1, .int p2]) (n := 4) (Nat.le_of_ble_eq_true rfl)
  rw [lg_entry_eq]
  generalize (lg_sl ([.ref h0, .int p1, .int p2]) ++ List.replicate (4 - (lg_sl ([.ref h0, .int p1, .int p2])).length) Slot.unset).toArray = ls at hl ⊢
  have hl : lv_has ls 4 [(0, .ref h0), (1, .int p1), (2, .int p2)] := hl
  have kl_0 : (0 : Int32).toInt = 0 := by decide
  have kl_3 : (3 : Int32).toInt = 3 := by decide
  have kl_36 : (36 : Int32).toInt = 36 := by decide
  refine lv_iconst (v := 3) hx hb dX6_coord_0 (by decide) ?_
  refine lv_iload_n hx hb dX6_coord_1 rfl (lv_at hl 1 rfl) ?_
  refine lv_aload_n hx hb dX6_coord_2 rfl (lv_at hl 0 rfl) ?_
  refine va_get (D := (dC, dI)) (ci := 6) (v := .int fi) (C := RX6) (T := TX6) (N := 5) hx hb hts in_X6_coord_X6 hown hK hP 0 rfl rfl 1 (by decide) (hts (.fieldLink RX6 15 "MeetingsAbove$Thing" "first" "I") (by decide +kernel)) (fun _ h9 => h9) rfl dX6_coord_3 ?_
  refine lv_isub hx hb dX6_coord_6 ?_
  refine lv_topi (fun y_1 ey_1 => ?_)
  have ty_1 : y_1.toInt = p1.toInt - fi.toInt := by rw [ey_1]; have := fb_subI (x := p1) (y := fi) (by omega) (by omega); omega
  refine lv_imul hx hb dX6_coord_7 ?_
  refine lv_topi (fun y_2 ey_2 => ?_)
  have ty_2 : y_2.toInt = 3 * y_1.toInt := by rw [ey_2]; exact fm_lI kl_3 (by omega) (by omega)
  refine lv_iload_n hx hb dX6_coord_8 rfl (lv_at hl 2 rfl) ?_
  refine lv_iadd hx hb dX6_coord_9 ?_
  refine lv_topi (fun y_3 ey_3 => ?_)
  have ty_3 : y_3.toInt = y_2.toInt + p2.toInt := by rw [ey_3]; have := fb_addI (x := y_2) (y := p2) (by omega) (by omega); omega
  refine lv_istore_n (lv' := [(3, .int y_3), (0, .ref h0), (1, .int p1), (2, .int p2)]) hx hb dX6_coord_10 rfl hl (by decide) rfl (fun ls hl => ?_)
  refine lv_iload_n hx hb dX6_coord_11 rfl (lv_at hl 0 rfl) ?_
  refine lv_if_lt (tgt := 33) hx hb dX6_coord_12 (by decide) (fun c_12 => by have t_12 := (fa_lt _ _).mp c_12; exfalso; omega) (fun c_12 => ?_)
  have t_12 := mt (fa_lt _ _).mpr c_12
  refine lv_iload_n hx hb dX6_coord_15 rfl (lv_at hl 0 rfl) ?_
  refine lv_aload_n hx hb dX6_coord_16 rfl (lv_at hl 1 rfl) ?_
  refine va_get (D := (dC, dI)) (ci := 6) (v := .ref x0) (C := RX6) (T := TX6) (N := 5) hx hb hts in_X6_coord_X6 hown hK hP 0 rfl rfl 0 (by decide) (hts (.fieldLink RX6 9 "MeetingsAbove$Thing" "coords" "[I") (by decide +kernel)) (fun _ h9 => h9) rfl dX6_coord_17 ?_
  refine va_alen (v := 36) hx hb hK hP 1 0 rfl rfl rfl dX6_coord_20 ?_
  refine lv_icmp_ge (tgt := 33) hx hb dX6_coord_21 (by decide) (fun c_21 => by have t_21 := (fa_le _ _).mp c_21; exfalso; omega) (fun c_21 => ?_)
  have t_21 := mt (fa_le _ _).mpr c_21
  refine lv_aload_n hx hb dX6_coord_24 rfl (lv_at hl 1 rfl) ?_
  refine va_get (D := (dC, dI)) (ci := 6) (v := .ref x0) (C := RX6) (T := TX6) (N := 5) hx hb hts in_X6_coord_X6 hown hK hP 0 rfl rfl 0 (by decide) (hts (.fieldLink RX6 9 "MeetingsAbove$Thing" "coords" "[I") (by decide +kernel)) (fun _ h9 => h9) rfl dX6_coord_25 ?_
  refine lv_iload_n hx hb dX6_coord_28 rfl (lv_at hl 0 rfl) ?_
  refine va_iald hx hb hK hP 1 0 rfl rfl (vp_in_iff.mpr ⟨by omega, by omega⟩) dX6_coord_29 ?_
  refine lv_topi (fun y_4 ey_4 => ?_)
  refine lv_goto (tgt := 34) hx hb dX6_coord_30 (by decide) ?_
  exact W.iret (v := y_4) hx hb hr (fun t ht _ => ⟨_, rfl, (ix_eq ey_4 (by omega)), ht⟩) (fun _ h => absurd h List.not_mem_nil) dX6_coord_34
def wk_X6_move : List Cond := .code yX6_move cX6_move 5 none :: (([.fieldLink RX6 15 "MeetingsAbove$Thing" "first" "I", .fieldLink RX6 9 "MeetingsAbove$Thing" "coords" "[I"] : List Cond) ++ (wsX60 ++ ([])))
theorem in_X6_move_X6 : ∀ w ∈ wsX60, w ∈ wk_X6_move := fun _ h => List.mem_cons_of_mem _ (List.mem_append_right _ (List.mem_append_left _ h))
theorem gw_X6_move : AG wk_X6_move := AG_ca (AG_l (by decide +kernel)) (AG_app ag_X6 (AG_nil))
set_option maxHeartbeats 4000000 in
set_option maxRecDepth 100000 in
theorem c_X6_move (l : Launch) (dC : Nat → ClassId) (dI : Nat → Nat → Nat) (h0 : Nat) (x0 : Nat) (fi : Int32) (pl : Int32) (db : Int32) (go : Int32) (g : Nat → Int32) (cI : ClassId) (p1 : Int32) (p2 : Int32) (p3 : Int32) (sz : Nat) (hf0 : 0 ≤ fi.toInt) (hf1 : fi.toInt ≤ 39) (hs0 : fi.toInt ≤ p1.toInt) (hs1 : p1.toInt < fi.toInt + 12) (hx0 : 0 ≤ p2.toInt) (hx1 : p2.toInt ≤ 2) : Met l yX6_move wk_X6_move ({ frames := 0, cells := 0, slots := 0, locals := 0 }) (va_Pc [.ref h0, .int p1, .int p2, .int p3] (fun U => U.heap.size = sz ∧ va_P (dC, dI) vwCl [(h0, .inr (6, [.ref x0, .int fi, .int pl, .int db, .int go])), (x0, .inl (cI, 36, .inl g))] U.heap ∧ va_K (dC, dI) vwCl [(cI, .int)] U ∧ va_D (fun _ => True) [(h0, .inr (6, [.ref x0, .int fi, .int pl, .int db, .int go])), (x0, .inl (cI, 36, .inl g))])) (va_Qv (fun (_ : Unit) => True) (fun (_ : Unit) (t : State) => ∃ (g9 : Nat → Int32), va_P (dC, dI) vwCl [(h0, .inr (6, [.ref x0, .int fi, .int pl, .int db, .int go])), (x0, .inl (cI, 36, .inl g9))] t.heap ∧ va_K (dC, dI) vwCl [(cI, .int)] t ∧ va_D (va_A [(h0, .inr (6, [.ref x0, .int fi, .int pl, .int db, .int go])), (x0, .inl (cI, 36, .inl g))] sz) [(h0, .inr (6, [.ref x0, .int fi, .int pl, .int db, .int go])), (x0, .inl (cI, 36, .inl g9))] ∧ g9 = upd g (ixc fi p1 p2) (g (ixc fi p1 p2) + p3)) (va_A [(h0, .inr (6, [.ref x0, .int fi, .int pl, .int db, .int go])), (x0, .inl (cI, 36, .inl g))] sz)) 0 0 (va_A [(h0, .inr (6, [.ref x0, .int fi, .int pl, .int db, .int go])), (x0, .inl (cI, 36, .inl g))] sz) := by
  refine Met.ofW (cc := cX6_move) (maxL := 5) (ret := none) (by decide) rfl ?_
  intro p e s m args below meth c s₁ B hml hv
  obtain ⟨rfl, hsz, hP, hK, hD0⟩ := hv
  have hx := B.exec
  have hb := B.bytes
  have hr := B.returns
  have hts := atoms_spec (ws := wk_X6_move) B.pre
  have hown : s.vm.findClass RX6 = some m.cls := findClass_of_methodNamed B.named
  have hlocks := B.notSynchronized
  subst hsz
  have hD := hD0.self (sz := s.heap.size)
  generalize hAe : va_A [(h0, .inr (6, [.ref x0, .int fi, .int pl, .int db, .int go])), (x0, .inl (cI, 36, .inl g))] s.heap.size = A at hD ⊢
  have hA : ∀ q : Nat, s.heap.size ≤ q → A q := fun q h => by rw [← hAe]; exact Or.inr h
  have hS : va_S A s.heap s.heap [] := va_S.rf
  have hP : va_P (dC, dI) vwCl [(h0, .inr (6, [.ref x0, .int fi, .int pl, .int db, .int go])), (x0, .inl (cI, 36, .inl g))] s.heap := hP
  have hl := lv_entry ([.ref h0, .int p1, .int p2, .int p3]) (n := 5) (Nat.le_of_ble_eq_true rfl)
  rw [lg_entry_eq]
  generalize (lg_sl ([.ref h0, .int p1, .int p2, .int p3]) ++ List.replicate (5 - (lg_sl ([.ref h0, .int p1, .int p2, .int p3])).length) Slot.unset).toArray = ls at hl ⊢
  have hl : lv_has ls 5 [(0, .ref h0), (1, .int p1), (2, .int p2), (3, .int p3)] := hl
  have kl_0 : (0 : Int32).toInt = 0 := by decide
  have kl_3 : (3 : Int32).toInt = 3 := by decide
  have kl_36 : (36 : Int32).toInt = 36 := by decide
  refine lv_iconst (v := 3) hx hb dX6_move_0 (by decide) ?_
  refine lv_iload_n hx hb dX6_move_1 rfl (lv_at hl 1 rfl) ?_
  refine lv_aload_n hx hb dX6_move_2 rfl (lv_at hl 0 rfl) ?_
  refine va_get (D := (dC, dI)) (ci := 6) (v := .int fi) (C := RX6) (T := TX6) (N := 5) hx hb hts in_X6_move_X6 hown hK hP 0 rfl rfl 1 (by decide) (hts (.fieldLink RX6 15 "MeetingsAbove$Thing" "first" "I") (by decide +kernel)) (fun _ h9 => h9) rfl dX6_move_3 ?_
  refine lv_isub hx hb dX6_move_6 ?_
  refine lv_topi (fun y_1 ey_1 => ?_)
  have ty_1 : y_1.toInt = p1.toInt - fi.toInt := by rw [ey_1]; have := fb_subI (x := p1) (y := fi) (by omega) (by omega); omega
  refine lv_imul hx hb dX6_move_7 ?_
  refine lv_topi (fun y_2 ey_2 => ?_)
  have ty_2 : y_2.toInt = 3 * y_1.toInt := by rw [ey_2]; exact fm_lI kl_3 (by omega) (by omega)
  refine lv_iload_n hx hb dX6_move_8 rfl (lv_at hl 2 rfl) ?_
  refine lv_iadd hx hb dX6_move_9 ?_
  refine lv_topi (fun y_3 ey_3 => ?_)
  have ty_3 : y_3.toInt = y_2.toInt + p2.toInt := by rw [ey_3]; have := fb_addI (x := y_2) (y := p2) (by omega) (by omega); omega
  refine lv_istore (lv' := [(4, .int y_3), (0, .ref h0), (1, .int p1), (2, .int p2), (3, .int p3)]) hx hb dX6_move_10 hl (by decide) rfl (fun ls hl => ?_)
  refine lv_iload hx hb dX6_move_12 (lv_at hl 0 rfl) ?_
  refine lv_if_lt (tgt := 38) hx hb dX6_move_14 (by decide) (fun c_14 => by have t_14 := (fa_lt _ _).mp c_14; exfalso; omega) (fun c_14 => ?_)
  have t_14 := mt (fa_lt _ _).mpr c_14
  refine lv_iload hx hb dX6_move_17 (lv_at hl 0 rfl) ?_
  refine lv_aload_n hx hb dX6_move_19 rfl (lv_at hl 1 rfl) ?_
  refine va_get (D := (dC, dI)) (ci := 6) (v := .ref x0) (C := RX6) (T := TX6) (N := 5) hx hb hts in_X6_move_X6 hown hK hP 0 rfl rfl 0 (by decide) (hts (.fieldLink RX6 9 "MeetingsAbove$Thing" "coords" "[I") (by decide +kernel)) (fun _ h9 => h9) rfl dX6_move_20 ?_
  refine va_alen (v := 36) hx hb hK hP 1 0 rfl rfl rfl dX6_move_23 ?_
  refine lv_icmp_ge (tgt := 38) hx hb dX6_move_24 (by decide) (fun c_24 => by have t_24 := (fa_le _ _).mp c_24; exfalso; omega) (fun c_24 => ?_)
  have t_24 := mt (fa_le _ _).mpr c_24
  refine lv_aload_n hx hb dX6_move_27 rfl (lv_at hl 1 rfl) ?_
  refine va_get (D := (dC, dI)) (ci := 6) (v := .ref x0) (C := RX6) (T := TX6) (N := 5) hx hb hts in_X6_move_X6 hown hK hP 0 rfl rfl 0 (by decide) (hts (.fieldLink RX6 9 "MeetingsAbove$Thing" "coords" "[I") (by decide +kernel)) (fun _ h9 => h9) rfl dX6_move_28 ?_
  refine lv_iload hx hb dX6_move_31 (lv_at hl 0 rfl) ?_
  refine lv_dup2_11 hx hb dX6_move_33 rfl rfl ?_
  refine va_iald hx hb hK hP 1 0 rfl rfl (vp_in_iff.mpr ⟨by omega, by omega⟩) dX6_move_34 ?_
  refine lv_topi (fun y_4 ey_4 => ?_)
  refine lv_iload_n hx hb dX6_move_35 rfl (lv_at hl 4 rfl) ?_
  refine lv_iadd hx hb dX6_move_36 ?_
  refine lv_topi (fun y_5 ey_5 => ?_)
  refine va_iast hx hb hK hP hD hS 1 0 rfl rfl (vp_in_iff.mpr ⟨by omega, by omega⟩) dX6_move_37 (fun H locs hP hD hS => ?_)
  have hP : va_P (dC, dI) vwCl [(h0, .inr (6, [.ref x0, .int fi, .int pl, .int db, .int go])), (x0, .inl (cI, 36, .inl (upd g (y_3 : Int32).toNatClampNeg y_5)))] H := hP
  have hD : va_D A [(h0, .inr (6, [.ref x0, .int fi, .int pl, .int db, .int go])), (x0, .inl (cI, 36, .inl (upd g (y_3 : Int32).toNatClampNeg y_5)))] := hD
  have hP9 := hP.sub (ws' := [(h0, .inr (6, [.ref x0, .int fi, .int pl, .int db, .int go])), (x0, .inl (cI, 36, .inl (upd g (y_3 : Int32).toNatClampNeg y_5)))]) [0, 1] rfl
  have hD9 := hD.sub (ws' := [(h0, .inr (6, [.ref x0, .int fi, .int pl, .int db, .int go])), (x0, .inl (cI, 36, .inl (upd g (y_3 : Int32).toNatClampNeg y_5)))]) [0, 1] (by decide) rfl
  have hK9 := hK.sub (tys' := [(cI, .int)]) [0] rfl
  refine W.widen (k := 0) (n := 0) (by omega) (by omega) ?_
  exact W.vret hx hb hr (fun t ht hW => ⟨⟨(), rfl, trivial, (upd g (y_3 : Int32).toNatClampNeg y_5), by rw [ht]; exact hP9, va_K.moved hW.alike hK9, hD9, (by rw [ey_5, ey_4, cl_eq (y := y_3) (z := 3 * (p1.toInt - fi.toInt) + p2.toInt) (by omega)]; rfl)⟩, hS.F ht⟩) hS.2.2 dX6_move_38
def wk_X6_lowest : List Cond := .code yX6_lowest cX6_lowest 6 (some .int) :: (([.methodLink RX6 37 Lib.Math.min.name, .static Lib.Math.min.name, .initialized "java/lang/Math", .code Lib.Math.min.name Lib.Math.min.code 2 (some .int)] : List Cond) ++ ((wsV RX6 33 RX6 yX6_coord wk_X6_coord) ++ ([])))
theorem gw_X6_lowest : AG wk_X6_lowest := AG_ca (AG_l (by decide +kernel)) (AG_app (AG_V gw_X6_coord) (AG_nil))
theorem g_X6_lowest__X6_coord_33 : GoodIn wk_X6_lowest (wsV RX6 33 RX6 yX6_coord wk_X6_coord) := goodIn_m (fun _ h => List.mem_cons_of_mem _ (List.mem_append_right _ (List.mem_append_left _ h))) (AG_V gw_X6_coord)
set_option maxHeartbeats 4000000 in
set_option maxRecDepth 100000 in
theorem c_X6_lowest (l : Launch) (dC : Nat → ClassId) (dI : Nat → Nat → Nat) (h0 : Nat) (x0 : Nat) (fi : Int32) (pl : Int32) (db : Int32) (go : Int32) (g : Nat → Int32) (cI : ClassId) (p1 : Int32) (p2 : Int32) (p3 : Int32) (ht : tOK fi pl) (hs0 : fi.toInt ≤ p1.toInt) (hs1 : p2.toInt < fi.toInt + pl.toInt) (hs2 : p1.toInt ≤ p2.toInt) (hx0 : 0 ≤ p3.toInt) (hx1 : p3.toInt ≤ 2) : Met l yX6_lowest wk_X6_lowest ({ frames := 1, cells := 0, slots := 0, locals := 23 }) (va_Pc [.ref h0, .int p1, .int p2, .int p3] (fun U => va_P (dC, dI) vwCl [(h0, .inr (6, [.ref x0, .int fi, .int pl, .int db, .int go])), (x0, .inl (cI, 36, .inl g))] U.heap ∧ va_K (dC, dI) vwCl [(cI, .int)] U)) (vp_Si (fun r => True)) 0 0 (fun _ => False) := by
  refine Met.ofW (cc := cX6_lowest) (maxL := 6) (ret := (some .int)) (by decide) rfl ?_
  intro p e s m args below meth c s₁ B hml hv
  obtain ⟨rfl, hP, hK⟩ := hv
  have hx := B.exec
  have hb := B.bytes
  have hr := B.returns
  have hts := atoms_spec (ws := wk_X6_lowest) B.pre
  have hown : s.vm.findClass RX6 = some m.cls := findClass_of_methodNamed B.named
  have hlocks := B.notSynchronized
  have hP : va_P (dC, dI) vwCl [(h0, .inr (6, [.ref x0, .int fi, .int pl, .int db, .int go])), (x0, .inl (cI, 36, .inl g))] s.heap := hP
  have hl := lv_entry ([.ref h0, .int p1, .int p2, .int p3]) (n := 6) (Nat.le_of_ble_eq_true rfl)
  rw [lg_entry_eq]
  generalize (lg_sl ([.ref h0, .int p1, .int p2, .int p3]) ++ List.replicate (6 - (lg_sl ([.ref h0, .int p1, .int p2, .int p3])).length) Slot.unset).toArray = ls at hl ⊢
  have hl : lv_has ls 6 [(0, .ref h0), (1, .int p1), (2, .int p2), (3, .int p3)] := hl
  have kl_1 : (1 : Int32).toInt = 1 := by decide
  obtain ⟨hf0, hf1, hq0, hq1⟩ := id ht
  refine lv_aload_n hx hb dX6_lowest_0 rfl (lv_at hl 0 rfl) ?_
  refine lv_iload_n hx hb dX6_lowest_1 rfl (lv_at hl 1 rfl) ?_
  refine lv_iload_n hx hb dX6_lowest_2 rfl (lv_at hl 3 rfl) ?_
  have hPc := hP.sub (ws' := [(h0, .inr (6, [.ref x0, .int fi, .int pl, .int db, .int go])), (x0, .inl (cI, 36, .inl g))]) [0, 1] rfl
  have hKc := hK.sub (tys' := [(cI, .int)]) [0] rfl
  refine vp_callSi (W.runV (As := [.int p1, .int p3]) (rest := []) ⟨hx, hb, hml, hown, hts⟩ (c_X6_coord l dC dI h0 x0 fi pl db go g cI p1 p3 (by first | omega | assumption) (by first | omega | assumption) (by first | omega | assumption) (by first | omega | assumption) (by first | omega | assumption) (by first | omega | assumption)) (cwV 2 hts g_X6_lowest__X6_coord_33 rfl rfl rfl (by decide +kernel) ⟨Nat.le_of_ble_eq_true rfl, Nat.le_of_ble_eq_true rfl⟩) ⟨fun a U g mk q => by obtain ⟨q0, qP, qK⟩ := q; exact ⟨q0, qP, va_K.moved (u := U) (U := U.calling g mk a) (Vm.Alike.refl U.vm) qK⟩, va_recv hKc hPc (ci := 6) (q0 := 0) rfl rfl, fun U hU hW => ⟨rfl, by rw [hU]; exact hPc, va_K.moved hW.alike hKc⟩⟩ rfl rfl hl.1 rfl (lv_room (Nat.le_of_ble_eq_true rfl)) dX6_lowest_3 ⟨Nat.le_of_ble_eq_true rfl, Nat.le_of_ble_eq_true rfl⟩) (fun r_1 hr_1 => ?_)
  try dsimp only at hr_1
  refine lv_istore (lv' := [(4, .int r_1), (0, .ref h0), (1, .int p1), (2, .int p2), (3, .int p3)]) hx hb dX6_lowest_6 hl (by decide) rfl (fun ls hl => ?_)
  refine lv_iload_n hx hb dX6_lowest_8 rfl (lv_at hl 2 rfl) ?_
  refine lv_istore (lv' := [(5, .int p1), (4, .int r_1), (0, .ref h0), (1, .int p1), (2, .int p2), (3, .int p3)]) hx hb dX6_lowest_9 hl (by decide) rfl (fun ls hl => ?_)
  refine (show ∀ (k : Nat) (v4 : Int32) (k5 : Int32) (hk0 : p1.toInt ≤ k5.toInt) (hk1 : k5.toInt ≤ p2.toInt + 1) (hk_11 : (p2.toInt + 1 - k5.toInt).toNat < k) (ls : Array Slot) (hl : lv_has ls 6 [(0, .ref h0), (1, .int p1), (2, .int p2), (3, .int p3), (4, .int v4), (5, .int k5)]), W p l e _ s m _ below meth c s.heap [] 0 0 _ (F0 m 11 ls []) from ?_) _ r_1 p1 (by omega) (by omega) (Nat.lt_succ_self _) ls (lv_sub hl [2, 3, 4, 5, 1, 0] rfl)
  intro k
  induction k with
  | zero => intro v4 k5 hk0 hk1 hk_11; exact absurd hk_11 (Nat.not_lt_zero _)
  | succ k ih_11 =>
    intro v4 k5 hk0 hk1 hk_11 ls hl
    refine lv_iload hx hb dX6_lowest_11 (lv_at hl 5 rfl) ?_
    refine lv_iload_n hx hb dX6_lowest_13 rfl (lv_at hl 2 rfl) ?_
    refine lv_icmp_gt (tgt := 37) hx hb dX6_lowest_14 (by decide) (fun c_14 => ?_) (fun c_14 => ?_)
    · have t_14 := (fa_lt _ _).mp c_14
      refine lv_iload hx hb dX6_lowest_37 (lv_at hl 4 rfl) ?_
      exact W.iret (v := v4) hx hb hr (fun t ht _ => ⟨_, rfl, trivial, ht⟩) (fun _ h => absurd h List.not_mem_nil) dX6_lowest_39
    · have t_14 := mt (fa_lt _ _).mpr c_14
      refine lv_iload hx hb dX6_lowest_17 (lv_at hl 4 rfl) ?_
      refine lv_aload_n hx hb dX6_lowest_19 rfl (lv_at hl 0 rfl) ?_
      refine lv_iload hx hb dX6_lowest_20 (lv_at hl 5 rfl) ?_
      refine lv_iload_n hx hb dX6_lowest_22 rfl (lv_at hl 3 rfl) ?_
      have hPc := hP.sub (ws' := [(h0, .inr (6, [.ref x0, .int fi, .int pl, .int db, .int go])), (x0, .inl (cI, 36, .inl g))]) [0, 1] rfl
      have hKc := hK.sub (tys' := [(cI, .int)]) [0] rfl
      refine vp_callSi (W.runV (As := [.int k5, .int p3]) (rest := [.int v4]) ⟨hx, hb, hml, hown, hts⟩ (c_X6_coord l dC dI h0 x0 fi pl db go g cI k5 p3 (by first | omega | assumption) (by first | omega | assumption) (by first | omega | assumption) (by first | omega | assumption) (by first | omega | assumption) (by first | omega | assumption)) (cwV 2 hts g_X6_lowest__X6_coord_33 rfl rfl rfl (by decide +kernel) ⟨Nat.le_of_ble_eq_true rfl, Nat.le_of_ble_eq_true rfl⟩) ⟨fun a U g mk q => by obtain ⟨q0, qP, qK⟩ := q; exact ⟨q0, qP, va_K.moved (u := U) (U := U.calling g mk a) (Vm.Alike.refl U.vm) qK⟩, va_recv hKc hPc (ci := 6) (q0 := 0) rfl rfl, fun U hU hW => ⟨rfl, by rw [hU]; exact hPc, va_K.moved hW.alike hKc⟩⟩ rfl rfl hl.1 rfl (lv_room (Nat.le_of_ble_eq_true rfl)) dX6_lowest_23 ⟨Nat.le_of_ble_eq_true rfl, Nat.le_of_ble_eq_true rfl⟩) (fun r_2 hr_2 => ?_)
      try dsimp only at hr_2
      refine va_mmin hx hb (by rw [hml]; exact hl.1.symm) hown (hts (.methodLink RX6 37 Lib.Math.min.name) (by decide +kernel)) (hts (.static Lib.Math.min.name) (by decide +kernel)) (hts (.initialized "java/lang/Math") (by decide +kernel)) (hts _ (List.mem_of_getElem? (i := 4) rfl)) (Nat.le_of_ble_eq_true rfl) (Nat.le_of_ble_eq_true rfl) (Nat.le_of_ble_eq_true rfl) (Nat.le_of_ble_eq_true rfl) dX6_lowest_26 ?_
      refine lv_topi (fun y_3 ey_3 => ?_)
      refine lv_istore (lv' := [(4, .int y_3), (0, .ref h0), (1, .int p1), (2, .int p2), (3, .int p3), (5, .int k5)]) hx hb dX6_lowest_29 hl (by decide) rfl (fun ls hl => ?_)
      obtain ⟨y_4, ey_4⟩ : ∃ y : Int32, y = k5 + 1 := ⟨_, rfl⟩
      have ty_4 : y_4.toInt = k5.toInt + 1 := by rw [ey_4]; have := fb_addI (x := k5) (y := 1) (by omega) (by omega); omega
      refine lv_iinc (v := y_4) (lv' := [(5, .int y_4), (4, .int y_3), (0, .ref h0), (1, .int p1), (2, .int p2), (3, .int p3)]) hx hb dX6_lowest_31 hl (k := 5) rfl (by rw [ey_4]; rfl) (by decide) rfl (fun ls hl => ?_)
      refine lv_goto (tgt := 11) hx hb dX6_lowest_34 (by decide) ?_
      exact ih_11 y_3 y_4 (by omega) (by omega) (by omega) ls (lv_sub hl [2, 3, 4, 5, 1, 0] rfl)
def wk_X6_highest : List Cond := .code yX6_highest cX6_highest 6 (some .int) :: (([.methodLink RX6 42 Lib.Math.max.name, .static Lib.Math.max.name, .initialized "java/lang/Math", .code Lib.Math.max.name Lib.Math.max.code 2 (some .int)] : List Cond) ++ ((wsV RX6 33 RX6 yX6_coord wk_X6_coord) ++ ([])))
theorem gw_X6_highest : AG wk_X6_highest := AG_ca (AG_l (by decide +kernel)) (AG_app (AG_V gw_X6_coord) (AG_nil))
theorem g_X6_highest__X6_coord_33 : GoodIn wk_X6_highest (wsV RX6 33 RX6 yX6_coord wk_X6_coord) := goodIn_m (fun _ h => List.mem_cons_of_mem _ (List.mem_append_right _ (List.mem_append_left _ h))) (AG_V gw_X6_coord)
set_option maxHeartbeats 4000000 in
set_option maxRecDepth 100000 in
theorem c_X6_highest (l : Launch) (dC : Nat → ClassId) (dI : Nat → Nat → Nat) (h0 : Nat) (x0 : Nat) (fi : Int32) (pl : Int32) (db : Int32) (go : Int32) (g : Nat → Int32) (cI : ClassId) (p1 : Int32) (p2 : Int32) (p3 : Int32) (ht : tOK fi pl) (hs0 : fi.toInt ≤ p1.toInt) (hs1 : p2.toInt < fi.toInt + pl.toInt) (hs2 : p1.toInt ≤ p2.toInt) (hx0 : 0 ≤ p3.toInt) (hx1 : p3.toInt ≤ 2) : Met l yX6_highest wk_X6_highest ({ frames := 1, cells := 0, slots := 0, locals := 23 }) (va_Pc [.ref h0, .int p1, .int p2, .int p3] (fun U => va_P (dC, dI) vwCl [(h0, .inr (6, [.ref x0, .int fi, .int pl, .int db, .int go])), (x0, .inl (cI, 36, .inl g))] U.heap ∧ va_K (dC, dI) vwCl [(cI, .int)] U)) (vp_Si (fun r => True)) 0 0 (fun _ => False) := by
  refine Met.ofW (cc := cX6_highest) (maxL := 6) (ret := (some .int)) (by decide) rfl ?_
  intro p e s m args below meth c s₁ B hml hv
  obtain ⟨rfl, hP, hK⟩ := hv
  have hx := B.exec
  have hb := B.bytes
  have hr := B.returns
  have hts := atoms_spec (ws := wk_X6_highest) B.pre
  have hown : s.vm.findClass RX6 = some m.cls := findClass_of_methodNamed B.named
  have hlocks := B.notSynchronized
  have hP : va_P (dC, dI) vwCl [(h0, .inr (6, [.ref x0, .int fi, .int pl, .int db, .int go])), (x0, .inl (cI, 36, .inl g))] s.heap := hP
  have hl := lv_entry ([.ref h0, .int p1, .int p2, .int p3]) (n := 6) (Nat.le_of_ble_eq_true rfl)
  rw [lg_entry_eq]
  generalize (lg_sl ([.ref h0, .int p1, .int p2, .int p3]) ++ List.replicate (6 - (lg_sl ([.ref h0, .int p1, .int p2, .int p3])).length) Slot.unset).toArray = ls at hl ⊢
  have hl : lv_has ls 6 [(0, .ref h0), (1, .int p1), (2, .int p2), (3, .int p3)] := hl
  have kl_1 : (1 : Int32).toInt = 1 := by decide
  obtain ⟨hf0, hf1, hq0, hq1⟩ := id ht
  refine lv_aload_n hx hb dX6_highest_0 rfl (lv_at hl 0 rfl) ?_
  refine lv_iload_n hx hb dX6_highest_1 rfl (lv_at hl 1 rfl) ?_
  refine lv_iload_n hx hb dX6_highest_2 rfl (lv_at hl 3 rfl) ?_
  have hPc := hP.sub (ws' := [(h0, .inr (6, [.ref x0, .int fi, .int pl, .int db, .int go])), (x0, .inl (cI, 36, .inl g))]) [0, 1] rfl
  have hKc := hK.sub (tys' := [(cI, .int)]) [0] rfl
  refine vp_callSi (W.runV (As := [.int p1, .int p3]) (rest := []) ⟨hx, hb, hml, hown, hts⟩ (c_X6_coord l dC dI h0 x0 fi pl db go g cI p1 p3 (by first | omega | assumption) (by first | omega | assumption) (by first | omega | assumption) (by first | omega | assumption) (by first | omega | assumption) (by first | omega | assumption)) (cwV 2 hts g_X6_highest__X6_coord_33 rfl rfl rfl (by decide +kernel) ⟨Nat.le_of_ble_eq_true rfl, Nat.le_of_ble_eq_true rfl⟩) ⟨fun a U g mk q => by obtain ⟨q0, qP, qK⟩ := q; exact ⟨q0, qP, va_K.moved (u := U) (U := U.calling g mk a) (Vm.Alike.refl U.vm) qK⟩, va_recv hKc hPc (ci := 6) (q0 := 0) rfl rfl, fun U hU hW => ⟨rfl, by rw [hU]; exact hPc, va_K.moved hW.alike hKc⟩⟩ rfl rfl hl.1 rfl (lv_room (Nat.le_of_ble_eq_true rfl)) dX6_highest_3 ⟨Nat.le_of_ble_eq_true rfl, Nat.le_of_ble_eq_true rfl⟩) (fun r_1 hr_1 => ?_)
  try dsimp only at hr_1
  refine lv_istore (lv' := [(4, .int r_1), (0, .ref h0), (1, .int p1), (2, .int p2), (3, .int p3)]) hx hb dX6_highest_6 hl (by decide) rfl (fun ls hl => ?_)
  refine lv_iload_n hx hb dX6_highest_8 rfl (lv_at hl 2 rfl) ?_
  refine lv_istore (lv' := [(5, .int p1), (4, .int r_1), (0, .ref h0), (1, .int p1), (2, .int p2), (3, .int p3)]) hx hb dX6_highest_9 hl (by decide) rfl (fun ls hl => ?_)
  refine (show ∀ (k : Nat) (v4 : Int32) (k5 : Int32) (hk0 : p1.toInt ≤ k5.toInt) (hk1 : k5.toInt ≤ p2.toInt + 1) (hk_11 : (p2.toInt + 1 - k5.toInt).toNat < k) (ls : Array Slot) (hl : lv_has ls 6 [(0, .ref h0), (1, .int p1), (2, .int p2), (3, .int p3), (4, .int v4), (5, .int k5)]), W p l e _ s m _ below meth c s.heap [] 0 0 _ (F0 m 11 ls []) from ?_) _ r_1 p1 (by omega) (by omega) (Nat.lt_succ_self _) ls (lv_sub hl [2, 3, 4, 5, 1, 0] rfl)
  intro k
  induction k with
  | zero => intro v4 k5 hk0 hk1 hk_11; exact absurd hk_11 (Nat.not_lt_zero _)
  | succ k ih_11 =>
    intro v4 k5 hk0 hk1 hk_11 ls hl
    refine lv_iload hx hb dX6_highest_11 (lv_at hl 5 rfl) ?_
    refine lv_iload_n hx hb dX6_highest_13 rfl (lv_at hl 2 rfl) ?_
    refine lv_icmp_gt (tgt := 37) hx hb dX6_highest_14 (by decide) (fun c_14 => ?_) (fun c_14 => ?_)
    · have t_14 := (fa_lt _ _).mp c_14
      refine lv_iload hx hb dX6_highest_37 (lv_at hl 4 rfl) ?_
      exact W.iret (v := v4) hx hb hr (fun t ht _ => ⟨_, rfl, trivial, ht⟩) (fun _ h => absurd h List.not_mem_nil) dX6_highest_39
    · have t_14 := mt (fa_lt _ _).mpr c_14
      refine lv_iload hx hb dX6_highest_17 (lv_at hl 4 rfl) ?_
      refine lv_aload_n hx hb dX6_highest_19 rfl (lv_at hl 0 rfl) ?_
      refine lv_iload hx hb dX6_highest_20 (lv_at hl 5 rfl) ?_
      refine lv_iload_n hx hb dX6_highest_22 rfl (lv_at hl 3 rfl) ?_
      have hPc := hP.sub (ws' := [(h0, .inr (6, [.ref x0, .int fi, .int pl, .int db, .int go])), (x0, .inl (cI, 36, .inl g))]) [0, 1] rfl
      have hKc := hK.sub (tys' := [(cI, .int)]) [0] rfl
      refine vp_callSi (W.runV (As := [.int k5, .int p3]) (rest := [.int v4]) ⟨hx, hb, hml, hown, hts⟩ (c_X6_coord l dC dI h0 x0 fi pl db go g cI k5 p3 (by first | omega | assumption) (by first | omega | assumption) (by first | omega | assumption) (by first | omega | assumption) (by first | omega | assumption) (by first | omega | assumption)) (cwV 2 hts g_X6_highest__X6_coord_33 rfl rfl rfl (by decide +kernel) ⟨Nat.le_of_ble_eq_true rfl, Nat.le_of_ble_eq_true rfl⟩) ⟨fun a U g mk q => by obtain ⟨q0, qP, qK⟩ := q; exact ⟨q0, qP, va_K.moved (u := U) (U := U.calling g mk a) (Vm.Alike.refl U.vm) qK⟩, va_recv hKc hPc (ci := 6) (q0 := 0) rfl rfl, fun U hU hW => ⟨rfl, by rw [hU]; exact hPc, va_K.moved hW.alike hKc⟩⟩ rfl rfl hl.1 rfl (lv_room (Nat.le_of_ble_eq_true rfl)) dX6_highest_23 ⟨Nat.le_of_ble_eq_true rfl, Nat.le_of_ble_eq_true rfl⟩) (fun r_2 hr_2 => ?_)
      try dsimp only at hr_2
      refine va_mmax hx hb (by rw [hml]; exact hl.1.symm) hown (hts (.methodLink RX6 42 Lib.Math.max.name) (by decide +kernel)) (hts (.static Lib.Math.max.name) (by decide +kernel)) (hts (.initialized "java/lang/Math") (by decide +kernel)) (hts _ (List.mem_of_getElem? (i := 4) rfl)) (Nat.le_of_ble_eq_true rfl) (Nat.le_of_ble_eq_true rfl) (Nat.le_of_ble_eq_true rfl) (Nat.le_of_ble_eq_true rfl) dX6_highest_26 ?_
      refine lv_topi (fun y_3 ey_3 => ?_)
      refine lv_istore (lv' := [(4, .int y_3), (0, .ref h0), (1, .int p1), (2, .int p2), (3, .int p3), (5, .int k5)]) hx hb dX6_highest_29 hl (by decide) rfl (fun ls hl => ?_)
      obtain ⟨y_4, ey_4⟩ : ∃ y : Int32, y = k5 + 1 := ⟨_, rfl⟩
      have ty_4 : y_4.toInt = k5.toInt + 1 := by rw [ey_4]; have := fb_addI (x := k5) (y := 1) (by omega) (by omega); omega
      refine lv_iinc (v := y_4) (lv' := [(5, .int y_4), (4, .int y_3), (0, .ref h0), (1, .int p1), (2, .int p2), (3, .int p3)]) hx hb dX6_highest_31 hl (k := 5) rfl (by rw [ey_4]; rfl) (by decide) rfl (fun ls hl => ?_)
      refine lv_goto (tgt := 11) hx hb dX6_highest_34 (by decide) ?_
      exact ih_11 y_3 y_4 (by omega) (by omega) (by omega) ls (lv_sub hl [2, 3, 4, 5, 1, 0] rfl)
def wk_X6_boxSide : List Cond := .code yX6_boxSide cX6_boxSide 1 (some .int) :: (([.fieldLink RX6 22 "MeetingsAbove$Thing" "doubt" "I"] : List Cond) ++ (wsX60 ++ ([])))
theorem in_X6_boxSide_X6 : ∀ w ∈ wsX60, w ∈ wk_X6_boxSide := fun _ h => List.mem_cons_of_mem _ (List.mem_append_right _ (List.mem_append_left _ h))
theorem gw_X6_boxSide : AG wk_X6_boxSide := AG_ca (AG_l (by decide +kernel)) (AG_app ag_X6 (AG_nil))
set_option maxHeartbeats 4000000 in
set_option maxRecDepth 100000 in
theorem c_X6_boxSide (l : Launch) (dC : Nat → ClassId) (dI : Nat → Nat → Nat) (h0 : Nat) (x0 : Nat) (fi : Int32) (pl : Int32) (db : Int32) (go : Int32) : Met l yX6_boxSide wk_X6_boxSide ({ frames := 0, cells := 0, slots := 0, locals := 0 }) (va_Pc [.ref h0] (fun U => va_P (dC, dI) vwCl [(h0, .inr (6, [.ref x0, .int fi, .int pl, .int db, .int go]))] U.heap ∧ va_K (dC, dI) vwCl [] U)) (vp_Si (fun r => True)) 0 0 (fun _ => False) := by
  refine Met.ofW (cc := cX6_boxSide) (maxL := 1) (ret := (some .int)) (by decide) rfl ?_
  intro p e s m args below meth c s₁ B hml hv
  obtain ⟨rfl, hP, hK⟩ := hv
  have hx := B.exec
  have hb := B.bytes
  have hr := B.returns
  have hts := atoms_spec (ws := wk_X6_boxSide) B.pre
  have hown : s.vm.findClass RX6 = some m.cls := findClass_of_methodNamed B.named
  have hlocks := B.notSynchronized
  have hP : va_P (dC, dI) vwCl [(h0, .inr (6, [.ref x0, .int fi, .int pl, .int db, .int go]))] s.heap := hP
  have hl := lv_entry ([.ref h0]) (n := 1) (Nat.le_of_ble_eq_true rfl)
  rw [lg_entry_eq]
  generalize (lg_sl ([.ref h0]) ++ List.replicate (1 - (lg_sl ([.ref h0])).length) Slot.unset).toArray = ls at hl ⊢
  have hl : lv_has ls 1 [(0, .ref h0)] := hl
  refine lv_iconst (v := 2) hx hb dX6_boxSide_0 (by decide) ?_
  refine lv_aload_n hx hb dX6_boxSide_1 rfl (lv_at hl 0 rfl) ?_
  refine va_get (D := (dC, dI)) (ci := 6) (v := .int db) (C := RX6) (T := TX6) (N := 5) hx hb hts in_X6_boxSide_X6 hown hK hP 0 rfl rfl 3 (by decide) (hts (.fieldLink RX6 22 "MeetingsAbove$Thing" "doubt" "I") (by decide +kernel)) (fun _ h9 => h9) rfl dX6_boxSide_2 ?_
  refine lv_imul hx hb dX6_boxSide_5 ?_
  refine lv_topi (fun y_1 ey_1 => ?_)
  refine lv_iconst (v := 1) hx hb dX6_boxSide_6 (by decide) ?_
  refine lv_iadd hx hb dX6_boxSide_7 ?_
  refine lv_topi (fun y_2 ey_2 => ?_)
  exact W.iret (v := y_2) hx hb hr (fun t ht _ => ⟨_, rfl, trivial, ht⟩) (fun _ h => absurd h List.not_mem_nil) dX6_boxSide_8
def wk_X6_isBoxed : List Cond := .code yX6_isBoxed cX6_isBoxed 2 (some .boolean) :: (([.fieldLink RX6 45 "MeetingsAbove$Dot" "step" "I", .fieldLink RX6 54 "MeetingsAbove$Dot" "x" "I", .methodLink RX6 57 Lib.Math.abs.name, .static Lib.Math.abs.name, .initialized "java/lang/Math", .code Lib.Math.abs.name Lib.Math.abs.code 1 (some .int), .fieldLink RX6 22 "MeetingsAbove$Thing" "doubt" "I", .fieldLink RX6 61 "MeetingsAbove$Dot" "y" "I", .fieldLink RX6 64 "MeetingsAbove$Dot" "z" "I"] : List Cond) ++ (wsX20 ++ (wsX60 ++ ((wsV RX6 50 RX6 yX6_hasPlace wk_X6_hasPlace) ++ ((wsV RX6 33 RX6 yX6_coord wk_X6_coord) ++ ([]))))))
theorem in_X6_isBoxed_X2 : ∀ w ∈ wsX20, w ∈ wk_X6_isBoxed := fun _ h => List.mem_cons_of_mem _ (List.mem_append_right _ (List.mem_append_left _ h))
theorem in_X6_isBoxed_X6 : ∀ w ∈ wsX60, w ∈ wk_X6_isBoxed := fun _ h => List.mem_cons_of_mem _ (List.mem_append_right _ (List.mem_append_right _ (List.mem_append_left _ h)))
theorem gw_X6_isBoxed : AG wk_X6_isBoxed := AG_ca (AG_l (by decide +kernel)) (AG_app ag_X2 (AG_app ag_X6 (AG_app (AG_V gw_X6_hasPlace) (AG_app (AG_V gw_X6_coord) (AG_nil)))))
theorem g_X6_isBoxed__X6_hasPlace_50 : GoodIn wk_X6_isBoxed (wsV RX6 50 RX6 yX6_hasPlace wk_X6_hasPlace) := goodIn_m (fun _ h => List.mem_cons_of_mem _ (List.mem_append_right _ (List.mem_append_right _ (List.mem_append_right _ (List.mem_append_left _ h))))) (AG_V gw_X6_hasPlace)
theorem g_X6_isBoxed__X6_coord_33 : GoodIn wk_X6_isBoxed (wsV RX6 33 RX6 yX6_coord wk_X6_coord) := goodIn_m (fun _ h => List.mem_cons_of_mem _ (List.mem_append_right _ (List.mem_append_right _ (List.mem_append_right _ (List.mem_append_right _ (List.mem_append_left _ h)))))) (AG_V gw_X6_coord)
set_option maxHeartbeats 4000000 in
set_option maxRecDepth 100000 in
theorem c_X6_isBoxed (l : Launch) (dC : Nat → ClassId) (dI : Nat → Nat → Nat) (h0 : Nat) (x0 : Nat) (fi : Int32) (pl : Int32) (db : Int32) (go : Int32) (g : Nat → Int32) (cI : ClassId) (hd : Nat) (ds : Int32) (dx : Int32) (dy : Int32) (dz : Int32) (ht : tOK fi pl) : Met l yX6_isBoxed wk_X6_isBoxed ({ frames := 2, cells := 0, slots := 0, locals := 41 }) (va_Pc [.ref h0, .ref hd] (fun U => va_P (dC, dI) vwCl [(h0, .inr (6, [.ref x0, .int fi, .int pl, .int db, .int go])), (x0, .inl (cI, 36, .inl g)), (hd, .inr (2, [.int ds, .int dx, .int dy, .int dz]))] U.heap ∧ va_K (dC, dI) vwCl [(cI, .int)] U)) (vp_Si (fun r => True)) 0 0 (fun _ => False) := by
  refine Met.ofW (cc := cX6_isBoxed) (maxL := 2) (ret := (some .boolean)) (by decide) rfl ?_
  intro p e s m args below meth c s₁ B hml hv
  obtain ⟨rfl, hP, hK⟩ := hv
  have hx := B.exec
  have hb := B.bytes
  have hr := B.returns
  have hts := atoms_spec (ws := wk_X6_isBoxed) B.pre
  have hown : s.vm.findClass RX6 = some m.cls := findClass_of_methodNamed B.named
  have hlocks := B.notSynchronized
  have hP : va_P (dC, dI) vwCl [(h0, .inr (6, [.ref x0, .int fi, .int pl, .int db, .int go])), (x0, .inl (cI, 36, .inl g)), (hd, .inr (2, [.int ds, .int dx, .int dy, .int dz]))] s.heap := hP
  have hl := lv_entry ([.ref h0, .ref hd]) (n := 2) (Nat.le_of_ble_eq_true rfl)
  rw [lg_entry_eq]
  generalize (lg_sl ([.ref h0, .ref hd]) ++ List.replicate (2 - (lg_sl ([.ref h0, .ref hd])).length) Slot.unset).toArray = ls at hl ⊢
  have hl : lv_has ls 2 [(0, .ref h0), (1, .ref hd)] := hl
  have kl_0 : (0 : Int32).toInt = 0 := by decide
  have kl_1 : (1 : Int32).toInt = 1 := by decide
  have kl_2 : (2 : Int32).toInt = 2 := by decide
  obtain ⟨hf0, hf1, hq0, hq1⟩ := id ht
  refine lv_aload_n hx hb dX6_isBoxed_0 rfl (lv_at hl 0 rfl) ?_
  refine lv_aload_n hx hb dX6_isBoxed_1 rfl (lv_at hl 1 rfl) ?_
  refine va_get (D := (dC, dI)) (ci := 2) (v := .int ds) (C := RX2) (T := TX2) (N := 4) hx hb hts in_X6_isBoxed_X2 hown hK hP 2 rfl rfl 0 (by decide) (hts (.fieldLink RX6 45 "MeetingsAbove$Dot" "step" "I") (by decide +kernel)) (fun _ h9 => h9) rfl dX6_isBoxed_2 ?_
  have hPc := hP.sub (ws' := [(h0, .inr (6, [.ref x0, .int fi, .int pl, .int db, .int go]))]) [0] rfl
  have hKc := hK.sub (tys' := []) [] rfl
  refine vp_callSi (W.runV (As := [.int ds]) (rest := []) ⟨hx, hb, hml, hown, hts⟩ (c_X6_hasPlace l dC dI h0 x0 fi pl db go ds (by first | assumption | omega)) (cwV 1 hts g_X6_isBoxed__X6_hasPlace_50 rfl rfl rfl (by decide +kernel) ⟨Nat.le_of_ble_eq_true rfl, Nat.le_of_ble_eq_true rfl⟩) ⟨fun a U g mk q => by obtain ⟨q0, qP, qK⟩ := q; exact ⟨q0, qP, va_K.moved (u := U) (U := U.calling g mk a) (Vm.Alike.refl U.vm) qK⟩, va_recv hKc hPc (ci := 6) (q0 := 0) rfl rfl, fun U hU hW => ⟨rfl, by rw [hU]; exact hPc, va_K.moved hW.alike hKc⟩⟩ rfl rfl hl.1 rfl (lv_room (Nat.le_of_ble_eq_true rfl)) dX6_isBoxed_5 ⟨Nat.le_of_ble_eq_true rfl, Nat.le_of_ble_eq_true rfl⟩) (fun r_1 hr_1 => ?_)
  try dsimp only at hr_1
  rcases bo_split hr_1 with ⟨rfl, q_5⟩ | ⟨rfl, q_5⟩
  · refine lv_if_eq (tgt := 87) hx hb dX6_isBoxed_8 (by decide) (fun h9 => absurd h9 (by decide)) (fun _ => ?_)
    refine lv_aload_n hx hb dX6_isBoxed_11 rfl (lv_at hl 0 rfl) ?_
    refine lv_aload_n hx hb dX6_isBoxed_12 rfl (lv_at hl 1 rfl) ?_
    refine va_get (D := (dC, dI)) (ci := 2) (v := .int ds) (C := RX2) (T := TX2) (N := 4) hx hb hts in_X6_isBoxed_X2 hown hK hP 2 rfl rfl 0 (by decide) (hts (.fieldLink RX6 45 "MeetingsAbove$Dot" "step" "I") (by decide +kernel)) (fun _ h9 => h9) rfl dX6_isBoxed_13 ?_
    refine lv_iconst (v := 0) hx hb dX6_isBoxed_16 (by decide) ?_
    have hPc := hP.sub (ws' := [(h0, .inr (6, [.ref x0, .int fi, .int pl, .int db, .int go])), (x0, .inl (cI, 36, .inl g))]) [0, 1] rfl
    have hKc := hK.sub (tys' := [(cI, .int)]) [0] rfl
    refine vp_callSi (W.runV (As := [.int ds, .int 0]) (rest := []) ⟨hx, hb, hml, hown, hts⟩ (c_X6_coord l dC dI h0 x0 fi pl db go g cI ds 0 (by first | omega | assumption) (by first | omega | assumption) (by first | omega | assumption) (by first | omega | assumption) (by first | omega | assumption) (by first | omega | assumption)) (cwV 2 hts g_X6_isBoxed__X6_coord_33 rfl rfl rfl (by decide +kernel) ⟨Nat.le_of_ble_eq_true rfl, Nat.le_of_ble_eq_true rfl⟩) ⟨fun a U g mk q => by obtain ⟨q0, qP, qK⟩ := q; exact ⟨q0, qP, va_K.moved (u := U) (U := U.calling g mk a) (Vm.Alike.refl U.vm) qK⟩, va_recv hKc hPc (ci := 6) (q0 := 0) rfl rfl, fun U hU hW => ⟨rfl, by rw [hU]; exact hPc, va_K.moved hW.alike hKc⟩⟩ rfl rfl hl.1 rfl (lv_room (Nat.le_of_ble_eq_true rfl)) dX6_isBoxed_17 ⟨Nat.le_of_ble_eq_true rfl, Nat.le_of_ble_eq_true rfl⟩) (fun r_2 hr_2 => ?_)
    try dsimp only at hr_2
    refine lv_aload_n hx hb dX6_isBoxed_20 rfl (lv_at hl 1 rfl) ?_
    refine va_get (D := (dC, dI)) (ci := 2) (v := .int dx) (C := RX2) (T := TX2) (N := 4) hx hb hts in_X6_isBoxed_X2 hown hK hP 2 rfl rfl 1 (by decide) (hts (.fieldLink RX6 54 "MeetingsAbove$Dot" "x" "I") (by decide +kernel)) (fun _ h9 => h9) rfl dX6_isBoxed_21 ?_
    refine lv_isub hx hb dX6_isBoxed_24 ?_
    refine lv_topi (fun y_3 ey_3 => ?_)
    refine va_mabs hx hb (by rw [hml]; exact hl.1.symm) hown (hts (.methodLink RX6 57 Lib.Math.abs.name) (by decide +kernel)) (hts (.static Lib.Math.abs.name) (by decide +kernel)) (hts (.initialized "java/lang/Math") (by decide +kernel)) (hts _ (List.mem_of_getElem? (i := 6) rfl)) (Nat.le_of_ble_eq_true rfl) (Nat.le_of_ble_eq_true rfl) (Nat.le_of_ble_eq_true rfl) (Nat.le_of_ble_eq_true rfl) dX6_isBoxed_25 ?_
    refine lv_topi (fun y_4 ey_4 => ?_)
    refine lv_aload_n hx hb dX6_isBoxed_28 rfl (lv_at hl 0 rfl) ?_
    refine va_get (D := (dC, dI)) (ci := 6) (v := .int db) (C := RX6) (T := TX6) (N := 5) hx hb hts in_X6_isBoxed_X6 hown hK hP 0 rfl rfl 3 (by decide) (hts (.fieldLink RX6 22 "MeetingsAbove$Thing" "doubt" "I") (by decide +kernel)) (fun _ h9 => h9) rfl dX6_isBoxed_29 ?_
    refine lv_icmp_gt (tgt := 87) hx hb dX6_isBoxed_32 (by decide) (fun c_32 => ?_) (fun c_32 => ?_)
    · have t_32 := (fa_lt _ _).mp c_32
      refine lv_iconst (v := 0) hx hb dX6_isBoxed_87 (by decide) ?_
      exact W.zret (v := 0) hx hb hr rfl (fun t ht _ => ⟨_, rfl, trivial, ht⟩) (fun _ h => absurd h List.not_mem_nil) dX6_isBoxed_88
    · have t_32 := mt (fa_lt _ _).mpr c_32
      refine lv_aload_n hx hb dX6_isBoxed_35 rfl (lv_at hl 0 rfl) ?_
      refine lv_aload_n hx hb dX6_isBoxed_36 rfl (lv_at hl 1 rfl) ?_
      refine va_get (D := (dC, dI)) (ci := 2) (v := .int ds) (C := RX2) (T := TX2) (N := 4) hx hb hts in_X6_isBoxed_X2 hown hK hP 2 rfl rfl 0 (by decide) (hts (.fieldLink RX6 45 "MeetingsAbove$Dot" "step" "I") (by decide +kernel)) (fun _ h9 => h9) rfl dX6_isBoxed_37 ?_
      refine lv_iconst (v := 1) hx hb dX6_isBoxed_40 (by decide) ?_
      have hPc := hP.sub (ws' := [(h0, .inr (6, [.ref x0, .int fi, .int pl, .int db, .int go])), (x0, .inl (cI, 36, .inl g))]) [0, 1] rfl
      have hKc := hK.sub (tys' := [(cI, .int)]) [0] rfl
      refine vp_callSi (W.runV (As := [.int ds, .int 1]) (rest := []) ⟨hx, hb, hml, hown, hts⟩ (c_X6_coord l dC dI h0 x0 fi pl db go g cI ds 1 (by first | omega | assumption) (by first | omega | assumption) (by first | omega | assumption) (by first | omega | assumption) (by first | omega | assumption) (by first | omega | assumption)) (cwV 2 hts g_X6_isBoxed__X6_coord_33 rfl rfl rfl (by decide +kernel) ⟨Nat.le_of_ble_eq_true rfl, Nat.le_of_ble_eq_true rfl⟩) ⟨fun a U g mk q => by obtain ⟨q0, qP, qK⟩ := q; exact ⟨q0, qP, va_K.moved (u := U) (U := U.calling g mk a) (Vm.Alike.refl U.vm) qK⟩, va_recv hKc hPc (ci := 6) (q0 := 0) rfl rfl, fun U hU hW => ⟨rfl, by rw [hU]; exact hPc, va_K.moved hW.alike hKc⟩⟩ rfl rfl hl.1 rfl (lv_room (Nat.le_of_ble_eq_true rfl)) dX6_isBoxed_41 ⟨Nat.le_of_ble_eq_true rfl, Nat.le_of_ble_eq_true rfl⟩) (fun r_5 hr_5 => ?_)
      try dsimp only at hr_5
      refine lv_aload_n hx hb dX6_isBoxed_44 rfl (lv_at hl 1 rfl) ?_
      refine va_get (D := (dC, dI)) (ci := 2) (v := .int dy) (C := RX2) (T := TX2) (N := 4) hx hb hts in_X6_isBoxed_X2 hown hK hP 2 rfl rfl 2 (by decide) (hts (.fieldLink RX6 61 "MeetingsAbove$Dot" "y" "I") (by decide +kernel)) (fun _ h9 => h9) rfl dX6_isBoxed_45 ?_
      refine lv_isub hx hb dX6_isBoxed_48 ?_
      refine lv_topi (fun y_6 ey_6 => ?_)
      refine va_mabs hx hb (by rw [hml]; exact hl.1.symm) hown (hts (.methodLink RX6 57 Lib.Math.abs.name) (by decide +kernel)) (hts (.static Lib.Math.abs.name) (by decide +kernel)) (hts (.initialized "java/lang/Math") (by decide +kernel)) (hts _ (List.mem_of_getElem? (i := 6) rfl)) (Nat.le_of_ble_eq_true rfl) (Nat.le_of_ble_eq_true rfl) (Nat.le_of_ble_eq_true rfl) (Nat.le_of_ble_eq_true rfl) dX6_isBoxed_49 ?_
      refine lv_topi (fun y_7 ey_7 => ?_)
      refine lv_aload_n hx hb dX6_isBoxed_52 rfl (lv_at hl 0 rfl) ?_
      refine va_get (D := (dC, dI)) (ci := 6) (v := .int db) (C := RX6) (T := TX6) (N := 5) hx hb hts in_X6_isBoxed_X6 hown hK hP 0 rfl rfl 3 (by decide) (hts (.fieldLink RX6 22 "MeetingsAbove$Thing" "doubt" "I") (by decide +kernel)) (fun _ h9 => h9) rfl dX6_isBoxed_53 ?_
      refine lv_icmp_gt (tgt := 87) hx hb dX6_isBoxed_56 (by decide) (fun c_56 => ?_) (fun c_56 => ?_)
      · have t_56 := (fa_lt _ _).mp c_56
        refine lv_iconst (v := 0) hx hb dX6_isBoxed_87 (by decide) ?_
        exact W.zret (v := 0) hx hb hr rfl (fun t ht _ => ⟨_, rfl, trivial, ht⟩) (fun _ h => absurd h List.not_mem_nil) dX6_isBoxed_88
      · have t_56 := mt (fa_lt _ _).mpr c_56
        refine lv_aload_n hx hb dX6_isBoxed_59 rfl (lv_at hl 0 rfl) ?_
        refine lv_aload_n hx hb dX6_isBoxed_60 rfl (lv_at hl 1 rfl) ?_
        refine va_get (D := (dC, dI)) (ci := 2) (v := .int ds) (C := RX2) (T := TX2) (N := 4) hx hb hts in_X6_isBoxed_X2 hown hK hP 2 rfl rfl 0 (by decide) (hts (.fieldLink RX6 45 "MeetingsAbove$Dot" "step" "I") (by decide +kernel)) (fun _ h9 => h9) rfl dX6_isBoxed_61 ?_
        refine lv_iconst (v := 2) hx hb dX6_isBoxed_64 (by decide) ?_
        have hPc := hP.sub (ws' := [(h0, .inr (6, [.ref x0, .int fi, .int pl, .int db, .int go])), (x0, .inl (cI, 36, .inl g))]) [0, 1] rfl
        have hKc := hK.sub (tys' := [(cI, .int)]) [0] rfl
        refine vp_callSi (W.runV (As := [.int ds, .int 2]) (rest := []) ⟨hx, hb, hml, hown, hts⟩ (c_X6_coord l dC dI h0 x0 fi pl db go g cI ds 2 (by first | omega | assumption) (by first | omega | assumption) (by first | omega | assumption) (by first | omega | assumption) (by first | omega | assumption) (by first | omega | assumption)) (cwV 2 hts g_X6_isBoxed__X6_coord_33 rfl rfl rfl (by decide +kernel) ⟨Nat.le_of_ble_eq_true rfl, Nat.le_of_ble_eq_true rfl⟩) ⟨fun a U g mk q => by obtain ⟨q0, qP, qK⟩ := q; exact ⟨q0, qP, va_K.moved (u := U) (U := U.calling g mk a) (Vm.Alike.refl U.vm) qK⟩, va_recv hKc hPc (ci := 6) (q0 := 0) rfl rfl, fun U hU hW => ⟨rfl, by rw [hU]; exact hPc, va_K.moved hW.alike hKc⟩⟩ rfl rfl hl.1 rfl (lv_room (Nat.le_of_ble_eq_true rfl)) dX6_isBoxed_65 ⟨Nat.le_of_ble_eq_true rfl, Nat.le_of_ble_eq_true rfl⟩) (fun r_8 hr_8 => ?_)
        try dsimp only at hr_8
        refine lv_aload_n hx hb dX6_isBoxed_68 rfl (lv_at hl 1 rfl) ?_
        refine va_get (D := (dC, dI)) (ci := 2) (v := .int dz) (C := RX2) (T := TX2) (N := 4) hx hb hts in_X6_isBoxed_X2 hown hK hP 2 rfl rfl 3 (by decide) (hts (.fieldLink RX6 64 "MeetingsAbove$Dot" "z" "I") (by decide +kernel)) (fun _ h9 => h9) rfl dX6_isBoxed_69 ?_
        refine lv_isub hx hb dX6_isBoxed_72 ?_
        refine lv_topi (fun y_9 ey_9 => ?_)
        refine va_mabs hx hb (by rw [hml]; exact hl.1.symm) hown (hts (.methodLink RX6 57 Lib.Math.abs.name) (by decide +kernel)) (hts (.static Lib.Math.abs.name) (by decide +kernel)) (hts (.initialized "java/lang/Math") (by decide +kernel)) (hts _ (List.mem_of_getElem? (i := 6) rfl)) (Nat.le_of_ble_eq_true rfl) (Nat.le_of_ble_eq_true rfl) (Nat.le_of_ble_eq_true rfl) (Nat.le_of_ble_eq_true rfl) dX6_isBoxed_73 ?_
        refine lv_topi (fun y_10 ey_10 => ?_)
        refine lv_aload_n hx hb dX6_isBoxed_76 rfl (lv_at hl 0 rfl) ?_
        refine va_get (D := (dC, dI)) (ci := 6) (v := .int db) (C := RX6) (T := TX6) (N := 5) hx hb hts in_X6_isBoxed_X6 hown hK hP 0 rfl rfl 3 (by decide) (hts (.fieldLink RX6 22 "MeetingsAbove$Thing" "doubt" "I") (by decide +kernel)) (fun _ h9 => h9) rfl dX6_isBoxed_77 ?_
        refine lv_icmp_gt (tgt := 87) hx hb dX6_isBoxed_80 (by decide) (fun c_80 => ?_) (fun c_80 => ?_)
        · have t_80 := (fa_lt _ _).mp c_80
          refine lv_iconst (v := 0) hx hb dX6_isBoxed_87 (by decide) ?_
          exact W.zret (v := 0) hx hb hr rfl (fun t ht _ => ⟨_, rfl, trivial, ht⟩) (fun _ h => absurd h List.not_mem_nil) dX6_isBoxed_88
        · have t_80 := mt (fa_lt _ _).mpr c_80
          refine lv_iconst (v := 1) hx hb dX6_isBoxed_83 (by decide) ?_
          refine lv_goto (tgt := 88) hx hb dX6_isBoxed_84 (by decide) ?_
          exact W.zret (v := 1) hx hb hr rfl (fun t ht _ => ⟨_, rfl, trivial, ht⟩) (fun _ h => absurd h List.not_mem_nil) dX6_isBoxed_88
  · refine lv_if_eq (tgt := 87) hx hb dX6_isBoxed_8 (by decide) (fun _ => ?_) (fun h9 => absurd h9 (by decide))
    refine lv_iconst (v := 0) hx hb dX6_isBoxed_87 (by decide) ?_
    exact W.zret (v := 0) hx hb hr rfl (fun t ht _ => ⟨_, rfl, trivial, ht⟩) (fun _ h => absurd h List.not_mem_nil) dX6_isBoxed_88
