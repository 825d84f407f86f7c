def wk_X6_lowestE : List Cond := .code yX6_lowest cX6_lowest 6 (some .int) :: (([.methodLink RX6 37 Lib.Math.min.name, .static Lib.Math.min.name, .initialized "java/lang/Math", .code Lib.Math.min.name Lib.Math.min.code 2 (some .int)] : List Cond) ++ ((wsV RX6 33 RX6 yX6_coord wk_X6_coord) ++ ([])))
theorem gw_X6_lowestE : AG wk_X6_lowestE := AG_ca (AG_l (by decide +kernel)) (AG_app (AG_V gw_X6_coord) (AG_nil))
theorem g_X6_lowestE__X6_coord_33 : GoodIn wk_X6_lowestE (wsV RX6 33 RX6 yX6_coord wk_X6_coord) := goodIn_m (fun _ h => List.mem_cons_of_mem _ (List.mem_append_right _ (List.mem_append_left _ h))) (AG_V gw_X6_coord)
set_option maxHeartbeats 4000000 in
set_option maxRecDepth 100000 in
theorem c_X6_lowestE (l : Launch) (dC : Nat → ClassId) (dI : Nat → Nat → Nat) (h0 : Nat) (x0 : Nat) (fi : Int32) (pl : Int32) (db : Int32) (go : Int32) (g : Nat → Int32) (cI : ClassId) (p1 : Int32) (p2 : Int32) (p3 : Int32) (ht : tOK fi pl) (hs0 : fi.toInt ≤ p1.toInt) (hs1 : p2.toInt < fi.toInt + pl.toInt) (hs2 : p1.toInt ≤ p2.toInt) (hx0 : 0 ≤ p3.toInt) (hx1 : p3.toInt ≤ 2) : Met l yX6_lowest wk_X6_lowestE ({ frames := 1, cells := 0, slots := 0, locals := 23 }) (va_Pc [.ref h0, .int p1, .int p2, .int p3] (fun U => va_P (dC, dI) vwCl [(h0, .inr (6, [.ref x0, .int fi, .int pl, .int db, .int go])), (x0, .inl (cI, 36, .inl g))] U.heap ∧ va_K (dC, dI) vwCl [(cI, .int)] U)) (vp_Si (fun r => lowP (fun s => xg fi g s p3.toInt) p1.toInt p2.toInt r.toInt)) 0 0 (fun _ => False) := by
  refine Met.ofW (cc := cX6_lowest) (maxL := 6) (ret := (some .int)) (by decide) rfl ?_
  intro p e s m args below meth c s₁ B hml hv
  obtain ⟨rfl, hP, hK⟩ := hv
  have hx := B.exec
  have hb := B.bytes
  have hr := B.returns
  have hts := atoms_spec (ws := wk_X6_lowestE) B.pre
  have hown : s.vm.findClass RX6 = some m.cls := findClass_of_methodNamed B.named
  have hlocks := B.notSynchronized
  have hP : va_P (dC, dI) vwCl [(h0, .inr (6, [.ref x0, .int fi, .int pl, .int db, .int go])), (x0, .inl (cI, 36, .inl g))] s.heap := hP
  have hl := lv_entry ([.ref h0, .int p1, .int p2, .int p3]) (n := 6) (Nat.le_of_ble_eq_true rfl)
  rw [lg_entry_eq]
  generalize (lg_sl ([.ref h0, .int p1, .int p2, .int p3]) ++ List.replicate (6 - (lg_sl ([.ref h0, .int p1, .int p2, .int p3])).length) Slot.unset).toArray = ls at hl ⊢
  have hl : lv_has ls 6 [(0, .ref h0), (1, .int p1), (2, .int p2), (3, .int p3)] := hl
  have kl_1 : (1 : Int32).toInt = 1 := by decide
  obtain ⟨hf0, hf1, hq0, hq1⟩ := id ht
  refine lv_aload_n hx hb dX6_lowest_0 rfl (lv_at hl 0 rfl) ?_
  refine lv_iload_n hx hb dX6_lowest_1 rfl (lv_at hl 1 rfl) ?_
  refine lv_iload_n hx hb dX6_lowest_2 rfl (lv_at hl 3 rfl) ?_
  have hPc := hP.sub (ws' := [(h0, .inr (6, [.ref x0, .int fi, .int pl, .int db, .int go])), (x0, .inl (cI, 36, .inl g))]) [0, 1] rfl
  have hKc := hK.sub (tys' := [(cI, .int)]) [0] rfl
  refine vp_callSi (W.runV (As := [.int p1, .int p3]) (rest := []) ⟨hx, hb, hml, hown, hts⟩ (c_X6_coord l dC dI h0 x0 fi pl db go g cI p1 p3 (by first | assumption | omega) (by first | assumption | omega) (by first | assumption | omega) (by first | assumption | omega) (by first | assumption | omega) (by first | assumption | omega)) (cwV 2 hts g_X6_lowestE__X6_coord_33 rfl rfl rfl (by decide +kernel) ⟨Nat.le_of_ble_eq_true rfl, Nat.le_of_ble_eq_true rfl⟩) ⟨fun a U g mk q => by obtain ⟨q0, qP, qK⟩ := q; exact ⟨q0, qP, va_K.moved (u := U) (U := U.calling g mk a) (Vm.Alike.refl U.vm) qK⟩, va_recv hKc hPc (ci := 6) (q0 := 0) rfl rfl, fun U hU hW => ⟨rfl, by rw [hU]; exact hPc, va_K.moved hW.alike hKc⟩⟩ rfl rfl hl.1 rfl (lv_room (Nat.le_of_ble_eq_true rfl)) dX6_lowest_3 ⟨Nat.le_of_ble_eq_true rfl, Nat.le_of_ble_eq_true rfl⟩) (fun r_1 hr_1 => ?_)
  try dsimp only at hr_1
  have hx8 : r_1.toInt = xg fi g p1.toInt p3.toInt := by rw [hr_1]; rfl
  refine lv_istore (lv' := [(4, .int r_1), (0, .ref h0), (1, .int p1), (2, .int p2), (3, .int p3)]) hx hb dX6_lowest_6 hl (by decide) rfl (fun ls hl => ?_)
  refine lv_iload_n hx hb dX6_lowest_8 rfl (lv_at hl 2 rfl) ?_
  refine lv_istore (lv' := [(5, .int p1), (4, .int r_1), (0, .ref h0), (1, .int p1), (2, .int p2), (3, .int p3)]) hx hb dX6_lowest_9 hl (by decide) rfl (fun ls hl => ?_)
  refine (show ∀ (k : Nat) (v4 : Int32) (k5 : Int32) (hk0 : p1.toInt ≤ k5.toInt) (hk1 : k5.toInt ≤ p2.toInt + 1) (hlo : ∀ s : Int, p1.toInt ≤ s → s < k5.toInt → v4.toInt ≤ xg fi g s p3.toInt) (hex : ∃ s : Int, p1.toInt ≤ s ∧ s ≤ p2.toInt ∧ v4.toInt = xg fi g s p3.toInt) (hk_11 : (p2.toInt + 1 - k5.toInt).toNat < k) (ls : Array Slot) (hl : lv_has ls 6 [(0, .ref h0), (1, .int p1), (2, .int p2), (3, .int p3), (4, .int v4), (5, .int k5)]), W p l e _ s m _ below meth c s.heap [] 0 0 _ (F0 m 11 ls []) from ?_) _ r_1 p1 (by omega) (by omega) (by exact fun s a9 b9 => absurd b9 (by omega)) (by exact ⟨p1.toInt, by omega, by omega, hx8⟩) (Nat.lt_succ_self _) ls (lv_sub hl [2, 3, 4, 5, 1, 0] rfl)
  intro k
  induction k with
  | zero => intro v4 k5 hk0 hk1 hlo hex hk_11; exact absurd hk_11 (Nat.not_lt_zero _)
  | succ k ih_11 =>
    intro v4 k5 hk0 hk1 hlo hex hk_11 ls hl
    refine lv_iload hx hb dX6_lowest_11 (lv_at hl 5 rfl) ?_
    refine lv_iload_n hx hb dX6_lowest_13 rfl (lv_at hl 2 rfl) ?_
    refine lv_icmp_gt (tgt := 37) hx hb dX6_lowest_14 (by decide) (fun c_14 => ?_) (fun c_14 => ?_)
    · have t_14 := (fa_lt _ _).mp c_14
      refine lv_iload hx hb dX6_lowest_37 (lv_at hl 4 rfl) ?_
      exact W.iret (v := v4) hx hb hr (fun t ht _ => ⟨_, rfl, ⟨fun s a9 b9 => hlo s a9 (by omega), hex⟩, ht⟩) (fun _ h => absurd h List.not_mem_nil) dX6_lowest_39
    · have t_14 := mt (fa_lt _ _).mpr c_14
      refine lv_iload hx hb dX6_lowest_17 (lv_at hl 4 rfl) ?_
      refine lv_aload_n hx hb dX6_lowest_19 rfl (lv_at hl 0 rfl) ?_
      refine lv_iload hx hb dX6_lowest_20 (lv_at hl 5 rfl) ?_
      refine lv_iload_n hx hb dX6_lowest_22 rfl (lv_at hl 3 rfl) ?_
      have hPc := hP.sub (ws' := [(h0, .inr (6, [.ref x0, .int fi, .int pl, .int db, .int go])), (x0, .inl (cI, 36, .inl g))]) [0, 1] rfl
      have hKc := hK.sub (tys' := [(cI, .int)]) [0] rfl
      refine vp_callSi (W.runV (As := [.int k5, .int p3]) (rest := [.int v4]) ⟨hx, hb, hml, hown, hts⟩ (c_X6_coord l dC dI h0 x0 fi pl db go g cI k5 p3 (by first | assumption | omega) (by first | assumption | omega) (by first | assumption | omega) (by first | assumption | omega) (by first | assumption | omega) (by first | assumption | omega)) (cwV 2 hts g_X6_lowestE__X6_coord_33 rfl rfl rfl (by decide +kernel) ⟨Nat.le_of_ble_eq_true rfl, Nat.le_of_ble_eq_true rfl⟩) ⟨fun a U g mk q => by obtain ⟨q0, qP, qK⟩ := q; exact ⟨q0, qP, va_K.moved (u := U) (U := U.calling g mk a) (Vm.Alike.refl U.vm) qK⟩, va_recv hKc hPc (ci := 6) (q0 := 0) rfl rfl, fun U hU hW => ⟨rfl, by rw [hU]; exact hPc, va_K.moved hW.alike hKc⟩⟩ rfl rfl hl.1 rfl (lv_room (Nat.le_of_ble_eq_true rfl)) dX6_lowest_23 ⟨Nat.le_of_ble_eq_true rfl, Nat.le_of_ble_eq_true rfl⟩) (fun r_2 hr_2 => ?_)
      try dsimp only at hr_2
      have hx9 : r_2.toInt = xg fi g k5.toInt p3.toInt := by rw [hr_2]; rfl
      refine va_mmin hx hb (by rw [hml]; exact hl.1.symm) hown (hts (.methodLink RX6 37 Lib.Math.min.name) (by decide +kernel)) (hts (.static Lib.Math.min.name) (by decide +kernel)) (hts (.initialized "java/lang/Math") (by decide +kernel)) (hts _ (List.mem_of_getElem? (i := 4) rfl)) (Nat.le_of_ble_eq_true rfl) (Nat.le_of_ble_eq_true rfl) (Nat.le_of_ble_eq_true rfl) (Nat.le_of_ble_eq_true rfl) dX6_lowest_26 ?_
      refine lv_topi (fun y_3 ey_3 => ?_)
      have ty_3 := min_I ey_3
      refine lv_istore (lv' := [(4, .int y_3), (0, .ref h0), (1, .int p1), (2, .int p2), (3, .int p3), (5, .int k5)]) hx hb dX6_lowest_29 hl (by decide) rfl (fun ls hl => ?_)
      obtain ⟨y_4, ey_4⟩ : ∃ y : Int32, y = k5 + 1 := ⟨_, rfl⟩
      have ty_4 : y_4.toInt = k5.toInt + 1 := by rw [ey_4]; have := fb_addI (x := k5) (y := 1) (by omega) (by omega); omega
      refine lv_iinc (v := y_4) (lv' := [(5, .int y_4), (4, .int y_3), (0, .ref h0), (1, .int p1), (2, .int p2), (3, .int p3)]) hx hb dX6_lowest_31 hl (k := 5) rfl (by rw [ey_4]; rfl) (by decide) rfl (fun ls hl => ?_)
      refine lv_goto (tgt := 11) hx hb dX6_lowest_34 (by decide) ?_
      exact ih_11 y_3 y_4 (by omega) (by omega) (by intro s a9 b9; rcases (show s < k5.toInt ∨ s = k5.toInt by omega) with z | z <;> first | (have z9 := hlo s a9 z; omega) | (rw [z]; omega)) (by rcases ty_3 with ⟨m1, m2⟩ | ⟨m1, m2⟩ <;> first | exact ⟨k5.toInt, by omega, by omega, by omega⟩ | (obtain ⟨s9, a9, b9, c9⟩ := hex; exact ⟨s9, a9, b9, by omega⟩)) (by omega) ls (lv_sub hl [2, 3, 4, 5, 1, 0] rfl)
def wk_X6_highestE : List Cond := .code yX6_highest cX6_highest 6 (some .int) :: (([.methodLink RX6 42 Lib.Math.max.name, .static Lib.Math.max.name, .initialized "java/lang/Math", .code Lib.Math.max.name Lib.Math.max.code 2 (some .int)] : List Cond) ++ ((wsV RX6 33 RX6 yX6_coord wk_X6_coord) ++ ([])))
theorem gw_X6_highestE : AG wk_X6_highestE := AG_ca (AG_l (by decide +kernel)) (AG_app (AG_V gw_X6_coord) (AG_nil))
theorem g_X6_highestE__X6_coord_33 : GoodIn wk_X6_highestE (wsV RX6 33 RX6 yX6_coord wk_X6_coord) := goodIn_m (fun _ h => List.mem_cons_of_mem _ (List.mem_append_right _ (List.mem_append_left _ h))) (AG_V gw_X6_coord)
set_option maxHeartbeats 4000000 in
set_option maxRecDepth 100000 in
theorem c_X6_highestE (l : Launch) (dC : Nat → ClassId) (dI : Nat → Nat → Nat) (h0 : Nat) (x0 : Nat) (fi : Int32) (pl : Int32) (db : Int32) (go : Int32) (g : Nat → Int32) (cI : ClassId) (p1 : Int32) (p2 : Int32) (p3 : Int32) (ht : tOK fi pl) (hs0 : fi.toInt ≤ p1.toInt) (hs1 : p2.toInt < fi.toInt + pl.toInt) (hs2 : p1.toInt ≤ p2.toInt) (hx0 : 0 ≤ p3.toInt) (hx1 : p3.toInt ≤ 2) : Met l yX6_highest wk_X6_highestE ({ frames := 1, cells := 0, slots := 0, locals := 23 }) (va_Pc [.ref h0, .int p1, .int p2, .int p3] (fun U => va_P (dC, dI) vwCl [(h0, .inr (6, [.ref x0, .int fi, .int pl, .int db, .int go])), (x0, .inl (cI, 36, .inl g))] U.heap ∧ va_K (dC, dI) vwCl [(cI, .int)] U)) (vp_Si (fun r => higP (fun s => xg fi g s p3.toInt) p1.toInt p2.toInt r.toInt)) 0 0 (fun _ => False) := by
  refine Met.ofW (cc := cX6_highest) (maxL := 6) (ret := (some .int)) (by decide) rfl ?_
  intro p e s m args below meth c s₁ B hml hv
  obtain ⟨rfl, hP, hK⟩ := hv
  have hx := B.exec
  have hb := B.bytes
  have hr := B.returns
  have hts := atoms_spec (ws := wk_X6_highestE) B.pre
  have hown : s.vm.findClass RX6 = some m.cls := findClass_of_methodNamed B.named
  have hlocks := B.notSynchronized
  have hP : va_P (dC, dI) vwCl [(h0, .inr (6, [.ref x0, .int fi, .int pl, .int db, .int go])), (x0, .inl (cI, 36, .inl g))] s.heap := hP
  have hl := lv_entry ([.ref h0, .int p1, .int p2, .int p3]) (n := 6) (Nat.le_of_ble_eq_true rfl)
  rw [lg_entry_eq]
  generalize (lg_sl ([.ref h0, .int p1, .int p2, .int p3]) ++ List.replicate (6 - (lg_sl ([.ref h0, .int p1, .int p2, .int p3])).length) Slot.unset).toArray = ls at hl ⊢
  have hl : lv_has ls 6 [(0, .ref h0), (1, .int p1), (2, .int p2), (3, .int p3)] := hl
  have kl_1 : (1 : Int32).toInt = 1 := by decide
  obtain ⟨hf0, hf1, hq0, hq1⟩ := id ht
  refine lv_aload_n hx hb dX6_highest_0 rfl (lv_at hl 0 rfl) ?_
  refine lv_iload_n hx hb dX6_highest_1 rfl (lv_at hl 1 rfl) ?_
  refine lv_iload_n hx hb dX6_highest_2 rfl (lv_at hl 3 rfl) ?_
  have hPc := hP.sub (ws' := [(h0, .inr (6, [.ref x0, .int fi, .int pl, .int db, .int go])), (x0, .inl (cI, 36, .inl g))]) [0, 1] rfl
  have hKc := hK.sub (tys' := [(cI, .int)]) [0] rfl
  refine vp_callSi (W.runV (As := [.int p1, .int p3]) (rest := []) ⟨hx, hb, hml, hown, hts⟩ (c_X6_coord l dC dI h0 x0 fi pl db go g cI p1 p3 (by first | assumption | omega) (by first | assumption | omega) (by first | assumption | omega) (by first | assumption | omega) (by first | assumption | omega) (by first | assumption | omega)) (cwV 2 hts g_X6_highestE__X6_coord_33 rfl rfl rfl (by decide +kernel) ⟨Nat.le_of_ble_eq_true rfl, Nat.le_of_ble_eq_true rfl⟩) ⟨fun a U g mk q => by obtain ⟨q0, qP, qK⟩ := q; exact ⟨q0, qP, va_K.moved (u := U) (U := U.calling g mk a) (Vm.Alike.refl U.vm) qK⟩, va_recv hKc hPc (ci := 6) (q0 := 0) rfl rfl, fun U hU hW => ⟨rfl, by rw [hU]; exact hPc, va_K.moved hW.alike hKc⟩⟩ rfl rfl hl.1 rfl (lv_room (Nat.le_of_ble_eq_true rfl)) dX6_highest_3 ⟨Nat.le_of_ble_eq_true rfl, Nat.le_of_ble_eq_true rfl⟩) (fun r_1 hr_1 => ?_)
  try dsimp only at hr_1
  have hx8 : r_1.toInt = xg fi g p1.toInt p3.toInt := by rw [hr_1]; rfl
  refine lv_istore (lv' := [(4, .int r_1), (0, .ref h0), (1, .int p1), (2, .int p2), (3, .int p3)]) hx hb dX6_highest_6 hl (by decide) rfl (fun ls hl => ?_)
  refine lv_iload_n hx hb dX6_highest_8 rfl (lv_at hl 2 rfl) ?_
  refine lv_istore (lv' := [(5, .int p1), (4, .int r_1), (0, .ref h0), (1, .int p1), (2, .int p2), (3, .int p3)]) hx hb dX6_highest_9 hl (by decide) rfl (fun ls hl => ?_)
  refine (show ∀ (k : Nat) (v4 : Int32) (k5 : Int32) (hk0 : p1.toInt ≤ k5.toInt) (hk1 : k5.toInt ≤ p2.toInt + 1) (hlo : ∀ s : Int, p1.toInt ≤ s → s < k5.toInt → xg fi g s p3.toInt ≤ v4.toInt) (hex : ∃ s : Int, p1.toInt ≤ s ∧ s ≤ p2.toInt ∧ v4.toInt = xg fi g s p3.toInt) (hk_11 : (p2.toInt + 1 - k5.toInt).toNat < k) (ls : Array Slot) (hl : lv_has ls 6 [(0, .ref h0), (1, .int p1), (2, .int p2), (3, .int p3), (4, .int v4), (5, .int k5)]), W p l e _ s m _ below meth c s.heap [] 0 0 _ (F0 m 11 ls []) from ?_) _ r_1 p1 (by omega) (by omega) (by exact fun s a9 b9 => absurd b9 (by omega)) (by exact ⟨p1.toInt, by omega, by omega, hx8⟩) (Nat.lt_succ_self _) ls (lv_sub hl [2, 3, 4, 5, 1, 0] rfl)
  intro k
  induction k with
  | zero => intro v4 k5 hk0 hk1 hlo hex hk_11; exact absurd hk_11 (Nat.not_lt_zero _)
  | succ k ih_11 =>
    intro v4 k5 hk0 hk1 hlo hex hk_11 ls hl
    refine lv_iload hx hb dX6_highest_11 (lv_at hl 5 rfl) ?_
    refine lv_iload_n hx hb dX6_highest_13 rfl (lv_at hl 2 rfl) ?_
    refine lv_icmp_gt (tgt := 37) hx hb dX6_highest_14 (by decide) (fun c_14 => ?_) (fun c_14 => ?_)
    · have t_14 := (fa_lt _ _).mp c_14
      refine lv_iload hx hb dX6_highest_37 (lv_at hl 4 rfl) ?_
      exact W.iret (v := v4) hx hb hr (fun t ht _ => ⟨_, rfl, ⟨fun s a9 b9 => hlo s a9 (by omega), hex⟩, ht⟩) (fun _ h => absurd h List.not_mem_nil) dX6_highest_39
    · have t_14 := mt (fa_lt _ _).mpr c_14
      refine lv_iload hx hb dX6_highest_17 (lv_at hl 4 rfl) ?_
      refine lv_aload_n hx hb dX6_highest_19 rfl (lv_at hl 0 rfl) ?_
      refine lv_iload hx hb dX6_highest_20 (lv_at hl 5 rfl) ?_
      refine lv_iload_n hx hb dX6_highest_22 rfl (lv_at hl 3 rfl) ?_
      have hPc := hP.sub (ws' := [(h0, .inr (6, [.ref x0, .int fi, .int pl, .int db, .int go])), (x0, .inl (cI, 36, .inl g))]) [0, 1] rfl
      have hKc := hK.sub (tys' := [(cI, .int)]) [0] rfl
      refine vp_callSi (W.runV (As := [.int k5, .int p3]) (rest := [.int v4]) ⟨hx, hb, hml, hown, hts⟩ (c_X6_coord l dC dI h0 x0 fi pl db go g cI k5 p3 (by first | assumption | omega) (by first | assumption | omega) (by first | assumption | omega) (by first | assumption | omega) (by first | assumption | omega) (by first | assumption | omega)) (cwV 2 hts g_X6_highestE__X6_coord_33 rfl rfl rfl (by decide +kernel) ⟨Nat.le_of_ble_eq_true rfl, Nat.le_of_ble_eq_true rfl⟩) ⟨fun a U g mk q => by obtain ⟨q0, qP, qK⟩ := q; exact ⟨q0, qP, va_K.moved (u := U) (U := U.calling g mk a) (Vm.Alike.refl U.vm) qK⟩, va_recv hKc hPc (ci := 6) (q0 := 0) rfl rfl, fun U hU hW => ⟨rfl, by rw [hU]; exact hPc, va_K.moved hW.alike hKc⟩⟩ rfl rfl hl.1 rfl (lv_room (Nat.le_of_ble_eq_true rfl)) dX6_highest_23 ⟨Nat.le_of_ble_eq_true rfl, Nat.le_of_ble_eq_true rfl⟩) (fun r_2 hr_2 => ?_)
      try dsimp only at hr_2
      have hx9 : r_2.toInt = xg fi g k5.toInt p3.toInt := by rw [hr_2]; rfl
      refine va_mmax hx hb (by rw [hml]; exact hl.1.symm) hown (hts (.methodLink RX6 42 Lib.Math.max.name) (by decide +kernel)) (hts (.static Lib.Math.max.name) (by decide +kernel)) (hts (.initialized "java/lang/Math") (by decide +kernel)) (hts _ (List.mem_of_getElem? (i := 4) rfl)) (Nat.le_of_ble_eq_true rfl) (Nat.le_of_ble_eq_true rfl) (Nat.le_of_ble_eq_true rfl) (Nat.le_of_ble_eq_true rfl) dX6_highest_26 ?_
      refine lv_topi (fun y_3 ey_3 => ?_)
      have ty_3 := max_I ey_3
      refine lv_istore (lv' := [(4, .int y_3), (0, .ref h0), (1, .int p1), (2, .int p2), (3, .int p3), (5, .int k5)]) hx hb dX6_highest_29 hl (by decide) rfl (fun ls hl => ?_)
      obtain ⟨y_4, ey_4⟩ : ∃ y : Int32, y = k5 + 1 := ⟨_, rfl⟩
      have ty_4 : y_4.toInt = k5.toInt + 1 := by rw [ey_4]; have := fb_addI (x := k5) (y := 1) (by omega) (by omega); omega
      refine lv_iinc (v := y_4) (lv' := [(5, .int y_4), (4, .int y_3), (0, .ref h0), (1, .int p1), (2, .int p2), (3, .int p3)]) hx hb dX6_highest_31 hl (k := 5) rfl (by rw [ey_4]; rfl) (by decide) rfl (fun ls hl => ?_)
      refine lv_goto (tgt := 11) hx hb dX6_highest_34 (by decide) ?_
      exact ih_11 y_3 y_4 (by omega) (by omega) (by intro s a9 b9; rcases (show s < k5.toInt ∨ s = k5.toInt by omega) with z | z <;> first | (have z9 := hlo s a9 z; omega) | (rw [z]; omega)) (by rcases ty_3 with ⟨m1, m2⟩ | ⟨m1, m2⟩ <;> first | exact ⟨k5.toInt, by omega, by omega, by omega⟩ | (obtain ⟨s9, a9, b9, c9⟩ := hex; exact ⟨s9, a9, b9, by omega⟩)) (by omega) ls (lv_sub hl [2, 3, 4, 5, 1, 0] rfl)
def wk_X8_areApartE : List Cond := .code yX8_areApart cX8_areApart 6 (some .boolean) :: (([.fieldLink RX8 34 "MeetingsAbove" "near" "I"] : List Cond) ++ (wsX80 ++ ((wsV RX8 327 RX6 yX6_lowest wk_X6_lowestE) ++ ((wsV RX8 330 RX6 yX6_highest wk_X6_highestE) ++ ([])))))
theorem in_X8_areApartE_X8 : ∀ w ∈ wsX80, w ∈ wk_X8_areApartE := fun _ h => List.mem_cons_of_mem _ (List.mem_append_right _ (List.mem_append_left _ h))
theorem gw_X8_areApartE : AG wk_X8_areApartE := AG_ca (AG_l (by decide +kernel)) (AG_app ag_X8 (AG_app (AG_V gw_X6_lowestE) (AG_app (AG_V gw_X6_highestE) (AG_nil))))
theorem g_X8_areApartE__X6_lowestE_327 : GoodIn wk_X8_areApartE (wsV RX8 327 RX6 yX6_lowest wk_X6_lowestE) := goodIn_m (fun _ h => List.mem_cons_of_mem _ (List.mem_append_right _ (List.mem_append_right _ (List.mem_append_left _ h)))) (AG_V gw_X6_lowestE)
theorem g_X8_areApartE__X6_highestE_330 : GoodIn wk_X8_areApartE (wsV RX8 330 RX6 yX6_highest wk_X6_highestE) := goodIn_m (fun _ h => List.mem_cons_of_mem _ (List.mem_append_right _ (List.mem_append_right _ (List.mem_append_right _ (List.mem_append_left _ h))))) (AG_V gw_X6_highestE)
set_option maxHeartbeats 4000000 in
set_option maxRecDepth 100000 in
theorem c_X8_areApartE (l : Launch) (dC : Nat → ClassId) (dI : Nat → Nat → Nat) (h0 : Nat) (n0 : Nat) (s0 : Nat) (s1 : Nat) (d0 : Nat) (o0 : Nat) (w0 : Nat) (e0 : Nat) (f0 : Nat) (t0 : Nat) (b0 : Nat) (dn : Int32) (nn : Int32) (la : Int32) (ne : Int32) (wi : Int32) (lm : Int32) (h1 : Nat) (x1 : Nat) (fi1 : Int32) (pl1 : Int32) (db1 : Int32) (go1 : Int32) (g1 : Nat → Int32) (h2 : Nat) (x2 : Nat) (fi2 : Int32) (pl2 : Int32) (db2 : Int32) (go2 : Int32) (g2 : Nat → Int32) (cI : ClassId) (p1 : Int32) (p2 : Int32) (ht1 : tOK fi1 pl1) (ht2 : tOK fi2 pl2) (hf1 : fi1.toInt ≤ p1.toInt) (hf2 : fi2.toInt ≤ p1.toInt) (hl1 : p2.toInt < fi1.toInt + pl1.toInt) (hl2 : p2.toInt < fi2.toInt + pl2.toInt) (hft : p1.toInt ≤ p2.toInt) (hco1 : cOK pl1 g1) (hco2 : cOK pl2 g2) (hne0 : 0 ≤ ne.toInt) (hne1 : ne.toInt ≤ 3000) : Met l yX8_areApart wk_X8_areApartE ({ frames := 2, cells := 0, slots := 0, locals := 48 }) (va_Pc [.ref h0, .ref h1, .ref h2, .int p1, .int p2] (fun U => va_P (dC, dI) vwCl [(h0, .inr (8, [.ref n0, .ref s0, .ref s1, .ref d0, .ref o0, .int dn, .int nn, .int la, .int ne, .int wi, .ref w0, .ref e0, .ref f0, .ref t0, .ref b0, .int lm])), (h1, .inr (6, [.ref x1, .int fi1, .int pl1, .int db1, .int go1])), (x1, .inl (cI, 36, .inl g1)), (h2, .inr (6, [.ref x2, .int fi2, .int pl2, .int db2, .int go2])), (x2, .inl (cI, 36, .inl g2))] U.heap ∧ va_K (dC, dI) vwCl [(cI, .int)] U)) (vp_Si (fun r => (r = 1 ∧ farS fi1 g1 fi2 g2 p1.toInt p2.toInt ne.toInt) ∨ (r = 0 ∧ ¬ farS fi1 g1 fi2 g2 p1.toInt p2.toInt ne.toInt))) 0 0 (fun _ => False) := by
  refine Met.ofW (cc := cX8_areApart) (maxL := 6) (ret := (some .boolean)) (by decide) rfl ?_
  intro p e s m args below meth c s₁ B hml hv
  obtain ⟨rfl, hP, hK⟩ := hv
  have hx := B.exec
  have hb := B.bytes
  have hr := B.returns
  have hts := atoms_spec (ws := wk_X8_areApartE) B.pre
  have hown : s.vm.findClass RX8 = some m.cls := findClass_of_methodNamed B.named
  have hlocks := B.notSynchronized
  have hP : va_P (dC, dI) vwCl [(h0, .inr (8, [.ref n0, .ref s0, .ref s1, .ref d0, .ref o0, .int dn, .int nn, .int la, .int ne, .int wi, .ref w0, .ref e0, .ref f0, .ref t0, .ref b0, .int lm])), (h1, .inr (6, [.ref x1, .int fi1, .int pl1, .int db1, .int go1])), (x1, .inl (cI, 36, .inl g1)), (h2, .inr (6, [.ref x2, .int fi2, .int pl2, .int db2, .int go2])), (x2, .inl (cI, 36, .inl g2))] s.heap := hP
  have hl := lv_entry ([.ref h0, .ref h1, .ref h2, .int p1, .int p2]) (n := 6) (Nat.le_of_ble_eq_true rfl)
  rw [lg_entry_eq]
  generalize (lg_sl ([.ref h0, .ref h1, .ref h2, .int p1, .int p2]) ++ List.replicate (6 - (lg_sl ([.ref h0, .ref h1, .ref h2, .int p1, .int p2])).length) Slot.unset).toArray = ls at hl ⊢
  have hl : lv_has ls 6 [(0, .ref h0), (1, .ref h1), (2, .ref h2), (3, .int p1), (4, .int p2)] := hl
  have kl_0 : (0 : Int32).toInt = 0 := by decide
  have kl_1 : (1 : Int32).toInt = 1 := by decide
  have kl_3 : (3 : Int32).toInt = 3 := by decide
  obtain ⟨hf10, hf11, hq10, hq11⟩ := id ht1
  obtain ⟨hf20, hf21, hq20, hq21⟩ := id ht2
  refine lv_iconst (v := 0) hx hb dX8_areApart_0 (by decide) ?_
  refine lv_istore (lv' := [(5, .int 0), (0, .ref h0), (1, .ref h1), (2, .ref h2), (3, .int p1), (4, .int p2)]) hx hb dX8_areApart_1 hl (by decide) rfl (fun ls hl => ?_)
  refine (show ∀ (k : Nat) (ax : Int32) (ha0 : 0 ≤ ax.toInt) (ha1 : ax.toInt ≤ 3) (hno : ∀ j : Int, 0 ≤ j → j < ax.toInt → ¬ farA (fun s => xg fi1 g1 s j) (fun s => xg fi2 g2 s j) p1.toInt p2.toInt ne.toInt) (hk_3 : (3 - ax.toInt).toNat < k) (ls : Array Slot) (hl : lv_has ls 6 [(0, .ref h0), (1, .ref h1), (2, .ref h2), (3, .int p1), (4, .int p2), (5, .int ax)]), W p l e _ s m _ below meth c s.heap [] 0 0 _ (F0 m 3 ls []) from ?_) _ 0 (by omega) (by omega) (by exact fun j a9 b9 => absurd b9 (by omega)) (Nat.lt_succ_self _) ls (lv_sub hl [1, 2, 3, 4, 5, 0] rfl)
  intro k
  induction k with
  | zero => intro ax ha0 ha1 hno hk_3; exact absurd hk_3 (Nat.not_lt_zero _)
  | succ k ih_3 =>
    intro ax ha0 ha1 hno hk_3 ls hl
    refine lv_iload hx hb dX8_areApart_3 (lv_at hl 5 rfl) ?_
    refine lv_iconst (v := 3) hx hb dX8_areApart_5 (by decide) ?_
    refine lv_icmp_ge (tgt := 69) hx hb dX8_areApart_6 (by decide) (fun c_6 => ?_) (fun c_6 => ?_)
    · have t_6 := (fa_le _ _).mp c_6
      refine lv_iconst (v := 0) hx hb dX8_areApart_69 (by decide) ?_
      exact W.zret (v := 0) hx hb hr rfl (fun t ht _ => ⟨_, rfl, (Or.inr ⟨rfl, fun z9 => by obtain ⟨j9, j0, j3, hj9⟩ := z9; exact hno j9 j0 (by omega) hj9⟩), ht⟩) (fun _ h => absurd h List.not_mem_nil) dX8_areApart_70
    · have t_6 := mt (fa_le _ _).mpr c_6
      refine lv_aload_n hx hb dX8_areApart_9 rfl (lv_at hl 1 rfl) ?_
      refine lv_iload_n hx hb dX8_areApart_10 rfl (lv_at hl 3 rfl) ?_
      refine lv_iload hx hb dX8_areApart_11 (lv_at hl 4 rfl) ?_
      refine lv_iload hx hb dX8_areApart_13 (lv_at hl 5 rfl) ?_
      have hPc := hP.sub (ws' := [(h1, .inr (6, [.ref x1, .int fi1, .int pl1, .int db1, .int go1])), (x1, .inl (cI, 36, .inl g1))]) [1, 2] rfl
      have hKc := hK.sub (tys' := [(cI, .int)]) [0] rfl
      refine vp_callSi (W.runV (As := [.int p1, .int p2, .int ax]) (rest := []) ⟨hx, hb, hml, hown, hts⟩ (c_X6_lowestE l dC dI h1 x1 fi1 pl1 db1 go1 g1 cI p1 p2 ax (by first | assumption | omega) (by first | assumption | omega) (by first | assumption | omega) (by first | assumption | omega) (by first | assumption | omega) (by first | assumption | omega)) (cwV 3 hts g_X8_areApartE__X6_lowestE_327 rfl rfl rfl (by decide +kernel) ⟨Nat.le_of_ble_eq_true rfl, Nat.le_of_ble_eq_true rfl⟩) ⟨fun a U g mk q => by obtain ⟨q0, qP, qK⟩ := q; exact ⟨q0, qP, va_K.moved (u := U) (U := U.calling g mk a) (Vm.Alike.refl U.vm) qK⟩, va_recv hKc hPc (ci := 6) (q0 := 0) rfl rfl, fun U hU hW => ⟨rfl, by rw [hU]; exact hPc, va_K.moved hW.alike hKc⟩⟩ rfl rfl hl.1 rfl (lv_room (Nat.le_of_ble_eq_true rfl)) dX8_areApart_15 ⟨Nat.le_of_ble_eq_true rfl, Nat.le_of_ble_eq_true rfl⟩) (fun r_1 hr_1 => ?_)
      try dsimp only at hr_1
      obtain ⟨l1a, l1b⟩ := low_bd hco1 hr_1 (by omega) (by omega) (by omega) (by omega)
      refine lv_aload_n hx hb dX8_areApart_18 rfl (lv_at hl 2 rfl) ?_
      refine lv_iload_n hx hb dX8_areApart_19 rfl (lv_at hl 3 rfl) ?_
      refine lv_iload hx hb dX8_areApart_20 (lv_at hl 4 rfl) ?_
      refine lv_iload hx hb dX8_areApart_22 (lv_at hl 5 rfl) ?_
      have hPc := hP.sub (ws' := [(h2, .inr (6, [.ref x2, .int fi2, .int pl2, .int db2, .int go2])), (x2, .inl (cI, 36, .inl g2))]) [3, 4] rfl
      have hKc := hK.sub (tys' := [(cI, .int)]) [0] rfl
      refine vp_callSi (W.runV (As := [.int p1, .int p2, .int ax]) (rest := [.int r_1]) ⟨hx, hb, hml, hown, hts⟩ (c_X6_highestE l dC dI h2 x2 fi2 pl2 db2 go2 g2 cI p1 p2 ax (by first | assumption | omega) (by first | assumption | omega) (by first | assumption | omega) (by first | assumption | omega) (by first | assumption | omega) (by first | assumption | omega)) (cwV 3 hts g_X8_areApartE__X6_highestE_330 rfl rfl rfl (by decide +kernel) ⟨Nat.le_of_ble_eq_true rfl, Nat.le_of_ble_eq_true rfl⟩) ⟨fun a U g mk q => by obtain ⟨q0, qP, qK⟩ := q; exact ⟨q0, qP, va_K.moved (u := U) (U := U.calling g mk a) (Vm.Alike.refl U.vm) qK⟩, va_recv hKc hPc (ci := 6) (q0 := 0) rfl rfl, fun U hU hW => ⟨rfl, by rw [hU]; exact hPc, va_K.moved hW.alike hKc⟩⟩ rfl rfl hl.1 rfl (lv_room (Nat.le_of_ble_eq_true rfl)) dX8_areApart_24 ⟨Nat.le_of_ble_eq_true rfl, Nat.le_of_ble_eq_true rfl⟩) (fun r_2 hr_2 => ?_)
      try dsimp only at hr_2
      obtain ⟨l2a, l2b⟩ := hig_bd hco2 hr_2 (by omega) (by omega) (by omega) (by omega)
      refine lv_isub hx hb dX8_areApart_27 ?_
      refine lv_topi (fun y_3 ey_3 => ?_)
      have ty_3 : y_3.toInt = r_1.toInt - r_2.toInt := by rw [ey_3]; have := fb_subI (x := r_1) (y := r_2) (by omega) (by omega); omega
      refine lv_aload_n hx hb dX8_areApart_28 rfl (lv_at hl 0 rfl) ?_
      refine va_get (D := (dC, dI)) (ci := 8) (v := .int ne) (C := RX8) (T := TX8) (N := 16) hx hb hts in_X8_areApartE_X8 hown hK hP 0 rfl rfl 8 (by decide) (hts (.fieldLink RX8 34 "MeetingsAbove" "near" "I") (by decide +kernel)) (fun _ h9 => h9) rfl dX8_areApart_29 ?_
      refine lv_icmp_ge (tgt := 61) hx hb dX8_areApart_32 (by decide) (fun c_32 => ?_) (fun c_32 => ?_)
      · have t_32 := (fa_le _ _).mp c_32
        refine lv_iconst (v := 1) hx hb dX8_areApart_61 (by decide) ?_
        exact W.zret (v := 1) hx hb hr rfl (fun t ht _ => ⟨_, rfl, (Or.inl ⟨rfl, ax.toInt, by omega, by omega, by first | exact far_1 hr_1 hr_2 (by omega) | exact far_2 hzz_none hzz_none (by omega)⟩), ht⟩) (fun _ h => absurd h List.not_mem_nil) dX8_areApart_62
      · have t_32 := mt (fa_le _ _).mpr c_32
        refine lv_aload_n hx hb dX8_areApart_35 rfl (lv_at hl 2 rfl) ?_
        refine lv_iload_n hx hb dX8_areApart_36 rfl (lv_at hl 3 rfl) ?_
        refine lv_iload hx hb dX8_areApart_37 (lv_at hl 4 rfl) ?_
        refine lv_iload hx hb dX8_areApart_39 (lv_at hl 5 rfl) ?_
        have hPc := hP.sub (ws' := [(h2, .inr (6, [.ref x2, .int fi2, .int pl2, .int db2, .int go2])), (x2, .inl (cI, 36, .inl g2))]) [3, 4] rfl
        have hKc := hK.sub (tys' := [(cI, .int)]) [0] rfl
        refine vp_callSi (W.runV (As := [.int p1, .int p2, .int ax]) (rest := []) ⟨hx, hb, hml, hown, hts⟩ (c_X6_lowestE l dC dI h2 x2 fi2 pl2 db2 go2 g2 cI p1 p2 ax (by first | assumption | omega) (by first | assumption | omega) (by first | assumption | omega) (by first | assumption | omega) (by first | assumption | omega) (by first | assumption | omega)) (cwV 3 hts g_X8_areApartE__X6_lowestE_327 rfl rfl rfl (by decide +kernel) ⟨Nat.le_of_ble_eq_true rfl, Nat.le_of_ble_eq_true rfl⟩) ⟨fun a U g mk q => by obtain ⟨q0, qP, qK⟩ := q; exact ⟨q0, qP, va_K.moved (u := U) (U := U.calling g mk a) (Vm.Alike.refl U.vm) qK⟩, va_recv hKc hPc (ci := 6) (q0 := 0) rfl rfl, fun U hU hW => ⟨rfl, by rw [hU]; exact hPc, va_K.moved hW.alike hKc⟩⟩ rfl rfl hl.1 rfl (lv_room (Nat.le_of_ble_eq_true rfl)) dX8_areApart_41 ⟨Nat.le_of_ble_eq_true rfl, Nat.le_of_ble_eq_true rfl⟩) (fun r_4 hr_4 => ?_)
        try dsimp only at hr_4
        obtain ⟨l3a, l3b⟩ := low_bd hco2 hr_4 (by omega) (by omega) (by omega) (by omega)
        refine lv_aload_n hx hb dX8_areApart_44 rfl (lv_at hl 1 rfl) ?_
        refine lv_iload_n hx hb dX8_areApart_45 rfl (lv_at hl 3 rfl) ?_
        refine lv_iload hx hb dX8_areApart_46 (lv_at hl 4 rfl) ?_
        refine lv_iload hx hb dX8_areApart_48 (lv_at hl 5 rfl) ?_
        have hPc := hP.sub (ws' := [(h1, .inr (6, [.ref x1, .int fi1, .int pl1, .int db1, .int go1])), (x1, .inl (cI, 36, .inl g1))]) [1, 2] rfl
        have hKc := hK.sub (tys' := [(cI, .int)]) [0] rfl
        refine vp_callSi (W.runV (As := [.int p1, .int p2, .int ax]) (rest := [.int r_4]) ⟨hx, hb, hml, hown, hts⟩ (c_X6_highestE l dC dI h1 x1 fi1 pl1 db1 go1 g1 cI p1 p2 ax (by first | assumption | omega) (by first | assumption | omega) (by first | assumption | omega) (by first | assumption | omega) (by first | assumption | omega) (by first | assumption | omega)) (cwV 3 hts g_X8_areApartE__X6_highestE_330 rfl rfl rfl (by decide +kernel) ⟨Nat.le_of_ble_eq_true rfl, Nat.le_of_ble_eq_true rfl⟩) ⟨fun a U g mk q => by obtain ⟨q0, qP, qK⟩ := q; exact ⟨q0, qP, va_K.moved (u := U) (U := U.calling g mk a) (Vm.Alike.refl U.vm) qK⟩, va_recv hKc hPc (ci := 6) (q0 := 0) rfl rfl, fun U hU hW => ⟨rfl, by rw [hU]; exact hPc, va_K.moved hW.alike hKc⟩⟩ rfl rfl hl.1 rfl (lv_room (Nat.le_of_ble_eq_true rfl)) dX8_areApart_50 ⟨Nat.le_of_ble_eq_true rfl, Nat.le_of_ble_eq_true rfl⟩) (fun r_5 hr_5 => ?_)
        try dsimp only at hr_5
        obtain ⟨l4a, l4b⟩ := hig_bd hco1 hr_5 (by omega) (by omega) (by omega) (by omega)
        refine lv_isub hx hb dX8_areApart_53 ?_
        refine lv_topi (fun y_6 ey_6 => ?_)
        have ty_6 : y_6.toInt = r_4.toInt - r_5.toInt := by rw [ey_6]; have := fb_subI (x := r_4) (y := r_5) (by omega) (by omega); omega
        refine lv_aload_n hx hb dX8_areApart_54 rfl (lv_at hl 0 rfl) ?_
        refine va_get (D := (dC, dI)) (ci := 8) (v := .int ne) (C := RX8) (T := TX8) (N := 16) hx hb hts in_X8_areApartE_X8 hown hK hP 0 rfl rfl 8 (by decide) (hts (.fieldLink RX8 34 "MeetingsAbove" "near" "I") (by decide +kernel)) (fun _ h9 => h9) rfl dX8_areApart_55 ?_
        refine lv_icmp_lt (tgt := 63) hx hb dX8_areApart_58 (by decide) (fun c_58 => ?_) (fun c_58 => ?_)
        · have t_58 := (fa_lt _ _).mp c_58
          obtain ⟨y_7, ey_7⟩ : ∃ y : Int32, y = ax + 1 := ⟨_, rfl⟩
          have ty_7 : y_7.toInt = ax.toInt + 1 := by rw [ey_7]; have := fb_addI (x := ax) (y := 1) (by omega) (by omega); omega
          refine lv_iinc (v := y_7) (lv' := [(5, .int y_7), (0, .ref h0), (1, .ref h1), (2, .ref h2), (3, .int p1), (4, .int p2)]) hx hb dX8_areApart_63 hl (k := 5) rfl (by rw [ey_7]; rfl) (by decide) rfl (fun ls hl => ?_)
          refine lv_goto (tgt := 3) hx hb dX8_areApart_66 (by decide) ?_
          exact ih_3 y_7 (by omega) (by omega) (by intro j a9 b9; rcases (show j < ax.toInt ∨ j = ax.toInt by omega) with z | z <;> first | exact hno j a9 z | (rw [z]; exact far_no hr_1 hr_5 hr_4 hr_2 (by omega) (by omega))) (by omega) ls (lv_sub hl [1, 2, 3, 4, 5, 0] rfl)
        · have t_58 := mt (fa_lt _ _).mpr c_58
          refine lv_iconst (v := 1) hx hb dX8_areApart_61 (by decide) ?_
          exact W.zret (v := 1) hx hb hr rfl (fun t ht _ => ⟨_, rfl, (Or.inl ⟨rfl, ax.toInt, by omega, by omega, by first | exact far_1 hr_1 hr_2 (by omega) | exact far_2 hr_4 hr_5 (by omega)⟩), ht⟩) (fun _ h => absurd h List.not_mem_nil) dX8_areApart_62
def wk_X8_areApartOnEachWayE : List Cond := .code yX8_areApartOnEachWay cX8_areApartOnEachWay 6 (some .boolean) :: (([] : List Cond) ++ ((wsV RX8 180 RX8 yX8_areApart wk_X8_areApartE) ++ ([])))
theorem gw_X8_areApartOnEachWayE : AG wk_X8_areApartOnEachWayE := AG_ca (AG_l (by decide +kernel)) (AG_app (AG_V gw_X8_areApartE) (AG_nil))
theorem g_X8_areApartOnEachWayE__X8_areApartE_180 : GoodIn wk_X8_areApartOnEachWayE (wsV RX8 180 RX8 yX8_areApart wk_X8_areApartE) := goodIn_m (fun _ h => List.mem_cons_of_mem _ (List.mem_append_right _ (List.mem_append_left _ h))) (AG_V gw_X8_areApartE)
set_option maxHeartbeats 4000000 in
set_option maxRecDepth 100000 in
theorem c_X8_areApartOnEachWayE (l : Launch) (dC : Nat → ClassId) (dI : Nat → Nat → Nat) (h0 : Nat) (n0 : Nat) (s0 : Nat) (s1 : Nat) (d0 : Nat) (o0 : Nat) (w0 : Nat) (e0 : Nat) (f0 : Nat) (t0 : Nat) (b0 : Nat) (dn : Int32) (nn : Int32) (la : Int32) (ne : Int32) (wi : Int32) (lm : Int32) (h1 : Nat) (x1 : Nat) (fi1 : Int32) (pl1 : Int32) (db1 : Int32) (go1 : Int32) (g1 : Nat → Int32) (h2 : Nat) (x2 : Nat) (fi2 : Int32) (pl2 : Int32) (db2 : Int32) (go2 : Int32) (g2 : Nat → Int32) (cI : ClassId) (p1 : Int32) (p2 : Int32) (ht1 : tOK fi1 pl1) (ht2 : tOK fi2 pl2) (hf1 : fi1.toInt ≤ p1.toInt) (hf2 : fi2.toInt ≤ p1.toInt) (hl1 : p2.toInt < fi1.toInt + pl1.toInt) (hl2 : p2.toInt < fi2.toInt + pl2.toInt) (hft : p1.toInt ≤ p2.toInt) (hco1 : cOK pl1 g1) (hco2 : cOK pl2 g2) (hne0 : 0 ≤ ne.toInt) (hne1 : ne.toInt ≤ 3000) : Met l yX8_areApartOnEachWay wk_X8_areApartOnEachWayE ({ frames := 3, cells := 0, slots := 0, locals := 73 }) (va_Pc [.ref h0, .ref h1, .ref h2, .int p1, .int p2] (fun U => va_P (dC, dI) vwCl [(h0, .inr (8, [.ref n0, .ref s0, .ref s1, .ref d0, .ref o0, .int dn, .int nn, .int la, .int ne, .int wi, .ref w0, .ref e0, .ref f0, .ref t0, .ref b0, .int lm])), (h1, .inr (6, [.ref x1, .int fi1, .int pl1, .int db1, .int go1])), (x1, .inl (cI, 36, .inl g1)), (h2, .inr (6, [.ref x2, .int fi2, .int pl2, .int db2, .int go2])), (x2, .inl (cI, 36, .inl g2))] U.heap ∧ va_K (dC, dI) vwCl [(cI, .int)] U)) (vp_Si (fun r => (r = 1 ∧ ((p1.toInt = p2.toInt ∧ farS fi1 g1 fi2 g2 p1.toInt p2.toInt ne.toInt) ∨ farW fi1 g1 fi2 g2 p1.toInt p2.toInt ne.toInt)) ∨ (r = 0 ∧ ¬ ((p1.toInt = p2.toInt ∧ farS fi1 g1 fi2 g2 p1.toInt p2.toInt ne.toInt) ∨ farW fi1 g1 fi2 g2 p1.toInt p2.toInt ne.toInt)))) 0 0 (fun _ => False) := by
  refine Met.ofW (cc := cX8_areApartOnEachWay) (maxL := 6) (ret := (some .boolean)) (by decide) rfl ?_
  intro p e s m args below meth c s₁ B hml hv
  obtain ⟨rfl, hP, hK⟩ := hv
  have hx := B.exec
  have hb := B.bytes
  have hr := B.returns
  have hts := atoms_spec (ws := wk_X8_areApartOnEachWayE) B.pre
  have hown : s.vm.findClass RX8 = some m.cls := findClass_of_methodNamed B.named
  have hlocks := B.notSynchronized
  have hP : va_P (dC, dI) vwCl [(h0, .inr (8, [.ref n0, .ref s0, .ref s1, .ref d0, .ref o0, .int dn, .int nn, .int la, .int ne, .int wi, .ref w0, .ref e0, .ref f0, .ref t0, .ref b0, .int lm])), (h1, .inr (6, [.ref x1, .int fi1, .int pl1, .int db1, .int go1])), (x1, .inl (cI, 36, .inl g1)), (h2, .inr (6, [.ref x2, .int fi2, .int pl2, .int db2, .int go2])), (x2, .inl (cI, 36, .inl g2))] s.heap := hP
  have hl := lv_entry ([.ref h0, .ref h1, .ref h2, .int p1, .int p2]) (n := 6) (Nat.le_of_ble_eq_true rfl)
  rw [lg_entry_eq]
  generalize (lg_sl ([.ref h0, .ref h1, .ref h2, .int p1, .int p2]) ++ List.replicate (6 - (lg_sl ([.ref h0, .ref h1, .ref h2, .int p1, .int p2])).length) Slot.unset).toArray = ls at hl ⊢
  have hl : lv_has ls 6 [(0, .ref h0), (1, .ref h1), (2, .ref h2), (3, .int p1), (4, .int p2)] := hl
  have kl_0 : (0 : Int32).toInt = 0 := by decide
  have kl_1 : (1 : Int32).toInt = 1 := by decide
  obtain ⟨hf10, hf11, hq10, hq11⟩ := id ht1
  obtain ⟨hf20, hf21, hq20, hq21⟩ := id ht2
  refine lv_iload_n hx hb dX8_areApartOnEachWay_0 rfl (lv_at hl 3 rfl) ?_
  refine lv_iload hx hb dX8_areApartOnEachWay_1 (lv_at hl 4 rfl) ?_
  refine lv_icmp_ne (tgt := 16) hx hb dX8_areApartOnEachWay_3 (by decide) (fun c_3 => ?_) (fun c_3 => ?_)
  · have t_3 := mt (fa_eq _ _).mpr c_3
    refine lv_iload_n hx hb dX8_areApartOnEachWay_16 rfl (lv_at hl 3 rfl) ?_
    refine lv_istore (lv' := [(5, .int p1), (0, .ref h0), (1, .ref h1), (2, .ref h2), (3, .int p1), (4, .int p2)]) hx hb dX8_areApartOnEachWay_17 hl (by decide) rfl (fun ls hl => ?_)
    refine (show ∀ (k : Nat) (k5 : Int32) (hk0 : p1.toInt ≤ k5.toInt) (hk1 : k5.toInt ≤ p2.toInt) (hfw : ∀ k : Int, p1.toInt ≤ k → k < k5.toInt → farS fi1 g1 fi2 g2 k (k + 1) ne.toInt) (hk_19 : (p2.toInt - k5.toInt).toNat < k) (ls : Array Slot) (hl : lv_has ls 6 [(0, .ref h0), (1, .ref h1), (2, .ref h2), (3, .int p1), (4, .int p2), (5, .int k5)]), W p l e _ s m _ below meth c s.heap [] 0 0 _ (F0 m 19 ls []) from ?_) _ p1 (by omega) (by omega) (by exact fun k9 a9 b9 => absurd b9 (by omega)) (Nat.lt_succ_self _) ls (lv_sub hl [1, 2, 3, 4, 5, 0] rfl)
    intro k
    induction k with
    | zero => intro k5 hk0 hk1 hfw hk_19; exact absurd hk_19 (Nat.not_lt_zero _)
    | succ k ih_19 =>
      intro k5 hk0 hk1 hfw hk_19 ls hl
      refine lv_iload hx hb dX8_areApartOnEachWay_19 (lv_at hl 5 rfl) ?_
      refine lv_iload hx hb dX8_areApartOnEachWay_21 (lv_at hl 4 rfl) ?_
      refine lv_icmp_ge (tgt := 49) hx hb dX8_areApartOnEachWay_23 (by decide) (fun c_23 => ?_) (fun c_23 => ?_)
      · have t_23 := (fa_le _ _).mp c_23
        refine lv_iconst (v := 1) hx hb dX8_areApartOnEachWay_49 (by decide) ?_
        exact W.zret (v := 1) hx hb hr rfl (fun t ht _ => ⟨_, rfl, (Or.inl ⟨rfl, Or.inr ⟨by omega, fun k9 a9 b9 => hfw k9 a9 (by omega)⟩⟩), ht⟩) (fun _ h => absurd h List.not_mem_nil) dX8_areApartOnEachWay_50
      · have t_23 := mt (fa_le _ _).mpr c_23
        refine lv_aload_n hx hb dX8_areApartOnEachWay_26 rfl (lv_at hl 0 rfl) ?_
        refine lv_aload_n hx hb dX8_areApartOnEachWay_27 rfl (lv_at hl 1 rfl) ?_
        refine lv_aload_n hx hb dX8_areApartOnEachWay_28 rfl (lv_at hl 2 rfl) ?_
        refine lv_iload hx hb dX8_areApartOnEachWay_29 (lv_at hl 5 rfl) ?_
        refine lv_iload hx hb dX8_areApartOnEachWay_31 (lv_at hl 5 rfl) ?_
        refine lv_iconst (v := 1) hx hb dX8_areApartOnEachWay_33 (by decide) ?_
        refine lv_iadd hx hb dX8_areApartOnEachWay_34 ?_
        refine lv_topi (fun y_1 ey_1 => ?_)
        have ty_1 : y_1.toInt = k5.toInt + 1 := by rw [ey_1]; have := fb_addI (x := k5) (y := 1) (by omega) (by omega); omega
        have hPc := hP.sub (ws' := [(h0, .inr (8, [.ref n0, .ref s0, .ref s1, .ref d0, .ref o0, .int dn, .int nn, .int la, .int ne, .int wi, .ref w0, .ref e0, .ref f0, .ref t0, .ref b0, .int lm])), (h1, .inr (6, [.ref x1, .int fi1, .int pl1, .int db1, .int go1])), (x1, .inl (cI, 36, .inl g1)), (h2, .inr (6, [.ref x2, .int fi2, .int pl2, .int db2, .int go2])), (x2, .inl (cI, 36, .inl g2))]) [0, 1, 2, 3, 4] rfl
        have hKc := hK.sub (tys' := [(cI, .int)]) [0] rfl
        refine vp_callSi (W.runV (As := [.ref h1, .ref h2, .int k5, .int y_1]) (rest := []) ⟨hx, hb, hml, hown, hts⟩ (c_X8_areApartE l dC dI h0 n0 s0 s1 d0 o0 w0 e0 f0 t0 b0 dn nn la ne wi lm h1 x1 fi1 pl1 db1 go1 g1 h2 x2 fi2 pl2 db2 go2 g2 cI k5 y_1 (by first | assumption | omega) (by first | assumption | omega) (by first | assumption | omega) (by first | assumption | omega) (by first | assumption | omega) (by first | assumption | omega) (by first | assumption | omega) (by first | assumption | omega) (by first | assumption | omega) (by first | assumption | omega) (by first | assumption | omega)) (cwV 4 hts g_X8_areApartOnEachWayE__X8_areApartE_180 rfl rfl rfl (by decide +kernel) ⟨Nat.le_of_ble_eq_true rfl, Nat.le_of_ble_eq_true rfl⟩) ⟨fun a U g mk q => by obtain ⟨q0, qP, qK⟩ := q; exact ⟨q0, qP, va_K.moved (u := U) (U := U.calling g mk a) (Vm.Alike.refl U.vm) qK⟩, va_recv hKc hPc (ci := 8) (q0 := 0) rfl rfl, fun U hU hW => ⟨rfl, by rw [hU]; exact hPc, va_K.moved hW.alike hKc⟩⟩ rfl rfl hl.1 rfl (lv_room (Nat.le_of_ble_eq_true rfl)) dX8_areApartOnEachWay_35 ⟨Nat.le_of_ble_eq_true rfl, Nat.le_of_ble_eq_true rfl⟩) (fun r_2 hr_2 => ?_)
        try dsimp only at hr_2
        refine lv_if_ne (tgt := 43) hx hb dX8_areApartOnEachWay_38 (by decide) (fun c_38 => ?_) (fun c_38 => ?_)
        · have t_38 := mt (fa_eq _ _).mpr c_38
          obtain ⟨y_3, ey_3⟩ : ∃ y : Int32, y = k5 + 1 := ⟨_, rfl⟩
          have ty_3 : y_3.toInt = k5.toInt + 1 := by rw [ey_3]; have := fb_addI (x := k5) (y := 1) (by omega) (by omega); omega
          refine lv_iinc (v := y_3) (lv' := [(5, .int y_3), (0, .ref h0), (1, .ref h1), (2, .ref h2), (3, .int p1), (4, .int p2)]) hx hb dX8_areApartOnEachWay_43 hl (k := 5) rfl (by rw [ey_3]; rfl) (by decide) rfl (fun ls hl => ?_)
          refine lv_goto (tgt := 19) hx hb dX8_areApartOnEachWay_46 (by decide) ?_
          exact ih_19 y_3 (by omega) (by omega) (by intro k9 a9 b9; rcases (show k9 < k5.toInt ∨ k9 = k5.toInt by omega) with z | z <;> first | exact hfw k9 a9 z | (rw [z]; have q9 := tv_1 hr_2 c_38; rw [ty_1] at q9; exact q9)) (by omega) ls (lv_sub hl [1, 2, 3, 4, 5, 0] rfl)
        · have t_38 := (fa_eq _ _).mp c_38
          refine lv_iconst (v := 0) hx hb dX8_areApartOnEachWay_41 (by decide) ?_
          exact W.zret (v := 0) hx hb hr rfl (fun t ht _ => ⟨_, rfl, (Or.inr ⟨rfl, fun y9 => y9.elim (fun q => by have q9 := q.1; omega) (fun q => (tv_0 hr_2 c_38) (by have q9 := q.2 k5.toInt (by omega) (by omega); rw [ty_1]; exact q9))⟩), ht⟩) (fun _ h => absurd h List.not_mem_nil) dX8_areApartOnEachWay_42
  · have t_3 := (fa_eq _ _).mp c_3
    refine lv_aload_n hx hb dX8_areApartOnEachWay_6 rfl (lv_at hl 0 rfl) ?_
    refine lv_aload_n hx hb dX8_areApartOnEachWay_7 rfl (lv_at hl 1 rfl) ?_
    refine lv_aload_n hx hb dX8_areApartOnEachWay_8 rfl (lv_at hl 2 rfl) ?_
    refine lv_iload_n hx hb dX8_areApartOnEachWay_9 rfl (lv_at hl 3 rfl) ?_
    refine lv_iload hx hb dX8_areApartOnEachWay_10 (lv_at hl 4 rfl) ?_
    have hPc := hP.sub (ws' := [(h0, .inr (8, [.ref n0, .ref s0, .ref s1, .ref d0, .ref o0, .int dn, .int nn, .int la, .int ne, .int wi, .ref w0, .ref e0, .ref f0, .ref t0, .ref b0, .int lm])), (h1, .inr (6, [.ref x1, .int fi1, .int pl1, .int db1, .int go1])), (x1, .inl (cI, 36, .inl g1)), (h2, .inr (6, [.ref x2, .int fi2, .int pl2, .int db2, .int go2])), (x2, .inl (cI, 36, .inl g2))]) [0, 1, 2, 3, 4] rfl
    have hKc := hK.sub (tys' := [(cI, .int)]) [0] rfl
    refine vp_callSi (W.runV (As := [.ref h1, .ref h2, .int p1, .int p2]) (rest := []) ⟨hx, hb, hml, hown, hts⟩ (c_X8_areApartE l dC dI h0 n0 s0 s1 d0 o0 w0 e0 f0 t0 b0 dn nn la ne wi lm h1 x1 fi1 pl1 db1 go1 g1 h2 x2 fi2 pl2 db2 go2 g2 cI p1 p2 (by first | assumption | omega) (by first | assumption | omega) (by first | assumption | omega) (by first | assumption | omega) (by first | assumption | omega) (by first | assumption | omega) (by first | assumption | omega) (by first | assumption | omega) (by first | assumption | omega) (by first | assumption | omega) (by first | assumption | omega)) (cwV 4 hts g_X8_areApartOnEachWayE__X8_areApartE_180 rfl rfl rfl (by decide +kernel) ⟨Nat.le_of_ble_eq_true rfl, Nat.le_of_ble_eq_true rfl⟩) ⟨fun a U g mk q => by obtain ⟨q0, qP, qK⟩ := q; exact ⟨q0, qP, va_K.moved (u := U) (U := U.calling g mk a) (Vm.Alike.refl U.vm) qK⟩, va_recv hKc hPc (ci := 8) (q0 := 0) rfl rfl, fun U hU hW => ⟨rfl, by rw [hU]; exact hPc, va_K.moved hW.alike hKc⟩⟩ rfl rfl hl.1 rfl (lv_room (Nat.le_of_ble_eq_true rfl)) dX8_areApartOnEachWay_12 ⟨Nat.le_of_ble_eq_true rfl, Nat.le_of_ble_eq_true rfl⟩) (fun r_4 hr_4 => ?_)
    try dsimp only at hr_4
    exact W.zret (v := r_4) hx hb hr (by rcases hr_4 with h | h <;> rw [h.1] <;> rfl) (fun t ht _ => ⟨_, rfl, (hr_4.imp (fun z => ⟨z.1, Or.inl ⟨by omega, z.2⟩⟩) (fun z => ⟨z.1, fun y9 => y9.elim (fun q => z.2 q.2) (fun q => by have q9 := q.1; omega)⟩)), ht⟩) (fun _ h => absurd h List.not_mem_nil) dX8_areApartOnEachWay_15
