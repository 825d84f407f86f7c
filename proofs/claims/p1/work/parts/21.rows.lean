def wk_X9_isThing : List Cond := .code yX9_isThing cX9_isThing 2 (some .boolean) :: ([.fieldLink RX9 59 "MeetingsAboveModel" "things" "I", .methodLink RX9 55 yX9_in, .static yX9_in, .initialized RX9, .code yX9_in cX9_in 6 (some .boolean)] ++ wsX90)
theorem in_X9_isThing_X9 : ∀ w ∈ wsX90, w ∈ wk_X9_isThing := fun _ h => List.mem_cons_of_mem _ (List.mem_append_right _ h)
set_option maxRecDepth 20000 in
theorem g_X9_isThing__X9_in_55 : GoodIn wk_X9_isThing (va_wsS RX9 55 yX9_in wk_X9_in) := goodIn_r _ [2, 3, 4, 5] (by decide +kernel) (by decide +kernel)
set_option maxHeartbeats 4000000 in
set_option maxRecDepth 100000 in
theorem c_X9_isThing (l : Launch) (dC : Nat → ClassId) (dI : Nat → Nat → Nat) (h0 : Nat) (a1 : Nat) (a2 : Nat) (a3 : Nat) (a4 : Nat) (a5 : Nat) (a6 : Nat) (a7 : Nat) (a8 : Nat) (a9 : Nat) (a10 : Nat) (a11 : Nat) (p1 : Int32) : Met l yX9_isThing wk_X9_isThing ({ frames := 1, cells := 0, slots := 0, locals := 25 }) (va_Pc [.ref h0, .int p1] (fun U => va_P (dC, dI) vwCl [(h0, .inr (9, [.int 0, .ref a1, .ref a2, .ref a3, .ref a4, .ref a5, .int 50, .int 20, .int 0, .ref a6, .ref a7, .int 0, .ref a8, .int 0, .ref a9, .ref a10, .long 0, .long 0, .int 0, .long 0, .long 0, .ref a11]))] U.heap ∧ va_K (dC, dI) vwCl [] U)) (vp_Si (fun r => r = 0)) 0 0 (fun _ => False) := by
  refine Met.ofW (cc := cX9_isThing) (maxL := 2) (ret := (some .boolean)) (by decide) rfl ?_
  intro p e s m args below meth c s₁ B hml hv
  obtain ⟨rfl, hP, hK⟩ := hv
  have hx := B.exec
  have hb := B.bytes
  have hr := B.returns
  have hts := atoms_spec (ws := wk_X9_isThing) B.pre
  have hown : s.vm.findClass RX9 = some m.cls := findClass_of_methodNamed B.named
  have hlocks := B.notSynchronized
  have hP : va_P (dC, dI) vwCl [(h0, .inr (9, [.int 0, .ref a1, .ref a2, .ref a3, .ref a4, .ref a5, .int 50, .int 20, .int 0, .ref a6, .ref a7, .int 0, .ref a8, .int 0, .ref a9, .ref a10, .long 0, .long 0, .int 0, .long 0, .long 0, .ref a11]))] s.heap := hP
  have hl := lv_entry ([.ref h0, .int p1]) (n := 2) (Nat.le_of_ble_eq_true rfl)
  rw [lg_entry_eq]
  generalize (lg_sl ([.ref h0, .int p1]) ++ List.replicate (2 - (lg_sl ([.ref h0, .int p1])).length) Slot.unset).toArray = ls at hl ⊢
  have hl : lv_has ls 2 [(0, .ref h0), (1, .int p1)] := hl
  refine lv_iload_n hx hb dX9_isThing_0 rfl (lv_at hl 1 rfl) ?_
  refine lv_i2l hx hb dX9_isThing_1 rfl ?_
  refine lv_lconst (v := 0) hx hb dX9_isThing_2 (by decide) ?_
  refine lv_aload_n hx hb dX9_isThing_3 rfl (lv_at hl 0 rfl) ?_
  refine va_get (D := (dC, dI)) (ci := 9) (v := .int 0) (C := RX9) (T := TX9) (N := 22) hx hb hts in_X9_isThing_X9 hown hK hP 0 rfl rfl 0 (by decide) (hts (.fieldLink RX9 59 "MeetingsAboveModel" "things" "I") (by decide +kernel)) (fun _ h9 => h9) rfl dX9_isThing_4 ?_
  refine lv_iconst (v := 1) hx hb dX9_isThing_7 (by decide) ?_
  refine lv_isub hx hb dX9_isThing_8 ?_
  refine lv_topi (fun y_1 ey_1 => ?_)
  obtain rfl : y_1 = (-1) := ey_1.trans (by decide)
  refine lv_i2l (v := (-1)) hx hb dX9_isThing_9 (by decide) ?_
  refine vp_callSi (W.runS (As := [.long p1.toInt64, .long 0, .long (-1)]) (rest := []) ⟨hx, hb, hml, hown, hts⟩ (c_X9_in l dC dI p1.toInt64 0 (-1)) (va_cwS 3 hts g_X9_isThing__X9_in_55 rfl rfl rfl (by decide +kernel) ⟨Nat.le_of_ble_eq_true rfl, Nat.le_of_ble_eq_true rfl⟩) ⟨fun a U g mk q => by obtain ⟨q0, q1⟩ := q; exact ⟨q0, q1⟩, fun U hU hW => ⟨rfl, trivial⟩⟩ rfl rfl hl.1 rfl (lv_room (Nat.le_of_ble_eq_true rfl)) dX9_isThing_10 ⟨Nat.le_of_ble_eq_true rfl, Nat.le_of_ble_eq_true rfl⟩) (fun r_2 hr_2 => ?_)
  try dsimp only at hr_2
  rcases bo_split hr_2 with ⟨rfl, q_10⟩ | ⟨rfl, q_10⟩
  · have q_10 := (w64 0 (-1) p1 (by decide) (by decide)).mp q_10
    exact (absurd (Int32.le_trans q_10.1 q_10.2) (by decide))
  · have q_10 := mt (w64 0 (-1) p1 (by decide) (by decide)).mpr q_10
    exact W.zret (v := 0) hx hb hr rfl (fun t ht _ => ⟨_, rfl, rfl, ht⟩) (fun _ h => absurd h List.not_mem_nil) dX9_isThing_13
def wk_X9_place : List Cond := .code yX9_place cX9_place 5 (some .int) :: ([.methodLink RX9 80 yX9_isThing, .instanceMethod yX9_isThing, .selects RX9 yX9_isThing yX9_isThing, .initialized RX9, .code yX9_isThing cX9_isThing 2 (some .boolean), .fieldLink RX9 59 "MeetingsAboveModel" "things" "I", .methodLink RX9 55 yX9_in, .static yX9_in, .code yX9_in cX9_in 6 (some .boolean), .constant RX9 84 (-100001)] ++ wsX90)
set_option maxRecDepth 20000 in
theorem g_X9_place__X9_isThing_80 : GoodIn wk_X9_place (wsV RX9 80 RX9 yX9_isThing wk_X9_isThing) := goodIn_r _ [1, 2, 3, 4, 5, 6, 7, 8, 4, 9, 11, 12, 13, 14, 15, 16, 17, 18, 19, 20, 21, 22, 23, 24, 25, 26, 27, 28, 29, 30, 31, 32] (by decide +kernel) (by decide +kernel)
set_option maxHeartbeats 4000000 in
set_option maxRecDepth 100000 in
theorem c_X9_place (l : Launch) (dC : Nat → ClassId) (dI : Nat → Nat → Nat) (h0 : Nat) (a1 : Nat) (a2 : Nat) (a3 : Nat) (a4 : Nat) (a5 : Nat) (a6 : Nat) (a7 : Nat) (a8 : Nat) (a9 : Nat) (a10 : Nat) (a11 : Nat) (p1 : Int32) (p2 : Int32) (p3 : Int32) (p4 : Int32) : Met l yX9_place wk_X9_place ({ frames := 2, cells := 0, slots := 0, locals := 46 }) (va_Pc [.ref h0, .int p1, .int p2, .int p3, .int p4] (fun U => va_P (dC, dI) vwCl [(h0, .inr (9, [.int 0, .ref a1, .ref a2, .ref a3, .ref a4, .ref a5, .int 50, .int 20, .int 0, .ref a6, .ref a7, .int 0, .ref a8, .int 0, .ref a9, .ref a10, .long 0, .long 0, .int 0, .long 0, .long 0, .ref a11]))] U.heap ∧ va_K (dC, dI) vwCl [] U)) (vp_Si (fun r => r = (-100001))) 0 0 (fun _ => False) := by
  refine Met.ofW (cc := cX9_place) (maxL := 5) (ret := (some .int)) (by decide) rfl ?_
  intro p e s m args below meth c s₁ B hml hv
  obtain ⟨rfl, hP, hK⟩ := hv
  have hx := B.exec
  have hb := B.bytes
  have hr := B.returns
  have hts := atoms_spec (ws := wk_X9_place) B.pre
  have hown : s.vm.findClass RX9 = some m.cls := findClass_of_methodNamed B.named
  have hlocks := B.notSynchronized
  have hP : va_P (dC, dI) vwCl [(h0, .inr (9, [.int 0, .ref a1, .ref a2, .ref a3, .ref a4, .ref a5, .int 50, .int 20, .int 0, .ref a6, .ref a7, .int 0, .ref a8, .int 0, .ref a9, .ref a10, .long 0, .long 0, .int 0, .long 0, .long 0, .ref a11]))] s.heap := hP
  have hl := lv_entry ([.ref h0, .int p1, .int p2, .int p3, .int p4]) (n := 5) (Nat.le_of_ble_eq_true rfl)
  rw [lg_entry_eq]
  generalize (lg_sl ([.ref h0, .int p1, .int p2, .int p3, .int p4]) ++ List.replicate (5 - (lg_sl ([.ref h0, .int p1, .int p2, .int p3, .int p4])).length) Slot.unset).toArray = ls at hl ⊢
  have hl : lv_has ls 5 [(0, .ref h0), (1, .int p1), (2, .int p2), (3, .int p3), (4, .int p4)] := hl
  refine lv_aload_n hx hb dX9_place_0 rfl (lv_at hl 0 rfl) ?_
  refine lv_iload_n hx hb dX9_place_1 rfl (lv_at hl 1 rfl) ?_
  have hPc := hP.sub (ws' := [(h0, .inr (9, [.int 0, .ref a1, .ref a2, .ref a3, .ref a4, .ref a5, .int 50, .int 20, .int 0, .ref a6, .ref a7, .int 0, .ref a8, .int 0, .ref a9, .ref a10, .long 0, .long 0, .int 0, .long 0, .long 0, .ref a11]))]) [0] rfl
  have hKc := hK.sub (tys' := []) [] rfl
  refine vp_callSi (W.runV (As := [.int p1]) (rest := []) ⟨hx, hb, hml, hown, hts⟩ (c_X9_isThing l dC dI h0 a1 a2 a3 a4 a5 a6 a7 a8 a9 a10 a11 p1) (cwV 1 hts g_X9_place__X9_isThing_80 rfl rfl rfl (by decide +kernel) ⟨Nat.le_of_ble_eq_true rfl, Nat.le_of_ble_eq_true rfl⟩) ⟨fun a U g mk q => by obtain ⟨q0, qP, qK⟩ := q; exact ⟨q0, qP, va_K.moved (u := U) (U := U.calling g mk a) (Vm.Alike.refl U.vm) qK⟩, va_recv hKc hPc (ci := 9) (q0 := 0) rfl rfl, fun U hU hW => ⟨rfl, by rw [hU]; exact hPc, va_K.moved hW.alike hKc⟩⟩ rfl rfl hl.1 rfl (lv_room (Nat.le_of_ble_eq_true rfl)) dX9_place_2 ⟨Nat.le_of_ble_eq_true rfl, Nat.le_of_ble_eq_true rfl⟩) (fun r_1 hr_1 => ?_)
  try dsimp only at hr_1
  subst hr_1
  refine lv_if_ne (tgt := 11) hx hb dX9_place_5 (by decide) (fun h9 => absurd h9 (by decide)) (fun _ => ?_)
  refine lv_ldc hx hb hown (hts (.constant RX9 84 (-100001)) (by decide +kernel)) dX9_place_8 ?_
  exact W.iret (v := (-100001)) hx hb hr (fun t ht _ => ⟨_, rfl, rfl, ht⟩) (fun _ h => absurd h List.not_mem_nil) dX9_place_10
def wk_X9_gone : List Cond := .code yX9_gone cX9_gone 2 (some .int) :: ([.methodLink RX9 80 yX9_isThing, .instanceMethod yX9_isThing, .selects RX9 yX9_isThing yX9_isThing, .initialized RX9, .code yX9_isThing cX9_isThing 2 (some .boolean), .fieldLink RX9 59 "MeetingsAboveModel" "things" "I", .methodLink RX9 55 yX9_in, .static yX9_in, .code yX9_in cX9_in 6 (some .boolean), .constant RX9 84 (-100001)] ++ wsX90)
set_option maxRecDepth 20000 in
theorem g_X9_gone__X9_isThing_80 : GoodIn wk_X9_gone (wsV RX9 80 RX9 yX9_isThing wk_X9_isThing) := goodIn_r _ [1, 2, 3, 4, 5, 6, 7, 8, 4, 9, 11, 12, 13, 14, 15, 16, 17, 18, 19, 20, 21, 22, 23, 24, 25, 26, 27, 28, 29, 30, 31, 32] (by decide +kernel) (by decide +kernel)
set_option maxHeartbeats 4000000 in
set_option maxRecDepth 100000 in
theorem c_X9_gone (l : Launch) (dC : Nat → ClassId) (dI : Nat → Nat → Nat) (h0 : Nat) (a1 : Nat) (a2 : Nat) (a3 : Nat) (a4 : Nat) (a5 : Nat) (a6 : Nat) (a7 : Nat) (a8 : Nat) (a9 : Nat) (a10 : Nat) (a11 : Nat) (p1 : Int32) : Met l yX9_gone wk_X9_gone ({ frames := 2, cells := 0, slots := 0, locals := 46 }) (va_Pc [.ref h0, .int p1] (fun U => va_P (dC, dI) vwCl [(h0, .inr (9, [.int 0, .ref a1, .ref a2, .ref a3, .ref a4, .ref a5, .int 50, .int 20, .int 0, .ref a6, .ref a7, .int 0, .ref a8, .int 0, .ref a9, .ref a10, .long 0, .long 0, .int 0, .long 0, .long 0, .ref a11]))] U.heap ∧ va_K (dC, dI) vwCl [] U)) (vp_Si (fun r => r = (-100001))) 0 0 (fun _ => False) := by
  refine Met.ofW (cc := cX9_gone) (maxL := 2) (ret := (some .int)) (by decide) rfl ?_
  intro p e s m args below meth c s₁ B hml hv
  obtain ⟨rfl, hP, hK⟩ := hv
  have hx := B.exec
  have hb := B.bytes
  have hr := B.returns
  have hts := atoms_spec (ws := wk_X9_gone) B.pre
  have hown : s.vm.findClass RX9 = some m.cls := findClass_of_methodNamed B.named
  have hlocks := B.notSynchronized
  have hP : va_P (dC, dI) vwCl [(h0, .inr (9, [.int 0, .ref a1, .ref a2, .ref a3, .ref a4, .ref a5, .int 50, .int 20, .int 0, .ref a6, .ref a7, .int 0, .ref a8, .int 0, .ref a9, .ref a10, .long 0, .long 0, .int 0, .long 0, .long 0, .ref a11]))] s.heap := hP
  have hl := lv_entry ([.ref h0, .int p1]) (n := 2) (Nat.le_of_ble_eq_true rfl)
  rw [lg_entry_eq]
  generalize (lg_sl ([.ref h0, .int p1]) ++ List.replicate (2 - (lg_sl ([.ref h0, .int p1])).length) Slot.unset).toArray = ls at hl ⊢
  have hl : lv_has ls 2 [(0, .ref h0), (1, .int p1)] := hl
  refine lv_aload_n hx hb dX9_gone_0 rfl (lv_at hl 0 rfl) ?_
  refine lv_iload_n hx hb dX9_gone_1 rfl (lv_at hl 1 rfl) ?_
  have hPc := hP.sub (ws' := [(h0, .inr (9, [.int 0, .ref a1, .ref a2, .ref a3, .ref a4, .ref a5, .int 50, .int 20, .int 0, .ref a6, .ref a7, .int 0, .ref a8, .int 0, .ref a9, .ref a10, .long 0, .long 0, .int 0, .long 0, .long 0, .ref a11]))]) [0] rfl
  have hKc := hK.sub (tys' := []) [] rfl
  refine vp_callSi (W.runV (As := [.int p1]) (rest := []) ⟨hx, hb, hml, hown, hts⟩ (c_X9_isThing l dC dI h0 a1 a2 a3 a4 a5 a6 a7 a8 a9 a10 a11 p1) (cwV 1 hts g_X9_gone__X9_isThing_80 rfl rfl rfl (by decide +kernel) ⟨Nat.le_of_ble_eq_true rfl, Nat.le_of_ble_eq_true rfl⟩) ⟨fun a U g mk q => by obtain ⟨q0, qP, qK⟩ := q; exact ⟨q0, qP, va_K.moved (u := U) (U := U.calling g mk a) (Vm.Alike.refl U.vm) qK⟩, va_recv hKc hPc (ci := 9) (q0 := 0) rfl rfl, fun U hU hW => ⟨rfl, by rw [hU]; exact hPc, va_K.moved hW.alike hKc⟩⟩ rfl rfl hl.1 rfl (lv_room (Nat.le_of_ble_eq_true rfl)) dX9_gone_2 ⟨Nat.le_of_ble_eq_true rfl, Nat.le_of_ble_eq_true rfl⟩) (fun r_1 hr_1 => ?_)
  try dsimp only at hr_1
  subst hr_1
  refine lv_if_ne (tgt := 11) hx hb dX9_gone_5 (by decide) (fun h9 => absurd h9 (by decide)) (fun _ => ?_)
  refine lv_ldc hx hb hown (hts (.constant RX9 84 (-100001)) (by decide +kernel)) dX9_gone_8 ?_
  exact W.iret (v := (-100001)) hx hb hr (fun t ht _ => ⟨_, rfl, rfl, ht⟩) (fun _ h => absurd h List.not_mem_nil) dX9_gone_10
def wk_X9_breaks : List Cond := .code yX9_breaks cX9_breaks 10 (some .int) :: ([.methodLink RX9 80 yX9_isThing, .instanceMethod yX9_isThing, .selects RX9 yX9_isThing yX9_isThing, .initialized RX9, .code yX9_isThing cX9_isThing 2 (some .boolean), .fieldLink RX9 59 "MeetingsAboveModel" "things" "I", .methodLink RX9 55 yX9_in, .static yX9_in, .code yX9_in cX9_in 6 (some .boolean), .constant RX9 84 (-100001)] ++ wsX90)
set_option maxRecDepth 20000 in
theorem g_X9_breaks__X9_isThing_80 : GoodIn wk_X9_breaks (wsV RX9 80 RX9 yX9_isThing wk_X9_isThing) := goodIn_r _ [1, 2, 3, 4, 5, 6, 7, 8, 4, 9, 11, 12, 13, 14, 15, 16, 17, 18, 19, 20, 21, 22, 23, 24, 25, 26, 27, 28, 29, 30, 31, 32] (by decide +kernel) (by decide +kernel)
set_option maxHeartbeats 4000000 in
set_option maxRecDepth 100000 in
theorem c_X9_breaks (l : Launch) (dC : Nat → ClassId) (dI : Nat → Nat → Nat) (h0 : Nat) (a1 : Nat) (a2 : Nat) (a3 : Nat) (a4 : Nat) (a5 : Nat) (a6 : Nat) (a7 : Nat) (a8 : Nat) (a9 : Nat) (a10 : Nat) (a11 : Nat) (p1 : Int32) (p2 : Int32) (p3 : Int32) : Met l yX9_breaks wk_X9_breaks ({ frames := 2, cells := 0, slots := 0, locals := 46 }) (va_Pc [.ref h0, .int p1, .int p2, .int p3] (fun U => va_P (dC, dI) vwCl [(h0, .inr (9, [.int 0, .ref a1, .ref a2, .ref a3, .ref a4, .ref a5, .int 50, .int 20, .int 0, .ref a6, .ref a7, .int 0, .ref a8, .int 0, .ref a9, .ref a10, .long 0, .long 0, .int 0, .long 0, .long 0, .ref a11]))] U.heap ∧ va_K (dC, dI) vwCl [] U)) (vp_Si (fun r => r = (-100001))) 0 0 (fun _ => False) := by
  refine Met.ofW (cc := cX9_breaks) (maxL := 10) (ret := (some .int)) (by decide) rfl ?_
  intro p e s m args below meth c s₁ B hml hv
  obtain ⟨rfl, hP, hK⟩ := hv
  have hx := B.exec
  have hb := B.bytes
  have hr := B.returns
  have hts := atoms_spec (ws := wk_X9_breaks) B.pre
  have hown : s.vm.findClass RX9 = some m.cls := findClass_of_methodNamed B.named
  have hlocks := B.notSynchronized
  have hP : va_P (dC, dI) vwCl [(h0, .inr (9, [.int 0, .ref a1, .ref a2, .ref a3, .ref a4, .ref a5, .int 50, .int 20, .int 0, .ref a6, .ref a7, .int 0, .ref a8, .int 0, .ref a9, .ref a10, .long 0, .long 0, .int 0, .long 0, .long 0, .ref a11]))] s.heap := hP
  have hl := lv_entry ([.ref h0, .int p1, .int p2, .int p3]) (n := 10) (Nat.le_of_ble_eq_true rfl)
  rw [lg_entry_eq]
  generalize (lg_sl ([.ref h0, .int p1, .int p2, .int p3]) ++ List.replicate (10 - (lg_sl ([.ref h0, .int p1, .int p2, .int p3])).length) Slot.unset).toArray = ls at hl ⊢
  have hl : lv_has ls 10 [(0, .ref h0), (1, .int p1), (2, .int p2), (3, .int p3)] := hl
  refine lv_aload_n hx hb dX9_breaks_0 rfl (lv_at hl 0 rfl) ?_
  refine lv_iload_n hx hb dX9_breaks_1 rfl (lv_at hl 1 rfl) ?_
  have hPc := hP.sub (ws' := [(h0, .inr (9, [.int 0, .ref a1, .ref a2, .ref a3, .ref a4, .ref a5, .int 50, .int 20, .int 0, .ref a6, .ref a7, .int 0, .ref a8, .int 0, .ref a9, .ref a10, .long 0, .long 0, .int 0, .long 0, .long 0, .ref a11]))]) [0] rfl
  have hKc := hK.sub (tys' := []) [] rfl
  refine vp_callSi (W.runV (As := [.int p1]) (rest := []) ⟨hx, hb, hml, hown, hts⟩ (c_X9_isThing l dC dI h0 a1 a2 a3 a4 a5 a6 a7 a8 a9 a10 a11 p1) (cwV 1 hts g_X9_breaks__X9_isThing_80 rfl rfl rfl (by decide +kernel) ⟨Nat.le_of_ble_eq_true rfl, Nat.le_of_ble_eq_true rfl⟩) ⟨fun a U g mk q => by obtain ⟨q0, qP, qK⟩ := q; exact ⟨q0, qP, va_K.moved (u := U) (U := U.calling g mk a) (Vm.Alike.refl U.vm) qK⟩, va_recv hKc hPc (ci := 9) (q0 := 0) rfl rfl, fun U hU hW => ⟨rfl, by rw [hU]; exact hPc, va_K.moved hW.alike hKc⟩⟩ rfl rfl hl.1 rfl (lv_room (Nat.le_of_ble_eq_true rfl)) dX9_breaks_2 ⟨Nat.le_of_ble_eq_true rfl, Nat.le_of_ble_eq_true rfl⟩) (fun r_1 hr_1 => ?_)
  try dsimp only at hr_1
  subst hr_1
  refine lv_if_ne (tgt := 11) hx hb dX9_breaks_5 (by decide) (fun h9 => absurd h9 (by decide)) (fun _ => ?_)
  refine lv_ldc hx hb hown (hts (.constant RX9 84 (-100001)) (by decide +kernel)) dX9_breaks_8 ?_
  exact W.iret (v := (-100001)) hx hb hr (fun t ht _ => ⟨_, rfl, rfl, ht⟩) (fun _ h => absurd h List.not_mem_nil) dX9_breaks_10
def wk_X9_told : List Cond := .code yX9_told cX9_told 3 (some .int) :: ([.methodLink RX9 80 yX9_isThing, .instanceMethod yX9_isThing, .selects RX9 yX9_isThing yX9_isThing, .initialized RX9, .code yX9_isThing cX9_isThing 2 (some .boolean), .fieldLink RX9 59 "MeetingsAboveModel" "things" "I", .methodLink RX9 55 yX9_in, .static yX9_in, .code yX9_in cX9_in 6 (some .boolean), .constant RX9 84 (-100001)] ++ wsX90)
set_option maxRecDepth 20000 in
theorem g_X9_told__X9_isThing_80 : GoodIn wk_X9_told (wsV RX9 80 RX9 yX9_isThing wk_X9_isThing) := goodIn_r _ [1, 2, 3, 4, 5, 6, 7, 8, 4, 9, 11, 12, 13, 14, 15, 16, 17, 18, 19, 20, 21, 22, 23, 24, 25, 26, 27, 28, 29, 30, 31, 32] (by decide +kernel) (by decide +kernel)
set_option maxHeartbeats 4000000 in
set_option maxRecDepth 100000 in
theorem c_X9_told (l : Launch) (dC : Nat → ClassId) (dI : Nat → Nat → Nat) (h0 : Nat) (a1 : Nat) (a2 : Nat) (a3 : Nat) (a4 : Nat) (a5 : Nat) (a6 : Nat) (a7 : Nat) (a8 : Nat) (a9 : Nat) (a10 : Nat) (a11 : Nat) (p1 : Int32) (p2 : Int32) : Met l yX9_told wk_X9_told ({ frames := 2, cells := 0, slots := 0, locals := 46 }) (va_Pc [.ref h0, .int p1, .int p2] (fun U => va_P (dC, dI) vwCl [(h0, .inr (9, [.int 0, .ref a1, .ref a2, .ref a3, .ref a4, .ref a5, .int 50, .int 20, .int 0, .ref a6, .ref a7, .int 0, .ref a8, .int 0, .ref a9, .ref a10, .long 0, .long 0, .int 0, .long 0, .long 0, .ref a11]))] U.heap ∧ va_K (dC, dI) vwCl [] U)) (vp_Si (fun r => r = (-100001))) 0 0 (fun _ => False) := by
  refine Met.ofW (cc := cX9_told) (maxL := 3) (ret := (some .int)) (by decide) rfl ?_
  intro p e s m args below meth c s₁ B hml hv
  obtain ⟨rfl, hP, hK⟩ := hv
  have hx := B.exec
  have hb := B.bytes
  have hr := B.returns
  have hts := atoms_spec (ws := wk_X9_told) B.pre
  have hown : s.vm.findClass RX9 = some m.cls := findClass_of_methodNamed B.named
  have hlocks := B.notSynchronized
  have hP : va_P (dC, dI) vwCl [(h0, .inr (9, [.int 0, .ref a1, .ref a2, .ref a3, .ref a4, .ref a5, .int 50, .int 20, .int 0, .ref a6, .ref a7, .int 0, .ref a8, .int 0, .ref a9, .ref a10, .long 0, .long 0, .int 0, .long 0, .long 0, .ref a11]))] s.heap := hP
  have hl := lv_entry ([.ref h0, .int p1, .int p2]) (n := 3) (Nat.le_of_ble_eq_true rfl)
  rw [lg_entry_eq]
  generalize (lg_sl ([.ref h0, .int p1, .int p2]) ++ List.replicate (3 - (lg_sl ([.ref h0, .int p1, .int p2])).length) Slot.unset).toArray = ls at hl ⊢
  have hl : lv_has ls 3 [(0, .ref h0), (1, .int p1), (2, .int p2)] := hl
  refine lv_aload_n hx hb dX9_told_0 rfl (lv_at hl 0 rfl) ?_
  refine lv_iload_n hx hb dX9_told_1 rfl (lv_at hl 1 rfl) ?_
  have hPc := hP.sub (ws' := [(h0, .inr (9, [.int 0, .ref a1, .ref a2, .ref a3, .ref a4, .ref a5, .int 50, .int 20, .int 0, .ref a6, .ref a7, .int 0, .ref a8, .int 0, .ref a9, .ref a10, .long 0, .long 0, .int 0, .long 0, .long 0, .ref a11]))]) [0] rfl
  have hKc := hK.sub (tys' := []) [] rfl
  refine vp_callSi (W.runV (As := [.int p1]) (rest := []) ⟨hx, hb, hml, hown, hts⟩ (c_X9_isThing l dC dI h0 a1 a2 a3 a4 a5 a6 a7 a8 a9 a10 a11 p1) (cwV 1 hts g_X9_told__X9_isThing_80 rfl rfl rfl (by decide +kernel) ⟨Nat.le_of_ble_eq_true rfl, Nat.le_of_ble_eq_true rfl⟩) ⟨fun a U g mk q => by obtain ⟨q0, qP, qK⟩ := q; exact ⟨q0, qP, va_K.moved (u := U) (U := U.calling g mk a) (Vm.Alike.refl U.vm) qK⟩, va_recv hKc hPc (ci := 9) (q0 := 0) rfl rfl, fun U hU hW => ⟨rfl, by rw [hU]; exact hPc, va_K.moved hW.alike hKc⟩⟩ rfl rfl hl.1 rfl (lv_room (Nat.le_of_ble_eq_true rfl)) dX9_told_2 ⟨Nat.le_of_ble_eq_true rfl, Nat.le_of_ble_eq_true rfl⟩) (fun r_1 hr_1 => ?_)
  try dsimp only at hr_1
  subst hr_1
  refine lv_if_ne (tgt := 11) hx hb dX9_told_5 (by decide) (fun h9 => absurd h9 (by decide)) (fun _ => ?_)
  refine lv_ldc hx hb hown (hts (.constant RX9 84 (-100001)) (by decide +kernel)) dX9_told_8 ?_
  exact W.iret (v := (-100001)) hx hb hr (fun t ht _ => ⟨_, rfl, rfl, ht⟩) (fun _ h => absurd h List.not_mem_nil) dX9_told_10
def wk_X9_at : List Cond := .code yX9_at cX9_at 4 (some .int) :: ([.methodLink RX9 80 yX9_isThing, .instanceMethod yX9_isThing, .selects RX9 yX9_isThing yX9_isThing, .initialized RX9, .code yX9_isThing cX9_isThing 2 (some .boolean), .fieldLink RX9 59 "MeetingsAboveModel" "things" "I", .methodLink RX9 55 yX9_in, .static yX9_in, .code yX9_in cX9_in 6 (some .boolean), .constant RX9 84 (-100001)] ++ wsX90)
set_option maxRecDepth 20000 in
theorem g_X9_at__X9_isThing_80 : GoodIn wk_X9_at (wsV RX9 80 RX9 yX9_isThing wk_X9_isThing) := goodIn_r _ [1, 2, 3, 4, 5, 6, 7, 8, 4, 9, 11, 12, 13, 14, 15, 16, 17, 18, 19, 20, 21, 22, 23, 24, 25, 26, 27, 28, 29, 30, 31, 32] (by decide +kernel) (by decide +kernel)
set_option maxHeartbeats 4000000 in
set_option maxRecDepth 100000 in
theorem c_X9_at (l : Launch) (dC : Nat → ClassId) (dI : Nat → Nat → Nat) (h0 : Nat) (a1 : Nat) (a2 : Nat) (a3 : Nat) (a4 : Nat) (a5 : Nat) (a6 : Nat) (a7 : Nat) (a8 : Nat) (a9 : Nat) (a10 : Nat) (a11 : Nat) (p1 : Int32) (p2 : Int32) (p3 : Int32) : Met l yX9_at wk_X9_at ({ frames := 2, cells := 0, slots := 0, locals := 46 }) (va_Pc [.ref h0, .int p1, .int p2, .int p3] (fun U => va_P (dC, dI) vwCl [(h0, .inr (9, [.int 0, .ref a1, .ref a2, .ref a3, .ref a4, .ref a5, .int 50, .int 20, .int 0, .ref a6, .ref a7, .int 0, .ref a8, .int 0, .ref a9, .ref a10, .long 0, .long 0, .int 0, .long 0, .long 0, .ref a11]))] U.heap ∧ va_K (dC, dI) vwCl [] U)) (vp_Si (fun r => r = (-100001))) 0 0 (fun _ => False) := by
  refine Met.ofW (cc := cX9_at) (maxL := 4) (ret := (some .int)) (by decide) rfl ?_
  intro p e s m args below meth c s₁ B hml hv
  obtain ⟨rfl, hP, hK⟩ := hv
  have hx := B.exec
  have hb := B.bytes
  have hr := B.returns
  have hts := atoms_spec (ws := wk_X9_at) B.pre
  have hown : s.vm.findClass RX9 = some m.cls := findClass_of_methodNamed B.named
  have hlocks := B.notSynchronized
  have hP : va_P (dC, dI) vwCl [(h0, .inr (9, [.int 0, .ref a1, .ref a2, .ref a3, .ref a4, .ref a5, .int 50, .int 20, .int 0, .ref a6, .ref a7, .int 0, .ref a8, .int 0, .ref a9, .ref a10, .long 0, .long 0, .int 0, .long 0, .long 0, .ref a11]))] s.heap := hP
  have hl := lv_entry ([.ref h0, .int p1, .int p2, .int p3]) (n := 4) (Nat.le_of_ble_eq_true rfl)
  rw [lg_entry_eq]
  generalize (lg_sl ([.ref h0, .int p1, .int p2, .int p3]) ++ List.replicate (4 - (lg_sl ([.ref h0, .int p1, .int p2, .int p3])).length) Slot.unset).toArray = ls at hl ⊢
  have hl : lv_has ls 4 [(0, .ref h0), (1, .int p1), (2, .int p2), (3, .int p3)] := hl
  refine lv_aload_n hx hb dX9_at_0 rfl (lv_at hl 0 rfl) ?_
  refine lv_iload_n hx hb dX9_at_1 rfl (lv_at hl 1 rfl) ?_
  have hPc := hP.sub (ws' := [(h0, .inr (9, [.int 0, .ref a1, .ref a2, .ref a3, .ref a4, .ref a5, .int 50, .int 20, .int 0, .ref a6, .ref a7, .int 0, .ref a8, .int 0, .ref a9, .ref a10, .long 0, .long 0, .int 0, .long 0, .long 0, .ref a11]))]) [0] rfl
  have hKc := hK.sub (tys' := []) [] rfl
  refine vp_callSi (W.runV (As := [.int p1]) (rest := []) ⟨hx, hb, hml, hown, hts⟩ (c_X9_isThing l dC dI h0 a1 a2 a3 a4 a5 a6 a7 a8 a9 a10 a11 p1) (cwV 1 hts g_X9_at__X9_isThing_80 rfl rfl rfl (by decide +kernel) ⟨Nat.le_of_ble_eq_true rfl, Nat.le_of_ble_eq_true rfl⟩) ⟨fun a U g mk q => by obtain ⟨q0, qP, qK⟩ := q; exact ⟨q0, qP, va_K.moved (u := U) (U := U.calling g mk a) (Vm.Alike.refl U.vm) qK⟩, va_recv hKc hPc (ci := 9) (q0 := 0) rfl rfl, fun U hU hW => ⟨rfl, by rw [hU]; exact hPc, va_K.moved hW.alike hKc⟩⟩ rfl rfl hl.1 rfl (lv_room (Nat.le_of_ble_eq_true rfl)) dX9_at_2 ⟨Nat.le_of_ble_eq_true rfl, Nat.le_of_ble_eq_true rfl⟩) (fun r_1 hr_1 => ?_)
  try dsimp only at hr_1
  subst hr_1
  refine lv_if_ne (tgt := 11) hx hb dX9_at_5 (by decide) (fun h9 => absurd h9 (by decide)) (fun _ => ?_)
  refine lv_ldc hx hb hown (hts (.constant RX9 84 (-100001)) (by decide +kernel)) dX9_at_8 ?_
  exact W.iret (v := (-100001)) hx hb hr (fun t ht _ => ⟨_, rfl, rfl, ht⟩) (fun _ h => absurd h List.not_mem_nil) dX9_at_10
def wk_X9_sieve : List Cond := .code yX9_sieve cX9_sieve 7 (some .int) :: ([.methodLink RX9 80 yX9_isThing, .instanceMethod yX9_isThing, .selects RX9 yX9_isThing yX9_isThing, .initialized RX9, .code yX9_isThing cX9_isThing 2 (some .boolean), .fieldLink RX9 59 "MeetingsAboveModel" "things" "I", .methodLink RX9 55 yX9_in, .static yX9_in, .code yX9_in cX9_in 6 (some .boolean), .constant RX9 84 (-100001)] ++ wsX90)
set_option maxRecDepth 20000 in
theorem g_X9_sieve__X9_isThing_80 : GoodIn wk_X9_sieve (wsV RX9 80 RX9 yX9_isThing wk_X9_isThing) := goodIn_r _ [1, 2, 3, 4, 5, 6, 7, 8, 4, 9, 11, 12, 13, 14, 15, 16, 17, 18, 19, 20, 21, 22, 23, 24, 25, 26, 27, 28, 29, 30, 31, 32] (by decide +kernel) (by decide +kernel)
set_option maxHeartbeats 4000000 in
set_option maxRecDepth 100000 in
theorem c_X9_sieve (l : Launch) (dC : Nat → ClassId) (dI : Nat → Nat → Nat) (h0 : Nat) (a1 : Nat) (a2 : Nat) (a3 : Nat) (a4 : Nat) (a5 : Nat) (a6 : Nat) (a7 : Nat) (a8 : Nat) (a9 : Nat) (a10 : Nat) (a11 : Nat) (p1 : Int32) (p2 : Int32) : Met l yX9_sieve wk_X9_sieve ({ frames := 2, cells := 0, slots := 0, locals := 46 }) (va_Pc [.ref h0, .int p1, .int p2] (fun U => va_P (dC, dI) vwCl [(h0, .inr (9, [.int 0, .ref a1, .ref a2, .ref a3, .ref a4, .ref a5, .int 50, .int 20, .int 0, .ref a6, .ref a7, .int 0, .ref a8, .int 0, .ref a9, .ref a10, .long 0, .long 0, .int 0, .long 0, .long 0, .ref a11]))] U.heap ∧ va_K (dC, dI) vwCl [] U)) (vp_Si (fun r => r = (-100001))) 0 0 (fun _ => False) := by
  refine Met.ofW (cc := cX9_sieve) (maxL := 7) (ret := (some .int)) (by decide) rfl ?_
  intro p e s m args below meth c s₁ B hml hv
  obtain ⟨rfl, hP, hK⟩ := hv
  have hx := B.exec
  have hb := B.bytes
  have hr := B.returns
  have hts := atoms_spec (ws := wk_X9_sieve) B.pre
  have hown : s.vm.findClass RX9 = some m.cls := findClass_of_methodNamed B.named
  have hlocks := B.notSynchronized
  have hP : va_P (dC, dI) vwCl [(h0, .inr (9, [.int 0, .ref a1, .ref a2, .ref a3, .ref a4, .ref a5, .int 50, .int 20, .int 0, .ref a6, .ref a7, .int 0, .ref a8, .int 0, .ref a9, .ref a10, .long 0, .long 0, .int 0, .long 0, .long 0, .ref a11]))] s.heap := hP
  have hl := lv_entry ([.ref h0, .int p1, .int p2]) (n := 7) (Nat.le_of_ble_eq_true rfl)
  rw [lg_entry_eq]
  generalize (lg_sl ([.ref h0, .int p1, .int p2]) ++ List.replicate (7 - (lg_sl ([.ref h0, .int p1, .int p2])).length) Slot.unset).toArray = ls at hl ⊢
  have hl : lv_has ls 7 [(0, .ref h0), (1, .int p1), (2, .int p2)] := hl
  refine lv_aload_n hx hb dX9_sieve_0 rfl (lv_at hl 0 rfl) ?_
  refine lv_iload_n hx hb dX9_sieve_1 rfl (lv_at hl 1 rfl) ?_
  have hPc := hP.sub (ws' := [(h0, .inr (9, [.int 0, .ref a1, .ref a2, .ref a3, .ref a4, .ref a5, .int 50, .int 20, .int 0, .ref a6, .ref a7, .int 0, .ref a8, .int 0, .ref a9, .ref a10, .long 0, .long 0, .int 0, .long 0, .long 0, .ref a11]))]) [0] rfl
  have hKc := hK.sub (tys' := []) [] rfl
  refine vp_callSi (W.runV (As := [.int p1]) (rest := []) ⟨hx, hb, hml, hown, hts⟩ (c_X9_isThing l dC dI h0 a1 a2 a3 a4 a5 a6 a7 a8 a9 a10 a11 p1) (cwV 1 hts g_X9_sieve__X9_isThing_80 rfl rfl rfl (by decide +kernel) ⟨Nat.le_of_ble_eq_true rfl, Nat.le_of_ble_eq_true rfl⟩) ⟨fun a U g mk q => by obtain ⟨q0, qP, qK⟩ := q; exact ⟨q0, qP, va_K.moved (u := U) (U := U.calling g mk a) (Vm.Alike.refl U.vm) qK⟩, va_recv hKc hPc (ci := 9) (q0 := 0) rfl rfl, fun U hU hW => ⟨rfl, by rw [hU]; exact hPc, va_K.moved hW.alike hKc⟩⟩ rfl rfl hl.1 rfl (lv_room (Nat.le_of_ble_eq_true rfl)) dX9_sieve_2 ⟨Nat.le_of_ble_eq_true rfl, Nat.le_of_ble_eq_true rfl⟩) (fun r_1 hr_1 => ?_)
  try dsimp only at hr_1
  subst hr_1
  refine lv_if_eq (tgt := 16) hx hb dX9_sieve_5 (by decide) (fun _ => ?_) (fun h9 => absurd h9 (by decide))
  refine lv_ldc hx hb hown (hts (.constant RX9 84 (-100001)) (by decide +kernel)) dX9_sieve_16 ?_
  exact W.iret (v := (-100001)) hx hb hr (fun t ht _ => ⟨_, rfl, rfl, ht⟩) (fun _ h => absurd h List.not_mem_nil) dX9_sieve_18
def wk_X9_best : List Cond := .code yX9_best cX9_best 4 (some .int) :: ([.methodLink RX9 80 yX9_isThing, .instanceMethod yX9_isThing, .selects RX9 yX9_isThing yX9_isThing, .initialized RX9, .code yX9_isThing cX9_isThing 2 (some .boolean), .fieldLink RX9 59 "MeetingsAboveModel" "things" "I", .methodLink RX9 55 yX9_in, .static yX9_in, .code yX9_in cX9_in 6 (some .boolean), .constant RX9 84 (-100001)] ++ wsX90)
set_option maxRecDepth 20000 in
theorem g_X9_best__X9_isThing_80 : GoodIn wk_X9_best (wsV RX9 80 RX9 yX9_isThing wk_X9_isThing) := goodIn_r _ [1, 2, 3, 4, 5, 6, 7, 8, 4, 9, 11, 12, 13, 14, 15, 16, 17, 18, 19, 20, 21, 22, 23, 24, 25, 26, 27, 28, 29, 30, 31, 32] (by decide +kernel) (by decide +kernel)
set_option maxHeartbeats 4000000 in
set_option maxRecDepth 100000 in
theorem c_X9_best (l : Launch) (dC : Nat → ClassId) (dI : Nat → Nat → Nat) (h0 : Nat) (a1 : Nat) (a2 : Nat) (a3 : Nat) (a4 : Nat) (a5 : Nat) (a6 : Nat) (a7 : Nat) (a8 : Nat) (a9 : Nat) (a10 : Nat) (a11 : Nat) (p1 : Int32) (p2 : Int32) (p3 : Int32) : Met l yX9_best wk_X9_best ({ frames := 2, cells := 0, slots := 0, locals := 46 }) (va_Pc [.ref h0, .int p1, .int p2, .int p3] (fun U => va_P (dC, dI) vwCl [(h0, .inr (9, [.int 0, .ref a1, .ref a2, .ref a3, .ref a4, .ref a5, .int 50, .int 20, .int 0, .ref a6, .ref a7, .int 0, .ref a8, .int 0, .ref a9, .ref a10, .long 0, .long 0, .int 0, .long 0, .long 0, .ref a11]))] U.heap ∧ va_K (dC, dI) vwCl [] U)) (vp_Si (fun r => r = (-100001))) 0 0 (fun _ => False) := by
  refine Met.ofW (cc := cX9_best) (maxL := 4) (ret := (some .int)) (by decide) rfl ?_
  intro p e s m args below meth c s₁ B hml hv
  obtain ⟨rfl, hP, hK⟩ := hv
  have hx := B.exec
  have hb := B.bytes
  have hr := B.returns
  have hts := atoms_spec (ws := wk_X9_best) B.pre
  have hown : s.vm.findClass RX9 = some m.cls := findClass_of_methodNamed B.named
  have hlocks := B.notSynchronized
  have hP : va_P (dC, dI) vwCl [(h0, .inr (9, [.int 0, .ref a1, .ref a2, .ref a3, .ref a4, .ref a5, .int 50, .int 20, .int 0, .ref a6, .ref a7, .int 0, .ref a8, .int 0, .ref a9, .ref a10, .long 0, .long 0, .int 0, .long 0, .long 0, .ref a11]))] s.heap := hP
  have hl := lv_entry ([.ref h0, .int p1, .int p2, .int p3]) (n := 4) (Nat.le_of_ble_eq_true rfl)
  rw [lg_entry_eq]
  generalize (lg_sl ([.ref h0, .int p1, .int p2, .int p3]) ++ List.replicate (4 - (lg_sl ([.ref h0, .int p1, .int p2, .int p3])).length) Slot.unset).toArray = ls at hl ⊢
  have hl : lv_has ls 4 [(0, .ref h0), (1, .int p1), (2, .int p2), (3, .int p3)] := hl
  refine lv_aload_n hx hb dX9_best_0 rfl (lv_at hl 0 rfl) ?_
  refine lv_iload_n hx hb dX9_best_1 rfl (lv_at hl 1 rfl) ?_
  have hPc := hP.sub (ws' := [(h0, .inr (9, [.int 0, .ref a1, .ref a2, .ref a3, .ref a4, .ref a5, .int 50, .int 20, .int 0, .ref a6, .ref a7, .int 0, .ref a8, .int 0, .ref a9, .ref a10, .long 0, .long 0, .int 0, .long 0, .long 0, .ref a11]))]) [0] rfl
  have hKc := hK.sub (tys' := []) [] rfl
  refine vp_callSi (W.runV (As := [.int p1]) (rest := []) ⟨hx, hb, hml, hown, hts⟩ (c_X9_isThing l dC dI h0 a1 a2 a3 a4 a5 a6 a7 a8 a9 a10 a11 p1) (cwV 1 hts g_X9_best__X9_isThing_80 rfl rfl rfl (by decide +kernel) ⟨Nat.le_of_ble_eq_true rfl, Nat.le_of_ble_eq_true rfl⟩) ⟨fun a U g mk q => by obtain ⟨q0, qP, qK⟩ := q; exact ⟨q0, qP, va_K.moved (u := U) (U := U.calling g mk a) (Vm.Alike.refl U.vm) qK⟩, va_recv hKc hPc (ci := 9) (q0 := 0) rfl rfl, fun U hU hW => ⟨rfl, by rw [hU]; exact hPc, va_K.moved hW.alike hKc⟩⟩ rfl rfl hl.1 rfl (lv_room (Nat.le_of_ble_eq_true rfl)) dX9_best_2 ⟨Nat.le_of_ble_eq_true rfl, Nat.le_of_ble_eq_true rfl⟩) (fun r_1 hr_1 => ?_)
  try dsimp only at hr_1
  subst hr_1
  refine lv_if_ne (tgt := 11) hx hb dX9_best_5 (by decide) (fun h9 => absurd h9 (by decide)) (fun _ => ?_)
  refine lv_ldc hx hb hown (hts (.constant RX9 84 (-100001)) (by decide +kernel)) dX9_best_8 ?_
  exact W.iret (v := (-100001)) hx hb hr (fun t ht _ => ⟨_, rfl, rfl, ht⟩) (fun _ h => absurd h List.not_mem_nil) dX9_best_10
def wk_X9_burn : List Cond := .code yX9_burn cX9_burn 7 (some .int) :: ([.methodLink RX9 80 yX9_isThing, .instanceMethod yX9_isThing, .selects RX9 yX9_isThing yX9_isThing, .initialized RX9, .code yX9_isThing cX9_isThing 2 (some .boolean), .fieldLink RX9 59 "MeetingsAboveModel" "things" "I", .methodLink RX9 55 yX9_in, .static yX9_in, .code yX9_in cX9_in 6 (some .boolean), .constant RX9 84 (-100001)] ++ wsX90)
set_option maxRecDepth 20000 in
theorem g_X9_burn__X9_isThing_80 : GoodIn wk_X9_burn (wsV RX9 80 RX9 yX9_isThing wk_X9_isThing) := goodIn_r _ [1, 2, 3, 4, 5, 6, 7, 8, 4, 9, 11, 12, 13, 14, 15, 16, 17, 18, 19, 20, 21, 22, 23, 24, 25, 26, 27, 28, 29, 30, 31, 32] (by decide +kernel) (by decide +kernel)
set_option maxHeartbeats 4000000 in
set_option maxRecDepth 100000 in
theorem c_X9_burn (l : Launch) (dC : Nat → ClassId) (dI : Nat → Nat → Nat) (h0 : Nat) (a1 : Nat) (a2 : Nat) (a3 : Nat) (a4 : Nat) (a5 : Nat) (a6 : Nat) (a7 : Nat) (a8 : Nat) (a9 : Nat) (a10 : Nat) (a11 : Nat) (p1 : Int32) (p2 : Int32) (p3 : Int32) (p4 : Int32) (p5 : Int32) : Met l yX9_burn wk_X9_burn ({ frames := 2, cells := 0, slots := 0, locals := 46 }) (va_Pc [.ref h0, .int p1, .int p2, .int p3, .int p4, .int p5] (fun U => va_P (dC, dI) vwCl [(h0, .inr (9, [.int 0, .ref a1, .ref a2, .ref a3, .ref a4, .ref a5, .int 50, .int 20, .int 0, .ref a6, .ref a7, .int 0, .ref a8, .int 0, .ref a9, .ref a10, .long 0, .long 0, .int 0, .long 0, .long 0, .ref a11]))] U.heap ∧ va_K (dC, dI) vwCl [] U)) (vp_Si (fun r => r = (-100001))) 0 0 (fun _ => False) := by
  refine Met.ofW (cc := cX9_burn) (maxL := 7) (ret := (some .int)) (by decide) rfl ?_
  intro p e s m args below meth c s₁ B hml hv
  obtain ⟨rfl, hP, hK⟩ := hv
  have hx := B.exec
  have hb := B.bytes
  have hr := B.returns
  have hts := atoms_spec (ws := wk_X9_burn) B.pre
  have hown : s.vm.findClass RX9 = some m.cls := findClass_of_methodNamed B.named
  have hlocks := B.notSynchronized
  have hP : va_P (dC, dI) vwCl [(h0, .inr (9, [.int 0, .ref a1, .ref a2, .ref a3, .ref a4, .ref a5, .int 50, .int 20, .int 0, .ref a6, .ref a7, .int 0, .ref a8, .int 0, .ref a9, .ref a10, .long 0, .long 0, .int 0, .long 0, .long 0, .ref a11]))] s.heap := hP
  have hl := lv_entry ([.ref h0, .int p1, .int p2, .int p3, .int p4, .int p5]) (n := 7) (Nat.le_of_ble_eq_true rfl)
  rw [lg_entry_eq]
  generalize (lg_sl ([.ref h0, .int p1, .int p2, .int p3, .int p4, .int p5]) ++ List.replicate (7 - (lg_sl ([.ref h0, .int p1, .int p2, .int p3, .int p4, .int p5])).length) Slot.unset).toArray = ls at hl ⊢
  have hl : lv_has ls 7 [(0, .ref h0), (1, .int p1), (2, .int p2), (3, .int p3), (4, .int p4), (5, .int p5)] := hl
  refine lv_aload_n hx hb dX9_burn_0 rfl (lv_at hl 0 rfl) ?_
  refine lv_iload_n hx hb dX9_burn_1 rfl (lv_at hl 1 rfl) ?_
  have hPc := hP.sub (ws' := [(h0, .inr (9, [.int 0, .ref a1, .ref a2, .ref a3, .ref a4, .ref a5, .int 50, .int 20, .int 0, .ref a6, .ref a7, .int 0, .ref a8, .int 0, .ref a9, .ref a10, .long 0, .long 0, .int 0, .long 0, .long 0, .ref a11]))]) [0] rfl
  have hKc := hK.sub (tys' := []) [] rfl
  refine vp_callSi (W.runV (As := [.int p1]) (rest := []) ⟨hx, hb, hml, hown, hts⟩ (c_X9_isThing l dC dI h0 a1 a2 a3 a4 a5 a6 a7 a8 a9 a10 a11 p1) (cwV 1 hts g_X9_burn__X9_isThing_80 rfl rfl rfl (by decide +kernel) ⟨Nat.le_of_ble_eq_true rfl, Nat.le_of_ble_eq_true rfl⟩) ⟨fun a U g mk q => by obtain ⟨q0, qP, qK⟩ := q; exact ⟨q0, qP, va_K.moved (u := U) (U := U.calling g mk a) (Vm.Alike.refl U.vm) qK⟩, va_recv hKc hPc (ci := 9) (q0 := 0) rfl rfl, fun U hU hW => ⟨rfl, by rw [hU]; exact hPc, va_K.moved hW.alike hKc⟩⟩ rfl rfl hl.1 rfl (lv_room (Nat.le_of_ble_eq_true rfl)) dX9_burn_2 ⟨Nat.le_of_ble_eq_true rfl, Nat.le_of_ble_eq_true rfl⟩) (fun r_1 hr_1 => ?_)
  try dsimp only at hr_1
  subst hr_1
  refine lv_if_ne (tgt := 11) hx hb dX9_burn_5 (by decide) (fun h9 => absurd h9 (by decide)) (fun _ => ?_)
  refine lv_ldc hx hb hown (hts (.constant RX9 84 (-100001)) (by decide +kernel)) dX9_burn_8 ?_
  exact W.iret (v := (-100001)) hx hb hr (fun t ht _ => ⟨_, rfl, rfl, ht⟩) (fun _ h => absurd h List.not_mem_nil) dX9_burn_10
def wk_X9_notice : List Cond := .code yX9_notice cX9_notice 7 (some .int) :: ([.methodLink RX9 80 yX9_isThing, .instanceMethod yX9_isThing, .selects RX9 yX9_isThing yX9_isThing, .initialized RX9, .code yX9_isThing cX9_isThing 2 (some .boolean), .fieldLink RX9 59 "MeetingsAboveModel" "things" "I", .methodLink RX9 55 yX9_in, .static yX9_in, .code yX9_in cX9_in 6 (some .boolean), .constant RX9 84 (-100001)] ++ wsX90)
set_option maxRecDepth 20000 in
theorem g_X9_notice__X9_isThing_80 : GoodIn wk_X9_notice (wsV RX9 80 RX9 yX9_isThing wk_X9_isThing) := goodIn_r _ [1, 2, 3, 4, 5, 6, 7, 8, 4, 9, 11, 12, 13, 14, 15, 16, 17, 18, 19, 20, 21, 22, 23, 24, 25, 26, 27, 28, 29, 30, 31, 32] (by decide +kernel) (by decide +kernel)
set_option maxHeartbeats 4000000 in
set_option maxRecDepth 100000 in
theorem c_X9_notice (l : Launch) (dC : Nat → ClassId) (dI : Nat → Nat → Nat) (h0 : Nat) (a1 : Nat) (a2 : Nat) (a3 : Nat) (a4 : Nat) (a5 : Nat) (a6 : Nat) (a7 : Nat) (a8 : Nat) (a9 : Nat) (a10 : Nat) (a11 : Nat) (p1 : Int32) (p2 : Int32) : Met l yX9_notice wk_X9_notice ({ frames := 2, cells := 0, slots := 0, locals := 46 }) (va_Pc [.ref h0, .int p1, .int p2] (fun U => va_P (dC, dI) vwCl [(h0, .inr (9, [.int 0, .ref a1, .ref a2, .ref a3, .ref a4, .ref a5, .int 50, .int 20, .int 0, .ref a6, .ref a7, .int 0, .ref a8, .int 0, .ref a9, .ref a10, .long 0, .long 0, .int 0, .long 0, .long 0, .ref a11]))] U.heap ∧ va_K (dC, dI) vwCl [] U)) (vp_Si (fun r => r = (-100001))) 0 0 (fun _ => False) := by
  refine Met.ofW (cc := cX9_notice) (maxL := 7) (ret := (some .int)) (by decide) rfl ?_
  intro p e s m args below meth c s₁ B hml hv
  obtain ⟨rfl, hP, hK⟩ := hv
  have hx := B.exec
  have hb := B.bytes
  have hr := B.returns
  have hts := atoms_spec (ws := wk_X9_notice) B.pre
  have hown : s.vm.findClass RX9 = some m.cls := findClass_of_methodNamed B.named
  have hlocks := B.notSynchronized
  have hP : va_P (dC, dI) vwCl [(h0, .inr (9, [.int 0, .ref a1, .ref a2, .ref a3, .ref a4, .ref a5, .int 50, .int 20, .int 0, .ref a6, .ref a7, .int 0, .ref a8, .int 0, .ref a9, .ref a10, .long 0, .long 0, .int 0, .long 0, .long 0, .ref a11]))] s.heap := hP
  have hl := lv_entry ([.ref h0, .int p1, .int p2]) (n := 7) (Nat.le_of_ble_eq_true rfl)
  rw [lg_entry_eq]
  generalize (lg_sl ([.ref h0, .int p1, .int p2]) ++ List.replicate (7 - (lg_sl ([.ref h0, .int p1, .int p2])).length) Slot.unset).toArray = ls at hl ⊢
  have hl : lv_has ls 7 [(0, .ref h0), (1, .int p1), (2, .int p2)] := hl
  refine lv_aload_n hx hb dX9_notice_0 rfl (lv_at hl 0 rfl) ?_
  refine lv_iload_n hx hb dX9_notice_1 rfl (lv_at hl 1 rfl) ?_
  have hPc := hP.sub (ws' := [(h0, .inr (9, [.int 0, .ref a1, .ref a2, .ref a3, .ref a4, .ref a5, .int 50, .int 20, .int 0, .ref a6, .ref a7, .int 0, .ref a8, .int 0, .ref a9, .ref a10, .long 0, .long 0, .int 0, .long 0, .long 0, .ref a11]))]) [0] rfl
  have hKc := hK.sub (tys' := []) [] rfl
  refine vp_callSi (W.runV (As := [.int p1]) (rest := []) ⟨hx, hb, hml, hown, hts⟩ (c_X9_isThing l dC dI h0 a1 a2 a3 a4 a5 a6 a7 a8 a9 a10 a11 p1) (cwV 1 hts g_X9_notice__X9_isThing_80 rfl rfl rfl (by decide +kernel) ⟨Nat.le_of_ble_eq_true rfl, Nat.le_of_ble_eq_true rfl⟩) ⟨fun a U g mk q => by obtain ⟨q0, qP, qK⟩ := q; exact ⟨q0, qP, va_K.moved (u := U) (U := U.calling g mk a) (Vm.Alike.refl U.vm) qK⟩, va_recv hKc hPc (ci := 9) (q0 := 0) rfl rfl, fun U hU hW => ⟨rfl, by rw [hU]; exact hPc, va_K.moved hW.alike hKc⟩⟩ rfl rfl hl.1 rfl (lv_room (Nat.le_of_ble_eq_true rfl)) dX9_notice_2 ⟨Nat.le_of_ble_eq_true rfl, Nat.le_of_ble_eq_true rfl⟩) (fun r_1 hr_1 => ?_)
  try dsimp only at hr_1
  subst hr_1
  refine lv_if_eq (tgt := 16) hx hb dX9_notice_5 (by decide) (fun _ => ?_) (fun h9 => absurd h9 (by decide))
  refine lv_ldc hx hb hown (hts (.constant RX9 84 (-100001)) (by decide +kernel)) dX9_notice_16 ?_
  exact W.iret (v := (-100001)) hx hb hr (fun t ht _ => ⟨_, rfl, rfl, ht⟩) (fun _ h => absurd h List.not_mem_nil) dX9_notice_18
def wk_X9_least : List Cond := .code yX9_least cX9_least 8 (some .long) :: ([.methodLink RX9 80 yX9_isThing, .instanceMethod yX9_isThing, .selects RX9 yX9_isThing yX9_isThing, .initialized RX9, .code yX9_isThing cX9_isThing 2 (some .boolean), .fieldLink RX9 59 "MeetingsAboveModel" "things" "I", .methodLink RX9 55 yX9_in, .static yX9_in, .code yX9_in cX9_in 6 (some .boolean), .constantLong RX9 158 (-100001)] ++ wsX90)
set_option maxRecDepth 20000 in
theorem g_X9_least__X9_isThing_80 : GoodIn wk_X9_least (wsV RX9 80 RX9 yX9_isThing wk_X9_isThing) := goodIn_r _ [1, 2, 3, 4, 5, 6, 7, 8, 4, 9, 11, 12, 13, 14, 15, 16, 17, 18, 19, 20, 21, 22, 23, 24, 25, 26, 27, 28, 29, 30, 31, 32] (by decide +kernel) (by decide +kernel)
set_option maxHeartbeats 4000000 in
set_option maxRecDepth 100000 in
theorem c_X9_least (l : Launch) (dC : Nat → ClassId) (dI : Nat → Nat → Nat) (h0 : Nat) (a1 : Nat) (a2 : Nat) (a3 : Nat) (a4 : Nat) (a5 : Nat) (a6 : Nat) (a7 : Nat) (a8 : Nat) (a9 : Nat) (a10 : Nat) (a11 : Nat) (p1 : Int32) (p2 : Int32) (p3 : Int32) : Met l yX9_least wk_X9_least ({ frames := 2, cells := 0, slots := 0, locals := 46 }) (va_Pc [.ref h0, .int p1, .int p2, .int p3] (fun U => va_P (dC, dI) vwCl [(h0, .inr (9, [.int 0, .ref a1, .ref a2, .ref a3, .ref a4, .ref a5, .int 50, .int 20, .int 0, .ref a6, .ref a7, .int 0, .ref a8, .int 0, .ref a9, .ref a10, .long 0, .long 0, .int 0, .long 0, .long 0, .ref a11]))] U.heap ∧ va_K (dC, dI) vwCl [] U)) (vp_Sl (fun r => r = (-100001))) 0 0 (fun _ => False) := by
  refine Met.ofW (cc := cX9_least) (maxL := 8) (ret := (some .long)) (by decide) rfl ?_
  intro p e s m args below meth c s₁ B hml hv
  obtain ⟨rfl, hP, hK⟩ := hv
  have hx := B.exec
  have hb := B.bytes
  have hr := B.returns
  have hts := atoms_spec (ws := wk_X9_least) B.pre
  have hown : s.vm.findClass RX9 = some m.cls := findClass_of_methodNamed B.named
  have hlocks := B.notSynchronized
  have hP : va_P (dC, dI) vwCl [(h0, .inr (9, [.int 0, .ref a1, .ref a2, .ref a3, .ref a4, .ref a5, .int 50, .int 20, .int 0, .ref a6, .ref a7, .int 0, .ref a8, .int 0, .ref a9, .ref a10, .long 0, .long 0, .int 0, .long 0, .long 0, .ref a11]))] s.heap := hP
  have hl := lv_entry ([.ref h0, .int p1, .int p2, .int p3]) (n := 8) (Nat.le_of_ble_eq_true rfl)
  rw [lg_entry_eq]
  generalize (lg_sl ([.ref h0, .int p1, .int p2, .int p3]) ++ List.replicate (8 - (lg_sl ([.ref h0, .int p1, .int p2, .int p3])).length) Slot.unset).toArray = ls at hl ⊢
  have hl : lv_has ls 8 [(0, .ref h0), (1, .int p1), (2, .int p2), (3, .int p3)] := hl
  refine lv_aload_n hx hb dX9_least_0 rfl (lv_at hl 0 rfl) ?_
  refine lv_iload_n hx hb dX9_least_1 rfl (lv_at hl 1 rfl) ?_
  have hPc := hP.sub (ws' := [(h0, .inr (9, [.int 0, .ref a1, .ref a2, .ref a3, .ref a4, .ref a5, .int 50, .int 20, .int 0, .ref a6, .ref a7, .int 0, .ref a8, .int 0, .ref a9, .ref a10, .long 0, .long 0, .int 0, .long 0, .long 0, .ref a11]))]) [0] rfl
  have hKc := hK.sub (tys' := []) [] rfl
  refine vp_callSi (W.runV (As := [.int p1]) (rest := []) ⟨hx, hb, hml, hown, hts⟩ (c_X9_isThing l dC dI h0 a1 a2 a3 a4 a5 a6 a7 a8 a9 a10 a11 p1) (cwV 1 hts g_X9_least__X9_isThing_80 rfl rfl rfl (by decide +kernel) ⟨Nat.le_of_ble_eq_true rfl, Nat.le_of_ble_eq_true rfl⟩) ⟨fun a U g mk q => by obtain ⟨q0, qP, qK⟩ := q; exact ⟨q0, qP, va_K.moved (u := U) (U := U.calling g mk a) (Vm.Alike.refl U.vm) qK⟩, va_recv hKc hPc (ci := 9) (q0 := 0) rfl rfl, fun U hU hW => ⟨rfl, by rw [hU]; exact hPc, va_K.moved hW.alike hKc⟩⟩ rfl rfl hl.1 rfl (lv_room (Nat.le_of_ble_eq_true rfl)) dX9_least_2 ⟨Nat.le_of_ble_eq_true rfl, Nat.le_of_ble_eq_true rfl⟩) (fun r_1 hr_1 => ?_)
  try dsimp only at hr_1
  subst hr_1
  refine lv_if_eq (tgt := 16) hx hb dX9_least_5 (by decide) (fun _ => ?_) (fun h9 => absurd h9 (by decide))
  refine lv_ldc2 hx hb hown (hts (.constantLong RX9 158 (-100001)) (by decide +kernel)) dX9_least_16 ?_
  exact W.lret (v := (-100001)) hx hb hr (fun t ht _ => ⟨_, rfl, rfl, ht⟩) (fun _ h => absurd h List.not_mem_nil) dX9_least_19
def wk_X9_share : List Cond := .code yX9_share cX9_share 13 (some .long) :: ([.methodLink RX9 80 yX9_isThing, .instanceMethod yX9_isThing, .selects RX9 yX9_isThing yX9_isThing, .initialized RX9, .code yX9_isThing cX9_isThing 2 (some .boolean), .fieldLink RX9 59 "MeetingsAboveModel" "things" "I", .methodLink RX9 55 yX9_in, .static yX9_in, .code yX9_in cX9_in 6 (some .boolean), .constantLong RX9 158 (-100001)] ++ wsX90)
set_option maxRecDepth 20000 in
theorem g_X9_share__X9_isThing_80 : GoodIn wk_X9_share (wsV RX9 80 RX9 yX9_isThing wk_X9_isThing) := goodIn_r _ [1, 2, 3, 4, 5, 6, 7, 8, 4, 9, 11, 12, 13, 14, 15, 16, 17, 18, 19, 20, 21, 22, 23, 24, 25, 26, 27, 28, 29, 30, 31, 32] (by decide +kernel) (by decide +kernel)
set_option maxHeartbeats 4000000 in
set_option maxRecDepth 100000 in
theorem c_X9_share (l : Launch) (dC : Nat → ClassId) (dI : Nat → Nat → Nat) (h0 : Nat) (a1 : Nat) (a2 : Nat) (a3 : Nat) (a4 : Nat) (a5 : Nat) (a6 : Nat) (a7 : Nat) (a8 : Nat) (a9 : Nat) (a10 : Nat) (a11 : Nat) (p1 : Int32) (p2 : Int32) (p3 : Int32) (p4 : Int32) : Met l yX9_share wk_X9_share ({ frames := 2, cells := 0, slots := 0, locals := 46 }) (va_Pc [.ref h0, .int p1, .int p2, .int p3, .int p4] (fun U => va_P (dC, dI) vwCl [(h0, .inr (9, [.int 0, .ref a1, .ref a2, .ref a3, .ref a4, .ref a5, .int 50, .int 20, .int 0, .ref a6, .ref a7, .int 0, .ref a8, .int 0, .ref a9, .ref a10, .long 0, .long 0, .int 0, .long 0, .long 0, .ref a11]))] U.heap ∧ va_K (dC, dI) vwCl [] U)) (vp_Sl (fun r => r = (-100001))) 0 0 (fun _ => False) := by
  refine Met.ofW (cc := cX9_share) (maxL := 13) (ret := (some .long)) (by decide) rfl ?_
  intro p e s m args below meth c s₁ B hml hv
  obtain ⟨rfl, hP, hK⟩ := hv
  have hx := B.exec
  have hb := B.bytes
  have hr := B.returns
  have hts := atoms_spec (ws := wk_X9_share) B.pre
  have hown : s.vm.findClass RX9 = some m.cls := findClass_of_methodNamed B.named
  have hlocks := B.notSynchronized
  have hP : va_P (dC, dI) vwCl [(h0, .inr (9, [.int 0, .ref a1, .ref a2, .ref a3, .ref a4, .ref a5, .int 50, .int 20, .int 0, .ref a6, .ref a7, .int 0, .ref a8, .int 0, .ref a9, .ref a10, .long 0, .long 0, .int 0, .long 0, .long 0, .ref a11]))] s.heap := hP
  have hl := lv_entry ([.ref h0, .int p1, .int p2, .int p3, .int p4]) (n := 13) (Nat.le_of_ble_eq_true rfl)
  rw [lg_entry_eq]
  generalize (lg_sl ([.ref h0, .int p1, .int p2, .int p3, .int p4]) ++ List.replicate (13 - (lg_sl ([.ref h0, .int p1, .int p2, .int p3, .int p4])).length) Slot.unset).toArray = ls at hl ⊢
  have hl : lv_has ls 13 [(0, .ref h0), (1, .int p1), (2, .int p2), (3, .int p3), (4, .int p4)] := hl
  refine lv_aload_n hx hb dX9_share_0 rfl (lv_at hl 0 rfl) ?_
  refine lv_iload_n hx hb dX9_share_1 rfl (lv_at hl 1 rfl) ?_
  have hPc := hP.sub (ws' := [(h0, .inr (9, [.int 0, .ref a1, .ref a2, .ref a3, .ref a4, .ref a5, .int 50, .int 20, .int 0, .ref a6, .ref a7, .int 0, .ref a8, .int 0, .ref a9, .ref a10, .long 0, .long 0, .int 0, .long 0, .long 0, .ref a11]))]) [0] rfl
  have hKc := hK.sub (tys' := []) [] rfl
  refine vp_callSi (W.runV (As := [.int p1]) (rest := []) ⟨hx, hb, hml, hown, hts⟩ (c_X9_isThing l dC dI h0 a1 a2 a3 a4 a5 a6 a7 a8 a9 a10 a11 p1) (cwV 1 hts g_X9_share__X9_isThing_80 rfl rfl rfl (by decide +kernel) ⟨Nat.le_of_ble_eq_true rfl, Nat.le_of_ble_eq_true rfl⟩) ⟨fun a U g mk q => by obtain ⟨q0, qP, qK⟩ := q; exact ⟨q0, qP, va_K.moved (u := U) (U := U.calling g mk a) (Vm.Alike.refl U.vm) qK⟩, va_recv hKc hPc (ci := 9) (q0 := 0) rfl rfl, fun U hU hW => ⟨rfl, by rw [hU]; exact hPc, va_K.moved hW.alike hKc⟩⟩ rfl rfl hl.1 rfl (lv_room (Nat.le_of_ble_eq_true rfl)) dX9_share_2 ⟨Nat.le_of_ble_eq_true rfl, Nat.le_of_ble_eq_true rfl⟩) (fun r_1 hr_1 => ?_)
  try dsimp only at hr_1
  subst hr_1
  refine lv_if_eq (tgt := 16) hx hb dX9_share_5 (by decide) (fun _ => ?_) (fun h9 => absurd h9 (by decide))
  refine lv_ldc2 hx hb hown (hts (.constantLong RX9 158 (-100001)) (by decide +kernel)) dX9_share_16 ?_
  exact W.lret (v := (-100001)) hx hb hr (fun t ht _ => ⟨_, rfl, rfl, ht⟩) (fun _ h => absurd h List.not_mem_nil) dX9_share_19
def wk_X9_dotted : List Cond := .code yX9_dotted cX9_dotted 5 (some .int) :: ([.fieldLink RX9 109 "MeetingsAboveModel" "dots" "I", .methodLink RX9 55 yX9_in, .static yX9_in, .initialized RX9, .code yX9_in cX9_in 6 (some .boolean), .constant RX9 84 (-100001)] ++ wsX90)
theorem in_X9_dotted_X9 : ∀ w ∈ wsX90, w ∈ wk_X9_dotted := fun _ h => List.mem_cons_of_mem _ (List.mem_append_right _ h)
set_option maxRecDepth 20000 in
theorem g_X9_dotted__X9_in_55 : GoodIn wk_X9_dotted (va_wsS RX9 55 yX9_in wk_X9_in) := goodIn_r _ [2, 3, 4, 5] (by decide +kernel) (by decide +kernel)
set_option maxHeartbeats 4000000 in
set_option maxRecDepth 100000 in
theorem c_X9_dotted (l : Launch) (dC : Nat → ClassId) (dI : Nat → Nat → Nat) (h0 : Nat) (a1 : Nat) (a2 : Nat) (a3 : Nat) (a4 : Nat) (a5 : Nat) (a6 : Nat) (a7 : Nat) (a8 : Nat) (a9 : Nat) (a10 : Nat) (a11 : Nat) (p1 : Int32) (p2 : Int32) : Met l yX9_dotted wk_X9_dotted ({ frames := 1, cells := 0, slots := 0, locals := 25 }) (va_Pc [.ref h0, .int p1, .int p2] (fun U => va_P (dC, dI) vwCl [(h0, .inr (9, [.int 0, .ref a1, .ref a2, .ref a3, .ref a4, .ref a5, .int 50, .int 20, .int 0, .ref a6, .ref a7, .int 0, .ref a8, .int 0, .ref a9, .ref a10, .long 0, .long 0, .int 0, .long 0, .long 0, .ref a11]))] U.heap ∧ va_K (dC, dI) vwCl [] U)) (vp_Si (fun r => r = (-100001))) 0 0 (fun _ => False) := by
  refine Met.ofW (cc := cX9_dotted) (maxL := 5) (ret := (some .int)) (by decide) rfl ?_
  intro p e s m args below meth c s₁ B hml hv
  obtain ⟨rfl, hP, hK⟩ := hv
  have hx := B.exec
  have hb := B.bytes
  have hr := B.returns
  have hts := atoms_spec (ws := wk_X9_dotted) B.pre
  have hown : s.vm.findClass RX9 = some m.cls := findClass_of_methodNamed B.named
  have hlocks := B.notSynchronized
  have hP : va_P (dC, dI) vwCl [(h0, .inr (9, [.int 0, .ref a1, .ref a2, .ref a3, .ref a4, .ref a5, .int 50, .int 20, .int 0, .ref a6, .ref a7, .int 0, .ref a8, .int 0, .ref a9, .ref a10, .long 0, .long 0, .int 0, .long 0, .long 0, .ref a11]))] s.heap := hP
  have hl := lv_entry ([.ref h0, .int p1, .int p2]) (n := 5) (Nat.le_of_ble_eq_true rfl)
  rw [lg_entry_eq]
  generalize (lg_sl ([.ref h0, .int p1, .int p2]) ++ List.replicate (5 - (lg_sl ([.ref h0, .int p1, .int p2])).length) Slot.unset).toArray = ls at hl ⊢
  have hl : lv_has ls 5 [(0, .ref h0), (1, .int p1), (2, .int p2)] := hl
  refine lv_iload_n hx hb dX9_dotted_0 rfl (lv_at hl 1 rfl) ?_
  refine lv_i2l hx hb dX9_dotted_1 rfl ?_
  refine lv_lconst (v := 0) hx hb dX9_dotted_2 (by decide) ?_
  refine lv_aload_n hx hb dX9_dotted_3 rfl (lv_at hl 0 rfl) ?_
  refine va_get (D := (dC, dI)) (ci := 9) (v := .int 0) (C := RX9) (T := TX9) (N := 22) hx hb hts in_X9_dotted_X9 hown hK hP 0 rfl rfl 8 (by decide) (hts (.fieldLink RX9 109 "MeetingsAboveModel" "dots" "I") (by decide +kernel)) (fun _ h9 => h9) rfl dX9_dotted_4 ?_
  refine lv_iconst (v := 1) hx hb dX9_dotted_7 (by decide) ?_
  refine lv_isub hx hb dX9_dotted_8 ?_
  refine lv_topi (fun y_1 ey_1 => ?_)
  obtain rfl : y_1 = (-1) := ey_1.trans (by decide)
  refine lv_i2l (v := (-1)) hx hb dX9_dotted_9 (by decide) ?_
  refine vp_callSi (W.runS (As := [.long p1.toInt64, .long 0, .long (-1)]) (rest := []) ⟨hx, hb, hml, hown, hts⟩ (c_X9_in l dC dI p1.toInt64 0 (-1)) (va_cwS 3 hts g_X9_dotted__X9_in_55 rfl rfl rfl (by decide +kernel) ⟨Nat.le_of_ble_eq_true rfl, Nat.le_of_ble_eq_true rfl⟩) ⟨fun a U g mk q => by obtain ⟨q0, q1⟩ := q; exact ⟨q0, q1⟩, fun U hU hW => ⟨rfl, trivial⟩⟩ rfl rfl hl.1 rfl (lv_room (Nat.le_of_ble_eq_true rfl)) dX9_dotted_10 ⟨Nat.le_of_ble_eq_true rfl, Nat.le_of_ble_eq_true rfl⟩) (fun r_2 hr_2 => ?_)
  try dsimp only at hr_2
  rcases bo_split hr_2 with ⟨rfl, q_10⟩ | ⟨rfl, q_10⟩
  · have q_10 := (w64 0 (-1) p1 (by decide) (by decide)).mp q_10
    exact (absurd (Int32.le_trans q_10.1 q_10.2) (by decide))
  · have q_10 := mt (w64 0 (-1) p1 (by decide) (by decide)).mpr q_10
    refine lv_if_ne (tgt := 19) hx hb dX9_dotted_13 (by decide) (fun h9 => absurd h9 (by decide)) (fun _ => ?_)
    refine lv_ldc hx hb hown (hts (.constant RX9 84 (-100001)) (by decide +kernel)) dX9_dotted_16 ?_
    exact W.iret (v := (-100001)) hx hb hr (fun t ht _ => ⟨_, rfl, rfl, ht⟩) (fun _ h => absurd h List.not_mem_nil) dX9_dotted_18
def wk_X9_answer : List Cond := .code yX9_answer cX9_answer 4 (some .int) :: ([.fieldLink RX9 115 "MeetingsAboveModel" "notices" "I", .methodLink RX9 55 yX9_in, .static yX9_in, .initialized RX9, .code yX9_in cX9_in 6 (some .boolean), .constant RX9 84 (-100001)] ++ wsX90)
theorem in_X9_answer_X9 : ∀ w ∈ wsX90, w ∈ wk_X9_answer := fun _ h => List.mem_cons_of_mem _ (List.mem_append_right _ h)
set_option maxRecDepth 20000 in
theorem g_X9_answer__X9_in_55 : GoodIn wk_X9_answer (va_wsS RX9 55 yX9_in wk_X9_in) := goodIn_r _ [2, 3, 4, 5] (by decide +kernel) (by decide +kernel)
set_option maxHeartbeats 4000000 in
set_option maxRecDepth 100000 in
theorem c_X9_answer (l : Launch) (dC : Nat → ClassId) (dI : Nat → Nat → Nat) (h0 : Nat) (a1 : Nat) (a2 : Nat) (a3 : Nat) (a4 : Nat) (a5 : Nat) (a6 : Nat) (a7 : Nat) (a8 : Nat) (a9 : Nat) (a10 : Nat) (a11 : Nat) (p1 : Int32) (p2 : Int32) (p3 : Int32) : Met l yX9_answer wk_X9_answer ({ frames := 1, cells := 0, slots := 0, locals := 25 }) (va_Pc [.ref h0, .int p1, .int p2, .int p3] (fun U => va_P (dC, dI) vwCl [(h0, .inr (9, [.int 0, .ref a1, .ref a2, .ref a3, .ref a4, .ref a5, .int 50, .int 20, .int 0, .ref a6, .ref a7, .int 0, .ref a8, .int 0, .ref a9, .ref a10, .long 0, .long 0, .int 0, .long 0, .long 0, .ref a11]))] U.heap ∧ va_K (dC, dI) vwCl [] U)) (vp_Si (fun r => r = (-100001))) 0 0 (fun _ => False) := by
  refine Met.ofW (cc := cX9_answer) (maxL := 4) (ret := (some .int)) (by decide) rfl ?_
  intro p e s m args below meth c s₁ B hml hv
  obtain ⟨rfl, hP, hK⟩ := hv
  have hx := B.exec
  have hb := B.bytes
  have hr := B.returns
  have hts := atoms_spec (ws := wk_X9_answer) B.pre
  have hown : s.vm.findClass RX9 = some m.cls := findClass_of_methodNamed B.named
  have hlocks := B.notSynchronized
  have hP : va_P (dC, dI) vwCl [(h0, .inr (9, [.int 0, .ref a1, .ref a2, .ref a3, .ref a4, .ref a5, .int 50, .int 20, .int 0, .ref a6, .ref a7, .int 0, .ref a8, .int 0, .ref a9, .ref a10, .long 0, .long 0, .int 0, .long 0, .long 0, .ref a11]))] s.heap := hP
  have hl := lv_entry ([.ref h0, .int p1, .int p2, .int p3]) (n := 4) (Nat.le_of_ble_eq_true rfl)
  rw [lg_entry_eq]
  generalize (lg_sl ([.ref h0, .int p1, .int p2, .int p3]) ++ List.replicate (4 - (lg_sl ([.ref h0, .int p1, .int p2, .int p3])).length) Slot.unset).toArray = ls at hl ⊢
  have hl : lv_has ls 4 [(0, .ref h0), (1, .int p1), (2, .int p2), (3, .int p3)] := hl
  refine lv_iload_n hx hb dX9_answer_0 rfl (lv_at hl 1 rfl) ?_
  refine lv_i2l hx hb dX9_answer_1 rfl ?_
  refine lv_lconst (v := 0) hx hb dX9_answer_2 (by decide) ?_
  refine lv_aload_n hx hb dX9_answer_3 rfl (lv_at hl 0 rfl) ?_
  refine va_get (D := (dC, dI)) (ci := 9) (v := .int 0) (C := RX9) (T := TX9) (N := 22) hx hb hts in_X9_answer_X9 hown hK hP 0 rfl rfl 11 (by decide) (hts (.fieldLink RX9 115 "MeetingsAboveModel" "notices" "I") (by decide +kernel)) (fun _ h9 => h9) rfl dX9_answer_4 ?_
  refine lv_iconst (v := 1) hx hb dX9_answer_7 (by decide) ?_
  refine lv_isub hx hb dX9_answer_8 ?_
  refine lv_topi (fun y_1 ey_1 => ?_)
  obtain rfl : y_1 = (-1) := ey_1.trans (by decide)
  refine lv_i2l (v := (-1)) hx hb dX9_answer_9 (by decide) ?_
  refine vp_callSi (W.runS (As := [.long p1.toInt64, .long 0, .long (-1)]) (rest := []) ⟨hx, hb, hml, hown, hts⟩ (c_X9_in l dC dI p1.toInt64 0 (-1)) (va_cwS 3 hts g_X9_answer__X9_in_55 rfl rfl rfl (by decide +kernel) ⟨Nat.le_of_ble_eq_true rfl, Nat.le_of_ble_eq_true rfl⟩) ⟨fun a U g mk q => by obtain ⟨q0, q1⟩ := q; exact ⟨q0, q1⟩, fun U hU hW => ⟨rfl, trivial⟩⟩ rfl rfl hl.1 rfl (lv_room (Nat.le_of_ble_eq_true rfl)) dX9_answer_10 ⟨Nat.le_of_ble_eq_true rfl, Nat.le_of_ble_eq_true rfl⟩) (fun r_2 hr_2 => ?_)
  try dsimp only at hr_2
  rcases bo_split hr_2 with ⟨rfl, q_10⟩ | ⟨rfl, q_10⟩
  · have q_10 := (w64 0 (-1) p1 (by decide) (by decide)).mp q_10
    exact (absurd (Int32.le_trans q_10.1 q_10.2) (by decide))
  · have q_10 := mt (w64 0 (-1) p1 (by decide) (by decide)).mpr q_10
    refine lv_if_eq (tgt := 24) hx hb dX9_answer_13 (by decide) (fun _ => ?_) (fun h9 => absurd h9 (by decide))
    refine lv_ldc hx hb hown (hts (.constant RX9 84 (-100001)) (by decide +kernel)) dX9_answer_24 ?_
    exact W.iret (v := (-100001)) hx hb hr (fun t ht _ => ⟨_, rfl, rfl, ht⟩) (fun _ h => absurd h List.not_mem_nil) dX9_answer_26
def wk_X9_noticed : List Cond := .code yX9_noticed cX9_noticed 3 (some .int) :: ([.fieldLink RX9 115 "MeetingsAboveModel" "notices" "I", .methodLink RX9 55 yX9_in, .static yX9_in, .initialized RX9, .code yX9_in cX9_in 6 (some .boolean), .constant RX9 84 (-100001)] ++ wsX90)
theorem in_X9_noticed_X9 : ∀ w ∈ wsX90, w ∈ wk_X9_noticed := fun _ h => List.mem_cons_of_mem _ (List.mem_append_right _ h)
set_option maxRecDepth 20000 in
theorem g_X9_noticed__X9_in_55 : GoodIn wk_X9_noticed (va_wsS RX9 55 yX9_in wk_X9_in) := goodIn_r _ [2, 3, 4, 5] (by decide +kernel) (by decide +kernel)
set_option maxHeartbeats 4000000 in
set_option maxRecDepth 100000 in
theorem c_X9_noticed (l : Launch) (dC : Nat → ClassId) (dI : Nat → Nat → Nat) (h0 : Nat) (a1 : Nat) (a2 : Nat) (a3 : Nat) (a4 : Nat) (a5 : Nat) (a6 : Nat) (a7 : Nat) (a8 : Nat) (a9 : Nat) (a10 : Nat) (a11 : Nat) (p1 : Int32) (p2 : Int32) : Met l yX9_noticed wk_X9_noticed ({ frames := 1, cells := 0, slots := 0, locals := 25 }) (va_Pc [.ref h0, .int p1, .int p2] (fun U => va_P (dC, dI) vwCl [(h0, .inr (9, [.int 0, .ref a1, .ref a2, .ref a3, .ref a4, .ref a5, .int 50, .int 20, .int 0, .ref a6, .ref a7, .int 0, .ref a8, .int 0, .ref a9, .ref a10, .long 0, .long 0, .int 0, .long 0, .long 0, .ref a11]))] U.heap ∧ va_K (dC, dI) vwCl [] U)) (vp_Si (fun r => r = (-100001))) 0 0 (fun _ => False) := by
  refine Met.ofW (cc := cX9_noticed) (maxL := 3) (ret := (some .int)) (by decide) rfl ?_
  intro p e s m args below meth c s₁ B hml hv
  obtain ⟨rfl, hP, hK⟩ := hv
  have hx := B.exec
  have hb := B.bytes
  have hr := B.returns
  have hts := atoms_spec (ws := wk_X9_noticed) B.pre
  have hown : s.vm.findClass RX9 = some m.cls := findClass_of_methodNamed B.named
  have hlocks := B.notSynchronized
  have hP : va_P (dC, dI) vwCl [(h0, .inr (9, [.int 0, .ref a1, .ref a2, .ref a3, .ref a4, .ref a5, .int 50, .int 20, .int 0, .ref a6, .ref a7, .int 0, .ref a8, .int 0, .ref a9, .ref a10, .long 0, .long 0, .int 0, .long 0, .long 0, .ref a11]))] s.heap := hP
  have hl := lv_entry ([.ref h0, .int p1, .int p2]) (n := 3) (Nat.le_of_ble_eq_true rfl)
  rw [lg_entry_eq]
  generalize (lg_sl ([.ref h0, .int p1, .int p2]) ++ List.replicate (3 - (lg_sl ([.ref h0, .int p1, .int p2])).length) Slot.unset).toArray = ls at hl ⊢
  have hl : lv_has ls 3 [(0, .ref h0), (1, .int p1), (2, .int p2)] := hl
  refine lv_iload_n hx hb dX9_noticed_0 rfl (lv_at hl 1 rfl) ?_
  refine lv_i2l hx hb dX9_noticed_1 rfl ?_
  refine lv_lconst (v := 0) hx hb dX9_noticed_2 (by decide) ?_
  refine lv_aload_n hx hb dX9_noticed_3 rfl (lv_at hl 0 rfl) ?_
  refine va_get (D := (dC, dI)) (ci := 9) (v := .int 0) (C := RX9) (T := TX9) (N := 22) hx hb hts in_X9_noticed_X9 hown hK hP 0 rfl rfl 11 (by decide) (hts (.fieldLink RX9 115 "MeetingsAboveModel" "notices" "I") (by decide +kernel)) (fun _ h9 => h9) rfl dX9_noticed_4 ?_
  refine lv_iconst (v := 1) hx hb dX9_noticed_7 (by decide) ?_
  refine lv_isub hx hb dX9_noticed_8 ?_
  refine lv_topi (fun y_1 ey_1 => ?_)
  obtain rfl : y_1 = (-1) := ey_1.trans (by decide)
  refine lv_i2l (v := (-1)) hx hb dX9_noticed_9 (by decide) ?_
  refine vp_callSi (W.runS (As := [.long p1.toInt64, .long 0, .long (-1)]) (rest := []) ⟨hx, hb, hml, hown, hts⟩ (c_X9_in l dC dI p1.toInt64 0 (-1)) (va_cwS 3 hts g_X9_noticed__X9_in_55 rfl rfl rfl (by decide +kernel) ⟨Nat.le_of_ble_eq_true rfl, Nat.le_of_ble_eq_true rfl⟩) ⟨fun a U g mk q => by obtain ⟨q0, q1⟩ := q; exact ⟨q0, q1⟩, fun U hU hW => ⟨rfl, trivial⟩⟩ rfl rfl hl.1 rfl (lv_room (Nat.le_of_ble_eq_true rfl)) dX9_noticed_10 ⟨Nat.le_of_ble_eq_true rfl, Nat.le_of_ble_eq_true rfl⟩) (fun r_2 hr_2 => ?_)
  try dsimp only at hr_2
  rcases bo_split hr_2 with ⟨rfl, q_10⟩ | ⟨rfl, q_10⟩
  · have q_10 := (w64 0 (-1) p1 (by decide) (by decide)).mp q_10
    exact (absurd (Int32.le_trans q_10.1 q_10.2) (by decide))
  · have q_10 := mt (w64 0 (-1) p1 (by decide) (by decide)).mpr q_10
    refine lv_if_ne (tgt := 19) hx hb dX9_noticed_13 (by decide) (fun h9 => absurd h9 (by decide)) (fun _ => ?_)
    refine lv_ldc hx hb hown (hts (.constant RX9 84 (-100001)) (by decide +kernel)) dX9_noticed_16 ?_
    exact W.iret (v := (-100001)) hx hb hr (fun t ht _ => ⟨_, rfl, rfl, ht⟩) (fun _ h => absurd h List.not_mem_nil) dX9_noticed_18
def wk_X9_count : List Cond := .code yX9_count cX9_count 5 (some .int) :: ([.fieldLink RX9 59 "MeetingsAboveModel" "things" "I", .fieldLink RX9 109 "MeetingsAboveModel" "dots" "I", .fieldLink RX9 115 "MeetingsAboveModel" "notices" "I", .constant RX9 70 (-100002), .fieldLink RX9 118 "MeetingsAboveModel" "late" "I"] ++ wsX90)
theorem in_X9_count_X9 : ∀ w ∈ wsX90, w ∈ wk_X9_count := fun _ h => List.mem_cons_of_mem _ (List.mem_append_right _ h)
set_option maxHeartbeats 4000000 in
set_option maxRecDepth 100000 in
theorem c_X9_count (l : Launch) (dC : Nat → ClassId) (dI : Nat → Nat → Nat) (h0 : Nat) (a1 : Nat) (a2 : Nat) (a3 : Nat) (a4 : Nat) (a5 : Nat) (a6 : Nat) (a7 : Nat) (a8 : Nat) (a9 : Nat) (a10 : Nat) (a11 : Nat) (p1 : Int32) : Met l yX9_count wk_X9_count ({ frames := 0, cells := 0, slots := 0, locals := 0 }) (va_Pc [.ref h0, .int p1] (fun U => va_P (dC, dI) vwCl [(h0, .inr (9, [.int 0, .ref a1, .ref a2, .ref a3, .ref a4, .ref a5, .int 50, .int 20, .int 0, .ref a6, .ref a7, .int 0, .ref a8, .int 0, .ref a9, .ref a10, .long 0, .long 0, .int 0, .long 0, .long 0, .ref a11]))] U.heap ∧ va_K (dC, dI) vwCl [] U)) (vp_Si (fun r => r = an_count p1)) 0 0 (fun _ => False) := by
  refine Met.ofW (cc := cX9_count) (maxL := 5) (ret := (some .int)) (by decide) rfl ?_
  intro p e s m args below meth c s₁ B hml hv
  obtain ⟨rfl, hP, hK⟩ := hv
  have hx := B.exec
  have hb := B.bytes
  have hr := B.returns
  have hts := atoms_spec (ws := wk_X9_count) B.pre
  have hown : s.vm.findClass RX9 = some m.cls := findClass_of_methodNamed B.named
  have hlocks := B.notSynchronized
  have hP : va_P (dC, dI) vwCl [(h0, .inr (9, [.int 0, .ref a1, .ref a2, .ref a3, .ref a4, .ref a5, .int 50, .int 20, .int 0, .ref a6, .ref a7, .int 0, .ref a8, .int 0, .ref a9, .ref a10, .long 0, .long 0, .int 0, .long 0, .long 0, .ref a11]))] s.heap := hP
  have hl := lv_entry ([.ref h0, .int p1]) (n := 5) (Nat.le_of_ble_eq_true rfl)
  rw [lg_entry_eq]
  generalize (lg_sl ([.ref h0, .int p1]) ++ List.replicate (5 - (lg_sl ([.ref h0, .int p1])).length) Slot.unset).toArray = ls at hl ⊢
  have hl : lv_has ls 5 [(0, .ref h0), (1, .int p1)] := hl
  refine lv_iconst (v := 0) hx hb dX9_count_0 (by decide) ?_
  refine lv_istore_n (lv' := [(2, .int 0), (0, .ref h0), (1, .int p1)]) hx hb dX9_count_1 rfl hl (by decide) rfl (fun ls hl => ?_)
  refine lv_iconst (v := 0) hx hb dX9_count_2 (by decide) ?_
  refine lv_istore_n (lv' := [(3, .int 0), (2, .int 0), (0, .ref h0), (1, .int p1)]) hx hb dX9_count_3 rfl hl (by decide) rfl (fun ls hl => ?_)
  refine lv_iload_n hx hb dX9_count_4 rfl (lv_at hl 0 rfl) ?_
  refine lv_aload_n hx hb dX9_count_5 rfl (lv_at hl 2 rfl) ?_
  refine va_get (D := (dC, dI)) (ci := 9) (v := .int 0) (C := RX9) (T := TX9) (N := 22) hx hb hts in_X9_count_X9 hown hK hP 0 rfl rfl 0 (by decide) (hts (.fieldLink RX9 59 "MeetingsAboveModel" "things" "I") (by decide +kernel)) (fun _ h9 => h9) rfl dX9_count_6 ?_
  refine lv_icmp_ge (tgt := 83) hx hb dX9_count_9 (by decide) (fun _ => ?_) (fun h9 => absurd h9 (by decide))
  refine lv_iconst (v := 0) hx hb dX9_count_83 (by decide) ?_
  refine lv_istore_n (lv' := [(3, .int 0), (2, .int 0), (0, .ref h0), (1, .int p1)]) hx hb dX9_count_84 rfl hl (by decide) rfl (fun ls hl => ?_)
  refine lv_iload_n hx hb dX9_count_85 rfl (lv_at hl 0 rfl) ?_
  refine lv_aload_n hx hb dX9_count_86 rfl (lv_at hl 2 rfl) ?_
  refine va_get (D := (dC, dI)) (ci := 9) (v := .int 0) (C := RX9) (T := TX9) (N := 22) hx hb hts in_X9_count_X9 hown hK hP 0 rfl rfl 8 (by decide) (hts (.fieldLink RX9 109 "MeetingsAboveModel" "dots" "I") (by decide +kernel)) (fun _ h9 => h9) rfl dX9_count_87 ?_
  refine lv_icmp_ge (tgt := 147) hx hb dX9_count_90 (by decide) (fun _ => ?_) (fun h9 => absurd h9 (by decide))
  refine lv_iconst (v := 0) hx hb dX9_count_147 (by decide) ?_
  refine lv_istore_n (lv' := [(3, .int 0), (2, .int 0), (0, .ref h0), (1, .int p1)]) hx hb dX9_count_148 rfl hl (by decide) rfl (fun ls hl => ?_)
  refine lv_iload_n hx hb dX9_count_149 rfl (lv_at hl 0 rfl) ?_
  refine lv_aload_n hx hb dX9_count_150 rfl (lv_at hl 2 rfl) ?_
  refine va_get (D := (dC, dI)) (ci := 9) (v := .int 0) (C := RX9) (T := TX9) (N := 22) hx hb hts in_X9_count_X9 hown hK hP 0 rfl rfl 11 (by decide) (hts (.fieldLink RX9 115 "MeetingsAboveModel" "notices" "I") (by decide +kernel)) (fun _ h9 => h9) rfl dX9_count_151 ?_
  refine lv_icmp_ge (tgt := 192) hx hb dX9_count_154 (by decide) (fun _ => ?_) (fun h9 => absurd h9 (by decide))
  refine lv_iload_n hx hb dX9_count_192 rfl (lv_at hl 3 rfl) ?_
  rcases sw_10 p1 with o_193 | rfl | rfl | rfl | rfl | rfl | rfl | rfl | rfl | rfl | rfl
  · refine lv_tableOut (tgt := 270) hx hb dX9_count_193 o_193 (by decide) ?_
    refine lv_ldc hx hb hown (hts (.constant RX9 70 (-100002)) (by decide +kernel)) dX9_count_270 ?_
    exact W.iret (v := (-100002)) hx hb hr (fun t ht _ => ⟨_, rfl, (by first | rfl | exact (an_count_out o_193).symm), ht⟩) (fun _ h => absurd h List.not_mem_nil) dX9_count_272
  · refine lv_tableIn (tgt := 248) (off := 55) hx hb dX9_count_193 (by decide) (by decide) (by decide) (by decide) ?_
    refine lv_aload_n hx hb dX9_count_248 rfl (lv_at hl 2 rfl) ?_
    refine va_get (D := (dC, dI)) (ci := 9) (v := .int 0) (C := RX9) (T := TX9) (N := 22) hx hb hts in_X9_count_X9 hown hK hP 0 rfl rfl 0 (by decide) (hts (.fieldLink RX9 59 "MeetingsAboveModel" "things" "I") (by decide +kernel)) (fun _ h9 => h9) rfl dX9_count_249 ?_
    exact W.iret (v := 0) hx hb hr (fun t ht _ => ⟨_, rfl, (by first | rfl | exact (an_count_out o_193).symm), ht⟩) (fun _ h => absurd h List.not_mem_nil) dX9_count_252
  · refine lv_tableIn (tgt := 268) (off := 75) hx hb dX9_count_193 (by decide) (by decide) (by decide) (by decide) ?_
    refine lv_iload_n hx hb dX9_count_268 rfl (lv_at hl 1 rfl) ?_
    exact W.iret (v := 0) hx hb hr (fun t ht _ => ⟨_, rfl, (by first | rfl | exact (an_count_out o_193).symm), ht⟩) (fun _ h => absurd h List.not_mem_nil) dX9_count_269
  · refine lv_tableIn (tgt := 268) (off := 75) hx hb dX9_count_193 (by decide) (by decide) (by decide) (by decide) ?_
    refine lv_iload_n hx hb dX9_count_268 rfl (lv_at hl 1 rfl) ?_
    exact W.iret (v := 0) hx hb hr (fun t ht _ => ⟨_, rfl, (by first | rfl | exact (an_count_out o_193).symm), ht⟩) (fun _ h => absurd h List.not_mem_nil) dX9_count_269
  · refine lv_tableIn (tgt := 253) (off := 60) hx hb dX9_count_193 (by decide) (by decide) (by decide) (by decide) ?_
    refine lv_aload_n hx hb dX9_count_253 rfl (lv_at hl 2 rfl) ?_
    refine va_get (D := (dC, dI)) (ci := 9) (v := .int 0) (C := RX9) (T := TX9) (N := 22) hx hb hts in_X9_count_X9 hown hK hP 0 rfl rfl 8 (by decide) (hts (.fieldLink RX9 109 "MeetingsAboveModel" "dots" "I") (by decide +kernel)) (fun _ h9 => h9) rfl dX9_count_254 ?_
    exact W.iret (v := 0) hx hb hr (fun t ht _ => ⟨_, rfl, (by first | rfl | exact (an_count_out o_193).symm), ht⟩) (fun _ h => absurd h List.not_mem_nil) dX9_count_257
  · refine lv_tableIn (tgt := 268) (off := 75) hx hb dX9_count_193 (by decide) (by decide) (by decide) (by decide) ?_
    refine lv_iload_n hx hb dX9_count_268 rfl (lv_at hl 1 rfl) ?_
    exact W.iret (v := 0) hx hb hr (fun t ht _ => ⟨_, rfl, (by first | rfl | exact (an_count_out o_193).symm), ht⟩) (fun _ h => absurd h List.not_mem_nil) dX9_count_269
  · refine lv_tableIn (tgt := 268) (off := 75) hx hb dX9_count_193 (by decide) (by decide) (by decide) (by decide) ?_
    refine lv_iload_n hx hb dX9_count_268 rfl (lv_at hl 1 rfl) ?_
    exact W.iret (v := 0) hx hb hr (fun t ht _ => ⟨_, rfl, (by first | rfl | exact (an_count_out o_193).symm), ht⟩) (fun _ h => absurd h List.not_mem_nil) dX9_count_269
  · refine lv_tableIn (tgt := 268) (off := 75) hx hb dX9_count_193 (by decide) (by decide) (by decide) (by decide) ?_
    refine lv_iload_n hx hb dX9_count_268 rfl (lv_at hl 1 rfl) ?_
    exact W.iret (v := 0) hx hb hr (fun t ht _ => ⟨_, rfl, (by first | rfl | exact (an_count_out o_193).symm), ht⟩) (fun _ h => absurd h List.not_mem_nil) dX9_count_269
  · refine lv_tableIn (tgt := 258) (off := 65) hx hb dX9_count_193 (by decide) (by decide) (by decide) (by decide) ?_
    refine lv_aload_n hx hb dX9_count_258 rfl (lv_at hl 2 rfl) ?_
    refine va_get (D := (dC, dI)) (ci := 9) (v := .int 0) (C := RX9) (T := TX9) (N := 22) hx hb hts in_X9_count_X9 hown hK hP 0 rfl rfl 11 (by decide) (hts (.fieldLink RX9 115 "MeetingsAboveModel" "notices" "I") (by decide +kernel)) (fun _ h9 => h9) rfl dX9_count_259 ?_
    exact W.iret (v := 0) hx hb hr (fun t ht _ => ⟨_, rfl, (by first | rfl | exact (an_count_out o_193).symm), ht⟩) (fun _ h => absurd h List.not_mem_nil) dX9_count_262
  · refine lv_tableIn (tgt := 268) (off := 75) hx hb dX9_count_193 (by decide) (by decide) (by decide) (by decide) ?_
    refine lv_iload_n hx hb dX9_count_268 rfl (lv_at hl 1 rfl) ?_
    exact W.iret (v := 0) hx hb hr (fun t ht _ => ⟨_, rfl, (by first | rfl | exact (an_count_out o_193).symm), ht⟩) (fun _ h => absurd h List.not_mem_nil) dX9_count_269
  · refine lv_tableIn (tgt := 263) (off := 70) hx hb dX9_count_193 (by decide) (by decide) (by decide) (by decide) ?_
    refine lv_aload_n hx hb dX9_count_263 rfl (lv_at hl 2 rfl) ?_
    refine va_get (D := (dC, dI)) (ci := 9) (v := .int 0) (C := RX9) (T := TX9) (N := 22) hx hb hts in_X9_count_X9 hown hK hP 0 rfl rfl 13 (by decide) (hts (.fieldLink RX9 118 "MeetingsAboveModel" "late" "I") (by decide +kernel)) (fun _ h9 => h9) rfl dX9_count_264 ?_
    exact W.iret (v := 0) hx hb hr (fun t ht _ => ⟨_, rfl, (by first | rfl | exact (an_count_out o_193).symm), ht⟩) (fun _ h => absurd h List.not_mem_nil) dX9_count_267
def wk_X9_meeting : List Cond := .code yX9_meeting cX9_meeting 6 (some .int) :: ([.methodLink RX9 55 yX9_in, .static yX9_in, .initialized RX9, .code yX9_in cX9_in 6 (some .boolean), .fieldLink RX9 59 "MeetingsAboveModel" "things" "I", .constant RX9 70 (-100002)] ++ wsX90)
theorem in_X9_meeting_X9 : ∀ w ∈ wsX90, w ∈ wk_X9_meeting := fun _ h => List.mem_cons_of_mem _ (List.mem_append_right _ h)
set_option maxRecDepth 20000 in
theorem g_X9_meeting__X9_in_55 : GoodIn wk_X9_meeting (va_wsS RX9 55 yX9_in wk_X9_in) := goodIn_r _ [1, 2, 3, 4] (by decide +kernel) (by decide +kernel)
set_option maxHeartbeats 4000000 in
set_option maxRecDepth 100000 in
theorem c_X9_meeting (l : Launch) (dC : Nat → ClassId) (dI : Nat → Nat → Nat) (h0 : Nat) (a1 : Nat) (a2 : Nat) (a3 : Nat) (a4 : Nat) (a5 : Nat) (a6 : Nat) (a7 : Nat) (a8 : Nat) (a9 : Nat) (a10 : Nat) (a11 : Nat) (p1 : Int32) (p2 : Int32) : Met l yX9_meeting wk_X9_meeting ({ frames := 1, cells := 0, slots := 0, locals := 25 }) (va_Pc [.ref h0, .int p1, .int p2] (fun U => va_P (dC, dI) vwCl [(h0, .inr (9, [.int 0, .ref a1, .ref a2, .ref a3, .ref a4, .ref a5, .int 50, .int 20, .int 0, .ref a6, .ref a7, .int 0, .ref a8, .int 0, .ref a9, .ref a10, .long 0, .long 0, .int 0, .long 0, .long 0, .ref a11]))] U.heap ∧ va_K (dC, dI) vwCl [] U)) (vp_Si (fun r => r = an_meeting p2)) 0 0 (fun _ => False) := by
  refine Met.ofW (cc := cX9_meeting) (maxL := 6) (ret := (some .int)) (by decide) rfl ?_
  intro p e s m args below meth c s₁ B hml hv
  obtain ⟨rfl, hP, hK⟩ := hv
  have hx := B.exec
  have hb := B.bytes
  have hr := B.returns
  have hts := atoms_spec (ws := wk_X9_meeting) B.pre
  have hown : s.vm.findClass RX9 = some m.cls := findClass_of_methodNamed B.named
  have hlocks := B.notSynchronized
  have hP : va_P (dC, dI) vwCl [(h0, .inr (9, [.int 0, .ref a1, .ref a2, .ref a3, .ref a4, .ref a5, .int 50, .int 20, .int 0, .ref a6, .ref a7, .int 0, .ref a8, .int 0, .ref a9, .ref a10, .long 0, .long 0, .int 0, .long 0, .long 0, .ref a11]))] s.heap := hP
  have hl := lv_entry ([.ref h0, .int p1, .int p2]) (n := 6) (Nat.le_of_ble_eq_true rfl)
  rw [lg_entry_eq]
  generalize (lg_sl ([.ref h0, .int p1, .int p2]) ++ List.replicate (6 - (lg_sl ([.ref h0, .int p1, .int p2])).length) Slot.unset).toArray = ls at hl ⊢
  have hl : lv_has ls 6 [(0, .ref h0), (1, .int p1), (2, .int p2)] := hl
  refine lv_iload_n hx hb dX9_meeting_0 rfl (lv_at hl 2 rfl) ?_
  refine lv_i2l hx hb dX9_meeting_1 rfl ?_
  refine lv_lconst (v := 0) hx hb dX9_meeting_2 (by decide) ?_
  refine lv_lconst (v := 1) hx hb dX9_meeting_3 (by decide) ?_
  refine vp_callSi (W.runS (As := [.long p2.toInt64, .long 0, .long 1]) (rest := []) ⟨hx, hb, hml, hown, hts⟩ (c_X9_in l dC dI p2.toInt64 0 1) (va_cwS 3 hts g_X9_meeting__X9_in_55 rfl rfl rfl (by decide +kernel) ⟨Nat.le_of_ble_eq_true rfl, Nat.le_of_ble_eq_true rfl⟩) ⟨fun a U g mk q => by obtain ⟨q0, q1⟩ := q; exact ⟨q0, q1⟩, fun U hU hW => ⟨rfl, trivial⟩⟩ rfl rfl hl.1 rfl (lv_room (Nat.le_of_ble_eq_true rfl)) dX9_meeting_4 ⟨Nat.le_of_ble_eq_true rfl, Nat.le_of_ble_eq_true rfl⟩) (fun r_1 hr_1 => ?_)
  try dsimp only at hr_1
  rcases bo_split hr_1 with ⟨rfl, q_4⟩ | ⟨rfl, q_4⟩
  · have q_4 := (w64 0 1 p2 (by decide) (by decide)).mp q_4
    refine lv_if_ne (tgt := 13) hx hb dX9_meeting_7 (by decide) (fun _ => ?_) (fun h9 => absurd h9 (by decide))
    refine lv_iconst (v := 0) hx hb dX9_meeting_13 (by decide) ?_
    refine lv_istore_n (lv' := [(3, .int 0), (0, .ref h0), (1, .int p1), (2, .int p2)]) hx hb dX9_meeting_14 rfl hl (by decide) rfl (fun ls hl => ?_)
    refine lv_iconst (v := 0) hx hb dX9_meeting_15 (by decide) ?_
    refine lv_istore (lv' := [(4, .int 0), (3, .int 0), (0, .ref h0), (1, .int p1), (2, .int p2)]) hx hb dX9_meeting_16 hl (by decide) rfl (fun ls hl => ?_)
    refine lv_iload hx hb dX9_meeting_18 (lv_at hl 0 rfl) ?_
    refine lv_aload_n hx hb dX9_meeting_20 rfl (lv_at hl 2 rfl) ?_
    refine va_get (D := (dC, dI)) (ci := 9) (v := .int 0) (C := RX9) (T := TX9) (N := 22) hx hb hts in_X9_meeting_X9 hown hK hP 0 rfl rfl 0 (by decide) (hts (.fieldLink RX9 59 "MeetingsAboveModel" "things" "I") (by decide +kernel)) (fun _ h9 => h9) rfl dX9_meeting_21 ?_
    refine lv_icmp_ge (tgt := 85) hx hb dX9_meeting_24 (by decide) (fun _ => ?_) (fun h9 => absurd h9 (by decide))
    refine lv_iconst (v := (-1)) hx hb dX9_meeting_85 (by decide) ?_
    exact W.iret (v := (-1)) hx hb hr (fun t ht _ => ⟨_, rfl, (by first | exact (if_pos q_4).symm | exact (if_neg q_4).symm), ht⟩) (fun _ h => absurd h List.not_mem_nil) dX9_meeting_86
  · have q_4 := mt (w64 0 1 p2 (by decide) (by decide)).mpr q_4
    refine lv_if_ne (tgt := 13) hx hb dX9_meeting_7 (by decide) (fun h9 => absurd h9 (by decide)) (fun _ => ?_)
    refine lv_ldc hx hb hown (hts (.constant RX9 70 (-100002)) (by decide +kernel)) dX9_meeting_10 ?_
    exact W.iret (v := (-100002)) hx hb hr (fun t ht _ => ⟨_, rfl, (by first | exact (if_pos q_4).symm | exact (if_neg q_4).symm), ht⟩) (fun _ h => absurd h List.not_mem_nil) dX9_meeting_12
def wk_X9_differs : List Cond := .code yX9_differs cX9_differs 6 (some .int) :: ([.methodLink RX9 55 yX9_in, .static yX9_in, .initialized RX9, .code yX9_in cX9_in 6 (some .boolean), .fieldLink RX9 42 "MeetingsAboveModel" "shelfMany" "[I", .constant RX9 85 (-100003), .constant RX9 84 (-100001)] ++ wsX90)
theorem in_X9_differs_X9 : ∀ w ∈ wsX90, w ∈ wk_X9_differs := fun _ h => List.mem_cons_of_mem _ (List.mem_append_right _ h)
set_option maxRecDepth 20000 in
theorem g_X9_differs__X9_in_55 : GoodIn wk_X9_differs (va_wsS RX9 55 yX9_in wk_X9_in) := goodIn_r _ [1, 2, 3, 4] (by decide +kernel) (by decide +kernel)
set_option maxHeartbeats 4000000 in
set_option maxRecDepth 100000 in
theorem c_X9_differs (l : Launch) (dC : Nat → ClassId) (dI : Nat → Nat → Nat) (h0 : Nat) (a1 : Nat) (a2 : Nat) (a3 : Nat) (a4 : Nat) (a5 : Nat) (a6 : Nat) (a7 : Nat) (a8 : Nat) (a9 : Nat) (a10 : Nat) (a11 : Nat) (k9 : ClassId) (p1 : Int32) : Met l yX9_differs wk_X9_differs ({ frames := 1, cells := 0, slots := 0, locals := 25 }) (va_Pc [.ref h0, .int p1] (fun U => va_P (dC, dI) vwCl [(h0, .inr (9, [.int 0, .ref a1, .ref a2, .ref a3, .ref a4, .ref a5, .int 50, .int 20, .int 0, .ref a6, .ref a7, .int 0, .ref a8, .int 0, .ref a9, .ref a10, .long 0, .long 0, .int 0, .long 0, .long 0, .ref a11])), (a9, .inl (k9, 2, .inl (upd (upd (fun _ => 0) (0 : Int32).toNatClampNeg (-1)) (1 : Int32).toNatClampNeg (-1))))] U.heap ∧ va_K (dC, dI) vwCl [(k9, .int)] U)) (vp_Si (fun r => r = an_differs p1)) 0 0 (fun _ => False) := by
  refine Met.ofW (cc := cX9_differs) (maxL := 6) (ret := (some .int)) (by decide) rfl ?_
  intro p e s m args below meth c s₁ B hml hv
  obtain ⟨rfl, hP, hK⟩ := hv
  have hx := B.exec
  have hb := B.bytes
  have hr := B.returns
  have hts := atoms_spec (ws := wk_X9_differs) B.pre
  have hown : s.vm.findClass RX9 = some m.cls := findClass_of_methodNamed B.named
  have hlocks := B.notSynchronized
  have hP : va_P (dC, dI) vwCl [(h0, .inr (9, [.int 0, .ref a1, .ref a2, .ref a3, .ref a4, .ref a5, .int 50, .int 20, .int 0, .ref a6, .ref a7, .int 0, .ref a8, .int 0, .ref a9, .ref a10, .long 0, .long 0, .int 0, .long 0, .long 0, .ref a11])), (a9, .inl (k9, 2, .inl (upd (upd (fun _ => 0) (0 : Int32).toNatClampNeg (-1)) (1 : Int32).toNatClampNeg (-1))))] s.heap := hP
  have hl := lv_entry ([.ref h0, .int p1]) (n := 6) (Nat.le_of_ble_eq_true rfl)
  rw [lg_entry_eq]
  generalize (lg_sl ([.ref h0, .int p1]) ++ List.replicate (6 - (lg_sl ([.ref h0, .int p1])).length) Slot.unset).toArray = ls at hl ⊢
  have hl : lv_has ls 6 [(0, .ref h0), (1, .int p1)] := hl
  refine lv_iload_n hx hb dX9_differs_0 rfl (lv_at hl 1 rfl) ?_
  refine lv_i2l hx hb dX9_differs_1 rfl ?_
  refine lv_lconst (v := 0) hx hb dX9_differs_2 (by decide) ?_
  refine lv_lconst (v := 1) hx hb dX9_differs_3 (by decide) ?_
  refine vp_callSi (W.runS (As := [.long p1.toInt64, .long 0, .long 1]) (rest := []) ⟨hx, hb, hml, hown, hts⟩ (c_X9_in l dC dI p1.toInt64 0 1) (va_cwS 3 hts g_X9_differs__X9_in_55 rfl rfl rfl (by decide +kernel) ⟨Nat.le_of_ble_eq_true rfl, Nat.le_of_ble_eq_true rfl⟩) ⟨fun a U g mk q => by obtain ⟨q0, q1⟩ := q; exact ⟨q0, q1⟩, fun U hU hW => ⟨rfl, trivial⟩⟩ rfl rfl hl.1 rfl (lv_room (Nat.le_of_ble_eq_true rfl)) dX9_differs_4 ⟨Nat.le_of_ble_eq_true rfl, Nat.le_of_ble_eq_true rfl⟩) (fun r_1 hr_1 => ?_)
  try dsimp only at hr_1
  rcases bo_split hr_1 with ⟨rfl, q_4⟩ | ⟨rfl, q_4⟩
  · have q_4 := (w64 0 1 p1 (by decide) (by decide)).mp q_4
    rcases (in_01 q_4) with rfl | rfl
    · refine lv_if_ne (tgt := 13) hx hb dX9_differs_7 (by decide) (fun _ => ?_) (fun h9 => absurd h9 (by decide))
      refine lv_aload_n hx hb dX9_differs_13 rfl (lv_at hl 0 rfl) ?_
      refine va_get (D := (dC, dI)) (ci := 9) (v := .ref a9) (C := RX9) (T := TX9) (N := 22) hx hb hts in_X9_differs_X9 hown hK hP 0 rfl rfl 14 (by decide) (hts (.fieldLink RX9 42 "MeetingsAboveModel" "shelfMany" "[I") (by decide +kernel)) (fun _ h9 => h9) rfl dX9_differs_14 ?_
      refine lv_iload_n hx hb dX9_differs_17 rfl (lv_at hl 1 rfl) ?_
      refine va_iald hx hb hK hP 1 0 rfl rfl (by unfold vp_in; decide) dX9_differs_18 ?_
      refine lv_topi (fun y_2 ey_2 => ?_)
      obtain rfl : y_2 = (-1) := ey_2.trans (by rfl)
      refine lv_if_ge (tgt := 25) hx hb dX9_differs_19 (by decide) (fun h9 => absurd h9 (by decide)) (fun _ => ?_)
      refine lv_ldc hx hb hown (hts (.constant RX9 85 (-100003)) (by decide +kernel)) dX9_differs_22 ?_
      exact W.iret (v := (-100003)) hx hb hr (fun t ht _ => ⟨_, rfl, (by first | rfl | exact (an_differs_n (no_01 q_4).1 (no_01 q_4).2).symm), ht⟩) (fun _ h => absurd h List.not_mem_nil) dX9_differs_24
    · refine lv_if_ne (tgt := 13) hx hb dX9_differs_7 (by decide) (fun _ => ?_) (fun h9 => absurd h9 (by decide))
      refine lv_aload_n hx hb dX9_differs_13 rfl (lv_at hl 0 rfl) ?_
      refine va_get (D := (dC, dI)) (ci := 9) (v := .ref a9) (C := RX9) (T := TX9) (N := 22) hx hb hts in_X9_differs_X9 hown hK hP 0 rfl rfl 14 (by decide) (hts (.fieldLink RX9 42 "MeetingsAboveModel" "shelfMany" "[I") (by decide +kernel)) (fun _ h9 => h9) rfl dX9_differs_14 ?_
      refine lv_iload_n hx hb dX9_differs_17 rfl (lv_at hl 1 rfl) ?_
      refine va_iald hx hb hK hP 1 0 rfl rfl (by unfold vp_in; decide) dX9_differs_18 ?_
      refine lv_topi (fun y_3 ey_3 => ?_)
      obtain rfl : y_3 = (-1) := ey_3.trans (by rfl)
      refine lv_if_ge (tgt := 25) hx hb dX9_differs_19 (by decide) (fun h9 => absurd h9 (by decide)) (fun _ => ?_)
      refine lv_ldc hx hb hown (hts (.constant RX9 85 (-100003)) (by decide +kernel)) dX9_differs_22 ?_
      exact W.iret (v := (-100003)) hx hb hr (fun t ht _ => ⟨_, rfl, (by first | rfl | exact (an_differs_n (no_01 q_4).1 (no_01 q_4).2).symm), ht⟩) (fun _ h => absurd h List.not_mem_nil) dX9_differs_24
  · have q_4 := mt (w64 0 1 p1 (by decide) (by decide)).mpr q_4
    refine lv_if_ne (tgt := 13) hx hb dX9_differs_7 (by decide) (fun h9 => absurd h9 (by decide)) (fun _ => ?_)
    refine lv_ldc hx hb hown (hts (.constant RX9 84 (-100001)) (by decide +kernel)) dX9_differs_10 ?_
    exact W.iret (v := (-100001)) hx hb hr (fun t ht _ => ⟨_, rfl, (by first | rfl | exact (an_differs_n (no_01 q_4).1 (no_01 q_4).2).symm), ht⟩) (fun _ h => absurd h List.not_mem_nil) dX9_differs_12
