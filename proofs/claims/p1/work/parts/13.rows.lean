def wk_X1_countThere : List Cond := .code yX1_countThere cX1_countThere 4 (some .int) :: ([.fieldLink RX1 17 "MeetingsAbove$Catalogue" "size" "I"] ++ wsX10)
theorem in_X1_countThere_X1 : ∀ w ∈ wsX10, w ∈ wk_X1_countThere := fun _ h => List.mem_cons_of_mem _ (List.mem_append_right _ h)
set_option maxHeartbeats 4000000 in
set_option maxRecDepth 100000 in
theorem c_X1_countThere (l : Launch) (dC : Nat → ClassId) (dI : Nat → Nat → Nat) (h0 : Nat) (na : Nat) : Met l yX1_countThere wk_X1_countThere ({ frames := 0, cells := 0, slots := 0, locals := 0 }) (va_Pc [.ref h0] (fun U => va_P (dC, dI) vwCl [(h0, .inr (1, [.ref na, .int 0]))] U.heap ∧ va_K (dC, dI) vwCl [] U)) (vp_Si (fun r => r = 0)) 0 0 (fun _ => False) := by
  refine Met.ofW (cc := cX1_countThere) (maxL := 4) (ret := (some .int)) (by decide) rfl ?_
  intro p e s m args below meth c s₁ B hml hv
  obtain ⟨rfl, hP, hK⟩ := hv
  have hx := B.exec
  have hb := B.bytes
  have hr := B.returns
  have hts := atoms_spec (ws := wk_X1_countThere) B.pre
  have hown : s.vm.findClass RX1 = some m.cls := findClass_of_methodNamed B.named
  have hlocks := B.notSynchronized
  have hP : va_P (dC, dI) vwCl [(h0, .inr (1, [.ref na, .int 0]))] s.heap := hP
  have hl := lv_entry ([.ref h0]) (n := 4) (Nat.le_of_ble_eq_true rfl)
  rw [lg_entry_eq]
  generalize (lg_sl ([.ref h0]) ++ List.replicate (4 - (lg_sl ([.ref h0])).length) Slot.unset).toArray = ls at hl ⊢
  have hl : lv_has ls 4 [(0, .ref h0)] := hl
  refine lv_iconst (v := 0) hx hb dX1_countThere_0 (by decide) ?_
  refine lv_istore_n (lv' := [(1, .int 0), (0, .ref h0)]) hx hb dX1_countThere_1 rfl hl (by decide) rfl (fun ls hl => ?_)
  refine lv_iconst (v := 0) hx hb dX1_countThere_2 (by decide) ?_
  refine lv_istore_n (lv' := [(2, .int 0), (1, .int 0), (0, .ref h0)]) hx hb dX1_countThere_3 rfl hl (by decide) rfl (fun ls hl => ?_)
  refine lv_iload_n hx hb dX1_countThere_4 rfl (lv_at hl 0 rfl) ?_
  refine lv_aload_n hx hb dX1_countThere_5 rfl (lv_at hl 2 rfl) ?_
  refine va_get (D := (dC, dI)) (ci := 1) (v := .int 0) (C := RX1) (T := TX1) (N := 2) hx hb hts in_X1_countThere_X1 hown hK hP 0 rfl rfl 1 (by decide) (hts (.fieldLink RX1 17 "MeetingsAbove$Catalogue" "size" "I") (by decide +kernel)) (fun _ h9 => h9) rfl dX1_countThere_6 ?_
  refine lv_icmp_ge (tgt := 38) hx hb dX1_countThere_9 (by decide) (fun _ => ?_) (fun h9 => absurd h9 (by decide))
  refine lv_iload_n hx hb dX1_countThere_38 rfl (lv_at hl 1 rfl) ?_
  exact W.iret (v := 0) hx hb hr (fun t ht _ => ⟨_, rfl, rfl, ht⟩) (fun _ h => absurd h List.not_mem_nil) dX1_countThere_39
def wk_X8_countMeetings : List Cond := .code yX8_countMeetings cX8_countMeetings 4 (some .int) :: ([.fieldLink RX8 12 "MeetingsAbove" "now" "LMeetingsAbove$Catalogue;", .fieldLink RX8 88 "MeetingsAbove$Catalogue" "size" "I"] ++ wsX80 ++ wsX10)
theorem in_X8_countMeetings_X1 : ∀ w ∈ wsX10, w ∈ wk_X8_countMeetings := fun _ h => List.mem_cons_of_mem _ (List.mem_append_right _ h)
theorem in_X8_countMeetings_X8 : ∀ w ∈ wsX80, w ∈ wk_X8_countMeetings := fun _ h => List.mem_cons_of_mem _ (List.mem_append_left _ (List.mem_append_right _ h))
set_option maxHeartbeats 4000000 in
set_option maxRecDepth 100000 in
theorem c_X8_countMeetings (l : Launch) (dC : Nat → ClassId) (dI : Nat → Nat → Nat) (h0 : Nat) (n0 : Nat) (s0 : Nat) (s1 : Nat) (d0 : Nat) (o0 : Nat) (w0 : Nat) (e0 : Nat) (f0 : Nat) (t0 : Nat) (b0 : Nat) (na : Nat) : Met l yX8_countMeetings wk_X8_countMeetings ({ frames := 0, cells := 0, slots := 0, locals := 0 }) (va_Pc [.ref h0] (fun U => va_P (dC, dI) vwCl [(h0, .inr (8, [.ref n0, .ref s0, .ref s1, .ref d0, .ref o0, .int 0, .int 0, .int 0, .int 50, .int 20, .ref w0, .ref e0, .ref f0, .ref t0, .ref b0, .int 0])), (n0, .inr (1, [.ref na, .int 0]))] U.heap ∧ va_K (dC, dI) vwCl [] U)) (vp_Si (fun r => r = 0)) 0 0 (fun _ => False) := by
  refine Met.ofW (cc := cX8_countMeetings) (maxL := 4) (ret := (some .int)) (by decide) rfl ?_
  intro p e s m args below meth c s₁ B hml hv
  obtain ⟨rfl, hP, hK⟩ := hv
  have hx := B.exec
  have hb := B.bytes
  have hr := B.returns
  have hts := atoms_spec (ws := wk_X8_countMeetings) B.pre
  have hown : s.vm.findClass RX8 = some m.cls := findClass_of_methodNamed B.named
  have hlocks := B.notSynchronized
  have hP : va_P (dC, dI) vwCl [(h0, .inr (8, [.ref n0, .ref s0, .ref s1, .ref d0, .ref o0, .int 0, .int 0, .int 0, .int 50, .int 20, .ref w0, .ref e0, .ref f0, .ref t0, .ref b0, .int 0])), (n0, .inr (1, [.ref na, .int 0]))] s.heap := hP
  have hl := lv_entry ([.ref h0]) (n := 4) (Nat.le_of_ble_eq_true rfl)
  rw [lg_entry_eq]
  generalize (lg_sl ([.ref h0]) ++ List.replicate (4 - (lg_sl ([.ref h0])).length) Slot.unset).toArray = ls at hl ⊢
  have hl : lv_has ls 4 [(0, .ref h0)] := hl
  refine lv_iconst (v := 0) hx hb dX8_countMeetings_0 (by decide) ?_
  refine lv_istore_n (lv' := [(1, .int 0), (0, .ref h0)]) hx hb dX8_countMeetings_1 rfl hl (by decide) rfl (fun ls hl => ?_)
  refine lv_iconst (v := 0) hx hb dX8_countMeetings_2 (by decide) ?_
  refine lv_istore_n (lv' := [(2, .int 0), (1, .int 0), (0, .ref h0)]) hx hb dX8_countMeetings_3 rfl hl (by decide) rfl (fun ls hl => ?_)
  refine lv_iload_n hx hb dX8_countMeetings_4 rfl (lv_at hl 0 rfl) ?_
  refine lv_aload_n hx hb dX8_countMeetings_5 rfl (lv_at hl 2 rfl) ?_
  refine va_get (D := (dC, dI)) (ci := 8) (v := .ref n0) (C := RX8) (T := TX8) (N := 16) hx hb hts in_X8_countMeetings_X8 hown hK hP 0 rfl rfl 0 (by decide) (hts (.fieldLink RX8 12 "MeetingsAbove" "now" "LMeetingsAbove$Catalogue;") (by decide +kernel)) (fun _ h9 => h9) rfl dX8_countMeetings_6 ?_
  refine va_get (D := (dC, dI)) (ci := 1) (v := .int 0) (C := RX1) (T := TX1) (N := 2) hx hb hts in_X8_countMeetings_X1 hown hK hP 1 rfl rfl 1 (by decide) (hts (.fieldLink RX8 88 "MeetingsAbove$Catalogue" "size" "I") (by decide +kernel)) (fun _ h9 => h9) rfl dX8_countMeetings_9 ?_
  refine lv_icmp_ge (tgt := 54) hx hb dX8_countMeetings_12 (by decide) (fun _ => ?_) (fun h9 => absurd h9 (by decide))
  refine lv_iload_n hx hb dX8_countMeetings_54 rfl (lv_at hl 1 rfl) ?_
  exact W.iret (v := 0) hx hb hr (fun t ht _ => ⟨_, rfl, rfl, ht⟩) (fun _ h => absurd h List.not_mem_nil) dX8_countMeetings_55
def wk_X8_countDotsOf : List Cond := .code yX8_countDotsOf cX8_countDotsOf 6 (some .int) :: ([.fieldLink RX8 158 "MeetingsAbove" "dotCount" "I"] ++ wsX80)
theorem in_X8_countDotsOf_X8 : ∀ w ∈ wsX80, w ∈ wk_X8_countDotsOf := fun _ h => List.mem_cons_of_mem _ (List.mem_append_right _ h)
set_option maxHeartbeats 4000000 in
set_option maxRecDepth 100000 in
theorem c_X8_countDotsOf (l : Launch) (dC : Nat → ClassId) (dI : Nat → Nat → Nat) (h0 : Nat) (n0 : Nat) (s0 : Nat) (s1 : Nat) (d0 : Nat) (o0 : Nat) (w0 : Nat) (e0 : Nat) (f0 : Nat) (t0 : Nat) (b0 : Nat) (na : Nat) (p1 : Int32) (p2 : Int32) : Met l yX8_countDotsOf wk_X8_countDotsOf ({ frames := 0, cells := 0, slots := 0, locals := 0 }) (va_Pc [.ref h0, .int p1, .int p2] (fun U => va_P (dC, dI) vwCl [(h0, .inr (8, [.ref n0, .ref s0, .ref s1, .ref d0, .ref o0, .int 0, .int 0, .int 0, .int 50, .int 20, .ref w0, .ref e0, .ref f0, .ref t0, .ref b0, .int 0])), (n0, .inr (1, [.ref na, .int 0]))] U.heap ∧ va_K (dC, dI) vwCl [] U)) (vp_Si (fun r => r = 0)) 0 0 (fun _ => False) := by
  refine Met.ofW (cc := cX8_countDotsOf) (maxL := 6) (ret := (some .int)) (by decide) rfl ?_
  intro p e s m args below meth c s₁ B hml hv
  obtain ⟨rfl, hP, hK⟩ := hv
  have hx := B.exec
  have hb := B.bytes
  have hr := B.returns
  have hts := atoms_spec (ws := wk_X8_countDotsOf) B.pre
  have hown : s.vm.findClass RX8 = some m.cls := findClass_of_methodNamed B.named
  have hlocks := B.notSynchronized
  have hP : va_P (dC, dI) vwCl [(h0, .inr (8, [.ref n0, .ref s0, .ref s1, .ref d0, .ref o0, .int 0, .int 0, .int 0, .int 50, .int 20, .ref w0, .ref e0, .ref f0, .ref t0, .ref b0, .int 0])), (n0, .inr (1, [.ref na, .int 0]))] s.heap := hP
  have hl := lv_entry ([.ref h0, .int p1, .int p2]) (n := 6) (Nat.le_of_ble_eq_true rfl)
  rw [lg_entry_eq]
  generalize (lg_sl ([.ref h0, .int p1, .int p2]) ++ List.replicate (6 - (lg_sl ([.ref h0, .int p1, .int p2])).length) Slot.unset).toArray = ls at hl ⊢
  have hl : lv_has ls 6 [(0, .ref h0), (1, .int p1), (2, .int p2)] := hl
  refine lv_iconst (v := 0) hx hb dX8_countDotsOf_0 (by decide) ?_
  refine lv_istore_n (lv' := [(3, .int 0), (0, .ref h0), (1, .int p1), (2, .int p2)]) hx hb dX8_countDotsOf_1 rfl hl (by decide) rfl (fun ls hl => ?_)
  refine lv_iconst (v := 0) hx hb dX8_countDotsOf_2 (by decide) ?_
  refine lv_istore (lv' := [(4, .int 0), (3, .int 0), (0, .ref h0), (1, .int p1), (2, .int p2)]) hx hb dX8_countDotsOf_3 hl (by decide) rfl (fun ls hl => ?_)
  refine lv_iload hx hb dX8_countDotsOf_5 (lv_at hl 0 rfl) ?_
  refine lv_aload_n hx hb dX8_countDotsOf_7 rfl (lv_at hl 2 rfl) ?_
  refine va_get (D := (dC, dI)) (ci := 8) (v := .int 0) (C := RX8) (T := TX8) (N := 16) hx hb hts in_X8_countDotsOf_X8 hown hK hP 0 rfl rfl 5 (by decide) (hts (.fieldLink RX8 158 "MeetingsAbove" "dotCount" "I") (by decide +kernel)) (fun _ h9 => h9) rfl dX8_countDotsOf_8 ?_
  refine lv_icmp_ge (tgt := 53) hx hb dX8_countDotsOf_11 (by decide) (fun _ => ?_) (fun h9 => absurd h9 (by decide))
  refine lv_iload_n hx hb dX8_countDotsOf_53 rfl (lv_at hl 1 rfl) ?_
  exact W.iret (v := 0) hx hb hr (fun t ht _ => ⟨_, rfl, rfl, ht⟩) (fun _ h => absurd h List.not_mem_nil) dX8_countDotsOf_54
def wk_X8_countHolding : List Cond := .code yX8_countHolding cX8_countHolding 4 (some .int) :: ([.fieldLink RX8 164 "MeetingsAbove" "noticeCount" "I"] ++ wsX80)
theorem in_X8_countHolding_X8 : ∀ w ∈ wsX80, w ∈ wk_X8_countHolding := fun _ h => List.mem_cons_of_mem _ (List.mem_append_right _ h)
set_option maxHeartbeats 4000000 in
set_option maxRecDepth 100000 in
theorem c_X8_countHolding (l : Launch) (dC : Nat → ClassId) (dI : Nat → Nat → Nat) (h0 : Nat) (n0 : Nat) (s0 : Nat) (s1 : Nat) (d0 : Nat) (o0 : Nat) (w0 : Nat) (e0 : Nat) (f0 : Nat) (t0 : Nat) (b0 : Nat) (na : Nat) : Met l yX8_countHolding wk_X8_countHolding ({ frames := 0, cells := 0, slots := 0, locals := 0 }) (va_Pc [.ref h0] (fun U => va_P (dC, dI) vwCl [(h0, .inr (8, [.ref n0, .ref s0, .ref s1, .ref d0, .ref o0, .int 0, .int 0, .int 0, .int 50, .int 20, .ref w0, .ref e0, .ref f0, .ref t0, .ref b0, .int 0])), (n0, .inr (1, [.ref na, .int 0]))] U.heap ∧ va_K (dC, dI) vwCl [] U)) (vp_Si (fun r => r = 0)) 0 0 (fun _ => False) := by
  refine Met.ofW (cc := cX8_countHolding) (maxL := 4) (ret := (some .int)) (by decide) rfl ?_
  intro p e s m args below meth c s₁ B hml hv
  obtain ⟨rfl, hP, hK⟩ := hv
  have hx := B.exec
  have hb := B.bytes
  have hr := B.returns
  have hts := atoms_spec (ws := wk_X8_countHolding) B.pre
  have hown : s.vm.findClass RX8 = some m.cls := findClass_of_methodNamed B.named
  have hlocks := B.notSynchronized
  have hP : va_P (dC, dI) vwCl [(h0, .inr (8, [.ref n0, .ref s0, .ref s1, .ref d0, .ref o0, .int 0, .int 0, .int 0, .int 50, .int 20, .ref w0, .ref e0, .ref f0, .ref t0, .ref b0, .int 0])), (n0, .inr (1, [.ref na, .int 0]))] s.heap := hP
  have hl := lv_entry ([.ref h0]) (n := 4) (Nat.le_of_ble_eq_true rfl)
  rw [lg_entry_eq]
  generalize (lg_sl ([.ref h0]) ++ List.replicate (4 - (lg_sl ([.ref h0])).length) Slot.unset).toArray = ls at hl ⊢
  have hl : lv_has ls 4 [(0, .ref h0)] := hl
  refine lv_iconst (v := 0) hx hb dX8_countHolding_0 (by decide) ?_
  refine lv_istore_n (lv' := [(1, .int 0), (0, .ref h0)]) hx hb dX8_countHolding_1 rfl hl (by decide) rfl (fun ls hl => ?_)
  refine lv_iconst (v := 0) hx hb dX8_countHolding_2 (by decide) ?_
  refine lv_istore_n (lv' := [(2, .int 0), (1, .int 0), (0, .ref h0)]) hx hb dX8_countHolding_3 rfl hl (by decide) rfl (fun ls hl => ?_)
  refine lv_iload_n hx hb dX8_countHolding_4 rfl (lv_at hl 0 rfl) ?_
  refine lv_aload_n hx hb dX8_countHolding_5 rfl (lv_at hl 2 rfl) ?_
  refine va_get (D := (dC, dI)) (ci := 8) (v := .int 0) (C := RX8) (T := TX8) (N := 16) hx hb hts in_X8_countHolding_X8 hown hK hP 0 rfl rfl 6 (by decide) (hts (.fieldLink RX8 164 "MeetingsAbove" "noticeCount" "I") (by decide +kernel)) (fun _ h9 => h9) rfl dX8_countHolding_6 ?_
  refine lv_icmp_ge (tgt := 38) hx hb dX8_countHolding_9 (by decide) (fun _ => ?_) (fun h9 => absurd h9 (by decide))
  refine lv_iload_n hx hb dX8_countHolding_38 rfl (lv_at hl 1 rfl) ?_
  exact W.iret (v := 0) hx hb hr (fun t ht _ => ⟨_, rfl, rfl, ht⟩) (fun _ h => absurd h List.not_mem_nil) dX8_countHolding_39
def wk_X8_count : List Cond := .code yX8_count cX8_count 2 (some .int) :: ([.constant RX8 87 (-100002), .fieldLink RX8 12 "MeetingsAbove" "now" "LMeetingsAbove$Catalogue;", .fieldLink RX8 88 "MeetingsAbove$Catalogue" "size" "I", .methodLink RX8 152 yX1_countThere, .instanceMethod yX1_countThere, .selects RX1 yX1_countThere yX1_countThere, .initialized RX1, .code yX1_countThere cX1_countThere 4 (some .int), .fieldLink RX1 17 "MeetingsAbove$Catalogue" "size" "I", .methodLink RX8 155 yX8_countMeetings, .instanceMethod yX8_countMeetings, .selects RX8 yX8_countMeetings yX8_countMeetings, .initialized RX8, .code yX8_countMeetings cX8_countMeetings 4 (some .int), .fieldLink RX8 158 "MeetingsAbove" "dotCount" "I", .methodLink RX8 161 yX8_countDotsOf, .instanceMethod yX8_countDotsOf, .selects RX8 yX8_countDotsOf yX8_countDotsOf, .code yX8_countDotsOf cX8_countDotsOf 6 (some .int), .fieldLink RX8 164 "MeetingsAbove" "noticeCount" "I", .methodLink RX8 167 yX8_countHolding, .instanceMethod yX8_countHolding, .selects RX8 yX8_countHolding yX8_countHolding, .code yX8_countHolding cX8_countHolding 4 (some .int), .fieldLink RX8 170 "MeetingsAbove" "lateAnswers" "I"] ++ wsX80 ++ wsX10)
theorem in_X8_count_X1 : ∀ w ∈ wsX10, w ∈ wk_X8_count := fun _ h => List.mem_cons_of_mem _ (List.mem_append_right _ h)
theorem in_X8_count_X8 : ∀ w ∈ wsX80, w ∈ wk_X8_count := fun _ h => List.mem_cons_of_mem _ (List.mem_append_left _ (List.mem_append_right _ h))
set_option maxRecDepth 20000 in
theorem g_X8_count__X1_countThere_152 : GoodIn wk_X8_count (wsV RX8 152 RX1 yX1_countThere wk_X1_countThere) := goodIn_r _ [4, 5, 6, 7, 8, 9, 42, 43] (by decide +kernel) (by decide +kernel)
set_option maxRecDepth 20000 in
theorem g_X8_count__X8_countMeetings_155 : GoodIn wk_X8_count (wsV RX8 155 RX8 yX8_countMeetings wk_X8_countMeetings) := goodIn_r _ [10, 11, 12, 13, 14, 2, 3, 26, 27, 28, 29, 30, 31, 32, 33, 34, 35, 36, 37, 38, 39, 40, 41, 42, 43] (by decide +kernel) (by decide +kernel)
set_option maxRecDepth 20000 in
theorem g_X8_count__X8_countDotsOf_161 : GoodIn wk_X8_count (wsV RX8 161 RX8 yX8_countDotsOf wk_X8_countDotsOf) := goodIn_r _ [16, 17, 18, 13, 19, 15, 26, 27, 28, 29, 30, 31, 32, 33, 34, 35, 36, 37, 38, 39, 40, 41] (by decide +kernel) (by decide +kernel)
set_option maxRecDepth 20000 in
theorem g_X8_count__X8_countHolding_167 : GoodIn wk_X8_count (wsV RX8 167 RX8 yX8_countHolding wk_X8_countHolding) := goodIn_r _ [21, 22, 23, 13, 24, 20, 26, 27, 28, 29, 30, 31, 32, 33, 34, 35, 36, 37, 38, 39, 40, 41] (by decide +kernel) (by decide +kernel)
set_option maxHeartbeats 4000000 in
set_option maxRecDepth 100000 in
theorem c_X8_count (l : Launch) (dC : Nat → ClassId) (dI : Nat → Nat → Nat) (h0 : Nat) (n0 : Nat) (s0 : Nat) (s1 : Nat) (d0 : Nat) (o0 : Nat) (w0 : Nat) (e0 : Nat) (f0 : Nat) (t0 : Nat) (b0 : Nat) (na : Nat) (p1 : Int32) : Met l yX8_count wk_X8_count ({ frames := 1, cells := 0, slots := 0, locals := 25 }) (va_Pc [.ref h0, .int p1] (fun U => va_P (dC, dI) vwCl [(h0, .inr (8, [.ref n0, .ref s0, .ref s1, .ref d0, .ref o0, .int 0, .int 0, .int 0, .int 50, .int 20, .ref w0, .ref e0, .ref f0, .ref t0, .ref b0, .int 0])), (n0, .inr (1, [.ref na, .int 0]))] U.heap ∧ va_K (dC, dI) vwCl [] U)) (vp_Si (fun r => r = an_count p1)) 0 0 (fun _ => False) := by
  refine Met.ofW (cc := cX8_count) (maxL := 2) (ret := (some .int)) (by decide) rfl ?_
  intro p e s m args below meth c s₁ B hml hv
  obtain ⟨rfl, hP, hK⟩ := hv
  have hx := B.exec
  have hb := B.bytes
  have hr := B.returns
  have hts := atoms_spec (ws := wk_X8_count) B.pre
  have hown : s.vm.findClass RX8 = some m.cls := findClass_of_methodNamed B.named
  have hlocks := B.notSynchronized
  have hP : va_P (dC, dI) vwCl [(h0, .inr (8, [.ref n0, .ref s0, .ref s1, .ref d0, .ref o0, .int 0, .int 0, .int 0, .int 50, .int 20, .ref w0, .ref e0, .ref f0, .ref t0, .ref b0, .int 0])), (n0, .inr (1, [.ref na, .int 0]))] s.heap := hP
  have hl := lv_entry ([.ref h0, .int p1]) (n := 2) (Nat.le_of_ble_eq_true rfl)
  rw [lg_entry_eq]
  generalize (lg_sl ([.ref h0, .int p1]) ++ List.replicate (2 - (lg_sl ([.ref h0, .int p1])).length) Slot.unset).toArray = ls at hl ⊢
  have hl : lv_has ls 2 [(0, .ref h0), (1, .int p1)] := hl
  refine lv_iload_n hx hb dX8_count_0 rfl (lv_at hl 1 rfl) ?_
  rcases sw_10 p1 with o_1 | rfl | rfl | rfl | rfl | rfl | rfl | rfl | rfl | rfl | rfl
  · refine lv_tableOut (tgt := 119) hx hb dX8_count_1 o_1 (by decide) ?_
    refine lv_ldc hx hb hown (hts (.constant RX8 87 (-100002)) (by decide +kernel)) dX8_count_119 ?_
    exact W.iret (v := (-100002)) hx hb hr (fun t ht _ => ⟨_, rfl, (by first | rfl | exact (an_count_out o_1).symm), ht⟩) (fun _ h => absurd h List.not_mem_nil) dX8_count_121
  · refine lv_tableIn (tgt := 56) (off := 55) hx hb dX8_count_1 (by decide) (by decide) (by decide) (by decide) ?_
    refine lv_aload_n hx hb dX8_count_56 rfl (lv_at hl 0 rfl) ?_
    refine va_get (D := (dC, dI)) (ci := 8) (v := .ref n0) (C := RX8) (T := TX8) (N := 16) hx hb hts in_X8_count_X8 hown hK hP 0 rfl rfl 0 (by decide) (hts (.fieldLink RX8 12 "MeetingsAbove" "now" "LMeetingsAbove$Catalogue;") (by decide +kernel)) (fun _ h9 => h9) rfl dX8_count_57 ?_
    refine va_get (D := (dC, dI)) (ci := 1) (v := .int 0) (C := RX1) (T := TX1) (N := 2) hx hb hts in_X8_count_X1 hown hK hP 1 rfl rfl 1 (by decide) (hts (.fieldLink RX8 88 "MeetingsAbove$Catalogue" "size" "I") (by decide +kernel)) (fun _ h9 => h9) rfl dX8_count_60 ?_
    exact W.iret (v := 0) hx hb hr (fun t ht _ => ⟨_, rfl, (by first | rfl | exact (an_count_out o_1).symm), ht⟩) (fun _ h => absurd h List.not_mem_nil) dX8_count_63
  · refine lv_tableIn (tgt := 64) (off := 63) hx hb dX8_count_1 (by decide) (by decide) (by decide) (by decide) ?_
    refine lv_aload_n hx hb dX8_count_64 rfl (lv_at hl 0 rfl) ?_
    refine va_get (D := (dC, dI)) (ci := 8) (v := .ref n0) (C := RX8) (T := TX8) (N := 16) hx hb hts in_X8_count_X8 hown hK hP 0 rfl rfl 0 (by decide) (hts (.fieldLink RX8 12 "MeetingsAbove" "now" "LMeetingsAbove$Catalogue;") (by decide +kernel)) (fun _ h9 => h9) rfl dX8_count_65 ?_
    have hPc := hP.sub (ws' := [(n0, .inr (1, [.ref na, .int 0]))]) [1] rfl
    have hKc := hK.sub (tys' := []) [] rfl
    refine vp_callSi (W.runV (As := []) (rest := []) ⟨hx, hb, hml, hown, hts⟩ (c_X1_countThere l dC dI n0 na) (cwV 0 hts g_X8_count__X1_countThere_152 rfl rfl rfl (by decide +kernel) ⟨Nat.le_of_ble_eq_true rfl, Nat.le_of_ble_eq_true rfl⟩) ⟨fun a U g mk q => by obtain ⟨q0, qP, qK⟩ := q; exact ⟨q0, qP, va_K.moved (u := U) (U := U.calling g mk a) (Vm.Alike.refl U.vm) qK⟩, va_recv hKc hPc (ci := 1) (q0 := 0) rfl rfl, fun U hU hW => ⟨rfl, by rw [hU]; exact hPc, va_K.moved hW.alike hKc⟩⟩ rfl rfl hl.1 rfl (lv_room (Nat.le_of_ble_eq_true rfl)) dX8_count_68 ⟨Nat.le_of_ble_eq_true rfl, Nat.le_of_ble_eq_true rfl⟩) (fun r_1 hr_1 => ?_)
    try dsimp only at hr_1
    subst hr_1
    exact W.iret (v := 0) hx hb hr (fun t ht _ => ⟨_, rfl, (by first | rfl | exact (an_count_out o_1).symm), ht⟩) (fun _ h => absurd h List.not_mem_nil) dX8_count_71
  · refine lv_tableIn (tgt := 72) (off := 71) hx hb dX8_count_1 (by decide) (by decide) (by decide) (by decide) ?_
    refine lv_aload_n hx hb dX8_count_72 rfl (lv_at hl 0 rfl) ?_
    have hPc := hP.sub (ws' := [(h0, .inr (8, [.ref n0, .ref s0, .ref s1, .ref d0, .ref o0, .int 0, .int 0, .int 0, .int 50, .int 20, .ref w0, .ref e0, .ref f0, .ref t0, .ref b0, .int 0])), (n0, .inr (1, [.ref na, .int 0]))]) [0, 1] rfl
    have hKc := hK.sub (tys' := []) [] rfl
    refine vp_callSi (W.runV (As := []) (rest := []) ⟨hx, hb, hml, hown, hts⟩ (c_X8_countMeetings l dC dI h0 n0 s0 s1 d0 o0 w0 e0 f0 t0 b0 na) (cwV 0 hts g_X8_count__X8_countMeetings_155 rfl rfl rfl (by decide +kernel) ⟨Nat.le_of_ble_eq_true rfl, Nat.le_of_ble_eq_true rfl⟩) ⟨fun a U g mk q => by obtain ⟨q0, qP, qK⟩ := q; exact ⟨q0, qP, va_K.moved (u := U) (U := U.calling g mk a) (Vm.Alike.refl U.vm) qK⟩, va_recv hKc hPc (ci := 8) (q0 := 0) rfl rfl, fun U hU hW => ⟨rfl, by rw [hU]; exact hPc, va_K.moved hW.alike hKc⟩⟩ rfl rfl hl.1 rfl (lv_room (Nat.le_of_ble_eq_true rfl)) dX8_count_73 ⟨Nat.le_of_ble_eq_true rfl, Nat.le_of_ble_eq_true rfl⟩) (fun r_2 hr_2 => ?_)
    try dsimp only at hr_2
    subst hr_2
    exact W.iret (v := 0) hx hb hr (fun t ht _ => ⟨_, rfl, (by first | rfl | exact (an_count_out o_1).symm), ht⟩) (fun _ h => absurd h List.not_mem_nil) dX8_count_76
  · refine lv_tableIn (tgt := 77) (off := 76) hx hb dX8_count_1 (by decide) (by decide) (by decide) (by decide) ?_
    refine lv_aload_n hx hb dX8_count_77 rfl (lv_at hl 0 rfl) ?_
    refine va_get (D := (dC, dI)) (ci := 8) (v := .int 0) (C := RX8) (T := TX8) (N := 16) hx hb hts in_X8_count_X8 hown hK hP 0 rfl rfl 5 (by decide) (hts (.fieldLink RX8 158 "MeetingsAbove" "dotCount" "I") (by decide +kernel)) (fun _ h9 => h9) rfl dX8_count_78 ?_
    exact W.iret (v := 0) hx hb hr (fun t ht _ => ⟨_, rfl, (by first | rfl | exact (an_count_out o_1).symm), ht⟩) (fun _ h => absurd h List.not_mem_nil) dX8_count_81
  · refine lv_tableIn (tgt := 82) (off := 81) hx hb dX8_count_1 (by decide) (by decide) (by decide) (by decide) ?_
    refine lv_aload_n hx hb dX8_count_82 rfl (lv_at hl 0 rfl) ?_
    refine lv_iconst (v := 1) hx hb dX8_count_83 (by decide) ?_
    refine lv_iconst (v := 1) hx hb dX8_count_84 (by decide) ?_
    have hPc := hP.sub (ws' := [(h0, .inr (8, [.ref n0, .ref s0, .ref s1, .ref d0, .ref o0, .int 0, .int 0, .int 0, .int 50, .int 20, .ref w0, .ref e0, .ref f0, .ref t0, .ref b0, .int 0])), (n0, .inr (1, [.ref na, .int 0]))]) [0, 1] rfl
    have hKc := hK.sub (tys' := []) [] rfl
    refine vp_callSi (W.runV (As := [.int 1, .int 1]) (rest := []) ⟨hx, hb, hml, hown, hts⟩ (c_X8_countDotsOf l dC dI h0 n0 s0 s1 d0 o0 w0 e0 f0 t0 b0 na 1 1) (cwV 2 hts g_X8_count__X8_countDotsOf_161 rfl rfl rfl (by decide +kernel) ⟨Nat.le_of_ble_eq_true rfl, Nat.le_of_ble_eq_true rfl⟩) ⟨fun a U g mk q => by obtain ⟨q0, qP, qK⟩ := q; exact ⟨q0, qP, va_K.moved (u := U) (U := U.calling g mk a) (Vm.Alike.refl U.vm) qK⟩, va_recv hKc hPc (ci := 8) (q0 := 0) rfl rfl, fun U hU hW => ⟨rfl, by rw [hU]; exact hPc, va_K.moved hW.alike hKc⟩⟩ rfl rfl hl.1 rfl (lv_room (Nat.le_of_ble_eq_true rfl)) dX8_count_85 ⟨Nat.le_of_ble_eq_true rfl, Nat.le_of_ble_eq_true rfl⟩) (fun r_3 hr_3 => ?_)
    try dsimp only at hr_3
    subst hr_3
    exact W.iret (v := 0) hx hb hr (fun t ht _ => ⟨_, rfl, (by first | rfl | exact (an_count_out o_1).symm), ht⟩) (fun _ h => absurd h List.not_mem_nil) dX8_count_88
  · refine lv_tableIn (tgt := 89) (off := 88) hx hb dX8_count_1 (by decide) (by decide) (by decide) (by decide) ?_
    refine lv_aload_n hx hb dX8_count_89 rfl (lv_at hl 0 rfl) ?_
    refine lv_iconst (v := 2) hx hb dX8_count_90 (by decide) ?_
    refine lv_bipush (v := 16) hx hb dX8_count_91 (by decide) ?_
    have hPc := hP.sub (ws' := [(h0, .inr (8, [.ref n0, .ref s0, .ref s1, .ref d0, .ref o0, .int 0, .int 0, .int 0, .int 50, .int 20, .ref w0, .ref e0, .ref f0, .ref t0, .ref b0, .int 0])), (n0, .inr (1, [.ref na, .int 0]))]) [0, 1] rfl
    have hKc := hK.sub (tys' := []) [] rfl
    refine vp_callSi (W.runV (As := [.int 2, .int 16]) (rest := []) ⟨hx, hb, hml, hown, hts⟩ (c_X8_countDotsOf l dC dI h0 n0 s0 s1 d0 o0 w0 e0 f0 t0 b0 na 2 16) (cwV 2 hts g_X8_count__X8_countDotsOf_161 rfl rfl rfl (by decide +kernel) ⟨Nat.le_of_ble_eq_true rfl, Nat.le_of_ble_eq_true rfl⟩) ⟨fun a U g mk q => by obtain ⟨q0, qP, qK⟩ := q; exact ⟨q0, qP, va_K.moved (u := U) (U := U.calling g mk a) (Vm.Alike.refl U.vm) qK⟩, va_recv hKc hPc (ci := 8) (q0 := 0) rfl rfl, fun U hU hW => ⟨rfl, by rw [hU]; exact hPc, va_K.moved hW.alike hKc⟩⟩ rfl rfl hl.1 rfl (lv_room (Nat.le_of_ble_eq_true rfl)) dX8_count_93 ⟨Nat.le_of_ble_eq_true rfl, Nat.le_of_ble_eq_true rfl⟩) (fun r_4 hr_4 => ?_)
    try dsimp only at hr_4
    subst hr_4
    exact W.iret (v := 0) hx hb hr (fun t ht _ => ⟨_, rfl, (by first | rfl | exact (an_count_out o_1).symm), ht⟩) (fun _ h => absurd h List.not_mem_nil) dX8_count_96
  · refine lv_tableIn (tgt := 97) (off := 96) hx hb dX8_count_1 (by decide) (by decide) (by decide) (by decide) ?_
    refine lv_aload_n hx hb dX8_count_97 rfl (lv_at hl 0 rfl) ?_
    refine lv_iconst (v := 0) hx hb dX8_count_98 (by decide) ?_
    refine lv_iconst (v := 0) hx hb dX8_count_99 (by decide) ?_
    have hPc := hP.sub (ws' := [(h0, .inr (8, [.ref n0, .ref s0, .ref s1, .ref d0, .ref o0, .int 0, .int 0, .int 0, .int 50, .int 20, .ref w0, .ref e0, .ref f0, .ref t0, .ref b0, .int 0])), (n0, .inr (1, [.ref na, .int 0]))]) [0, 1] rfl
    have hKc := hK.sub (tys' := []) [] rfl
    refine vp_callSi (W.runV (As := [.int 0, .int 0]) (rest := []) ⟨hx, hb, hml, hown, hts⟩ (c_X8_countDotsOf l dC dI h0 n0 s0 s1 d0 o0 w0 e0 f0 t0 b0 na 0 0) (cwV 2 hts g_X8_count__X8_countDotsOf_161 rfl rfl rfl (by decide +kernel) ⟨Nat.le_of_ble_eq_true rfl, Nat.le_of_ble_eq_true rfl⟩) ⟨fun a U g mk q => by obtain ⟨q0, qP, qK⟩ := q; exact ⟨q0, qP, va_K.moved (u := U) (U := U.calling g mk a) (Vm.Alike.refl U.vm) qK⟩, va_recv hKc hPc (ci := 8) (q0 := 0) rfl rfl, fun U hU hW => ⟨rfl, by rw [hU]; exact hPc, va_K.moved hW.alike hKc⟩⟩ rfl rfl hl.1 rfl (lv_room (Nat.le_of_ble_eq_true rfl)) dX8_count_100 ⟨Nat.le_of_ble_eq_true rfl, Nat.le_of_ble_eq_true rfl⟩) (fun r_5 hr_5 => ?_)
    try dsimp only at hr_5
    subst hr_5
    exact W.iret (v := 0) hx hb hr (fun t ht _ => ⟨_, rfl, (by first | rfl | exact (an_count_out o_1).symm), ht⟩) (fun _ h => absurd h List.not_mem_nil) dX8_count_103
  · refine lv_tableIn (tgt := 104) (off := 103) hx hb dX8_count_1 (by decide) (by decide) (by decide) (by decide) ?_
    refine lv_aload_n hx hb dX8_count_104 rfl (lv_at hl 0 rfl) ?_
    refine va_get (D := (dC, dI)) (ci := 8) (v := .int 0) (C := RX8) (T := TX8) (N := 16) hx hb hts in_X8_count_X8 hown hK hP 0 rfl rfl 6 (by decide) (hts (.fieldLink RX8 164 "MeetingsAbove" "noticeCount" "I") (by decide +kernel)) (fun _ h9 => h9) rfl dX8_count_105 ?_
    exact W.iret (v := 0) hx hb hr (fun t ht _ => ⟨_, rfl, (by first | rfl | exact (an_count_out o_1).symm), ht⟩) (fun _ h => absurd h List.not_mem_nil) dX8_count_108
  · refine lv_tableIn (tgt := 109) (off := 108) hx hb dX8_count_1 (by decide) (by decide) (by decide) (by decide) ?_
    refine lv_aload_n hx hb dX8_count_109 rfl (lv_at hl 0 rfl) ?_
    have hPc := hP.sub (ws' := [(h0, .inr (8, [.ref n0, .ref s0, .ref s1, .ref d0, .ref o0, .int 0, .int 0, .int 0, .int 50, .int 20, .ref w0, .ref e0, .ref f0, .ref t0, .ref b0, .int 0])), (n0, .inr (1, [.ref na, .int 0]))]) [0, 1] rfl
    have hKc := hK.sub (tys' := []) [] rfl
    refine vp_callSi (W.runV (As := []) (rest := []) ⟨hx, hb, hml, hown, hts⟩ (c_X8_countHolding l dC dI h0 n0 s0 s1 d0 o0 w0 e0 f0 t0 b0 na) (cwV 0 hts g_X8_count__X8_countHolding_167 rfl rfl rfl (by decide +kernel) ⟨Nat.le_of_ble_eq_true rfl, Nat.le_of_ble_eq_true rfl⟩) ⟨fun a U g mk q => by obtain ⟨q0, qP, qK⟩ := q; exact ⟨q0, qP, va_K.moved (u := U) (U := U.calling g mk a) (Vm.Alike.refl U.vm) qK⟩, va_recv hKc hPc (ci := 8) (q0 := 0) rfl rfl, fun U hU hW => ⟨rfl, by rw [hU]; exact hPc, va_K.moved hW.alike hKc⟩⟩ rfl rfl hl.1 rfl (lv_room (Nat.le_of_ble_eq_true rfl)) dX8_count_110 ⟨Nat.le_of_ble_eq_true rfl, Nat.le_of_ble_eq_true rfl⟩) (fun r_6 hr_6 => ?_)
    try dsimp only at hr_6
    subst hr_6
    exact W.iret (v := 0) hx hb hr (fun t ht _ => ⟨_, rfl, (by first | rfl | exact (an_count_out o_1).symm), ht⟩) (fun _ h => absurd h List.not_mem_nil) dX8_count_113
  · refine lv_tableIn (tgt := 114) (off := 113) hx hb dX8_count_1 (by decide) (by decide) (by decide) (by decide) ?_
    refine lv_aload_n hx hb dX8_count_114 rfl (lv_at hl 0 rfl) ?_
    refine va_get (D := (dC, dI)) (ci := 8) (v := .int 0) (C := RX8) (T := TX8) (N := 16) hx hb hts in_X8_count_X8 hown hK hP 0 rfl rfl 7 (by decide) (hts (.fieldLink RX8 170 "MeetingsAbove" "lateAnswers" "I") (by decide +kernel)) (fun _ h9 => h9) rfl dX8_count_115 ?_
    exact W.iret (v := 0) hx hb hr (fun t ht _ => ⟨_, rfl, (by first | rfl | exact (an_count_out o_1).symm), ht⟩) (fun _ h => absurd h List.not_mem_nil) dX8_count_118
def wk_X8_meeting : List Cond := .code yX8_meeting cX8_meeting 6 (some .int) :: ([.methodLink RX8 84 yX8_isWithin, .static yX8_isWithin, .initialized RX8, .code yX8_isWithin cX8_isWithin 3 (some .boolean), .fieldLink RX8 12 "MeetingsAbove" "now" "LMeetingsAbove$Catalogue;", .fieldLink RX8 88 "MeetingsAbove$Catalogue" "size" "I", .constant RX8 87 (-100002)] ++ wsX80 ++ wsX10)
theorem in_X8_meeting_X1 : ∀ w ∈ wsX10, w ∈ wk_X8_meeting := fun _ h => List.mem_cons_of_mem _ (List.mem_append_right _ h)
theorem in_X8_meeting_X8 : ∀ w ∈ wsX80, w ∈ wk_X8_meeting := fun _ h => List.mem_cons_of_mem _ (List.mem_append_left _ (List.mem_append_right _ h))
set_option maxRecDepth 20000 in
theorem g_X8_meeting__X8_isWithin_84 : GoodIn wk_X8_meeting (va_wsS RX8 84 yX8_isWithin wk_X8_isWithin) := goodIn_r _ [1, 2, 3, 4] (by decide +kernel) (by decide +kernel)
set_option maxHeartbeats 4000000 in
set_option maxRecDepth 100000 in
theorem c_X8_meeting (l : Launch) (dC : Nat → ClassId) (dI : Nat → Nat → Nat) (h0 : Nat) (n0 : Nat) (s0 : Nat) (s1 : Nat) (d0 : Nat) (o0 : Nat) (w0 : Nat) (e0 : Nat) (f0 : Nat) (t0 : Nat) (b0 : Nat) (na : Nat) (p1 : Int32) (p2 : Int32) : Met l yX8_meeting wk_X8_meeting ({ frames := 1, cells := 0, slots := 0, locals := 22 }) (va_Pc [.ref h0, .int p1, .int p2] (fun U => va_P (dC, dI) vwCl [(h0, .inr (8, [.ref n0, .ref s0, .ref s1, .ref d0, .ref o0, .int 0, .int 0, .int 0, .int 50, .int 20, .ref w0, .ref e0, .ref f0, .ref t0, .ref b0, .int 0])), (n0, .inr (1, [.ref na, .int 0]))] U.heap ∧ va_K (dC, dI) vwCl [] U)) (vp_Si (fun r => r = an_meeting p2)) 0 0 (fun _ => False) := by
  refine Met.ofW (cc := cX8_meeting) (maxL := 6) (ret := (some .int)) (by decide) rfl ?_
  intro p e s m args below meth c s₁ B hml hv
  obtain ⟨rfl, hP, hK⟩ := hv
  have hx := B.exec
  have hb := B.bytes
  have hr := B.returns
  have hts := atoms_spec (ws := wk_X8_meeting) B.pre
  have hown : s.vm.findClass RX8 = some m.cls := findClass_of_methodNamed B.named
  have hlocks := B.notSynchronized
  have hP : va_P (dC, dI) vwCl [(h0, .inr (8, [.ref n0, .ref s0, .ref s1, .ref d0, .ref o0, .int 0, .int 0, .int 0, .int 50, .int 20, .ref w0, .ref e0, .ref f0, .ref t0, .ref b0, .int 0])), (n0, .inr (1, [.ref na, .int 0]))] s.heap := hP
  have hl := lv_entry ([.ref h0, .int p1, .int p2]) (n := 6) (Nat.le_of_ble_eq_true rfl)
  rw [lg_entry_eq]
  generalize (lg_sl ([.ref h0, .int p1, .int p2]) ++ List.replicate (6 - (lg_sl ([.ref h0, .int p1, .int p2])).length) Slot.unset).toArray = ls at hl ⊢
  have hl : lv_has ls 6 [(0, .ref h0), (1, .int p1), (2, .int p2)] := hl
  refine lv_iload_n hx hb dX8_meeting_0 rfl (lv_at hl 2 rfl) ?_
  refine lv_iconst (v := 0) hx hb dX8_meeting_1 (by decide) ?_
  refine lv_iconst (v := 1) hx hb dX8_meeting_2 (by decide) ?_
  refine vp_callSi (W.runS (As := [.int p2, .int 0, .int 1]) (rest := []) ⟨hx, hb, hml, hown, hts⟩ (c_X8_isWithin l dC dI p2 0 1) (va_cwS 3 hts g_X8_meeting__X8_isWithin_84 rfl rfl rfl (by decide +kernel) ⟨Nat.le_of_ble_eq_true rfl, Nat.le_of_ble_eq_true rfl⟩) ⟨fun a U g mk q => by obtain ⟨q0, q1⟩ := q; exact ⟨q0, q1⟩, fun U hU hW => ⟨rfl, trivial⟩⟩ rfl rfl hl.1 rfl (lv_room (Nat.le_of_ble_eq_true rfl)) dX8_meeting_3 ⟨Nat.le_of_ble_eq_true rfl, Nat.le_of_ble_eq_true rfl⟩) (fun r_1 hr_1 => ?_)
  try dsimp only at hr_1
  rcases bo_split hr_1 with ⟨rfl, q_3⟩ | ⟨rfl, q_3⟩
  · refine lv_if_ne (tgt := 12) hx hb dX8_meeting_6 (by decide) (fun _ => ?_) (fun h9 => absurd h9 (by decide))
    refine lv_iconst (v := 0) hx hb dX8_meeting_12 (by decide) ?_
    refine lv_istore_n (lv' := [(3, .int 0), (0, .ref h0), (1, .int p1), (2, .int p2)]) hx hb dX8_meeting_13 rfl hl (by decide) rfl (fun ls hl => ?_)
    refine lv_iconst (v := 0) hx hb dX8_meeting_14 (by decide) ?_
    refine lv_istore (lv' := [(4, .int 0), (3, .int 0), (0, .ref h0), (1, .int p1), (2, .int p2)]) hx hb dX8_meeting_15 hl (by decide) rfl (fun ls hl => ?_)
    refine lv_iload hx hb dX8_meeting_17 (lv_at hl 0 rfl) ?_
    refine lv_aload_n hx hb dX8_meeting_19 rfl (lv_at hl 2 rfl) ?_
    refine va_get (D := (dC, dI)) (ci := 8) (v := .ref n0) (C := RX8) (T := TX8) (N := 16) hx hb hts in_X8_meeting_X8 hown hK hP 0 rfl rfl 0 (by decide) (hts (.fieldLink RX8 12 "MeetingsAbove" "now" "LMeetingsAbove$Catalogue;") (by decide +kernel)) (fun _ h9 => h9) rfl dX8_meeting_20 ?_
    refine va_get (D := (dC, dI)) (ci := 1) (v := .int 0) (C := RX1) (T := TX1) (N := 2) hx hb hts in_X8_meeting_X1 hown hK hP 1 rfl rfl 1 (by decide) (hts (.fieldLink RX8 88 "MeetingsAbove$Catalogue" "size" "I") (by decide +kernel)) (fun _ h9 => h9) rfl dX8_meeting_23 ?_
    refine lv_icmp_ge (tgt := 90) hx hb dX8_meeting_26 (by decide) (fun _ => ?_) (fun h9 => absurd h9 (by decide))
    refine lv_iconst (v := (-1)) hx hb dX8_meeting_90 (by decide) ?_
    exact W.iret (v := (-1)) hx hb hr (fun t ht _ => ⟨_, rfl, (by first | exact (if_pos q_3).symm | exact (if_neg q_3).symm), ht⟩) (fun _ h => absurd h List.not_mem_nil) dX8_meeting_91
  · refine lv_if_ne (tgt := 12) hx hb dX8_meeting_6 (by decide) (fun h9 => absurd h9 (by decide)) (fun _ => ?_)
    refine lv_ldc hx hb hown (hts (.constant RX8 87 (-100002)) (by decide +kernel)) dX8_meeting_9 ?_
    exact W.iret (v := (-100002)) hx hb hr (fun t ht _ => ⟨_, rfl, (by first | exact (if_pos q_3).symm | exact (if_neg q_3).symm), ht⟩) (fun _ h => absurd h List.not_mem_nil) dX8_meeting_11
def wk_X8_findShelf_0 : List Cond := .code yX8_findShelf cX8_findShelf 2 (some (.object "MeetingsAbove$Catalogue")) :: ([.fieldLink RX8 16 "MeetingsAbove" "shelf0" "LMeetingsAbove$Catalogue;"] ++ wsX80)
theorem in_X8_findShelf_0_X8 : ∀ w ∈ wsX80, w ∈ wk_X8_findShelf_0 := fun _ h => List.mem_cons_of_mem _ (List.mem_append_right _ h)
set_option maxHeartbeats 4000000 in
set_option maxRecDepth 100000 in
theorem c_X8_findShelf_0 (l : Launch) (dC : Nat → ClassId) (dI : Nat → Nat → Nat) (h0 : Nat) (n0 : Nat) (s0 : Nat) (s1 : Nat) (d0 : Nat) (o0 : Nat) (w0 : Nat) (e0 : Nat) (f0 : Nat) (t0 : Nat) (b0 : Nat) : Met l yX8_findShelf wk_X8_findShelf_0 ({ frames := 0, cells := 0, slots := 0, locals := 0 }) (va_Pc [.ref h0, .int 0] (fun U => va_P (dC, dI) vwCl [(h0, .inr (8, [.ref n0, .ref s0, .ref s1, .ref d0, .ref o0, .int 0, .int 0, .int 0, .int 50, .int 20, .ref w0, .ref e0, .ref f0, .ref t0, .ref b0, .int 0]))] U.heap ∧ va_K (dC, dI) vwCl [] U)) (va_Sq (fun r => r = some s0)) 0 0 (fun _ => False) := by
  refine Met.ofW (cc := cX8_findShelf) (maxL := 2) (ret := (some (.object "MeetingsAbove$Catalogue"))) (by decide) rfl ?_
  intro p e s m args below meth c s₁ B hml hv
  obtain ⟨rfl, hP, hK⟩ := hv
  have hx := B.exec
  have hb := B.bytes
  have hr := B.returns
  have hts := atoms_spec (ws := wk_X8_findShelf_0) B.pre
  have hown : s.vm.findClass RX8 = some m.cls := findClass_of_methodNamed B.named
  have hlocks := B.notSynchronized
  have hP : va_P (dC, dI) vwCl [(h0, .inr (8, [.ref n0, .ref s0, .ref s1, .ref d0, .ref o0, .int 0, .int 0, .int 0, .int 50, .int 20, .ref w0, .ref e0, .ref f0, .ref t0, .ref b0, .int 0]))] s.heap := hP
  have hl := lv_entry ([.ref h0, .int 0]) (n := 2) (Nat.le_of_ble_eq_true rfl)
  rw [lg_entry_eq]
  generalize (lg_sl ([.ref h0, .int 0]) ++ List.replicate (2 - (lg_sl ([.ref h0, .int 0])).length) Slot.unset).toArray = ls at hl ⊢
  have hl : lv_has ls 2 [(0, .ref h0), (1, .int 0)] := hl
  refine lv_iload_n hx hb dX8_findShelf_0 rfl (lv_at hl 1 rfl) ?_
  refine lv_lookup (off := 27) (tgt := 28) hx hb dX8_findShelf_1 (by decide) (by decide) (by decide) ?_
  refine lv_aload_n hx hb dX8_findShelf_28 rfl (lv_at hl 0 rfl) ?_
  refine va_get (D := (dC, dI)) (ci := 8) (v := .ref s0) (C := RX8) (T := TX8) (N := 16) hx hb hts in_X8_findShelf_0_X8 hown hK hP 0 rfl rfl 1 (by decide) (hts (.fieldLink RX8 16 "MeetingsAbove" "shelf0" "LMeetingsAbove$Catalogue;") (by decide +kernel)) (fun _ h9 => h9) rfl dX8_findShelf_29 ?_
  exact W.aret hx hb hr (Or.inl ⟨_, rfl⟩) (Or.inr ⟨_, rfl⟩) (fun t ht _ => ⟨some s0, rfl, rfl, ht⟩) (fun _ h => absurd h List.not_mem_nil) dX8_findShelf_32
def wk_X8_findShelf_1 : List Cond := .code yX8_findShelf cX8_findShelf 2 (some (.object "MeetingsAbove$Catalogue")) :: ([.fieldLink RX8 19 "MeetingsAbove" "shelf1" "LMeetingsAbove$Catalogue;"] ++ wsX80)
theorem in_X8_findShelf_1_X8 : ∀ w ∈ wsX80, w ∈ wk_X8_findShelf_1 := fun _ h => List.mem_cons_of_mem _ (List.mem_append_right _ h)
set_option maxHeartbeats 4000000 in
set_option maxRecDepth 100000 in
theorem c_X8_findShelf_1 (l : Launch) (dC : Nat → ClassId) (dI : Nat → Nat → Nat) (h0 : Nat) (n0 : Nat) (s0 : Nat) (s1 : Nat) (d0 : Nat) (o0 : Nat) (w0 : Nat) (e0 : Nat) (f0 : Nat) (t0 : Nat) (b0 : Nat) : Met l yX8_findShelf wk_X8_findShelf_1 ({ frames := 0, cells := 0, slots := 0, locals := 0 }) (va_Pc [.ref h0, .int 1] (fun U => va_P (dC, dI) vwCl [(h0, .inr (8, [.ref n0, .ref s0, .ref s1, .ref d0, .ref o0, .int 0, .int 0, .int 0, .int 50, .int 20, .ref w0, .ref e0, .ref f0, .ref t0, .ref b0, .int 0]))] U.heap ∧ va_K (dC, dI) vwCl [] U)) (va_Sq (fun r => r = some s1)) 0 0 (fun _ => False) := by
  refine Met.ofW (cc := cX8_findShelf) (maxL := 2) (ret := (some (.object "MeetingsAbove$Catalogue"))) (by decide) rfl ?_
  intro p e s m args below meth c s₁ B hml hv
  obtain ⟨rfl, hP, hK⟩ := hv
  have hx := B.exec
  have hb := B.bytes
  have hr := B.returns
  have hts := atoms_spec (ws := wk_X8_findShelf_1) B.pre
  have hown : s.vm.findClass RX8 = some m.cls := findClass_of_methodNamed B.named
  have hlocks := B.notSynchronized
  have hP : va_P (dC, dI) vwCl [(h0, .inr (8, [.ref n0, .ref s0, .ref s1, .ref d0, .ref o0, .int 0, .int 0, .int 0, .int 50, .int 20, .ref w0, .ref e0, .ref f0, .ref t0, .ref b0, .int 0]))] s.heap := hP
  have hl := lv_entry ([.ref h0, .int 1]) (n := 2) (Nat.le_of_ble_eq_true rfl)
  rw [lg_entry_eq]
  generalize (lg_sl ([.ref h0, .int 1]) ++ List.replicate (2 - (lg_sl ([.ref h0, .int 1])).length) Slot.unset).toArray = ls at hl ⊢
  have hl : lv_has ls 2 [(0, .ref h0), (1, .int 1)] := hl
  refine lv_iload_n hx hb dX8_findShelf_0 rfl (lv_at hl 1 rfl) ?_
  refine lv_lookup (off := 32) (tgt := 33) hx hb dX8_findShelf_1 (by decide) (by decide) (by decide) ?_
  refine lv_aload_n hx hb dX8_findShelf_33 rfl (lv_at hl 0 rfl) ?_
  refine va_get (D := (dC, dI)) (ci := 8) (v := .ref s1) (C := RX8) (T := TX8) (N := 16) hx hb hts in_X8_findShelf_1_X8 hown hK hP 0 rfl rfl 2 (by decide) (hts (.fieldLink RX8 19 "MeetingsAbove" "shelf1" "LMeetingsAbove$Catalogue;") (by decide +kernel)) (fun _ h9 => h9) rfl dX8_findShelf_34 ?_
  exact W.aret hx hb hr (Or.inl ⟨_, rfl⟩) (Or.inr ⟨_, rfl⟩) (fun t ht _ => ⟨some s1, rfl, rfl, ht⟩) (fun _ h => absurd h List.not_mem_nil) dX8_findShelf_37
def wk_X8_findShelf_n : List Cond := .code yX8_findShelf cX8_findShelf 2 (some (.object "MeetingsAbove$Catalogue")) :: ([])
set_option maxHeartbeats 4000000 in
set_option maxRecDepth 100000 in
theorem c_X8_findShelf_n (l : Launch) (dC : Nat → ClassId) (dI : Nat → Nat → Nat) (h0 : Nat) (n0 : Nat) (s0 : Nat) (s1 : Nat) (d0 : Nat) (o0 : Nat) (w0 : Nat) (e0 : Nat) (f0 : Nat) (t0 : Nat) (b0 : Nat) (p1 : Int32) (n0_1 : ¬ p1 = 0) (n1_1 : ¬ p1 = 1) : Met l yX8_findShelf wk_X8_findShelf_n ({ frames := 0, cells := 0, slots := 0, locals := 0 }) (va_Pc [.ref h0, .int p1] (fun U => va_P (dC, dI) vwCl [(h0, .inr (8, [.ref n0, .ref s0, .ref s1, .ref d0, .ref o0, .int 0, .int 0, .int 0, .int 50, .int 20, .ref w0, .ref e0, .ref f0, .ref t0, .ref b0, .int 0]))] U.heap ∧ va_K (dC, dI) vwCl [] U)) (va_Sq (fun r => r = none)) 0 0 (fun _ => False) := by
  refine Met.ofW (cc := cX8_findShelf) (maxL := 2) (ret := (some (.object "MeetingsAbove$Catalogue"))) (by decide) rfl ?_
  intro p e s m args below meth c s₁ B hml hv
  obtain ⟨rfl, hP, hK⟩ := hv
  have hx := B.exec
  have hb := B.bytes
  have hr := B.returns
  have hts := atoms_spec (ws := wk_X8_findShelf_n) B.pre
  have hown : s.vm.findClass RX8 = some m.cls := findClass_of_methodNamed B.named
  have hlocks := B.notSynchronized
  have hP : va_P (dC, dI) vwCl [(h0, .inr (8, [.ref n0, .ref s0, .ref s1, .ref d0, .ref o0, .int 0, .int 0, .int 0, .int 50, .int 20, .ref w0, .ref e0, .ref f0, .ref t0, .ref b0, .int 0]))] s.heap := hP
  have hl := lv_entry ([.ref h0, .int p1]) (n := 2) (Nat.le_of_ble_eq_true rfl)
  rw [lg_entry_eq]
  generalize (lg_sl ([.ref h0, .int p1]) ++ List.replicate (2 - (lg_sl ([.ref h0, .int p1])).length) Slot.unset).toArray = ls at hl ⊢
  have hl : lv_has ls 2 [(0, .ref h0), (1, .int p1)] := hl
  refine lv_iload_n hx hb dX8_findShelf_0 rfl (lv_at hl 1 rfl) ?_
  refine lv_lookup (off := 37) (tgt := 38) hx hb dX8_findShelf_1 (by decide) (lk_01_df n0_1 n1_1) (by decide) ?_
  refine lv_null hx hb dX8_findShelf_38 ?_
  exact W.aret hx hb hr (Or.inl ⟨_, rfl⟩) (Or.inl rfl) (fun t ht _ => ⟨none, rfl, rfl, ht⟩) (fun _ h => absurd h List.not_mem_nil) dX8_findShelf_39
def wk_X8_differs : List Cond := .code yX8_differs cX8_differs 3 (some .int) :: ([.methodLink RX8 308 yX8_findShelf, .instanceMethod yX8_findShelf, .selects RX8 yX8_findShelf yX8_findShelf, .initialized RX8, .code yX8_findShelf cX8_findShelf 2 (some (.object "MeetingsAbove$Catalogue")), .constant RX8 107 (-100001), .fieldLink RX8 16 "MeetingsAbove" "shelf0" "LMeetingsAbove$Catalogue;", .fieldLink RX8 88 "MeetingsAbove$Catalogue" "size" "I", .constant RX8 116 (-100003), .fieldLink RX8 19 "MeetingsAbove" "shelf1" "LMeetingsAbove$Catalogue;"] ++ wsX80 ++ wsX10)
theorem in_X8_differs_X1 : ∀ w ∈ wsX10, w ∈ wk_X8_differs := fun _ h => List.mem_cons_of_mem _ (List.mem_append_right _ h)
set_option maxRecDepth 20000 in
theorem g_X8_differs__X8_findShelf_n_308 : GoodIn wk_X8_differs (wsV RX8 308 RX8 yX8_findShelf wk_X8_findShelf_n) := goodIn_r _ [1, 2, 3, 4, 5] (by decide +kernel) (by decide +kernel)
set_option maxRecDepth 20000 in
theorem g_X8_differs__X8_findShelf_0_308 : GoodIn wk_X8_differs (wsV RX8 308 RX8 yX8_findShelf wk_X8_findShelf_0) := goodIn_r _ [1, 2, 3, 4, 5, 7, 11, 12, 13, 14, 15, 16, 17, 18, 19, 20, 21, 22, 23, 24, 25, 26] (by decide +kernel) (by decide +kernel)
set_option maxRecDepth 20000 in
theorem g_X8_differs__X8_findShelf_1_308 : GoodIn wk_X8_differs (wsV RX8 308 RX8 yX8_findShelf wk_X8_findShelf_1) := goodIn_r _ [1, 2, 3, 4, 5, 10, 11, 12, 13, 14, 15, 16, 17, 18, 19, 20, 21, 22, 23, 24, 25, 26] (by decide +kernel) (by decide +kernel)
set_option maxHeartbeats 4000000 in
set_option maxRecDepth 100000 in
theorem c_X8_differs (l : Launch) (dC : Nat → ClassId) (dI : Nat → Nat → Nat) (h0 : Nat) (n0 : Nat) (s0 : Nat) (s1 : Nat) (d0 : Nat) (o0 : Nat) (w0 : Nat) (e0 : Nat) (f0 : Nat) (t0 : Nat) (b0 : Nat) (sa : Nat) (sb : Nat) (p1 : Int32) : Met l yX8_differs wk_X8_differs ({ frames := 1, cells := 0, slots := 0, locals := 21 }) (va_Pc [.ref h0, .int p1] (fun U => va_P (dC, dI) vwCl [(h0, .inr (8, [.ref n0, .ref s0, .ref s1, .ref d0, .ref o0, .int 0, .int 0, .int 0, .int 50, .int 20, .ref w0, .ref e0, .ref f0, .ref t0, .ref b0, .int 0])), (s0, .inr (1, [.ref sa, .int 0])), (s1, .inr (1, [.ref sb, .int 0]))] U.heap ∧ va_K (dC, dI) vwCl [] U)) (vp_Si (fun r => r = an_differs p1)) 0 0 (fun _ => False) := by
  refine Met.ofW (cc := cX8_differs) (maxL := 3) (ret := (some .int)) (by decide) rfl ?_
  intro p e s m args below meth c s₁ B hml hv
  obtain ⟨rfl, hP, hK⟩ := hv
  have hx := B.exec
  have hb := B.bytes
  have hr := B.returns
  have hts := atoms_spec (ws := wk_X8_differs) B.pre
  have hown : s.vm.findClass RX8 = some m.cls := findClass_of_methodNamed B.named
  have hlocks := B.notSynchronized
  have hP : va_P (dC, dI) vwCl [(h0, .inr (8, [.ref n0, .ref s0, .ref s1, .ref d0, .ref o0, .int 0, .int 0, .int 0, .int 50, .int 20, .ref w0, .ref e0, .ref f0, .ref t0, .ref b0, .int 0])), (s0, .inr (1, [.ref sa, .int 0])), (s1, .inr (1, [.ref sb, .int 0]))] s.heap := hP
  have hl := lv_entry ([.ref h0, .int p1]) (n := 3) (Nat.le_of_ble_eq_true rfl)
  rw [lg_entry_eq]
  generalize (lg_sl ([.ref h0, .int p1]) ++ List.replicate (3 - (lg_sl ([.ref h0, .int p1])).length) Slot.unset).toArray = ls at hl ⊢
  have hl : lv_has ls 3 [(0, .ref h0), (1, .int p1)] := hl
  rcases lk_01 p1 with ⟨z0, z1⟩ | rfl | rfl
  · refine lv_aload_n hx hb dX8_differs_0 rfl (lv_at hl 0 rfl) ?_
    refine lv_iload_n hx hb dX8_differs_1 rfl (lv_at hl 1 rfl) ?_
    have hPc := hP.sub (ws' := [(h0, .inr (8, [.ref n0, .ref s0, .ref s1, .ref d0, .ref o0, .int 0, .int 0, .int 0, .int 50, .int 20, .ref w0, .ref e0, .ref f0, .ref t0, .ref b0, .int 0]))]) [0] rfl
    have hKc := hK.sub (tys' := []) [] rfl
    refine va_csq (W.runV (As := [.int p1]) (rest := []) ⟨hx, hb, hml, hown, hts⟩ (c_X8_findShelf_n l dC dI h0 n0 s0 s1 d0 o0 w0 e0 f0 t0 b0 p1 z0 z1) (cwV 1 hts g_X8_differs__X8_findShelf_n_308 rfl rfl rfl (by decide +kernel) ⟨Nat.le_of_ble_eq_true rfl, Nat.le_of_ble_eq_true rfl⟩) ⟨fun a U g mk q => by obtain ⟨q0, qP, qK⟩ := q; exact ⟨q0, qP, va_K.moved (u := U) (U := U.calling g mk a) (Vm.Alike.refl U.vm) qK⟩, va_recv hKc hPc (ci := 8) (q0 := 0) rfl rfl, fun U hU hW => ⟨rfl, by rw [hU]; exact hPc, va_K.moved hW.alike hKc⟩⟩ rfl rfl hl.1 rfl (lv_room (Nat.le_of_ble_eq_true rfl)) dX8_differs_2 ⟨Nat.le_of_ble_eq_true rfl, Nat.le_of_ble_eq_true rfl⟩) (fun r_1 hr_1 => ?_)
    try dsimp only at hr_1
    subst hr_1
    refine W.eq (g2 := F0 m 5 ls [.null]) rfl ?_
    refine lv_astore_nN (lv' := [(2, .null), (0, .ref h0), (1, .int p1)]) hx hb dX8_differs_5 rfl hl (by decide) rfl (fun ls hl => ?_)
    refine lv_aload_nN hx hb dX8_differs_6 rfl (lv_at hl 0 rfl) ?_
    refine lv_ifnonnullN hx hb dX8_differs_7 ?_
    refine lv_ldc hx hb hown (hts (.constant RX8 107 (-100001)) (by decide +kernel)) dX8_differs_10 ?_
    exact W.iret (v := (-100001)) hx hb hr (fun t ht _ => ⟨_, rfl, (by first | rfl | exact (an_differs_n z0 z1).symm), ht⟩) (fun _ h => absurd h List.not_mem_nil) dX8_differs_12
  · refine lv_aload_n hx hb dX8_differs_0 rfl (lv_at hl 0 rfl) ?_
    refine lv_iload_n hx hb dX8_differs_1 rfl (lv_at hl 1 rfl) ?_
    have hPc := hP.sub (ws' := [(h0, .inr (8, [.ref n0, .ref s0, .ref s1, .ref d0, .ref o0, .int 0, .int 0, .int 0, .int 50, .int 20, .ref w0, .ref e0, .ref f0, .ref t0, .ref b0, .int 0]))]) [0] rfl
    have hKc := hK.sub (tys' := []) [] rfl
    refine va_csq (W.runV (As := [.int 0]) (rest := []) ⟨hx, hb, hml, hown, hts⟩ (c_X8_findShelf_0 l dC dI h0 n0 s0 s1 d0 o0 w0 e0 f0 t0 b0) (cwV 1 hts g_X8_differs__X8_findShelf_0_308 rfl rfl rfl (by decide +kernel) ⟨Nat.le_of_ble_eq_true rfl, Nat.le_of_ble_eq_true rfl⟩) ⟨fun a U g mk q => by obtain ⟨q0, qP, qK⟩ := q; exact ⟨q0, qP, va_K.moved (u := U) (U := U.calling g mk a) (Vm.Alike.refl U.vm) qK⟩, va_recv hKc hPc (ci := 8) (q0 := 0) rfl rfl, fun U hU hW => ⟨rfl, by rw [hU]; exact hPc, va_K.moved hW.alike hKc⟩⟩ rfl rfl hl.1 rfl (lv_room (Nat.le_of_ble_eq_true rfl)) dX8_differs_2 ⟨Nat.le_of_ble_eq_true rfl, Nat.le_of_ble_eq_true rfl⟩) (fun r_2 hr_2 => ?_)
    try dsimp only at hr_2
    subst hr_2
    refine W.eq (g2 := F0 m 5 ls [.ref s0]) rfl ?_
    refine lv_astore_n (lv' := [(2, .ref s0), (0, .ref h0), (1, .int 0)]) hx hb dX8_differs_5 rfl hl (by decide) rfl (fun ls hl => ?_)
    refine lv_aload_n hx hb dX8_differs_6 rfl (lv_at hl 0 rfl) ?_
    refine lv_ifnonnull (tgt := 13) hx hb dX8_differs_7 (by decide) ?_
    refine lv_aload_n hx hb dX8_differs_13 rfl (lv_at hl 0 rfl) ?_
    refine va_get (D := (dC, dI)) (ci := 1) (v := .int 0) (C := RX1) (T := TX1) (N := 2) hx hb hts in_X8_differs_X1 hown hK hP 1 rfl rfl 1 (by decide) (hts (.fieldLink RX8 88 "MeetingsAbove$Catalogue" "size" "I") (by decide +kernel)) (fun _ h9 => h9) rfl dX8_differs_14 ?_
    refine lv_if_ne (tgt := 25) hx hb dX8_differs_17 (by decide) (fun h9 => absurd h9 (by decide)) (fun _ => ?_)
    refine lv_ldc hx hb hown (hts (.constant RX8 116 (-100003)) (by decide +kernel)) dX8_differs_20 ?_
    refine lv_goto (tgt := 33) hx hb dX8_differs_22 (by decide) ?_
    exact W.iret (v := (-100003)) hx hb hr (fun t ht _ => ⟨_, rfl, (by first | rfl | exact (an_differs_n z0 z1).symm), ht⟩) (fun _ h => absurd h List.not_mem_nil) dX8_differs_33
  · refine lv_aload_n hx hb dX8_differs_0 rfl (lv_at hl 0 rfl) ?_
    refine lv_iload_n hx hb dX8_differs_1 rfl (lv_at hl 1 rfl) ?_
    have hPc := hP.sub (ws' := [(h0, .inr (8, [.ref n0, .ref s0, .ref s1, .ref d0, .ref o0, .int 0, .int 0, .int 0, .int 50, .int 20, .ref w0, .ref e0, .ref f0, .ref t0, .ref b0, .int 0]))]) [0] rfl
    have hKc := hK.sub (tys' := []) [] rfl
    refine va_csq (W.runV (As := [.int 1]) (rest := []) ⟨hx, hb, hml, hown, hts⟩ (c_X8_findShelf_1 l dC dI h0 n0 s0 s1 d0 o0 w0 e0 f0 t0 b0) (cwV 1 hts g_X8_differs__X8_findShelf_1_308 rfl rfl rfl (by decide +kernel) ⟨Nat.le_of_ble_eq_true rfl, Nat.le_of_ble_eq_true rfl⟩) ⟨fun a U g mk q => by obtain ⟨q0, qP, qK⟩ := q; exact ⟨q0, qP, va_K.moved (u := U) (U := U.calling g mk a) (Vm.Alike.refl U.vm) qK⟩, va_recv hKc hPc (ci := 8) (q0 := 0) rfl rfl, fun U hU hW => ⟨rfl, by rw [hU]; exact hPc, va_K.moved hW.alike hKc⟩⟩ rfl rfl hl.1 rfl (lv_room (Nat.le_of_ble_eq_true rfl)) dX8_differs_2 ⟨Nat.le_of_ble_eq_true rfl, Nat.le_of_ble_eq_true rfl⟩) (fun r_3 hr_3 => ?_)
    try dsimp only at hr_3
    subst hr_3
    refine W.eq (g2 := F0 m 5 ls [.ref s1]) rfl ?_
    refine lv_astore_n (lv' := [(2, .ref s1), (0, .ref h0), (1, .int 1)]) hx hb dX8_differs_5 rfl hl (by decide) rfl (fun ls hl => ?_)
    refine lv_aload_n hx hb dX8_differs_6 rfl (lv_at hl 0 rfl) ?_
    refine lv_ifnonnull (tgt := 13) hx hb dX8_differs_7 (by decide) ?_
    refine lv_aload_n hx hb dX8_differs_13 rfl (lv_at hl 0 rfl) ?_
    refine va_get (D := (dC, dI)) (ci := 1) (v := .int 0) (C := RX1) (T := TX1) (N := 2) hx hb hts in_X8_differs_X1 hown hK hP 2 rfl rfl 1 (by decide) (hts (.fieldLink RX8 88 "MeetingsAbove$Catalogue" "size" "I") (by decide +kernel)) (fun _ h9 => h9) rfl dX8_differs_14 ?_
    refine lv_if_ne (tgt := 25) hx hb dX8_differs_17 (by decide) (fun h9 => absurd h9 (by decide)) (fun _ => ?_)
    refine lv_ldc hx hb hown (hts (.constant RX8 116 (-100003)) (by decide +kernel)) dX8_differs_20 ?_
    refine lv_goto (tgt := 33) hx hb dX8_differs_22 (by decide) ?_
    exact W.iret (v := (-100003)) hx hb hr (fun t ht _ => ⟨_, rfl, (by first | rfl | exact (an_differs_n z0 z1).symm), ht⟩) (fun _ h => absurd h List.not_mem_nil) dX8_differs_33
def wk_X1_copyFrom : List Cond := .code yX1_copyFrom cX1_copyFrom 5 none :: ([.fieldLink RX1 17 "MeetingsAbove$Catalogue" "size" "I"] ++ wsX10)
theorem in_X1_copyFrom_X1 : ∀ w ∈ wsX10, w ∈ wk_X1_copyFrom := fun _ h => List.mem_cons_of_mem _ (List.mem_append_right _ h)
set_option maxHeartbeats 4000000 in
set_option maxRecDepth 100000 in
theorem c_X1_copyFrom (l : Launch) (dC : Nat → ClassId) (dI : Nat → Nat → Nat) (h0 : Nat) (h1 : Nat) (u0 : Nat) (u1 : Nat) (sz : Nat) : Met l yX1_copyFrom wk_X1_copyFrom ({ frames := 0, cells := 0, slots := 0, locals := 0 }) (va_Pc [.ref h0, .ref h1] (fun U => U.heap.size = sz ∧ va_P (dC, dI) vwCl [(h0, .inr (1, [.ref u0, .int 0])), (h1, .inr (1, [.ref u1, .int 0]))] U.heap ∧ va_K (dC, dI) vwCl [] U ∧ va_D (fun _ => True) [(h0, .inr (1, [.ref u0, .int 0])), (h1, .inr (1, [.ref u1, .int 0]))])) (va_Qv (fun (_ : Unit) => True) (fun (_ : Unit) (t : State) => va_P (dC, dI) vwCl [(h0, .inr (1, [.ref u0, .int 0])), (h1, .inr (1, [.ref u1, .int 0]))] t.heap ∧ va_K (dC, dI) vwCl [] t ∧ va_D (va_A [(h0, .inr (1, [.ref u0, .int 0])), (h1, .inr (1, [.ref u1, .int 0]))] sz) [(h0, .inr (1, [.ref u0, .int 0])), (h1, .inr (1, [.ref u1, .int 0]))]) (va_A [(h0, .inr (1, [.ref u0, .int 0])), (h1, .inr (1, [.ref u1, .int 0]))] sz)) 0 0 (va_A [(h0, .inr (1, [.ref u0, .int 0])), (h1, .inr (1, [.ref u1, .int 0]))] sz) := by
  refine Met.ofW (cc := cX1_copyFrom) (maxL := 5) (ret := none) (by decide) rfl ?_
  intro p e s m args below meth c s₁ B hml hv
  obtain ⟨rfl, hsz, hP, hK, hD0⟩ := hv
  have hx := B.exec
  have hb := B.bytes
  have hr := B.returns
  have hts := atoms_spec (ws := wk_X1_copyFrom) B.pre
  have hown : s.vm.findClass RX1 = some m.cls := findClass_of_methodNamed B.named
  have hlocks := B.notSynchronized
  subst hsz
  have hD := hD0.self (sz := s.heap.size)
  generalize hAe : va_A [(h0, .inr (1, [.ref u0, .int 0])), (h1, .inr (1, [.ref u1, .int 0]))] s.heap.size = A at hD ⊢
  have hA : ∀ q : Nat, s.heap.size ≤ q → A q := fun q h => by rw [← hAe]; exact Or.inr h
  have hS : va_S A s.heap s.heap [] := va_S.rf
  have hP : va_P (dC, dI) vwCl [(h0, .inr (1, [.ref u0, .int 0])), (h1, .inr (1, [.ref u1, .int 0]))] s.heap := hP
  have hl := lv_entry ([.ref h0, .ref h1]) (n := 5) (Nat.le_of_ble_eq_true rfl)
  rw [lg_entry_eq]
  generalize (lg_sl ([.ref h0, .ref h1]) ++ List.replicate (5 - (lg_sl ([.ref h0, .ref h1])).length) Slot.unset).toArray = ls at hl ⊢
  have hl : lv_has ls 5 [(0, .ref h0), (1, .ref h1)] := hl
  refine lv_aload_n hx hb dX1_copyFrom_0 rfl (lv_at hl 0 rfl) ?_
  refine lv_iconst (v := 0) hx hb dX1_copyFrom_1 (by decide) ?_
  refine va_put (D := (dC, dI)) (ci := 1) (v := .int 0) (ty := .int) (C := RX1) (T := TX1) (N := 2) hx hb hts in_X1_copyFrom_X1 tyX1 tyX1_ok nmX1 hown hK hP hD hS 0 rfl rfl 1 (by decide) (hts (.fieldLink RX1 17 "MeetingsAbove$Catalogue" "size" "I") (by decide +kernel)) (fun _ h9 => h9) rfl (by decide +kernel) rfl rfl (Nat.le_of_ble_eq_true rfl) dX1_copyFrom_2 (fun H locs hP hD hS => ?_)
  have hP : va_P (dC, dI) vwCl [(h0, .inr (1, [.ref u0, .int 0])), (h1, .inr (1, [.ref u1, .int 0]))] H := hP
  have hD : va_D A [(h0, .inr (1, [.ref u0, .int 0])), (h1, .inr (1, [.ref u1, .int 0]))] := hD
  refine lv_iconst (v := 0) hx hb dX1_copyFrom_5 (by decide) ?_
  refine lv_istore_n (lv' := [(2, .int 0), (0, .ref h0), (1, .ref h1)]) hx hb dX1_copyFrom_6 rfl hl (by decide) rfl (fun ls hl => ?_)
  refine lv_iload_n hx hb dX1_copyFrom_7 rfl (lv_at hl 0 rfl) ?_
  refine lv_aload_n hx hb dX1_copyFrom_8 rfl (lv_at hl 2 rfl) ?_
  refine va_get (D := (dC, dI)) (ci := 1) (v := .int 0) (C := RX1) (T := TX1) (N := 2) hx hb hts in_X1_copyFrom_X1 hown hK hP 1 rfl rfl 1 (by decide) (hts (.fieldLink RX1 17 "MeetingsAbove$Catalogue" "size" "I") (by decide +kernel)) (fun _ h9 => h9) rfl dX1_copyFrom_9 ?_
  refine lv_icmp_ge (tgt := 52) hx hb dX1_copyFrom_12 (by decide) (fun _ => ?_) (fun h9 => absurd h9 (by decide))
  have hP9 := hP.sub (ws' := [(h0, .inr (1, [.ref u0, .int 0])), (h1, .inr (1, [.ref u1, .int 0]))]) [0, 1] rfl
  have hD9 := hD.sub (ws' := [(h0, .inr (1, [.ref u0, .int 0])), (h1, .inr (1, [.ref u1, .int 0]))]) [0, 1] (by decide) rfl
  have hK9 := hK.sub (tys' := []) [] rfl
  refine W.widen (k := 0) (n := 0) (by omega) (by omega) ?_
  exact W.vret hx hb hr (fun t ht hW => ⟨⟨(), rfl, trivial, by rw [ht]; exact hP9, va_K.moved hW.alike hK9, hD9⟩, hS.F ht⟩) hS.2.2 dX1_copyFrom_52
def wk_X8_keep : List Cond := .code yX8_keep cX8_keep 3 (some .int) :: ([.methodLink RX8 308 yX8_findShelf, .instanceMethod yX8_findShelf, .selects RX8 yX8_findShelf yX8_findShelf, .initialized RX8, .code yX8_findShelf cX8_findShelf 2 (some (.object "MeetingsAbove$Catalogue")), .constant RX8 107 (-100001), .fieldLink RX8 16 "MeetingsAbove" "shelf0" "LMeetingsAbove$Catalogue;", .fieldLink RX8 12 "MeetingsAbove" "now" "LMeetingsAbove$Catalogue;", .methodLink RX8 312 yX1_copyFrom, .instanceMethod yX1_copyFrom, .selects RX1 yX1_copyFrom yX1_copyFrom, .initialized RX1, .code yX1_copyFrom cX1_copyFrom 5 none, .fieldLink RX1 17 "MeetingsAbove$Catalogue" "size" "I", .fieldLink RX8 88 "MeetingsAbove$Catalogue" "size" "I", .fieldLink RX8 19 "MeetingsAbove" "shelf1" "LMeetingsAbove$Catalogue;"] ++ wsX80 ++ wsX10)
theorem in_X8_keep_X1 : ∀ w ∈ wsX10, w ∈ wk_X8_keep := fun _ h => List.mem_cons_of_mem _ (List.mem_append_right _ h)
theorem in_X8_keep_X8 : ∀ w ∈ wsX80, w ∈ wk_X8_keep := fun _ h => List.mem_cons_of_mem _ (List.mem_append_left _ (List.mem_append_right _ h))
set_option maxRecDepth 20000 in
theorem g_X8_keep__X8_findShelf_n_308 : GoodIn wk_X8_keep (wsV RX8 308 RX8 yX8_findShelf wk_X8_findShelf_n) := goodIn_r _ [1, 2, 3, 4, 5] (by decide +kernel) (by decide +kernel)
set_option maxRecDepth 20000 in
theorem g_X8_keep__X8_findShelf_0_308 : GoodIn wk_X8_keep (wsV RX8 308 RX8 yX8_findShelf wk_X8_findShelf_0) := goodIn_r _ [1, 2, 3, 4, 5, 7, 17, 18, 19, 20, 21, 22, 23, 24, 25, 26, 27, 28, 29, 30, 31, 32] (by decide +kernel) (by decide +kernel)
set_option maxRecDepth 20000 in
theorem g_X8_keep__X1_copyFrom_312 : GoodIn wk_X8_keep (wsV RX8 312 RX1 yX1_copyFrom wk_X1_copyFrom) := goodIn_r _ [9, 10, 11, 12, 13, 14, 33, 34] (by decide +kernel) (by decide +kernel)
set_option maxRecDepth 20000 in
theorem g_X8_keep__X8_findShelf_1_308 : GoodIn wk_X8_keep (wsV RX8 308 RX8 yX8_findShelf wk_X8_findShelf_1) := goodIn_r _ [1, 2, 3, 4, 5, 16, 17, 18, 19, 20, 21, 22, 23, 24, 25, 26, 27, 28, 29, 30, 31, 32] (by decide +kernel) (by decide +kernel)
set_option maxHeartbeats 4000000 in
set_option maxRecDepth 100000 in
theorem c_X8_keep (l : Launch) (dC : Nat → ClassId) (dI : Nat → Nat → Nat) (h0 : Nat) (n0 : Nat) (s0 : Nat) (s1 : Nat) (d0 : Nat) (o0 : Nat) (w0 : Nat) (e0 : Nat) (f0 : Nat) (t0 : Nat) (b0 : Nat) (na : Nat) (sa : Nat) (sb : Nat) (p1 : Int32) (sz : Nat) : Met l yX8_keep wk_X8_keep ({ frames := 1, cells := 0, slots := 0, locals := 24 }) (va_Pc [.ref h0, .int p1] (fun U => U.heap.size = sz ∧ va_P (dC, dI) vwCl [(h0, .inr (8, [.ref n0, .ref s0, .ref s1, .ref d0, .ref o0, .int 0, .int 0, .int 0, .int 50, .int 20, .ref w0, .ref e0, .ref f0, .ref t0, .ref b0, .int 0])), (n0, .inr (1, [.ref na, .int 0])), (s0, .inr (1, [.ref sa, .int 0])), (s1, .inr (1, [.ref sb, .int 0]))] U.heap ∧ va_K (dC, dI) vwCl [] U ∧ va_D (fun _ => True) [(h0, .inr (8, [.ref n0, .ref s0, .ref s1, .ref d0, .ref o0, .int 0, .int 0, .int 0, .int 50, .int 20, .ref w0, .ref e0, .ref f0, .ref t0, .ref b0, .int 0])), (n0, .inr (1, [.ref na, .int 0])), (s0, .inr (1, [.ref sa, .int 0])), (s1, .inr (1, [.ref sb, .int 0]))])) (va_Qi (fun (r : Int32) (_ : Unit) => r = an_keep p1) (fun (_ : Unit) (t : State) => va_P (dC, dI) vwCl [] t.heap ∧ va_K (dC, dI) vwCl [] t ∧ va_D (va_A [(h0, .inr (8, [.ref n0, .ref s0, .ref s1, .ref d0, .ref o0, .int 0, .int 0, .int 0, .int 50, .int 20, .ref w0, .ref e0, .ref f0, .ref t0, .ref b0, .int 0])), (n0, .inr (1, [.ref na, .int 0])), (s0, .inr (1, [.ref sa, .int 0])), (s1, .inr (1, [.ref sb, .int 0]))] sz) []) (va_A [(h0, .inr (8, [.ref n0, .ref s0, .ref s1, .ref d0, .ref o0, .int 0, .int 0, .int 0, .int 50, .int 20, .ref w0, .ref e0, .ref f0, .ref t0, .ref b0, .int 0])), (n0, .inr (1, [.ref na, .int 0])), (s0, .inr (1, [.ref sa, .int 0])), (s1, .inr (1, [.ref sb, .int 0]))] sz)) 0 0 (va_A [(h0, .inr (8, [.ref n0, .ref s0, .ref s1, .ref d0, .ref o0, .int 0, .int 0, .int 0, .int 50, .int 20, .ref w0, .ref e0, .ref f0, .ref t0, .ref b0, .int 0])), (n0, .inr (1, [.ref na, .int 0])), (s0, .inr (1, [.ref sa, .int 0])), (s1, .inr (1, [.ref sb, .int 0]))] sz) := by
  refine Met.ofW (cc := cX8_keep) (maxL := 3) (ret := (some .int)) (by decide) rfl ?_
  intro p e s m args below meth c s₁ B hml hv
  obtain ⟨rfl, hsz, hP, hK, hD0⟩ := hv
  have hx := B.exec
  have hb := B.bytes
  have hr := B.returns
  have hts := atoms_spec (ws := wk_X8_keep) B.pre
  have hown : s.vm.findClass RX8 = some m.cls := findClass_of_methodNamed B.named
  have hlocks := B.notSynchronized
  subst hsz
  have hD := hD0.self (sz := s.heap.size)
  generalize hAe : va_A [(h0, .inr (8, [.ref n0, .ref s0, .ref s1, .ref d0, .ref o0, .int 0, .int 0, .int 0, .int 50, .int 20, .ref w0, .ref e0, .ref f0, .ref t0, .ref b0, .int 0])), (n0, .inr (1, [.ref na, .int 0])), (s0, .inr (1, [.ref sa, .int 0])), (s1, .inr (1, [.ref sb, .int 0]))] s.heap.size = A at hD ⊢
  have hA : ∀ q : Nat, s.heap.size ≤ q → A q := fun q h => by rw [← hAe]; exact Or.inr h
  have hS : va_S A s.heap s.heap [] := va_S.rf
  have hP : va_P (dC, dI) vwCl [(h0, .inr (8, [.ref n0, .ref s0, .ref s1, .ref d0, .ref o0, .int 0, .int 0, .int 0, .int 50, .int 20, .ref w0, .ref e0, .ref f0, .ref t0, .ref b0, .int 0])), (n0, .inr (1, [.ref na, .int 0])), (s0, .inr (1, [.ref sa, .int 0])), (s1, .inr (1, [.ref sb, .int 0]))] s.heap := hP
  have hl := lv_entry ([.ref h0, .int p1]) (n := 3) (Nat.le_of_ble_eq_true rfl)
  rw [lg_entry_eq]
  generalize (lg_sl ([.ref h0, .int p1]) ++ List.replicate (3 - (lg_sl ([.ref h0, .int p1])).length) Slot.unset).toArray = ls at hl ⊢
  have hl : lv_has ls 3 [(0, .ref h0), (1, .int p1)] := hl
  rcases lk_01 p1 with ⟨z0, z1⟩ | rfl | rfl
  · refine lv_aload_n hx hb dX8_keep_0 rfl (lv_at hl 0 rfl) ?_
    refine lv_iload_n hx hb dX8_keep_1 rfl (lv_at hl 1 rfl) ?_
    have hPc := hP.sub (ws' := [(h0, .inr (8, [.ref n0, .ref s0, .ref s1, .ref d0, .ref o0, .int 0, .int 0, .int 0, .int 50, .int 20, .ref w0, .ref e0, .ref f0, .ref t0, .ref b0, .int 0]))]) [0] rfl
    have hKc := hK.sub (tys' := []) [] rfl
    refine va_csq (W.runV (As := [.int p1]) (rest := []) ⟨hx, hb, hml, hown, hts⟩ (c_X8_findShelf_n l dC dI h0 n0 s0 s1 d0 o0 w0 e0 f0 t0 b0 p1 z0 z1) (cwV 1 hts g_X8_keep__X8_findShelf_n_308 rfl rfl rfl (by decide +kernel) ⟨Nat.le_of_ble_eq_true rfl, Nat.le_of_ble_eq_true rfl⟩) ⟨fun a U g mk q => by obtain ⟨q0, qP, qK⟩ := q; exact ⟨q0, qP, va_K.moved (u := U) (U := U.calling g mk a) (Vm.Alike.refl U.vm) qK⟩, va_recv hKc hPc (ci := 8) (q0 := 0) rfl rfl, fun U hU hW => ⟨rfl, by rw [hU]; exact hPc, va_K.moved hW.alike hKc⟩⟩ rfl rfl hl.1 rfl (lv_room (Nat.le_of_ble_eq_true rfl)) dX8_keep_2 ⟨Nat.le_of_ble_eq_true rfl, Nat.le_of_ble_eq_true rfl⟩) (fun r_1 hr_1 => ?_)
    try dsimp only at hr_1
    subst hr_1
    refine W.eq (g2 := F0 m 5 ls [.null]) rfl ?_
    refine lv_astore_nN (lv' := [(2, .null), (0, .ref h0), (1, .int p1)]) hx hb dX8_keep_5 rfl hl (by decide) rfl (fun ls hl => ?_)
    refine lv_aload_nN hx hb dX8_keep_6 rfl (lv_at hl 0 rfl) ?_
    refine lv_ifnonnullN hx hb dX8_keep_7 ?_
    refine lv_ldc hx hb hown (hts (.constant RX8 107 (-100001)) (by decide +kernel)) dX8_keep_10 ?_
    have hP9 := hP.sub (ws' := []) [] rfl
    have hD9 := hD.sub (ws' := []) [] (by decide) rfl
    have hK9 := hK.sub (tys' := []) [] rfl
    refine W.widen (k := 0) (n := 0) (by omega) (by omega) ?_
    exact W.iret (v := (-100001)) hx hb hr (fun t ht hW => ⟨⟨_, (), rfl, (by first | rfl | exact (an_keep_n z0 z1).symm), by rw [ht]; exact hP9, va_K.moved hW.alike hK9, hD9⟩, hS.F ht⟩) hS.2.2 dX8_keep_12
  · refine lv_aload_n hx hb dX8_keep_0 rfl (lv_at hl 0 rfl) ?_
    refine lv_iload_n hx hb dX8_keep_1 rfl (lv_at hl 1 rfl) ?_
    have hPc := hP.sub (ws' := [(h0, .inr (8, [.ref n0, .ref s0, .ref s1, .ref d0, .ref o0, .int 0, .int 0, .int 0, .int 50, .int 20, .ref w0, .ref e0, .ref f0, .ref t0, .ref b0, .int 0]))]) [0] rfl
    have hKc := hK.sub (tys' := []) [] rfl
    refine va_csq (W.runV (As := [.int 0]) (rest := []) ⟨hx, hb, hml, hown, hts⟩ (c_X8_findShelf_0 l dC dI h0 n0 s0 s1 d0 o0 w0 e0 f0 t0 b0) (cwV 1 hts g_X8_keep__X8_findShelf_0_308 rfl rfl rfl (by decide +kernel) ⟨Nat.le_of_ble_eq_true rfl, Nat.le_of_ble_eq_true rfl⟩) ⟨fun a U g mk q => by obtain ⟨q0, qP, qK⟩ := q; exact ⟨q0, qP, va_K.moved (u := U) (U := U.calling g mk a) (Vm.Alike.refl U.vm) qK⟩, va_recv hKc hPc (ci := 8) (q0 := 0) rfl rfl, fun U hU hW => ⟨rfl, by rw [hU]; exact hPc, va_K.moved hW.alike hKc⟩⟩ rfl rfl hl.1 rfl (lv_room (Nat.le_of_ble_eq_true rfl)) dX8_keep_2 ⟨Nat.le_of_ble_eq_true rfl, Nat.le_of_ble_eq_true rfl⟩) (fun r_2 hr_2 => ?_)
    try dsimp only at hr_2
    subst hr_2
    refine W.eq (g2 := F0 m 5 ls [.ref s0]) rfl ?_
    refine lv_astore_n (lv' := [(2, .ref s0), (0, .ref h0), (1, .int 0)]) hx hb dX8_keep_5 rfl hl (by decide) rfl (fun ls hl => ?_)
    refine lv_aload_n hx hb dX8_keep_6 rfl (lv_at hl 0 rfl) ?_
    refine lv_ifnonnull (tgt := 13) hx hb dX8_keep_7 (by decide) ?_
    refine lv_aload_n hx hb dX8_keep_13 rfl (lv_at hl 0 rfl) ?_
    refine lv_aload_n hx hb dX8_keep_14 rfl (lv_at hl 1 rfl) ?_
    refine va_get (D := (dC, dI)) (ci := 8) (v := .ref n0) (C := RX8) (T := TX8) (N := 16) hx hb hts in_X8_keep_X8 hown hK hP 0 rfl rfl 0 (by decide) (hts (.fieldLink RX8 12 "MeetingsAbove" "now" "LMeetingsAbove$Catalogue;") (by decide +kernel)) (fun _ h9 => h9) rfl dX8_keep_15 ?_
    have hPc := hP.sub (ws' := [(s0, .inr (1, [.ref sa, .int 0])), (n0, .inr (1, [.ref na, .int 0]))]) [2, 1] rfl
    have hKc := hK.sub (tys' := []) [] rfl
    have hDc := hD.sub (ws' := [(s0, .inr (1, [.ref sa, .int 0])), (n0, .inr (1, [.ref na, .int 0]))]) [2, 1] (by decide) rfl
    have hFc := va_free (wc := [(s0, .inr (1, [.ref sa, .int 0])), (n0, .inr (1, [.ref na, .int 0]))]) hD hS hA [2, 1] rfl
    refine va_callv (va_runV (As := [.ref n0]) (rest := []) ⟨hx, hb, hml, hown, hts⟩ (c_X1_copyFrom l dC dI s0 n0 sa na s.heap.size) (cwV 1 hts g_X8_keep__X1_copyFrom_312 rfl rfl rfl (by decide +kernel) ⟨Nat.le_of_ble_eq_true rfl, Nat.le_of_ble_eq_true rfl⟩) ⟨fun a U g mk q => by obtain ⟨q0, q1, qP, qK, qD⟩ := q; exact ⟨q0, q1, qP, va_K.moved (u := U) (U := U.calling g mk a) (Vm.Alike.refl U.vm) qK, qD⟩, va_recv hKc hPc (ci := 1) (q0 := 0) rfl rfl, fun U hU hW => ⟨rfl, by rw [hU], by rw [hU]; exact hPc, va_K.moved hW.alike hKc, hDc.weaken (fun _ _ _ _ => trivial)⟩⟩ rfl rfl hl.1 rfl (lv_room (Nat.le_of_ble_eq_true rfl)) dX8_keep_18 ⟨Nat.le_of_ble_eq_true rfl, Nat.le_of_ble_eq_true rfl⟩) hS (fun q _ h => hFc q h) hFc (fun u_3 t H1 locs ht hvm hw_4 hB hz1 hk1 hS => ?_)
    obtain ⟨hP1, hK1, hD1⟩ := hB
    rw [ht] at hP1
    have hK1 := va_K.moved hvm.symm hK1
    obtain ⟨hP, hD⟩ := va_join (wr := [(h0, .inr (8, [.ref n0, .ref s0, .ref s1, .ref d0, .ref o0, .int 0, .int 0, .int 0, .int 50, .int 20, .ref w0, .ref e0, .ref f0, .ref t0, .ref b0, .int 0])), (s1, .inr (1, [.ref sb, .int 0]))]) (w1 := [(s0, .inr (1, [.ref sa, .int 0])), (n0, .inr (1, [.ref na, .int 0]))]) hP hD [2, 1] [0, 3] rfl rfl (by decide) (by decide) hk1 hFc hP1 hD1
    have hK := (hK.sub (tys' := []) [] rfl).app hK1
    generalize H1 = H at hP hS ⊢
    have hP : va_P (dC, dI) vwCl [(h0, .inr (8, [.ref n0, .ref s0, .ref s1, .ref d0, .ref o0, .int 0, .int 0, .int 0, .int 50, .int 20, .ref w0, .ref e0, .ref f0, .ref t0, .ref b0, .int 0])), (s1, .inr (1, [.ref sb, .int 0])), (s0, .inr (1, [.ref sa, .int 0])), (n0, .inr (1, [.ref na, .int 0]))] H := hP
    have hD : va_D A [(h0, .inr (8, [.ref n0, .ref s0, .ref s1, .ref d0, .ref o0, .int 0, .int 0, .int 0, .int 50, .int 20, .ref w0, .ref e0, .ref f0, .ref t0, .ref b0, .int 0])), (s1, .inr (1, [.ref sb, .int 0])), (s0, .inr (1, [.ref sa, .int 0])), (n0, .inr (1, [.ref na, .int 0]))] := hD
    have hK : va_K (dC, dI) vwCl [] s := hK
    refine W.widen (k := 0) (n := 0) (by omega) (by omega) ?_
    refine lv_aload_n hx hb dX8_keep_21 rfl (lv_at hl 0 rfl) ?_
    refine va_get (D := (dC, dI)) (ci := 1) (v := .int 0) (C := RX1) (T := TX1) (N := 2) hx hb hts in_X8_keep_X1 hown hK hP 2 rfl rfl 1 (by decide) (hts (.fieldLink RX8 88 "MeetingsAbove$Catalogue" "size" "I") (by decide +kernel)) (fun _ h9 => h9) rfl dX8_keep_22 ?_
    have hP9 := hP.sub (ws' := []) [] rfl
    have hD9 := hD.sub (ws' := []) [] (by decide) rfl
    have hK9 := hK.sub (tys' := []) [] rfl
    refine W.widen (k := 0) (n := 0) (by omega) (by omega) ?_
    exact W.iret (v := 0) hx hb hr (fun t ht hW => ⟨⟨_, (), rfl, (by first | rfl | exact (an_keep_n z0 z1).symm), by rw [ht]; exact hP9, va_K.moved hW.alike hK9, hD9⟩, hS.F ht⟩) hS.2.2 dX8_keep_25
  · refine lv_aload_n hx hb dX8_keep_0 rfl (lv_at hl 0 rfl) ?_
    refine lv_iload_n hx hb dX8_keep_1 rfl (lv_at hl 1 rfl) ?_
    have hPc := hP.sub (ws' := [(h0, .inr (8, [.ref n0, .ref s0, .ref s1, .ref d0, .ref o0, .int 0, .int 0, .int 0, .int 50, .int 20, .ref w0, .ref e0, .ref f0, .ref t0, .ref b0, .int 0]))]) [0] rfl
    have hKc := hK.sub (tys' := []) [] rfl
    refine va_csq (W.runV (As := [.int 1]) (rest := []) ⟨hx, hb, hml, hown, hts⟩ (c_X8_findShelf_1 l dC dI h0 n0 s0 s1 d0 o0 w0 e0 f0 t0 b0) (cwV 1 hts g_X8_keep__X8_findShelf_1_308 rfl rfl rfl (by decide +kernel) ⟨Nat.le_of_ble_eq_true rfl, Nat.le_of_ble_eq_true rfl⟩) ⟨fun a U g mk q => by obtain ⟨q0, qP, qK⟩ := q; exact ⟨q0, qP, va_K.moved (u := U) (U := U.calling g mk a) (Vm.Alike.refl U.vm) qK⟩, va_recv hKc hPc (ci := 8) (q0 := 0) rfl rfl, fun U hU hW => ⟨rfl, by rw [hU]; exact hPc, va_K.moved hW.alike hKc⟩⟩ rfl rfl hl.1 rfl (lv_room (Nat.le_of_ble_eq_true rfl)) dX8_keep_2 ⟨Nat.le_of_ble_eq_true rfl, Nat.le_of_ble_eq_true rfl⟩) (fun r_5 hr_5 => ?_)
    try dsimp only at hr_5
    subst hr_5
    refine W.eq (g2 := F0 m 5 ls [.ref s1]) rfl ?_
    refine lv_astore_n (lv' := [(2, .ref s1), (0, .ref h0), (1, .int 1)]) hx hb dX8_keep_5 rfl hl (by decide) rfl (fun ls hl => ?_)
    refine lv_aload_n hx hb dX8_keep_6 rfl (lv_at hl 0 rfl) ?_
    refine lv_ifnonnull (tgt := 13) hx hb dX8_keep_7 (by decide) ?_
    refine lv_aload_n hx hb dX8_keep_13 rfl (lv_at hl 0 rfl) ?_
    refine lv_aload_n hx hb dX8_keep_14 rfl (lv_at hl 1 rfl) ?_
    refine va_get (D := (dC, dI)) (ci := 8) (v := .ref n0) (C := RX8) (T := TX8) (N := 16) hx hb hts in_X8_keep_X8 hown hK hP 0 rfl rfl 0 (by decide) (hts (.fieldLink RX8 12 "MeetingsAbove" "now" "LMeetingsAbove$Catalogue;") (by decide +kernel)) (fun _ h9 => h9) rfl dX8_keep_15 ?_
    have hPc := hP.sub (ws' := [(s1, .inr (1, [.ref sb, .int 0])), (n0, .inr (1, [.ref na, .int 0]))]) [3, 1] rfl
    have hKc := hK.sub (tys' := []) [] rfl
    have hDc := hD.sub (ws' := [(s1, .inr (1, [.ref sb, .int 0])), (n0, .inr (1, [.ref na, .int 0]))]) [3, 1] (by decide) rfl
    have hFc := va_free (wc := [(s1, .inr (1, [.ref sb, .int 0])), (n0, .inr (1, [.ref na, .int 0]))]) hD hS hA [3, 1] rfl
    refine va_callv (va_runV (As := [.ref n0]) (rest := []) ⟨hx, hb, hml, hown, hts⟩ (c_X1_copyFrom l dC dI s1 n0 sb na s.heap.size) (cwV 1 hts g_X8_keep__X1_copyFrom_312 rfl rfl rfl (by decide +kernel) ⟨Nat.le_of_ble_eq_true rfl, Nat.le_of_ble_eq_true rfl⟩) ⟨fun a U g mk q => by obtain ⟨q0, q1, qP, qK, qD⟩ := q; exact ⟨q0, q1, qP, va_K.moved (u := U) (U := U.calling g mk a) (Vm.Alike.refl U.vm) qK, qD⟩, va_recv hKc hPc (ci := 1) (q0 := 0) rfl rfl, fun U hU hW => ⟨rfl, by rw [hU], by rw [hU]; exact hPc, va_K.moved hW.alike hKc, hDc.weaken (fun _ _ _ _ => trivial)⟩⟩ rfl rfl hl.1 rfl (lv_room (Nat.le_of_ble_eq_true rfl)) dX8_keep_18 ⟨Nat.le_of_ble_eq_true rfl, Nat.le_of_ble_eq_true rfl⟩) hS (fun q _ h => hFc q h) hFc (fun u_6 t H1 locs ht hvm hw_7 hB hz1 hk1 hS => ?_)
    obtain ⟨hP1, hK1, hD1⟩ := hB
    rw [ht] at hP1
    have hK1 := va_K.moved hvm.symm hK1
    obtain ⟨hP, hD⟩ := va_join (wr := [(h0, .inr (8, [.ref n0, .ref s0, .ref s1, .ref d0, .ref o0, .int 0, .int 0, .int 0, .int 50, .int 20, .ref w0, .ref e0, .ref f0, .ref t0, .ref b0, .int 0])), (s0, .inr (1, [.ref sa, .int 0]))]) (w1 := [(s1, .inr (1, [.ref sb, .int 0])), (n0, .inr (1, [.ref na, .int 0]))]) hP hD [3, 1] [0, 2] rfl rfl (by decide) (by decide) hk1 hFc hP1 hD1
    have hK := (hK.sub (tys' := []) [] rfl).app hK1
    generalize H1 = H at hP hS ⊢
    have hP : va_P (dC, dI) vwCl [(h0, .inr (8, [.ref n0, .ref s0, .ref s1, .ref d0, .ref o0, .int 0, .int 0, .int 0, .int 50, .int 20, .ref w0, .ref e0, .ref f0, .ref t0, .ref b0, .int 0])), (s0, .inr (1, [.ref sa, .int 0])), (s1, .inr (1, [.ref sb, .int 0])), (n0, .inr (1, [.ref na, .int 0]))] H := hP
    have hD : va_D A [(h0, .inr (8, [.ref n0, .ref s0, .ref s1, .ref d0, .ref o0, .int 0, .int 0, .int 0, .int 50, .int 20, .ref w0, .ref e0, .ref f0, .ref t0, .ref b0, .int 0])), (s0, .inr (1, [.ref sa, .int 0])), (s1, .inr (1, [.ref sb, .int 0])), (n0, .inr (1, [.ref na, .int 0]))] := hD
    have hK : va_K (dC, dI) vwCl [] s := hK
    refine W.widen (k := 0) (n := 0) (by omega) (by omega) ?_
    refine lv_aload_n hx hb dX8_keep_21 rfl (lv_at hl 0 rfl) ?_
    refine va_get (D := (dC, dI)) (ci := 1) (v := .int 0) (C := RX1) (T := TX1) (N := 2) hx hb hts in_X8_keep_X1 hown hK hP 2 rfl rfl 1 (by decide) (hts (.fieldLink RX8 88 "MeetingsAbove$Catalogue" "size" "I") (by decide +kernel)) (fun _ h9 => h9) rfl dX8_keep_22 ?_
    have hP9 := hP.sub (ws' := []) [] rfl
    have hD9 := hD.sub (ws' := []) [] (by decide) rfl
    have hK9 := hK.sub (tys' := []) [] rfl
    refine W.widen (k := 0) (n := 0) (by omega) (by omega) ?_
    exact W.iret (v := 0) hx hb hr (fun t ht hW => ⟨⟨_, (), rfl, (by first | rfl | exact (an_keep_n z0 z1).symm), by rw [ht]; exact hP9, va_K.moved hW.alike hK9, hD9⟩, hS.F ht⟩) hS.2.2 dX8_keep_25
def wk_X8_rule : List Cond := .code yX8_rule cX8_rule 4 (some .int) :: ([.constant RX8 87 (-100002), .methodLink RX8 84 yX8_isWithin, .static yX8_isWithin, .initialized RX8, .code yX8_isWithin cX8_isWithin 3 (some .boolean), .fieldLink RX8 34 "MeetingsAbove" "near" "I", .fieldLink RX8 38 "MeetingsAbove" "wide" "I"] ++ wsX80)
theorem in_X8_rule_X8 : ∀ w ∈ wsX80, w ∈ wk_X8_rule := fun _ h => List.mem_cons_of_mem _ (List.mem_append_right _ h)
set_option maxRecDepth 20000 in
theorem g_X8_rule__X8_isWithin_84 : GoodIn wk_X8_rule (va_wsS RX8 84 yX8_isWithin wk_X8_isWithin) := goodIn_r _ [2, 3, 4, 5] (by decide +kernel) (by decide +kernel)
set_option maxHeartbeats 4000000 in
set_option maxRecDepth 100000 in
theorem c_X8_rule (l : Launch) (dC : Nat → ClassId) (dI : Nat → Nat → Nat) (h0 : Nat) (n0 : Nat) (s0 : Nat) (s1 : Nat) (d0 : Nat) (o0 : Nat) (w0 : Nat) (e0 : Nat) (f0 : Nat) (t0 : Nat) (b0 : Nat) (p1 : Int32) (p2 : Int32) (sz : Nat) : Met l yX8_rule wk_X8_rule ({ frames := 1, cells := 0, slots := 0, locals := 22 }) (va_Pc [.ref h0, .int p1, .int p2] (fun U => U.heap.size = sz ∧ va_P (dC, dI) vwCl [(h0, .inr (8, [.ref n0, .ref s0, .ref s1, .ref d0, .ref o0, .int 0, .int 0, .int 0, .int 50, .int 20, .ref w0, .ref e0, .ref f0, .ref t0, .ref b0, .int 0]))] U.heap ∧ va_K (dC, dI) vwCl [] U ∧ va_D (fun _ => True) [(h0, .inr (8, [.ref n0, .ref s0, .ref s1, .ref d0, .ref o0, .int 0, .int 0, .int 0, .int 50, .int 20, .ref w0, .ref e0, .ref f0, .ref t0, .ref b0, .int 0]))])) (va_Qi (fun (r : Int32) (_ : Unit) => r = an_rule p1 p2) (fun (_ : Unit) (t : State) => va_P (dC, dI) vwCl [] t.heap ∧ va_K (dC, dI) vwCl [] t ∧ va_D (va_A [(h0, .inr (8, [.ref n0, .ref s0, .ref s1, .ref d0, .ref o0, .int 0, .int 0, .int 0, .int 50, .int 20, .ref w0, .ref e0, .ref f0, .ref t0, .ref b0, .int 0]))] sz) []) (va_A [(h0, .inr (8, [.ref n0, .ref s0, .ref s1, .ref d0, .ref o0, .int 0, .int 0, .int 0, .int 50, .int 20, .ref w0, .ref e0, .ref f0, .ref t0, .ref b0, .int 0]))] sz)) 0 0 (va_A [(h0, .inr (8, [.ref n0, .ref s0, .ref s1, .ref d0, .ref o0, .int 0, .int 0, .int 0, .int 50, .int 20, .ref w0, .ref e0, .ref f0, .ref t0, .ref b0, .int 0]))] sz) := by
  refine Met.ofW (cc := cX8_rule) (maxL := 4) (ret := (some .int)) (by decide) rfl ?_
  intro p e s m args below meth c s₁ B hml hv
  obtain ⟨rfl, hsz, hP, hK, hD0⟩ := hv
  have hx := B.exec
  have hb := B.bytes
  have hr := B.returns
  have hts := atoms_spec (ws := wk_X8_rule) B.pre
  have hown : s.vm.findClass RX8 = some m.cls := findClass_of_methodNamed B.named
  have hlocks := B.notSynchronized
  subst hsz
  have hD := hD0.self (sz := s.heap.size)
  generalize hAe : va_A [(h0, .inr (8, [.ref n0, .ref s0, .ref s1, .ref d0, .ref o0, .int 0, .int 0, .int 0, .int 50, .int 20, .ref w0, .ref e0, .ref f0, .ref t0, .ref b0, .int 0]))] s.heap.size = A at hD ⊢
  have hA : ∀ q : Nat, s.heap.size ≤ q → A q := fun q h => by rw [← hAe]; exact Or.inr h
  have hS : va_S A s.heap s.heap [] := va_S.rf
  have hP : va_P (dC, dI) vwCl [(h0, .inr (8, [.ref n0, .ref s0, .ref s1, .ref d0, .ref o0, .int 0, .int 0, .int 0, .int 50, .int 20, .ref w0, .ref e0, .ref f0, .ref t0, .ref b0, .int 0]))] s.heap := hP
  have hl := lv_entry ([.ref h0, .int p1, .int p2]) (n := 4) (Nat.le_of_ble_eq_true rfl)
  rw [lg_entry_eq]
  generalize (lg_sl ([.ref h0, .int p1, .int p2]) ++ List.replicate (4 - (lg_sl ([.ref h0, .int p1, .int p2])).length) Slot.unset).toArray = ls at hl ⊢
  have hl : lv_has ls 4 [(0, .ref h0), (1, .int p1), (2, .int p2)] := hl
  rcases lk_01 p1 with ⟨z0, z1⟩ | rfl | rfl
  · refine lv_iload_n hx hb dX8_rule_0 rfl (lv_at hl 1 rfl) ?_
    refine lv_if_ne (tgt := 27) hx hb dX8_rule_1 (by decide) (fun c_1 => ?_) (fun c_1 => absurd c_1 z0)
    refine lv_iload_n hx hb dX8_rule_27 rfl (lv_at hl 1 rfl) ?_
    refine lv_iconst (v := 1) hx hb dX8_rule_28 (by decide) ?_
    refine lv_icmp_ne (tgt := 55) hx hb dX8_rule_29 (by decide) (fun c_29 => ?_) (fun c_29 => absurd c_29 z1)
    refine lv_ldc hx hb hown (hts (.constant RX8 87 (-100002)) (by decide +kernel)) dX8_rule_55 ?_
    have hP9 := hP.sub (ws' := []) [] rfl
    have hD9 := hD.sub (ws' := []) [] (by decide) rfl
    have hK9 := hK.sub (tys' := []) [] rfl
    refine W.widen (k := 0) (n := 0) (by omega) (by omega) ?_
    exact W.iret (v := (-100002)) hx hb hr (fun t ht hW => ⟨⟨_, (), rfl, (by first | exact (an_rule_n z0 z1).symm | exact (if_pos q_9).symm | exact (if_neg q_9).symm | exact (if_pos q_37).symm | exact (if_neg q_37).symm), by rw [ht]; exact hP9, va_K.moved hW.alike hK9, hD9⟩, hS.F ht⟩) hS.2.2 dX8_rule_57
  · refine lv_iload_n hx hb dX8_rule_0 rfl (lv_at hl 1 rfl) ?_
    refine lv_if_ne (tgt := 27) hx hb dX8_rule_1 (by decide) (fun h9 => absurd h9 (by decide)) (fun _ => ?_)
    refine lv_iload_n hx hb dX8_rule_4 rfl (lv_at hl 2 rfl) ?_
    refine lv_iconst (v := 1) hx hb dX8_rule_5 (by decide) ?_
    refine lv_sipush (v := 3000) hx hb dX8_rule_6 (by decide) ?_
    refine vp_callSi (W.runS (As := [.int p2, .int 1, .int 3000]) (rest := []) ⟨hx, hb, hml, hown, hts⟩ (c_X8_isWithin l dC dI p2 1 3000) (va_cwS 3 hts g_X8_rule__X8_isWithin_84 rfl rfl rfl (by decide +kernel) ⟨Nat.le_of_ble_eq_true rfl, Nat.le_of_ble_eq_true rfl⟩) ⟨fun a U g mk q => by obtain ⟨q0, q1⟩ := q; exact ⟨q0, q1⟩, fun U hU hW => ⟨rfl, trivial⟩⟩ rfl rfl hl.1 rfl (lv_room (Nat.le_of_ble_eq_true rfl)) dX8_rule_9 ⟨Nat.le_of_ble_eq_true rfl, Nat.le_of_ble_eq_true rfl⟩) (fun r_1 hr_1 => ?_)
    try dsimp only at hr_1
    rcases bo_split hr_1 with ⟨rfl, q_9⟩ | ⟨rfl, q_9⟩
    · refine lv_if_eq (tgt := 27) hx hb dX8_rule_12 (by decide) (fun h9 => absurd h9 (by decide)) (fun _ => ?_)
      refine lv_aload_n hx hb dX8_rule_15 rfl (lv_at hl 0 rfl) ?_
      refine va_get (D := (dC, dI)) (ci := 8) (v := .int 50) (C := RX8) (T := TX8) (N := 16) hx hb hts in_X8_rule_X8 hown hK hP 0 rfl rfl 8 (by decide) (hts (.fieldLink RX8 34 "MeetingsAbove" "near" "I") (by decide +kernel)) (fun _ h9 => h9) rfl dX8_rule_16 ?_
      refine lv_istore_n (lv' := [(3, .int 50), (0, .ref h0), (1, .int 0), (2, .int p2)]) hx hb dX8_rule_19 rfl hl (by decide) rfl (fun ls hl => ?_)
      refine lv_aload_n hx hb dX8_rule_20 rfl (lv_at hl 1 rfl) ?_
      refine lv_iload_n hx hb dX8_rule_21 rfl (lv_at hl 3 rfl) ?_
      refine va_put (D := (dC, dI)) (ci := 8) (v := .int p2) (ty := .int) (C := RX8) (T := TX8) (N := 16) hx hb hts in_X8_rule_X8 tyX8 tyX8_ok nmX8 hown hK hP hD hS 0 rfl rfl 8 (by decide) (hts (.fieldLink RX8 34 "MeetingsAbove" "near" "I") (by decide +kernel)) (fun _ h9 => h9) rfl (by decide +kernel) rfl rfl (Nat.le_of_ble_eq_true rfl) dX8_rule_22 (fun H locs hP hD hS => ?_)
      have hP : va_P (dC, dI) vwCl [(h0, .inr (8, [.ref n0, .ref s0, .ref s1, .ref d0, .ref o0, .int 0, .int 0, .int 0, .int p2, .int 20, .ref w0, .ref e0, .ref f0, .ref t0, .ref b0, .int 0]))] H := hP
      have hD : va_D A [(h0, .inr (8, [.ref n0, .ref s0, .ref s1, .ref d0, .ref o0, .int 0, .int 0, .int 0, .int p2, .int 20, .ref w0, .ref e0, .ref f0, .ref t0, .ref b0, .int 0]))] := hD
      refine lv_iload_n hx hb dX8_rule_25 rfl (lv_at hl 0 rfl) ?_
      have hP9 := hP.sub (ws' := []) [] rfl
      have hD9 := hD.sub (ws' := []) [] (by decide) rfl
      have hK9 := hK.sub (tys' := []) [] rfl
      refine W.widen (k := 0) (n := 0) (by omega) (by omega) ?_
      exact W.iret (v := 50) hx hb hr (fun t ht hW => ⟨⟨_, (), rfl, (by first | exact (an_rule_n z0 z1).symm | exact (if_pos q_9).symm | exact (if_neg q_9).symm | exact (if_pos q_37).symm | exact (if_neg q_37).symm), by rw [ht]; exact hP9, va_K.moved hW.alike hK9, hD9⟩, hS.F ht⟩) hS.2.2 dX8_rule_26
    · refine lv_if_eq (tgt := 27) hx hb dX8_rule_12 (by decide) (fun _ => ?_) (fun h9 => absurd h9 (by decide))
      refine lv_iload_n hx hb dX8_rule_27 rfl (lv_at hl 1 rfl) ?_
      refine lv_iconst (v := 1) hx hb dX8_rule_28 (by decide) ?_
      refine lv_icmp_ne (tgt := 55) hx hb dX8_rule_29 (by decide) (fun _ => ?_) (fun h9 => absurd h9 (by decide))
      refine lv_ldc hx hb hown (hts (.constant RX8 87 (-100002)) (by decide +kernel)) dX8_rule_55 ?_
      have hP9 := hP.sub (ws' := []) [] rfl
      have hD9 := hD.sub (ws' := []) [] (by decide) rfl
      have hK9 := hK.sub (tys' := []) [] rfl
      refine W.widen (k := 0) (n := 0) (by omega) (by omega) ?_
      exact W.iret (v := (-100002)) hx hb hr (fun t ht hW => ⟨⟨_, (), rfl, (by first | exact (an_rule_n z0 z1).symm | exact (if_pos q_9).symm | exact (if_neg q_9).symm | exact (if_pos q_37).symm | exact (if_neg q_37).symm), by rw [ht]; exact hP9, va_K.moved hW.alike hK9, hD9⟩, hS.F ht⟩) hS.2.2 dX8_rule_57
  · refine lv_iload_n hx hb dX8_rule_0 rfl (lv_at hl 1 rfl) ?_
    refine lv_if_ne (tgt := 27) hx hb dX8_rule_1 (by decide) (fun _ => ?_) (fun h9 => absurd h9 (by decide))
    refine lv_iload_n hx hb dX8_rule_27 rfl (lv_at hl 1 rfl) ?_
    refine lv_iconst (v := 1) hx hb dX8_rule_28 (by decide) ?_
    refine lv_icmp_ne (tgt := 55) hx hb dX8_rule_29 (by decide) (fun h9 => absurd h9 (by decide)) (fun _ => ?_)
    refine lv_iload_n hx hb dX8_rule_32 rfl (lv_at hl 2 rfl) ?_
    refine lv_iconst (v := 0) hx hb dX8_rule_33 (by decide) ?_
    refine lv_sipush (v := 400) hx hb dX8_rule_34 (by decide) ?_
    refine vp_callSi (W.runS (As := [.int p2, .int 0, .int 400]) (rest := []) ⟨hx, hb, hml, hown, hts⟩ (c_X8_isWithin l dC dI p2 0 400) (va_cwS 3 hts g_X8_rule__X8_isWithin_84 rfl rfl rfl (by decide +kernel) ⟨Nat.le_of_ble_eq_true rfl, Nat.le_of_ble_eq_true rfl⟩) ⟨fun a U g mk q => by obtain ⟨q0, q1⟩ := q; exact ⟨q0, q1⟩, fun U hU hW => ⟨rfl, trivial⟩⟩ rfl rfl hl.1 rfl (lv_room (Nat.le_of_ble_eq_true rfl)) dX8_rule_37 ⟨Nat.le_of_ble_eq_true rfl, Nat.le_of_ble_eq_true rfl⟩) (fun r_2 hr_2 => ?_)
    try dsimp only at hr_2
    rcases bo_split hr_2 with ⟨rfl, q_37⟩ | ⟨rfl, q_37⟩
    · refine lv_if_eq (tgt := 55) hx hb dX8_rule_40 (by decide) (fun h9 => absurd h9 (by decide)) (fun _ => ?_)
      refine lv_aload_n hx hb dX8_rule_43 rfl (lv_at hl 0 rfl) ?_
      refine va_get (D := (dC, dI)) (ci := 8) (v := .int 20) (C := RX8) (T := TX8) (N := 16) hx hb hts in_X8_rule_X8 hown hK hP 0 rfl rfl 9 (by decide) (hts (.fieldLink RX8 38 "MeetingsAbove" "wide" "I") (by decide +kernel)) (fun _ h9 => h9) rfl dX8_rule_44 ?_
      refine lv_istore_n (lv' := [(3, .int 20), (0, .ref h0), (1, .int 1), (2, .int p2)]) hx hb dX8_rule_47 rfl hl (by decide) rfl (fun ls hl => ?_)
      refine lv_aload_n hx hb dX8_rule_48 rfl (lv_at hl 1 rfl) ?_
      refine lv_iload_n hx hb dX8_rule_49 rfl (lv_at hl 3 rfl) ?_
      refine va_put (D := (dC, dI)) (ci := 8) (v := .int p2) (ty := .int) (C := RX8) (T := TX8) (N := 16) hx hb hts in_X8_rule_X8 tyX8 tyX8_ok nmX8 hown hK hP hD hS 0 rfl rfl 9 (by decide) (hts (.fieldLink RX8 38 "MeetingsAbove" "wide" "I") (by decide +kernel)) (fun _ h9 => h9) rfl (by decide +kernel) rfl rfl (Nat.le_of_ble_eq_true rfl) dX8_rule_50 (fun H locs hP hD hS => ?_)
      have hP : va_P (dC, dI) vwCl [(h0, .inr (8, [.ref n0, .ref s0, .ref s1, .ref d0, .ref o0, .int 0, .int 0, .int 0, .int 50, .int p2, .ref w0, .ref e0, .ref f0, .ref t0, .ref b0, .int 0]))] H := hP
      have hD : va_D A [(h0, .inr (8, [.ref n0, .ref s0, .ref s1, .ref d0, .ref o0, .int 0, .int 0, .int 0, .int 50, .int p2, .ref w0, .ref e0, .ref f0, .ref t0, .ref b0, .int 0]))] := hD
      refine lv_iload_n hx hb dX8_rule_53 rfl (lv_at hl 0 rfl) ?_
      have hP9 := hP.sub (ws' := []) [] rfl
      have hD9 := hD.sub (ws' := []) [] (by decide) rfl
      have hK9 := hK.sub (tys' := []) [] rfl
      refine W.widen (k := 0) (n := 0) (by omega) (by omega) ?_
      exact W.iret (v := 20) hx hb hr (fun t ht hW => ⟨⟨_, (), rfl, (by first | exact (an_rule_n z0 z1).symm | exact (if_pos q_9).symm | exact (if_neg q_9).symm | exact (if_pos q_37).symm | exact (if_neg q_37).symm), by rw [ht]; exact hP9, va_K.moved hW.alike hK9, hD9⟩, hS.F ht⟩) hS.2.2 dX8_rule_54
    · refine lv_if_eq (tgt := 55) hx hb dX8_rule_40 (by decide) (fun _ => ?_) (fun h9 => absurd h9 (by decide))
      refine lv_ldc hx hb hown (hts (.constant RX8 87 (-100002)) (by decide +kernel)) dX8_rule_55 ?_
      have hP9 := hP.sub (ws' := []) [] rfl
      have hD9 := hD.sub (ws' := []) [] (by decide) rfl
      have hK9 := hK.sub (tys' := []) [] rfl
      refine W.widen (k := 0) (n := 0) (by omega) (by omega) ?_
      exact W.iret (v := (-100002)) hx hb hr (fun t ht hW => ⟨⟨_, (), rfl, (by first | exact (an_rule_n z0 z1).symm | exact (if_pos q_9).symm | exact (if_neg q_9).symm | exact (if_pos q_37).symm | exact (if_neg q_37).symm), by rw [ht]; exact hP9, va_K.moved hW.alike hK9, hD9⟩, hS.F ht⟩) hS.2.2 dX8_rule_57
