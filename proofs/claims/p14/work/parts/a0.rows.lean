def wk_X8_countMeetings : List Cond := .code yX8_countMeetings cX8_countMeetings 4 (some .int) :: (([.fieldLink RX8 12 "MeetingsAbove" "now" "LMeetingsAbove$Catalogue;", .fieldLink RX8 88 "MeetingsAbove$Catalogue" "size" "I"] : List Cond) ++ (wsX80 ++ (wsX10 ++ ((wsV RX8 213 RX8 yX8_doMeet wk_X8_doMeet) ++ ([])))))
theorem in_X8_countMeetings_X1 : ∀ w ∈ wsX10, w ∈ wk_X8_countMeetings := fun _ h => List.mem_cons_of_mem _ (List.mem_append_right _ (List.mem_append_right _ (List.mem_append_left _ h)))
theorem in_X8_countMeetings_X8 : ∀ w ∈ wsX80, w ∈ wk_X8_countMeetings := fun _ h => List.mem_cons_of_mem _ (List.mem_append_right _ (List.mem_append_left _ h))
theorem gw_X8_countMeetings : AG wk_X8_countMeetings := AG_ca (AG_l (by decide +kernel)) (AG_app ag_X8 (AG_app ag_X1 (AG_app (AG_V gw_X8_doMeet) (AG_nil))))
theorem g_X8_countMeetings__X8_doMeet_213 : GoodIn wk_X8_countMeetings (wsV RX8 213 RX8 yX8_doMeet wk_X8_doMeet) := goodIn_m (fun _ h => List.mem_cons_of_mem _ (List.mem_append_right _ (List.mem_append_right _ (List.mem_append_right _ (List.mem_append_left _ h))))) (AG_V gw_X8_doMeet)
set_option maxHeartbeats 4000000 in
set_option maxRecDepth 100000 in
theorem c_X8_countMeetings (l : Launch) (dC : Nat → ClassId) (dI : Nat → Nat → Nat) (h0 : Nat) (n0 : Nat) (s0 : Nat) (s1 : Nat) (d0 : Nat) (o0 : Nat) (w0 : Nat) (e0 : Nat) (f0 : Nat) (t0 : Nat) (b0 : Nat) (dn : Int32) (nn : Int32) (la : Int32) (ne : Int32) (wi : Int32) (lm : Int32) (na : Nat) (cT : ClassId) (sz9 : Int32) (ga : Nat → Option Nat) (cI : ClassId) (L : List Nat) (f : Nat → va_E) (wu : Int64) (wl : Int64) (wp : Int64) (sz : Nat) (hC : catOK L f cI sz9 ga) : Met l yX8_countMeetings wk_X8_countMeetings ({ frames := 4, cells := 0, slots := 0, locals := 111 }) (va_Pc [.ref h0] (fun U => U.heap.size = sz ∧ va_P (dC, dI) vwCl (([(h0, .inr (8, [.ref n0, .ref s0, .ref s1, .ref d0, .ref o0, .int dn, .int nn, .int la, .int ne, .int wi, .ref w0, .ref e0, .ref f0, .ref t0, .ref b0, .int lm])), (n0, .inr (1, [.ref na, .int sz9])), (na, .inl (cT, 16, .inr (.inr (.inr (.inr ga))))), (w0, .inr (7, [.long wu, .long wl, .long wp]))] : va_W) ++ va_pl L f) U.heap ∧ va_K (dC, dI) vwCl [(cT, .object "MeetingsAbove$Thing"), (cI, .int)] U ∧ va_D (fun _ => True) (([(h0, .inr (8, [.ref n0, .ref s0, .ref s1, .ref d0, .ref o0, .int dn, .int nn, .int la, .int ne, .int wi, .ref w0, .ref e0, .ref f0, .ref t0, .ref b0, .int lm])), (n0, .inr (1, [.ref na, .int sz9])), (na, .inl (cT, 16, .inr (.inr (.inr (.inr ga))))), (w0, .inr (7, [.long wu, .long wl, .long wp]))] : va_W) ++ va_pl L f))) (va_Qi (fun (r : Int32) (_ : Unit) => True) (fun (_ : Unit) (t : State) => ∃ (wu9 : Int64) (wl9 : Int64) (wp9 : Int64), va_P (dC, dI) vwCl (([(h0, .inr (8, [.ref n0, .ref s0, .ref s1, .ref d0, .ref o0, .int dn, .int nn, .int la, .int ne, .int wi, .ref w0, .ref e0, .ref f0, .ref t0, .ref b0, .int lm])), (n0, .inr (1, [.ref na, .int sz9])), (na, .inl (cT, 16, .inr (.inr (.inr (.inr ga))))), (w0, .inr (7, [.long wu9, .long wl9, .long wp9]))] : va_W) ++ va_pl L f) t.heap ∧ va_K (dC, dI) vwCl [(cT, .object "MeetingsAbove$Thing"), (cI, .int)] t ∧ va_D (va_A (([(h0, .inr (8, [.ref n0, .ref s0, .ref s1, .ref d0, .ref o0, .int dn, .int nn, .int la, .int ne, .int wi, .ref w0, .ref e0, .ref f0, .ref t0, .ref b0, .int lm])), (n0, .inr (1, [.ref na, .int sz9])), (na, .inl (cT, 16, .inr (.inr (.inr (.inr ga))))), (w0, .inr (7, [.long wu, .long wl, .long wp]))] : va_W) ++ va_pl L f) sz) (([(h0, .inr (8, [.ref n0, .ref s0, .ref s1, .ref d0, .ref o0, .int dn, .int nn, .int la, .int ne, .int wi, .ref w0, .ref e0, .ref f0, .ref t0, .ref b0, .int lm])), (n0, .inr (1, [.ref na, .int sz9])), (na, .inl (cT, 16, .inr (.inr (.inr (.inr ga))))), (w0, .inr (7, [.long wu9, .long wl9, .long wp9]))] : va_W) ++ va_pl L f)) (va_A (([(h0, .inr (8, [.ref n0, .ref s0, .ref s1, .ref d0, .ref o0, .int dn, .int nn, .int la, .int ne, .int wi, .ref w0, .ref e0, .ref f0, .ref t0, .ref b0, .int lm])), (n0, .inr (1, [.ref na, .int sz9])), (na, .inl (cT, 16, .inr (.inr (.inr (.inr ga))))), (w0, .inr (7, [.long wu, .long wl, .long wp]))] : va_W) ++ va_pl L f) sz)) 0 0 (va_A (([(h0, .inr (8, [.ref n0, .ref s0, .ref s1, .ref d0, .ref o0, .int dn, .int nn, .int la, .int ne, .int wi, .ref w0, .ref e0, .ref f0, .ref t0, .ref b0, .int lm])), (n0, .inr (1, [.ref na, .int sz9])), (na, .inl (cT, 16, .inr (.inr (.inr (.inr ga))))), (w0, .inr (7, [.long wu, .long wl, .long wp]))] : va_W) ++ va_pl L f) sz) := by
  refine Met.ofW (cc := cX8_countMeetings) (maxL := 4) (ret := (some .int)) (by decide) rfl ?_
  intro p e s m args below meth c s₁ B hml hv
  obtain ⟨rfl, hsz, hP, hK, hD0⟩ := hv
  have hx := B.exec
  have hb := B.bytes
  have hr := B.returns
  have hts := atoms_spec (ws := wk_X8_countMeetings) B.pre
  have hown : s.vm.findClass RX8 = some m.cls := findClass_of_methodNamed B.named
  have hlocks := B.notSynchronized
  subst hsz
  have hD := hD0.self (sz := s.heap.size)
  generalize hAe : va_A (([(h0, .inr (8, [.ref n0, .ref s0, .ref s1, .ref d0, .ref o0, .int dn, .int nn, .int la, .int ne, .int wi, .ref w0, .ref e0, .ref f0, .ref t0, .ref b0, .int lm])), (n0, .inr (1, [.ref na, .int sz9])), (na, .inl (cT, 16, .inr (.inr (.inr (.inr ga))))), (w0, .inr (7, [.long wu, .long wl, .long wp]))] : va_W) ++ va_pl L f) s.heap.size = A at hD ⊢
  have hA : ∀ q : Nat, s.heap.size ≤ q → A q := fun q h => by rw [← hAe]; exact Or.inr h
  have hS : va_S A s.heap s.heap [] := va_S.rf
  have hP : va_P (dC, dI) vwCl (([(h0, .inr (8, [.ref n0, .ref s0, .ref s1, .ref d0, .ref o0, .int dn, .int nn, .int la, .int ne, .int wi, .ref w0, .ref e0, .ref f0, .ref t0, .ref b0, .int lm])), (n0, .inr (1, [.ref na, .int sz9])), (na, .inl (cT, 16, .inr (.inr (.inr (.inr ga))))), (w0, .inr (7, [.long wu, .long wl, .long wp]))] : va_W) ++ va_pl L f) s.heap := hP
  have hl := lv_entry ([.ref h0]) (n := 4) (Nat.le_of_ble_eq_true rfl)
  rw [lg_entry_eq]
  generalize (lg_sl ([.ref h0]) ++ List.replicate (4 - (lg_sl ([.ref h0])).length) Slot.unset).toArray = ls at hl ⊢
  have hl : lv_has ls 4 [(0, .ref h0)] := hl
  have kl_0 : (0 : Int32).toInt = 0 := by decide
  have kl_1 : (1 : Int32).toInt = 1 := by decide
  obtain ⟨hC0, hC1, hC2⟩ := id hC
  refine lv_iconst (v := 0) hx hb dX8_countMeetings_0 (by decide) ?_
  refine lv_istore_n (lv' := [(1, .int 0), (0, .ref h0)]) hx hb dX8_countMeetings_1 rfl hl (by decide) rfl (fun ls hl => ?_)
  refine lv_iconst (v := 0) hx hb dX8_countMeetings_2 (by decide) ?_
  refine lv_istore_n (lv' := [(2, .int 0), (1, .int 0), (0, .ref h0)]) hx hb dX8_countMeetings_3 rfl hl (by decide) rfl (fun ls hl => ?_)
  refine (show ∀ (k : Nat) (n1 : Int32) (t2 : Int32) (vu : Int64) (vl : Int64) (vp : Int64) (hk0 : 0 ≤ t2.toInt) (hk1 : t2.toInt ≤ sz9.toInt) (hk_4 : (sz9.toInt - t2.toInt).toNat < k) (H : Heap) (locs : List Loc) (hP : va_P (dC, dI) vwCl (([(h0, .inr (8, [.ref n0, .ref s0, .ref s1, .ref d0, .ref o0, .int dn, .int nn, .int la, .int ne, .int wi, .ref w0, .ref e0, .ref f0, .ref t0, .ref b0, .int lm])), (n0, .inr (1, [.ref na, .int sz9])), (na, .inl (cT, 16, .inr (.inr (.inr (.inr ga))))), (w0, .inr (7, [.long vu, .long vl, .long vp]))] : va_W) ++ va_pl L f) H) (hD : va_D A (([(h0, .inr (8, [.ref n0, .ref s0, .ref s1, .ref d0, .ref o0, .int dn, .int nn, .int la, .int ne, .int wi, .ref w0, .ref e0, .ref f0, .ref t0, .ref b0, .int lm])), (n0, .inr (1, [.ref na, .int sz9])), (na, .inl (cT, 16, .inr (.inr (.inr (.inr ga))))), (w0, .inr (7, [.long vu, .long vl, .long vp]))] : va_W) ++ va_pl L f)) (hS : va_S A s.heap H locs) (ls : Array Slot) (hl : lv_has ls 4 [(0, .ref h0), (1, .int n1), (2, .int t2)]), W p l e _ s m _ below meth c H locs 0 0 _ (F0 m 4 ls []) from ?_) _ 0 0 wu wl wp (by omega) (by omega) (Nat.lt_succ_self _) _ _ hP hD hS ls (lv_sub hl [2, 1, 0] rfl)
  intro k
  induction k with
  | zero => intro n1 t2 vu vl vp hk0 hk1 hk_4; exact absurd hk_4 (Nat.not_lt_zero _)
  | succ k ih_4 =>
    intro n1 t2 vu vl vp hk0 hk1 hk_4 H locs hP hD hS ls hl
    refine lv_iload_n hx hb dX8_countMeetings_4 rfl (lv_at hl 2 rfl) ?_
    refine lv_aload_n hx hb dX8_countMeetings_5 rfl (lv_at hl 0 rfl) ?_
    refine va_get (D := (dC, dI)) (ci := 8) (v := .ref n0) (C := RX8) (T := TX8) (N := 16) hx hb hts in_X8_countMeetings_X8 hown hK hP 0 rfl rfl 0 (by decide) (hts (.fieldLink RX8 12 "MeetingsAbove" "now" "LMeetingsAbove$Catalogue;") (by decide +kernel)) (fun _ h9 => h9) rfl dX8_countMeetings_6 ?_
    refine va_get (D := (dC, dI)) (ci := 1) (v := .int sz9) (C := RX1) (T := TX1) (N := 2) hx hb hts in_X8_countMeetings_X1 hown hK hP 1 rfl rfl 1 (by decide) (hts (.fieldLink RX8 88 "MeetingsAbove$Catalogue" "size" "I") (by decide +kernel)) (fun _ h9 => h9) rfl dX8_countMeetings_9 ?_
    refine lv_icmp_ge (tgt := 54) hx hb dX8_countMeetings_12 (by decide) (fun c_12 => ?_) (fun c_12 => ?_)
    · have t_12 := (fa_le _ _).mp c_12
      refine lv_iload_n hx hb dX8_countMeetings_54 rfl (lv_at hl 1 rfl) ?_
      have hP9 := hP.part (cx := [(h0, .inr (8, [.ref n0, .ref s0, .ref s1, .ref d0, .ref o0, .int dn, .int nn, .int la, .int ne, .int wi, .ref w0, .ref e0, .ref f0, .ref t0, .ref b0, .int lm])), (n0, .inr (1, [.ref na, .int sz9])), (na, .inl (cT, 16, .inr (.inr (.inr (.inr ga))))), (w0, .inr (7, [.long vu, .long vl, .long vp]))]) [0, 1, 2, 3] rfl
      have hD9 := hD.part (cx := [(h0, .inr (8, [.ref n0, .ref s0, .ref s1, .ref d0, .ref o0, .int dn, .int nn, .int la, .int ne, .int wi, .ref w0, .ref e0, .ref f0, .ref t0, .ref b0, .int lm])), (n0, .inr (1, [.ref na, .int sz9])), (na, .inl (cT, 16, .inr (.inr (.inr (.inr ga))))), (w0, .inr (7, [.long vu, .long vl, .long vp]))]) [0, 1, 2, 3] (by decide) rfl
      have hK9 := hK.sub (tys' := [(cT, .object "MeetingsAbove$Thing"), (cI, .int)]) [0, 1] rfl
      refine W.widen (k := 0) (n := 0) (by omega) (by omega) ?_
      exact W.iret (v := n1) hx hb hr (fun t ht hW => ⟨⟨_, (), rfl, trivial, vu, vl, vp, by rw [ht]; exact hP9, va_K.moved hW.alike hK9, hD9⟩, hS.F ht⟩) hS.2.2 dX8_countMeetings_55
    · have t_12 := mt (fa_le _ _).mpr c_12
      refine lv_iload_n hx hb dX8_countMeetings_15 rfl (lv_at hl 2 rfl) ?_
      refine lv_iconst (v := 1) hx hb dX8_countMeetings_16 (by decide) ?_
      refine lv_iadd hx hb dX8_countMeetings_17 ?_
      refine lv_topi (fun y_1 ey_1 => ?_)
      have ty_1 : y_1.toInt = t2.toInt + 1 := by rw [ey_1]; have := fb_addI (x := t2) (y := 1) (by omega) (by omega); omega
      refine lv_istore_n (lv' := [(3, .int y_1), (0, .ref h0), (1, .int n1), (2, .int t2)]) hx hb dX8_countMeetings_18 rfl hl (by decide) rfl (fun ls hl => ?_)
      refine (show ∀ (k : Nat) (n3 : Int32) (u3 : Int32) (vux : Int64) (vlx : Int64) (vpx : Int64) (hv0 : 0 ≤ u3.toInt) (hv1 : u3.toInt ≤ sz9.toInt) (hk_19 : (sz9.toInt - u3.toInt).toNat < k) (H : Heap) (locs : List Loc) (hP : va_P (dC, dI) vwCl (([(h0, .inr (8, [.ref n0, .ref s0, .ref s1, .ref d0, .ref o0, .int dn, .int nn, .int la, .int ne, .int wi, .ref w0, .ref e0, .ref f0, .ref t0, .ref b0, .int lm])), (n0, .inr (1, [.ref na, .int sz9])), (na, .inl (cT, 16, .inr (.inr (.inr (.inr ga))))), (w0, .inr (7, [.long vux, .long vlx, .long vpx]))] : va_W) ++ va_pl L f) H) (hD : va_D A (([(h0, .inr (8, [.ref n0, .ref s0, .ref s1, .ref d0, .ref o0, .int dn, .int nn, .int la, .int ne, .int wi, .ref w0, .ref e0, .ref f0, .ref t0, .ref b0, .int lm])), (n0, .inr (1, [.ref na, .int sz9])), (na, .inl (cT, 16, .inr (.inr (.inr (.inr ga))))), (w0, .inr (7, [.long vux, .long vlx, .long vpx]))] : va_W) ++ va_pl L f)) (hS : va_S A s.heap H locs) (ls : Array Slot) (hl : lv_has ls 4 [(0, .ref h0), (1, .int n3), (2, .int t2), (3, .int u3)]), W p l e _ s m _ below meth c H locs 0 0 _ (F0 m 19 ls []) from ?_) _ n1 y_1 vu vl vp (by omega) (by omega) (Nat.lt_succ_self _) H _ hP hD hS ls (lv_sub hl [1, 2, 3, 0] rfl)
      intro k
      induction k with
      | zero => intro n3 u3 vux vlx vpx hv0 hv1 hk_19; exact absurd hk_19 (Nat.not_lt_zero _)
      | succ k ih_19 =>
        intro n3 u3 vux vlx vpx hv0 hv1 hk_19 H locs hP hD hS ls hl
        refine lv_iload_n hx hb dX8_countMeetings_19 rfl (lv_at hl 3 rfl) ?_
        refine lv_aload_n hx hb dX8_countMeetings_20 rfl (lv_at hl 0 rfl) ?_
        refine va_get (D := (dC, dI)) (ci := 8) (v := .ref n0) (C := RX8) (T := TX8) (N := 16) hx hb hts in_X8_countMeetings_X8 hown hK hP 0 rfl rfl 0 (by decide) (hts (.fieldLink RX8 12 "MeetingsAbove" "now" "LMeetingsAbove$Catalogue;") (by decide +kernel)) (fun _ h9 => h9) rfl dX8_countMeetings_21 ?_
        refine va_get (D := (dC, dI)) (ci := 1) (v := .int sz9) (C := RX1) (T := TX1) (N := 2) hx hb hts in_X8_countMeetings_X1 hown hK hP 1 rfl rfl 1 (by decide) (hts (.fieldLink RX8 88 "MeetingsAbove$Catalogue" "size" "I") (by decide +kernel)) (fun _ h9 => h9) rfl dX8_countMeetings_24 ?_
        refine lv_icmp_ge (tgt := 48) hx hb dX8_countMeetings_27 (by decide) (fun c_27 => ?_) (fun c_27 => ?_)
        · have t_27 := (fa_le _ _).mp c_27
          obtain ⟨y_2, ey_2⟩ : ∃ y : Int32, y = t2 + 1 := ⟨_, rfl⟩
          have ty_2 : y_2.toInt = t2.toInt + 1 := by rw [ey_2]; have := fb_addI (x := t2) (y := 1) (by omega) (by omega); omega
          refine lv_iinc (v := y_2) (lv' := [(2, .int y_2), (0, .ref h0), (1, .int n3), (3, .int u3)]) hx hb dX8_countMeetings_48 hl (k := 2) rfl (by rw [ey_2]; rfl) (by decide) rfl (fun ls hl => ?_)
          refine lv_goto (tgt := 4) hx hb dX8_countMeetings_51 (by decide) ?_
          exact ih_4 n3 y_2 vux vlx vpx (by omega) (by omega) (by omega) H _ (hP.part [0, 1, 2, 3] rfl) (hD.part [0, 1, 2, 3] (by decide) rfl) hS ls (lv_sub hl [1, 2, 0] rfl)
        · have t_27 := mt (fa_le _ _).mpr c_27
          refine lv_aload_n hx hb dX8_countMeetings_30 rfl (lv_at hl 0 rfl) ?_
          refine lv_iload_n hx hb dX8_countMeetings_31 rfl (lv_at hl 2 rfl) ?_
          refine lv_iload_n hx hb dX8_countMeetings_32 rfl (lv_at hl 3 rfl) ?_
          have hPc := hP.part (cx := [(h0, .inr (8, [.ref n0, .ref s0, .ref s1, .ref d0, .ref o0, .int dn, .int nn, .int la, .int ne, .int wi, .ref w0, .ref e0, .ref f0, .ref t0, .ref b0, .int lm])), (n0, .inr (1, [.ref na, .int sz9])), (na, .inl (cT, 16, .inr (.inr (.inr (.inr ga))))), (w0, .inr (7, [.long vux, .long vlx, .long vpx]))]) [0, 1, 2, 3] rfl
          have hKc := hK.sub (tys' := [(cT, .object "MeetingsAbove$Thing"), (cI, .int)]) [0, 1] rfl
          have hDc := hD.part (cx := [(h0, .inr (8, [.ref n0, .ref s0, .ref s1, .ref d0, .ref o0, .int dn, .int nn, .int la, .int ne, .int wi, .ref w0, .ref e0, .ref f0, .ref t0, .ref b0, .int lm])), (n0, .inr (1, [.ref na, .int sz9])), (na, .inl (cT, 16, .inr (.inr (.inr (.inr ga))))), (w0, .inr (7, [.long vux, .long vlx, .long vpx]))]) [0, 1, 2, 3] (by decide) rfl
          have hFc := va_freeP (cx := [(h0, .inr (8, [.ref n0, .ref s0, .ref s1, .ref d0, .ref o0, .int dn, .int nn, .int la, .int ne, .int wi, .ref w0, .ref e0, .ref f0, .ref t0, .ref b0, .int lm])), (n0, .inr (1, [.ref na, .int sz9])), (na, .inl (cT, 16, .inr (.inr (.inr (.inr ga))))), (w0, .inr (7, [.long vux, .long vlx, .long vpx]))]) hD hS hA [0, 1, 2, 3] rfl
          refine va_calli (va_runV (As := [.int t2, .int u3]) (rest := []) ⟨hx, hb, hml, hown, hts⟩ (c_X8_doMeet l dC dI h0 n0 s0 s1 d0 o0 w0 e0 f0 t0 b0 dn nn la ne wi lm na cT sz9 ga cI L f vux vlx vpx t2 u3 H.size (by first | assumption | omega)) (cwV 2 hts g_X8_countMeetings__X8_doMeet_213 rfl rfl rfl (by decide +kernel) ⟨Nat.le_of_ble_eq_true rfl, Nat.le_of_ble_eq_true rfl⟩) ⟨fun a U g mk q => by obtain ⟨q0, q1, qP, qK, qD⟩ := q; exact ⟨q0, q1, qP, va_K.moved (u := U) (U := U.calling g mk a) (Vm.Alike.refl U.vm) qK, qD⟩, va_recv hKc hPc (ci := 8) (q0 := 0) rfl rfl, fun U hU hW => ⟨rfl, by rw [hU], by rw [hU]; exact hPc, va_K.moved hW.alike hKc, hDc.weaken (fun _ _ _ _ => trivial)⟩⟩ rfl rfl hl.1 rfl (lv_room (Nat.le_of_ble_eq_true rfl)) dX8_countMeetings_33 ⟨Nat.le_of_ble_eq_true rfl, Nat.le_of_ble_eq_true rfl⟩) hS (fun q _ h => hFc q h) hFc (fun r_4 u_3 t H1 locs ht hvm hw_4 hB hz1 hk1 hS => ?_)
          obtain ⟨wu9_5, wl9_6, wp9_7, hP1, hK1, hD1⟩ := hB
          rw [ht] at hP1
          have hK1 := va_K.moved hvm.symm hK1
          obtain ⟨hP, hD⟩ := va_joinP (wr := []) (rx := [(h0, .inr (8, [.ref n0, .ref s0, .ref s1, .ref d0, .ref o0, .int dn, .int nn, .int la, .int ne, .int wi, .ref w0, .ref e0, .ref f0, .ref t0, .ref b0, .int lm])), (n0, .inr (1, [.ref na, .int sz9])), (na, .inl (cT, 16, .inr (.inr (.inr (.inr ga))))), (w0, .inr (7, [.long wu9_5, .long wl9_6, .long wp9_7]))]) hP hD [0, 1, 2, 3] [] rfl rfl (by decide) (by decide) hk1 hFc hP1 hD1
          have hK := (hK.sub (tys' := [(cT, .object "MeetingsAbove$Thing"), (cI, .int)]) [0, 1] rfl).app hK1
          generalize H1 = H at hP hS ⊢
          have hP : va_P (dC, dI) vwCl (([(h0, .inr (8, [.ref n0, .ref s0, .ref s1, .ref d0, .ref o0, .int dn, .int nn, .int la, .int ne, .int wi, .ref w0, .ref e0, .ref f0, .ref t0, .ref b0, .int lm])), (n0, .inr (1, [.ref na, .int sz9])), (na, .inl (cT, 16, .inr (.inr (.inr (.inr ga))))), (w0, .inr (7, [.long wu9_5, .long wl9_6, .long wp9_7]))] : va_W) ++ va_pl L f) H := hP
          have hD : va_D A (([(h0, .inr (8, [.ref n0, .ref s0, .ref s1, .ref d0, .ref o0, .int dn, .int nn, .int la, .int ne, .int wi, .ref w0, .ref e0, .ref f0, .ref t0, .ref b0, .int lm])), (n0, .inr (1, [.ref na, .int sz9])), (na, .inl (cT, 16, .inr (.inr (.inr (.inr ga))))), (w0, .inr (7, [.long wu9_5, .long wl9_6, .long wp9_7]))] : va_W) ++ va_pl L f) := hD
          have hK : va_K (dC, dI) vwCl [(cT, .object "MeetingsAbove$Thing"), (cI, .int), (cT, .object "MeetingsAbove$Thing"), (cI, .int)] s := hK
          refine W.widen (k := 0) (n := 0) (by omega) (by omega) ?_
          try dsimp only at hw_4
          refine lv_if_eq (tgt := 42) hx hb dX8_countMeetings_36 (by decide) (fun c_36 => ?_) (fun c_36 => ?_)
          · have t_36 := (fa_eq _ _).mp c_36
            obtain ⟨y_8, ey_8⟩ : ∃ y : Int32, y = u3 + 1 := ⟨_, rfl⟩
            have ty_8 : y_8.toInt = u3.toInt + 1 := by rw [ey_8]; have := fb_addI (x := u3) (y := 1) (by omega) (by omega); omega
            refine lv_iinc (v := y_8) (lv' := [(3, .int y_8), (0, .ref h0), (1, .int n3), (2, .int t2)]) hx hb dX8_countMeetings_42 hl (k := 3) rfl (by rw [ey_8]; rfl) (by decide) rfl (fun ls hl => ?_)
            refine lv_goto (tgt := 19) hx hb dX8_countMeetings_45 (by decide) ?_
            exact ih_19 n3 y_8 wu9_5 wl9_6 wp9_7 (by omega) (by omega) (by omega) H _ (hP.part [0, 1, 2, 3] rfl) (hD.part [0, 1, 2, 3] (by decide) rfl) hS ls (lv_sub hl [1, 2, 3, 0] rfl)
          · have t_36 := mt (fa_eq _ _).mpr c_36
            obtain ⟨y_9, ey_9⟩ : ∃ y : Int32, y = n3 + 1 := ⟨_, rfl⟩
            refine lv_iinc (v := y_9) (lv' := [(1, .int y_9), (0, .ref h0), (2, .int t2), (3, .int u3)]) hx hb dX8_countMeetings_39 hl (k := 1) rfl (by rw [ey_9]; rfl) (by decide) rfl (fun ls hl => ?_)
            obtain ⟨y_10, ey_10⟩ : ∃ y : Int32, y = u3 + 1 := ⟨_, rfl⟩
            have ty_10 : y_10.toInt = u3.toInt + 1 := by rw [ey_10]; have := fb_addI (x := u3) (y := 1) (by omega) (by omega); omega
            refine lv_iinc (v := y_10) (lv' := [(3, .int y_10), (1, .int y_9), (0, .ref h0), (2, .int t2)]) hx hb dX8_countMeetings_42 hl (k := 3) rfl (by rw [ey_10]; rfl) (by decide) rfl (fun ls hl => ?_)
            refine lv_goto (tgt := 19) hx hb dX8_countMeetings_45 (by decide) ?_
            exact ih_19 y_9 y_10 wu9_5 wl9_6 wp9_7 (by omega) (by omega) (by omega) H _ (hP.part [0, 1, 2, 3] rfl) (hD.part [0, 1, 2, 3] (by decide) rfl) hS ls (lv_sub hl [2, 1, 3, 0] rfl)
def wk_X8_meeting : List Cond := .code yX8_meeting cX8_meeting 6 (some .int) :: (([.fieldLink RX8 12 "MeetingsAbove" "now" "LMeetingsAbove$Catalogue;", .fieldLink RX8 88 "MeetingsAbove$Catalogue" "size" "I", .constant RX8 87 (-100002)] : List Cond) ++ (wsX80 ++ (wsX10 ++ ((va_wsS RX8 84 yX8_isWithin wk_X8_isWithin) ++ ((wsV RX8 213 RX8 yX8_doMeet wk_X8_doMeet) ++ ([]))))))
theorem in_X8_meeting_X1 : ∀ w ∈ wsX10, w ∈ wk_X8_meeting := fun _ h => List.mem_cons_of_mem _ (List.mem_append_right _ (List.mem_append_right _ (List.mem_append_left _ h)))
theorem in_X8_meeting_X8 : ∀ w ∈ wsX80, w ∈ wk_X8_meeting := fun _ h => List.mem_cons_of_mem _ (List.mem_append_right _ (List.mem_append_left _ h))
theorem gw_X8_meeting : AG wk_X8_meeting := AG_ca (AG_l (by decide +kernel)) (AG_app ag_X8 (AG_app ag_X1 (AG_app (AG_S gw_X8_isWithin) (AG_app (AG_V gw_X8_doMeet) (AG_nil)))))
theorem g_X8_meeting__X8_isWithin_84 : GoodIn wk_X8_meeting (va_wsS RX8 84 yX8_isWithin wk_X8_isWithin) := goodIn_m (fun _ h => List.mem_cons_of_mem _ (List.mem_append_right _ (List.mem_append_right _ (List.mem_append_right _ (List.mem_append_left _ h))))) (AG_S gw_X8_isWithin)
theorem g_X8_meeting__X8_doMeet_213 : GoodIn wk_X8_meeting (wsV RX8 213 RX8 yX8_doMeet wk_X8_doMeet) := goodIn_m (fun _ h => List.mem_cons_of_mem _ (List.mem_append_right _ (List.mem_append_right _ (List.mem_append_right _ (List.mem_append_right _ (List.mem_append_left _ h)))))) (AG_V gw_X8_doMeet)
set_option maxHeartbeats 4000000 in
set_option maxRecDepth 100000 in
theorem c_X8_meeting (l : Launch) (dC : Nat → ClassId) (dI : Nat → Nat → Nat) (h0 : Nat) (n0 : Nat) (s0 : Nat) (s1 : Nat) (d0 : Nat) (o0 : Nat) (w0 : Nat) (e0 : Nat) (f0 : Nat) (t0 : Nat) (b0 : Nat) (dn : Int32) (nn : Int32) (la : Int32) (ne : Int32) (wi : Int32) (lm : Int32) (na : Nat) (cT : ClassId) (sz9 : Int32) (ga : Nat → Option Nat) (cI : ClassId) (L : List Nat) (f : Nat → va_E) (wu : Int64) (wl : Int64) (wp : Int64) (p1 : Int32) (p2 : Int32) (sz : Nat) (hC : catOK L f cI sz9 ga) : Met l yX8_meeting wk_X8_meeting ({ frames := 4, cells := 0, slots := 0, locals := 111 }) (va_Pc [.ref h0, .int p1, .int p2] (fun U => U.heap.size = sz ∧ va_P (dC, dI) vwCl (([(h0, .inr (8, [.ref n0, .ref s0, .ref s1, .ref d0, .ref o0, .int dn, .int nn, .int la, .int ne, .int wi, .ref w0, .ref e0, .ref f0, .ref t0, .ref b0, .int lm])), (n0, .inr (1, [.ref na, .int sz9])), (na, .inl (cT, 16, .inr (.inr (.inr (.inr ga))))), (w0, .inr (7, [.long wu, .long wl, .long wp]))] : va_W) ++ va_pl L f) U.heap ∧ va_K (dC, dI) vwCl [(cT, .object "MeetingsAbove$Thing"), (cI, .int)] U ∧ va_D (fun _ => True) (([(h0, .inr (8, [.ref n0, .ref s0, .ref s1, .ref d0, .ref o0, .int dn, .int nn, .int la, .int ne, .int wi, .ref w0, .ref e0, .ref f0, .ref t0, .ref b0, .int lm])), (n0, .inr (1, [.ref na, .int sz9])), (na, .inl (cT, 16, .inr (.inr (.inr (.inr ga))))), (w0, .inr (7, [.long wu, .long wl, .long wp]))] : va_W) ++ va_pl L f))) (va_Qi (fun (r : Int32) (_ : Unit) => True) (fun (_ : Unit) (t : State) => ∃ (wu9 : Int64) (wl9 : Int64) (wp9 : Int64), va_P (dC, dI) vwCl (([(h0, .inr (8, [.ref n0, .ref s0, .ref s1, .ref d0, .ref o0, .int dn, .int nn, .int la, .int ne, .int wi, .ref w0, .ref e0, .ref f0, .ref t0, .ref b0, .int lm])), (n0, .inr (1, [.ref na, .int sz9])), (na, .inl (cT, 16, .inr (.inr (.inr (.inr ga))))), (w0, .inr (7, [.long wu9, .long wl9, .long wp9]))] : va_W) ++ va_pl L f) t.heap ∧ va_K (dC, dI) vwCl [(cT, .object "MeetingsAbove$Thing"), (cI, .int)] t ∧ va_D (va_A (([(h0, .inr (8, [.ref n0, .ref s0, .ref s1, .ref d0, .ref o0, .int dn, .int nn, .int la, .int ne, .int wi, .ref w0, .ref e0, .ref f0, .ref t0, .ref b0, .int lm])), (n0, .inr (1, [.ref na, .int sz9])), (na, .inl (cT, 16, .inr (.inr (.inr (.inr ga))))), (w0, .inr (7, [.long wu, .long wl, .long wp]))] : va_W) ++ va_pl L f) sz) (([(h0, .inr (8, [.ref n0, .ref s0, .ref s1, .ref d0, .ref o0, .int dn, .int nn, .int la, .int ne, .int wi, .ref w0, .ref e0, .ref f0, .ref t0, .ref b0, .int lm])), (n0, .inr (1, [.ref na, .int sz9])), (na, .inl (cT, 16, .inr (.inr (.inr (.inr ga))))), (w0, .inr (7, [.long wu9, .long wl9, .long wp9]))] : va_W) ++ va_pl L f)) (va_A (([(h0, .inr (8, [.ref n0, .ref s0, .ref s1, .ref d0, .ref o0, .int dn, .int nn, .int la, .int ne, .int wi, .ref w0, .ref e0, .ref f0, .ref t0, .ref b0, .int lm])), (n0, .inr (1, [.ref na, .int sz9])), (na, .inl (cT, 16, .inr (.inr (.inr (.inr ga))))), (w0, .inr (7, [.long wu, .long wl, .long wp]))] : va_W) ++ va_pl L f) sz)) 0 0 (va_A (([(h0, .inr (8, [.ref n0, .ref s0, .ref s1, .ref d0, .ref o0, .int dn, .int nn, .int la, .int ne, .int wi, .ref w0, .ref e0, .ref f0, .ref t0, .ref b0, .int lm])), (n0, .inr (1, [.ref na, .int sz9])), (na, .inl (cT, 16, .inr (.inr (.inr (.inr ga))))), (w0, .inr (7, [.long wu, .long wl, .long wp]))] : va_W) ++ va_pl L f) sz) := by
  refine Met.ofW (cc := cX8_meeting) (maxL := 6) (ret := (some .int)) (by decide) rfl ?_
  intro p e s m args below meth c s₁ B hml hv
  obtain ⟨rfl, hsz, hP, hK, hD0⟩ := hv
  have hx := B.exec
  have hb := B.bytes
  have hr := B.returns
  have hts := atoms_spec (ws := wk_X8_meeting) B.pre
  have hown : s.vm.findClass RX8 = some m.cls := findClass_of_methodNamed B.named
  have hlocks := B.notSynchronized
  subst hsz
  have hD := hD0.self (sz := s.heap.size)
  generalize hAe : va_A (([(h0, .inr (8, [.ref n0, .ref s0, .ref s1, .ref d0, .ref o0, .int dn, .int nn, .int la, .int ne, .int wi, .ref w0, .ref e0, .ref f0, .ref t0, .ref b0, .int lm])), (n0, .inr (1, [.ref na, .int sz9])), (na, .inl (cT, 16, .inr (.inr (.inr (.inr ga))))), (w0, .inr (7, [.long wu, .long wl, .long wp]))] : va_W) ++ va_pl L f) s.heap.size = A at hD ⊢
  have hA : ∀ q : Nat, s.heap.size ≤ q → A q := fun q h => by rw [← hAe]; exact Or.inr h
  have hS : va_S A s.heap s.heap [] := va_S.rf
  have hP : va_P (dC, dI) vwCl (([(h0, .inr (8, [.ref n0, .ref s0, .ref s1, .ref d0, .ref o0, .int dn, .int nn, .int la, .int ne, .int wi, .ref w0, .ref e0, .ref f0, .ref t0, .ref b0, .int lm])), (n0, .inr (1, [.ref na, .int sz9])), (na, .inl (cT, 16, .inr (.inr (.inr (.inr ga))))), (w0, .inr (7, [.long wu, .long wl, .long wp]))] : va_W) ++ va_pl L f) s.heap := hP
  have hl := lv_entry ([.ref h0, .int p1, .int p2]) (n := 6) (Nat.le_of_ble_eq_true rfl)
  rw [lg_entry_eq]
  generalize (lg_sl ([.ref h0, .int p1, .int p2]) ++ List.replicate (6 - (lg_sl ([.ref h0, .int p1, .int p2])).length) Slot.unset).toArray = ls at hl ⊢
  have hl : lv_has ls 6 [(0, .ref h0), (1, .int p1), (2, .int p2)] := hl
  have kl_m100002 : (-100002 : Int32).toInt = -100002 := by decide
  have kl_m1 : (-1 : Int32).toInt = -1 := by decide
  have kl_0 : (0 : Int32).toInt = 0 := by decide
  have kl_1 : (1 : Int32).toInt = 1 := by decide
  obtain ⟨hC0, hC1, hC2⟩ := id hC
  refine lv_iload_n hx hb dX8_meeting_0 rfl (lv_at hl 2 rfl) ?_
  refine lv_iconst (v := 0) hx hb dX8_meeting_1 (by decide) ?_
  refine lv_iconst (v := 1) hx hb dX8_meeting_2 (by decide) ?_
  refine vp_callSi (W.runS (As := [.int p2, .int 0, .int 1]) (rest := []) ⟨hx, hb, hml, hown, hts⟩ (c_X8_isWithin l dC dI p2 0 1) (va_cwS 3 hts g_X8_meeting__X8_isWithin_84 rfl rfl rfl (by decide +kernel) ⟨Nat.le_of_ble_eq_true rfl, Nat.le_of_ble_eq_true rfl⟩) ⟨fun a U g mk q => by obtain ⟨q0, q1⟩ := q; exact ⟨q0, q1⟩, fun U hU hW => ⟨rfl, trivial⟩⟩ rfl rfl hl.1 rfl (lv_room (Nat.le_of_ble_eq_true rfl)) dX8_meeting_3 ⟨Nat.le_of_ble_eq_true rfl, Nat.le_of_ble_eq_true rfl⟩) (fun r_1 hr_1 => ?_)
  try dsimp only at hr_1
  rcases bo_split hr_1 with ⟨rfl, q_3⟩ | ⟨rfl, q_3⟩
  · refine lv_if_ne (tgt := 12) hx hb dX8_meeting_6 (by decide) (fun _ => ?_) (fun h9 => absurd h9 (by decide))
    refine lv_iconst (v := 0) hx hb dX8_meeting_12 (by decide) ?_
    refine lv_istore_n (lv' := [(3, .int 0), (0, .ref h0), (1, .int p1), (2, .int p2)]) hx hb dX8_meeting_13 rfl hl (by decide) rfl (fun ls hl => ?_)
    refine lv_iconst (v := 0) hx hb dX8_meeting_14 (by decide) ?_
    refine lv_istore (lv' := [(4, .int 0), (3, .int 0), (0, .ref h0), (1, .int p1), (2, .int p2)]) hx hb dX8_meeting_15 hl (by decide) rfl (fun ls hl => ?_)
    refine (show ∀ (k : Nat) (n3 : Int32) (t4 : Int32) (vu : Int64) (vl : Int64) (vp : Int64) (hk0 : 0 ≤ t4.toInt) (hk1 : t4.toInt ≤ sz9.toInt) (hk_17 : (sz9.toInt - t4.toInt).toNat < k) (H : Heap) (locs : List Loc) (hP : va_P (dC, dI) vwCl (([(h0, .inr (8, [.ref n0, .ref s0, .ref s1, .ref d0, .ref o0, .int dn, .int nn, .int la, .int ne, .int wi, .ref w0, .ref e0, .ref f0, .ref t0, .ref b0, .int lm])), (n0, .inr (1, [.ref na, .int sz9])), (na, .inl (cT, 16, .inr (.inr (.inr (.inr ga))))), (w0, .inr (7, [.long vu, .long vl, .long vp]))] : va_W) ++ va_pl L f) H) (hD : va_D A (([(h0, .inr (8, [.ref n0, .ref s0, .ref s1, .ref d0, .ref o0, .int dn, .int nn, .int la, .int ne, .int wi, .ref w0, .ref e0, .ref f0, .ref t0, .ref b0, .int lm])), (n0, .inr (1, [.ref na, .int sz9])), (na, .inl (cT, 16, .inr (.inr (.inr (.inr ga))))), (w0, .inr (7, [.long vu, .long vl, .long vp]))] : va_W) ++ va_pl L f)) (hS : va_S A s.heap H locs) (ls : Array Slot) (hl : lv_has ls 6 [(0, .ref h0), (1, .int p1), (2, .int p2), (3, .int n3), (4, .int t4)]), W p l e _ s m _ below meth c H locs 0 0 _ (F0 m 17 ls []) from ?_) _ 0 0 wu wl wp (by omega) (by omega) (Nat.lt_succ_self _) _ _ hP hD hS ls (lv_sub hl [2, 3, 4, 1, 0] rfl)
    intro k
    induction k with
    | zero => intro n3 t4 vu vl vp hk0 hk1 hk_17; exact absurd hk_17 (Nat.not_lt_zero _)
    | succ k ih_17 =>
      intro n3 t4 vu vl vp hk0 hk1 hk_17 H locs hP hD hS ls hl
      refine lv_iload hx hb dX8_meeting_17 (lv_at hl 4 rfl) ?_
      refine lv_aload_n hx hb dX8_meeting_19 rfl (lv_at hl 0 rfl) ?_
      refine va_get (D := (dC, dI)) (ci := 8) (v := .ref n0) (C := RX8) (T := TX8) (N := 16) hx hb hts in_X8_meeting_X8 hown hK hP 0 rfl rfl 0 (by decide) (hts (.fieldLink RX8 12 "MeetingsAbove" "now" "LMeetingsAbove$Catalogue;") (by decide +kernel)) (fun _ h9 => h9) rfl dX8_meeting_20 ?_
      refine va_get (D := (dC, dI)) (ci := 1) (v := .int sz9) (C := RX1) (T := TX1) (N := 2) hx hb hts in_X8_meeting_X1 hown hK hP 1 rfl rfl 1 (by decide) (hts (.fieldLink RX8 88 "MeetingsAbove$Catalogue" "size" "I") (by decide +kernel)) (fun _ h9 => h9) rfl dX8_meeting_23 ?_
      refine lv_icmp_ge (tgt := 90) hx hb dX8_meeting_26 (by decide) (fun c_26 => ?_) (fun c_26 => ?_)
      · have t_26 := (fa_le _ _).mp c_26
        refine lv_iconst (v := (-1)) hx hb dX8_meeting_90 (by decide) ?_
        have hP9 := hP.part (cx := [(h0, .inr (8, [.ref n0, .ref s0, .ref s1, .ref d0, .ref o0, .int dn, .int nn, .int la, .int ne, .int wi, .ref w0, .ref e0, .ref f0, .ref t0, .ref b0, .int lm])), (n0, .inr (1, [.ref na, .int sz9])), (na, .inl (cT, 16, .inr (.inr (.inr (.inr ga))))), (w0, .inr (7, [.long vu, .long vl, .long vp]))]) [0, 1, 2, 3] rfl
        have hD9 := hD.part (cx := [(h0, .inr (8, [.ref n0, .ref s0, .ref s1, .ref d0, .ref o0, .int dn, .int nn, .int la, .int ne, .int wi, .ref w0, .ref e0, .ref f0, .ref t0, .ref b0, .int lm])), (n0, .inr (1, [.ref na, .int sz9])), (na, .inl (cT, 16, .inr (.inr (.inr (.inr ga))))), (w0, .inr (7, [.long vu, .long vl, .long vp]))]) [0, 1, 2, 3] (by decide) rfl
        have hK9 := hK.sub (tys' := [(cT, .object "MeetingsAbove$Thing"), (cI, .int)]) [0, 1] rfl
        refine W.widen (k := 0) (n := 0) (by omega) (by omega) ?_
        exact W.iret (v := (-1)) hx hb hr (fun t ht hW => ⟨⟨_, (), rfl, trivial, vu, vl, vp, by rw [ht]; exact hP9, va_K.moved hW.alike hK9, hD9⟩, hS.F ht⟩) hS.2.2 dX8_meeting_91
      · have t_26 := mt (fa_le _ _).mpr c_26
        refine lv_iload hx hb dX8_meeting_29 (lv_at hl 4 rfl) ?_
        refine lv_iconst (v := 1) hx hb dX8_meeting_31 (by decide) ?_
        refine lv_iadd hx hb dX8_meeting_32 ?_
        refine lv_topi (fun y_2 ey_2 => ?_)
        have ty_2 : y_2.toInt = t4.toInt + 1 := by rw [ey_2]; have := fb_addI (x := t4) (y := 1) (by omega) (by omega); omega
        refine lv_istore (lv' := [(5, .int y_2), (0, .ref h0), (1, .int p1), (2, .int p2), (3, .int n3), (4, .int t4)]) hx hb dX8_meeting_33 hl (by decide) rfl (fun ls hl => ?_)
        refine (show ∀ (k : Nat) (n4 : Int32) (u5 : Int32) (vux : Int64) (vlx : Int64) (vpx : Int64) (hv0 : 0 ≤ u5.toInt) (hv1 : u5.toInt ≤ sz9.toInt) (hk_35 : (sz9.toInt - u5.toInt).toNat < k) (H : Heap) (locs : List Loc) (hP : va_P (dC, dI) vwCl (([(h0, .inr (8, [.ref n0, .ref s0, .ref s1, .ref d0, .ref o0, .int dn, .int nn, .int la, .int ne, .int wi, .ref w0, .ref e0, .ref f0, .ref t0, .ref b0, .int lm])), (n0, .inr (1, [.ref na, .int sz9])), (na, .inl (cT, 16, .inr (.inr (.inr (.inr ga))))), (w0, .inr (7, [.long vux, .long vlx, .long vpx]))] : va_W) ++ va_pl L f) H) (hD : va_D A (([(h0, .inr (8, [.ref n0, .ref s0, .ref s1, .ref d0, .ref o0, .int dn, .int nn, .int la, .int ne, .int wi, .ref w0, .ref e0, .ref f0, .ref t0, .ref b0, .int lm])), (n0, .inr (1, [.ref na, .int sz9])), (na, .inl (cT, 16, .inr (.inr (.inr (.inr ga))))), (w0, .inr (7, [.long vux, .long vlx, .long vpx]))] : va_W) ++ va_pl L f)) (hS : va_S A s.heap H locs) (ls : Array Slot) (hl : lv_has ls 6 [(0, .ref h0), (1, .int p1), (2, .int p2), (3, .int n4), (4, .int t4), (5, .int u5)]), W p l e _ s m _ below meth c H locs 0 0 _ (F0 m 35 ls []) from ?_) _ n3 y_2 vu vl vp (by omega) (by omega) (Nat.lt_succ_self _) H _ hP hD hS ls (lv_sub hl [1, 2, 3, 4, 5, 0] rfl)
        intro k
        induction k with
        | zero => intro n4 u5 vux vlx vpx hv0 hv1 hk_35; exact absurd hk_35 (Nat.not_lt_zero _)
        | succ k ih_35 =>
          intro n4 u5 vux vlx vpx hv0 hv1 hk_35 H locs hP hD hS ls hl
          refine lv_iload hx hb dX8_meeting_35 (lv_at hl 5 rfl) ?_
          refine lv_aload_n hx hb dX8_meeting_37 rfl (lv_at hl 0 rfl) ?_
          refine va_get (D := (dC, dI)) (ci := 8) (v := .ref n0) (C := RX8) (T := TX8) (N := 16) hx hb hts in_X8_meeting_X8 hown hK hP 0 rfl rfl 0 (by decide) (hts (.fieldLink RX8 12 "MeetingsAbove" "now" "LMeetingsAbove$Catalogue;") (by decide +kernel)) (fun _ h9 => h9) rfl dX8_meeting_38 ?_
          refine va_get (D := (dC, dI)) (ci := 1) (v := .int sz9) (C := RX1) (T := TX1) (N := 2) hx hb hts in_X8_meeting_X1 hown hK hP 1 rfl rfl 1 (by decide) (hts (.fieldLink RX8 88 "MeetingsAbove$Catalogue" "size" "I") (by decide +kernel)) (fun _ h9 => h9) rfl dX8_meeting_41 ?_
          refine lv_icmp_ge (tgt := 84) hx hb dX8_meeting_44 (by decide) (fun c_44 => ?_) (fun c_44 => ?_)
          · have t_44 := (fa_le _ _).mp c_44
            obtain ⟨y_3, ey_3⟩ : ∃ y : Int32, y = t4 + 1 := ⟨_, rfl⟩
            have ty_3 : y_3.toInt = t4.toInt + 1 := by rw [ey_3]; have := fb_addI (x := t4) (y := 1) (by omega) (by omega); omega
            refine lv_iinc (v := y_3) (lv' := [(4, .int y_3), (0, .ref h0), (1, .int p1), (2, .int p2), (3, .int n4), (5, .int u5)]) hx hb dX8_meeting_84 hl (k := 4) rfl (by rw [ey_3]; rfl) (by decide) rfl (fun ls hl => ?_)
            refine lv_goto (tgt := 17) hx hb dX8_meeting_87 (by decide) ?_
            exact ih_17 n4 y_3 vux vlx vpx (by omega) (by omega) (by omega) H _ (hP.part [0, 1, 2, 3] rfl) (hD.part [0, 1, 2, 3] (by decide) rfl) hS ls (lv_sub hl [1, 2, 3, 4, 0] rfl)
          · have t_44 := mt (fa_le _ _).mpr c_44
            refine lv_aload_n hx hb dX8_meeting_47 rfl (lv_at hl 0 rfl) ?_
            refine lv_iload hx hb dX8_meeting_48 (lv_at hl 4 rfl) ?_
            refine lv_iload hx hb dX8_meeting_50 (lv_at hl 5 rfl) ?_
            have hPc := hP.part (cx := [(h0, .inr (8, [.ref n0, .ref s0, .ref s1, .ref d0, .ref o0, .int dn, .int nn, .int la, .int ne, .int wi, .ref w0, .ref e0, .ref f0, .ref t0, .ref b0, .int lm])), (n0, .inr (1, [.ref na, .int sz9])), (na, .inl (cT, 16, .inr (.inr (.inr (.inr ga))))), (w0, .inr (7, [.long vux, .long vlx, .long vpx]))]) [0, 1, 2, 3] rfl
            have hKc := hK.sub (tys' := [(cT, .object "MeetingsAbove$Thing"), (cI, .int)]) [0, 1] rfl
            have hDc := hD.part (cx := [(h0, .inr (8, [.ref n0, .ref s0, .ref s1, .ref d0, .ref o0, .int dn, .int nn, .int la, .int ne, .int wi, .ref w0, .ref e0, .ref f0, .ref t0, .ref b0, .int lm])), (n0, .inr (1, [.ref na, .int sz9])), (na, .inl (cT, 16, .inr (.inr (.inr (.inr ga))))), (w0, .inr (7, [.long vux, .long vlx, .long vpx]))]) [0, 1, 2, 3] (by decide) rfl
            have hFc := va_freeP (cx := [(h0, .inr (8, [.ref n0, .ref s0, .ref s1, .ref d0, .ref o0, .int dn, .int nn, .int la, .int ne, .int wi, .ref w0, .ref e0, .ref f0, .ref t0, .ref b0, .int lm])), (n0, .inr (1, [.ref na, .int sz9])), (na, .inl (cT, 16, .inr (.inr (.inr (.inr ga))))), (w0, .inr (7, [.long vux, .long vlx, .long vpx]))]) hD hS hA [0, 1, 2, 3] rfl
            refine va_calli (va_runV (As := [.int t4, .int u5]) (rest := []) ⟨hx, hb, hml, hown, hts⟩ (c_X8_doMeet l dC dI h0 n0 s0 s1 d0 o0 w0 e0 f0 t0 b0 dn nn la ne wi lm na cT sz9 ga cI L f vux vlx vpx t4 u5 H.size (by first | assumption | omega)) (cwV 2 hts g_X8_meeting__X8_doMeet_213 rfl rfl rfl (by decide +kernel) ⟨Nat.le_of_ble_eq_true rfl, Nat.le_of_ble_eq_true rfl⟩) ⟨fun a U g mk q => by obtain ⟨q0, q1, qP, qK, qD⟩ := q; exact ⟨q0, q1, qP, va_K.moved (u := U) (U := U.calling g mk a) (Vm.Alike.refl U.vm) qK, qD⟩, va_recv hKc hPc (ci := 8) (q0 := 0) rfl rfl, fun U hU hW => ⟨rfl, by rw [hU], by rw [hU]; exact hPc, va_K.moved hW.alike hKc, hDc.weaken (fun _ _ _ _ => trivial)⟩⟩ rfl rfl hl.1 rfl (lv_room (Nat.le_of_ble_eq_true rfl)) dX8_meeting_52 ⟨Nat.le_of_ble_eq_true rfl, Nat.le_of_ble_eq_true rfl⟩) hS (fun q _ h => hFc q h) hFc (fun r_5 u_4 t H1 locs ht hvm hw_5 hB hz1 hk1 hS => ?_)
            obtain ⟨wu9_6, wl9_7, wp9_8, hP1, hK1, hD1⟩ := hB
            rw [ht] at hP1
            have hK1 := va_K.moved hvm.symm hK1
            obtain ⟨hP, hD⟩ := va_joinP (wr := []) (rx := [(h0, .inr (8, [.ref n0, .ref s0, .ref s1, .ref d0, .ref o0, .int dn, .int nn, .int la, .int ne, .int wi, .ref w0, .ref e0, .ref f0, .ref t0, .ref b0, .int lm])), (n0, .inr (1, [.ref na, .int sz9])), (na, .inl (cT, 16, .inr (.inr (.inr (.inr ga))))), (w0, .inr (7, [.long wu9_6, .long wl9_7, .long wp9_8]))]) hP hD [0, 1, 2, 3] [] rfl rfl (by decide) (by decide) hk1 hFc hP1 hD1
            have hK := (hK.sub (tys' := [(cT, .object "MeetingsAbove$Thing"), (cI, .int)]) [0, 1] rfl).app hK1
            generalize H1 = H at hP hS ⊢
            have hP : va_P (dC, dI) vwCl (([(h0, .inr (8, [.ref n0, .ref s0, .ref s1, .ref d0, .ref o0, .int dn, .int nn, .int la, .int ne, .int wi, .ref w0, .ref e0, .ref f0, .ref t0, .ref b0, .int lm])), (n0, .inr (1, [.ref na, .int sz9])), (na, .inl (cT, 16, .inr (.inr (.inr (.inr ga))))), (w0, .inr (7, [.long wu9_6, .long wl9_7, .long wp9_8]))] : va_W) ++ va_pl L f) H := hP
            have hD : va_D A (([(h0, .inr (8, [.ref n0, .ref s0, .ref s1, .ref d0, .ref o0, .int dn, .int nn, .int la, .int ne, .int wi, .ref w0, .ref e0, .ref f0, .ref t0, .ref b0, .int lm])), (n0, .inr (1, [.ref na, .int sz9])), (na, .inl (cT, 16, .inr (.inr (.inr (.inr ga))))), (w0, .inr (7, [.long wu9_6, .long wl9_7, .long wp9_8]))] : va_W) ++ va_pl L f) := hD
            have hK : va_K (dC, dI) vwCl [(cT, .object "MeetingsAbove$Thing"), (cI, .int), (cT, .object "MeetingsAbove$Thing"), (cI, .int)] s := hK
            refine W.widen (k := 0) (n := 0) (by omega) (by omega) ?_
            try dsimp only at hw_5
            refine lv_if_eq (tgt := 78) hx hb dX8_meeting_55 (by decide) (fun c_55 => ?_) (fun c_55 => ?_)
            · have t_55 := (fa_eq _ _).mp c_55
              obtain ⟨y_9, ey_9⟩ : ∃ y : Int32, y = u5 + 1 := ⟨_, rfl⟩
              have ty_9 : y_9.toInt = u5.toInt + 1 := by rw [ey_9]; have := fb_addI (x := u5) (y := 1) (by omega) (by omega); omega
              refine lv_iinc (v := y_9) (lv' := [(5, .int y_9), (0, .ref h0), (1, .int p1), (2, .int p2), (3, .int n4), (4, .int t4)]) hx hb dX8_meeting_78 hl (k := 5) rfl (by rw [ey_9]; rfl) (by decide) rfl (fun ls hl => ?_)
              refine lv_goto (tgt := 35) hx hb dX8_meeting_81 (by decide) ?_
              exact ih_35 n4 y_9 wu9_6 wl9_7 wp9_8 (by omega) (by omega) (by omega) H _ (hP.part [0, 1, 2, 3] rfl) (hD.part [0, 1, 2, 3] (by decide) rfl) hS ls (lv_sub hl [1, 2, 3, 4, 5, 0] rfl)
            · have t_55 := mt (fa_eq _ _).mpr c_55
              refine lv_iload_n hx hb dX8_meeting_58 rfl (lv_at hl 3 rfl) ?_
              refine lv_iload_n hx hb dX8_meeting_59 rfl (lv_at hl 1 rfl) ?_
              refine lv_icmp_ne (tgt := 75) hx hb dX8_meeting_60 (by decide) (fun c_60 => ?_) (fun c_60 => ?_)
              · have t_60 := mt (fa_eq _ _).mpr c_60
                obtain ⟨y_10, ey_10⟩ : ∃ y : Int32, y = n4 + 1 := ⟨_, rfl⟩
                refine lv_iinc (v := y_10) (lv' := [(3, .int y_10), (0, .ref h0), (1, .int p1), (2, .int p2), (4, .int t4), (5, .int u5)]) hx hb dX8_meeting_75 hl (k := 3) rfl (by rw [ey_10]; rfl) (by decide) rfl (fun ls hl => ?_)
                obtain ⟨y_11, ey_11⟩ : ∃ y : Int32, y = u5 + 1 := ⟨_, rfl⟩
                have ty_11 : y_11.toInt = u5.toInt + 1 := by rw [ey_11]; have := fb_addI (x := u5) (y := 1) (by omega) (by omega); omega
                refine lv_iinc (v := y_11) (lv' := [(5, .int y_11), (3, .int y_10), (0, .ref h0), (1, .int p1), (2, .int p2), (4, .int t4)]) hx hb dX8_meeting_78 hl (k := 5) rfl (by rw [ey_11]; rfl) (by decide) rfl (fun ls hl => ?_)
                refine lv_goto (tgt := 35) hx hb dX8_meeting_81 (by decide) ?_
                exact ih_35 y_10 y_11 wu9_6 wl9_7 wp9_8 (by omega) (by omega) (by omega) H _ (hP.part [0, 1, 2, 3] rfl) (hD.part [0, 1, 2, 3] (by decide) rfl) hS ls (lv_sub hl [2, 3, 4, 1, 5, 0] rfl)
              · have t_60 := (fa_eq _ _).mp c_60
                refine lv_iload_n hx hb dX8_meeting_63 rfl (lv_at hl 2 rfl) ?_
                refine lv_if_ne (tgt := 72) hx hb dX8_meeting_64 (by decide) (fun c_64 => ?_) (fun c_64 => ?_)
                · have t_64 := mt (fa_eq _ _).mpr c_64
                  refine lv_iload hx hb dX8_meeting_72 (lv_at hl 5 rfl) ?_
                  have hP9 := hP.part (cx := [(h0, .inr (8, [.ref n0, .ref s0, .ref s1, .ref d0, .ref o0, .int dn, .int nn, .int la, .int ne, .int wi, .ref w0, .ref e0, .ref f0, .ref t0, .ref b0, .int lm])), (n0, .inr (1, [.ref na, .int sz9])), (na, .inl (cT, 16, .inr (.inr (.inr (.inr ga))))), (w0, .inr (7, [.long wu9_6, .long wl9_7, .long wp9_8]))]) [0, 1, 2, 3] rfl
                  have hD9 := hD.part (cx := [(h0, .inr (8, [.ref n0, .ref s0, .ref s1, .ref d0, .ref o0, .int dn, .int nn, .int la, .int ne, .int wi, .ref w0, .ref e0, .ref f0, .ref t0, .ref b0, .int lm])), (n0, .inr (1, [.ref na, .int sz9])), (na, .inl (cT, 16, .inr (.inr (.inr (.inr ga))))), (w0, .inr (7, [.long wu9_6, .long wl9_7, .long wp9_8]))]) [0, 1, 2, 3] (by decide) rfl
                  have hK9 := hK.sub (tys' := [(cT, .object "MeetingsAbove$Thing"), (cI, .int)]) [0, 1] rfl
                  refine W.widen (k := 0) (n := 0) (by omega) (by omega) ?_
                  exact W.iret (v := u5) hx hb hr (fun t ht hW => ⟨⟨_, (), rfl, trivial, wu9_6, wl9_7, wp9_8, by rw [ht]; exact hP9, va_K.moved hW.alike hK9, hD9⟩, hS.F ht⟩) hS.2.2 dX8_meeting_74
                · have t_64 := (fa_eq _ _).mp c_64
                  refine lv_iload hx hb dX8_meeting_67 (lv_at hl 4 rfl) ?_
                  refine lv_goto (tgt := 74) hx hb dX8_meeting_69 (by decide) ?_
                  have hP9 := hP.part (cx := [(h0, .inr (8, [.ref n0, .ref s0, .ref s1, .ref d0, .ref o0, .int dn, .int nn, .int la, .int ne, .int wi, .ref w0, .ref e0, .ref f0, .ref t0, .ref b0, .int lm])), (n0, .inr (1, [.ref na, .int sz9])), (na, .inl (cT, 16, .inr (.inr (.inr (.inr ga))))), (w0, .inr (7, [.long wu9_6, .long wl9_7, .long wp9_8]))]) [0, 1, 2, 3] rfl
                  have hD9 := hD.part (cx := [(h0, .inr (8, [.ref n0, .ref s0, .ref s1, .ref d0, .ref o0, .int dn, .int nn, .int la, .int ne, .int wi, .ref w0, .ref e0, .ref f0, .ref t0, .ref b0, .int lm])), (n0, .inr (1, [.ref na, .int sz9])), (na, .inl (cT, 16, .inr (.inr (.inr (.inr ga))))), (w0, .inr (7, [.long wu9_6, .long wl9_7, .long wp9_8]))]) [0, 1, 2, 3] (by decide) rfl
                  have hK9 := hK.sub (tys' := [(cT, .object "MeetingsAbove$Thing"), (cI, .int)]) [0, 1] rfl
                  refine W.widen (k := 0) (n := 0) (by omega) (by omega) ?_
                  exact W.iret (v := t4) hx hb hr (fun t ht hW => ⟨⟨_, (), rfl, trivial, wu9_6, wl9_7, wp9_8, by rw [ht]; exact hP9, va_K.moved hW.alike hK9, hD9⟩, hS.F ht⟩) hS.2.2 dX8_meeting_74
  · refine lv_if_ne (tgt := 12) hx hb dX8_meeting_6 (by decide) (fun h9 => absurd h9 (by decide)) (fun _ => ?_)
    refine lv_ldc hx hb hown (hts (.constant RX8 87 (-100002)) (by decide +kernel)) dX8_meeting_9 ?_
    have hP9 := hP.part (cx := [(h0, .inr (8, [.ref n0, .ref s0, .ref s1, .ref d0, .ref o0, .int dn, .int nn, .int la, .int ne, .int wi, .ref w0, .ref e0, .ref f0, .ref t0, .ref b0, .int lm])), (n0, .inr (1, [.ref na, .int sz9])), (na, .inl (cT, 16, .inr (.inr (.inr (.inr ga))))), (w0, .inr (7, [.long wu, .long wl, .long wp]))]) [0, 1, 2, 3] rfl
    have hD9 := hD.part (cx := [(h0, .inr (8, [.ref n0, .ref s0, .ref s1, .ref d0, .ref o0, .int dn, .int nn, .int la, .int ne, .int wi, .ref w0, .ref e0, .ref f0, .ref t0, .ref b0, .int lm])), (n0, .inr (1, [.ref na, .int sz9])), (na, .inl (cT, 16, .inr (.inr (.inr (.inr ga))))), (w0, .inr (7, [.long wu, .long wl, .long wp]))]) [0, 1, 2, 3] (by decide) rfl
    have hK9 := hK.sub (tys' := [(cT, .object "MeetingsAbove$Thing"), (cI, .int)]) [0, 1] rfl
    refine W.widen (k := 0) (n := 0) (by omega) (by omega) ?_
    exact W.iret (v := (-100002)) hx hb hr (fun t ht hW => ⟨⟨_, (), rfl, trivial, wu, wl, wp, by rw [ht]; exact hP9, va_K.moved hW.alike hK9, hD9⟩, hS.F ht⟩) hS.2.2 dX8_meeting_11
def wk_X8_least : List Cond := .code yX8_least cX8_least 6 (some .long) :: (([.fieldLink RX8 12 "MeetingsAbove" "now" "LMeetingsAbove$Catalogue;", .constantLong RX8 187 (-100001), .constantLong RX8 195 (-100003), .fieldLink RX8 51 "MeetingsAbove" "nearest" "LMeetingsAbove$Nearest;", .fieldLink RX8 210 "MeetingsAbove$Nearest" "part" "LMeetingsAbove$Fraction;", .fieldLink RX8 204 "MeetingsAbove$Fraction" "lower" "J", .fieldLink RX8 197 "MeetingsAbove$Nearest" "square" "LMeetingsAbove$Fraction;", .fieldLink RX8 200 "MeetingsAbove$Fraction" "upper" "J", .fieldLink RX8 207 "MeetingsAbove$Nearest" "step" "I", .constantLong RX8 189 (-100002)] : List Cond) ++ (wsX80 ++ (wsX40 ++ (wsX30 ++ ((wsV RX8 103 RX1 yX1_find wk_X1_find) ++ ((va_wsS RX8 84 yX8_isWithin wk_X8_isWithin) ++ ((wsV RX8 191 RX8 yX8_findNearest wk_X8_findNearestP) ++ ([]))))))))
theorem in_X8_least_X3 : ∀ w ∈ wsX30, w ∈ wk_X8_least := fun _ h => List.mem_cons_of_mem _ (List.mem_append_right _ (List.mem_append_right _ (List.mem_append_right _ (List.mem_append_left _ h))))
theorem in_X8_least_X4 : ∀ w ∈ wsX40, w ∈ wk_X8_least := fun _ h => List.mem_cons_of_mem _ (List.mem_append_right _ (List.mem_append_right _ (List.mem_append_left _ h)))
theorem in_X8_least_X8 : ∀ w ∈ wsX80, w ∈ wk_X8_least := fun _ h => List.mem_cons_of_mem _ (List.mem_append_right _ (List.mem_append_left _ h))
theorem gw_X8_least : AG wk_X8_least := AG_ca (AG_l (by decide +kernel)) (AG_app ag_X8 (AG_app ag_X4 (AG_app ag_X3 (AG_app (AG_V gw_X1_find) (AG_app (AG_S gw_X8_isWithin) (AG_app (AG_V gw_X8_findNearestP) (AG_nil)))))))
theorem g_X8_least__X1_find_103 : GoodIn wk_X8_least (wsV RX8 103 RX1 yX1_find wk_X1_find) := goodIn_m (fun _ h => List.mem_cons_of_mem _ (List.mem_append_right _ (List.mem_append_right _ (List.mem_append_right _ (List.mem_append_right _ (List.mem_append_left _ h)))))) (AG_V gw_X1_find)
theorem g_X8_least__X8_isWithin_84 : GoodIn wk_X8_least (va_wsS RX8 84 yX8_isWithin wk_X8_isWithin) := goodIn_m (fun _ h => List.mem_cons_of_mem _ (List.mem_append_right _ (List.mem_append_right _ (List.mem_append_right _ (List.mem_append_right _ (List.mem_append_right _ (List.mem_append_left _ h))))))) (AG_S gw_X8_isWithin)
theorem g_X8_least__X8_findNearestP_191 : GoodIn wk_X8_least (wsV RX8 191 RX8 yX8_findNearest wk_X8_findNearestP) := goodIn_m (fun _ h => List.mem_cons_of_mem _ (List.mem_append_right _ (List.mem_append_right _ (List.mem_append_right _ (List.mem_append_right _ (List.mem_append_right _ (List.mem_append_right _ (List.mem_append_left _ h)))))))) (AG_V gw_X8_findNearestP)
set_option maxHeartbeats 4000000 in
set_option maxRecDepth 100000 in
theorem c_X8_least (l : Launch) (dC : Nat → ClassId) (dI : Nat → Nat → Nat) (h0 : Nat) (n0 : Nat) (s0 : Nat) (s1 : Nat) (d0 : Nat) (o0 : Nat) (w0 : Nat) (e0 : Nat) (f0 : Nat) (t0 : Nat) (b0 : Nat) (dn : Int32) (nn : Int32) (la : Int32) (ne : Int32) (wi : Int32) (lm : Int32) (na : Nat) (cT : ClassId) (sz9 : Int32) (ga : Nat → Option Nat) (cI : ClassId) (L : List Nat) (f : Nat → va_E) (eq : Nat) (ep : Nat) (ns : Int32) (wu : Int64) (wl : Int64) (wp : Int64) (su : Int64) (sl : Int64) (pu : Int64) (pw : Int64) (p1 : Int32) (p2 : Int32) (p3 : Int32) (sz : Nat) (hC : catOK L f cI sz9 ga) : Met l yX8_least wk_X8_least ({ frames := 4, cells := 0, slots := 0, locals := 103 }) (va_Pc [.ref h0, .int p1, .int p2, .int p3] (fun U => U.heap.size = sz ∧ va_P (dC, dI) vwCl (([(h0, .inr (8, [.ref n0, .ref s0, .ref s1, .ref d0, .ref o0, .int dn, .int nn, .int la, .int ne, .int wi, .ref w0, .ref e0, .ref f0, .ref t0, .ref b0, .int lm])), (n0, .inr (1, [.ref na, .int sz9])), (na, .inl (cT, 16, .inr (.inr (.inr (.inr ga))))), (w0, .inr (7, [.long wu, .long wl, .long wp])), (e0, .inr (4, [.ref eq, .ref ep, .int ns])), (eq, .inr (3, [.long su, .long sl])), (ep, .inr (3, [.long pu, .long pw]))] : va_W) ++ va_pl L f) U.heap ∧ va_K (dC, dI) vwCl [(cT, .object "MeetingsAbove$Thing"), (cI, .int)] U ∧ va_D (fun _ => True) (([(h0, .inr (8, [.ref n0, .ref s0, .ref s1, .ref d0, .ref o0, .int dn, .int nn, .int la, .int ne, .int wi, .ref w0, .ref e0, .ref f0, .ref t0, .ref b0, .int lm])), (n0, .inr (1, [.ref na, .int sz9])), (na, .inl (cT, 16, .inr (.inr (.inr (.inr ga))))), (w0, .inr (7, [.long wu, .long wl, .long wp])), (e0, .inr (4, [.ref eq, .ref ep, .int ns])), (eq, .inr (3, [.long su, .long sl])), (ep, .inr (3, [.long pu, .long pw]))] : va_W) ++ va_pl L f))) (va_Ql (fun (r : Int64) (_ : Unit) => True) (fun (_ : Unit) (t : State) => ∃ (ns9 : Int32) (wu9 : Int64) (wl9 : Int64) (wp9 : Int64) (su9 : Int64) (sl9 : Int64) (pu9 : Int64) (pw9 : Int64), va_P (dC, dI) vwCl (([(h0, .inr (8, [.ref n0, .ref s0, .ref s1, .ref d0, .ref o0, .int dn, .int nn, .int la, .int ne, .int wi, .ref w0, .ref e0, .ref f0, .ref t0, .ref b0, .int lm])), (n0, .inr (1, [.ref na, .int sz9])), (na, .inl (cT, 16, .inr (.inr (.inr (.inr ga))))), (w0, .inr (7, [.long wu9, .long wl9, .long wp9])), (e0, .inr (4, [.ref eq, .ref ep, .int ns9])), (eq, .inr (3, [.long su9, .long sl9])), (ep, .inr (3, [.long pu9, .long pw9]))] : va_W) ++ va_pl L f) t.heap ∧ va_K (dC, dI) vwCl [(cT, .object "MeetingsAbove$Thing"), (cI, .int)] t ∧ va_D (va_A (([(h0, .inr (8, [.ref n0, .ref s0, .ref s1, .ref d0, .ref o0, .int dn, .int nn, .int la, .int ne, .int wi, .ref w0, .ref e0, .ref f0, .ref t0, .ref b0, .int lm])), (n0, .inr (1, [.ref na, .int sz9])), (na, .inl (cT, 16, .inr (.inr (.inr (.inr ga))))), (w0, .inr (7, [.long wu, .long wl, .long wp])), (e0, .inr (4, [.ref eq, .ref ep, .int ns])), (eq, .inr (3, [.long su, .long sl])), (ep, .inr (3, [.long pu, .long pw]))] : va_W) ++ va_pl L f) sz) (([(h0, .inr (8, [.ref n0, .ref s0, .ref s1, .ref d0, .ref o0, .int dn, .int nn, .int la, .int ne, .int wi, .ref w0, .ref e0, .ref f0, .ref t0, .ref b0, .int lm])), (n0, .inr (1, [.ref na, .int sz9])), (na, .inl (cT, 16, .inr (.inr (.inr (.inr ga))))), (w0, .inr (7, [.long wu9, .long wl9, .long wp9])), (e0, .inr (4, [.ref eq, .ref ep, .int ns9])), (eq, .inr (3, [.long su9, .long sl9])), (ep, .inr (3, [.long pu9, .long pw9]))] : va_W) ++ va_pl L f)) (va_A (([(h0, .inr (8, [.ref n0, .ref s0, .ref s1, .ref d0, .ref o0, .int dn, .int nn, .int la, .int ne, .int wi, .ref w0, .ref e0, .ref f0, .ref t0, .ref b0, .int lm])), (n0, .inr (1, [.ref na, .int sz9])), (na, .inl (cT, 16, .inr (.inr (.inr (.inr ga))))), (w0, .inr (7, [.long wu, .long wl, .long wp])), (e0, .inr (4, [.ref eq, .ref ep, .int ns])), (eq, .inr (3, [.long su, .long sl])), (ep, .inr (3, [.long pu, .long pw]))] : va_W) ++ va_pl L f) sz)) 0 0 (va_A (([(h0, .inr (8, [.ref n0, .ref s0, .ref s1, .ref d0, .ref o0, .int dn, .int nn, .int la, .int ne, .int wi, .ref w0, .ref e0, .ref f0, .ref t0, .ref b0, .int lm])), (n0, .inr (1, [.ref na, .int sz9])), (na, .inl (cT, 16, .inr (.inr (.inr (.inr ga))))), (w0, .inr (7, [.long wu, .long wl, .long wp])), (e0, .inr (4, [.ref eq, .ref ep, .int ns])), (eq, .inr (3, [.long su, .long sl])), (ep, .inr (3, [.long pu, .long pw]))] : va_W) ++ va_pl L f) sz) := by
  refine Met.ofW (cc := cX8_least) (maxL := 6) (ret := (some .long)) (by decide) rfl ?_
  intro p e s m args below meth c s₁ B hml hv
  obtain ⟨rfl, hsz, hP, hK, hD0⟩ := hv
  have hx := B.exec
  have hb := B.bytes
  have hr := B.returns
  have hts := atoms_spec (ws := wk_X8_least) B.pre
  have hown : s.vm.findClass RX8 = some m.cls := findClass_of_methodNamed B.named
  have hlocks := B.notSynchronized
  subst hsz
  have hD := hD0.self (sz := s.heap.size)
  generalize hAe : va_A (([(h0, .inr (8, [.ref n0, .ref s0, .ref s1, .ref d0, .ref o0, .int dn, .int nn, .int la, .int ne, .int wi, .ref w0, .ref e0, .ref f0, .ref t0, .ref b0, .int lm])), (n0, .inr (1, [.ref na, .int sz9])), (na, .inl (cT, 16, .inr (.inr (.inr (.inr ga))))), (w0, .inr (7, [.long wu, .long wl, .long wp])), (e0, .inr (4, [.ref eq, .ref ep, .int ns])), (eq, .inr (3, [.long su, .long sl])), (ep, .inr (3, [.long pu, .long pw]))] : va_W) ++ va_pl L f) s.heap.size = A at hD ⊢
  have hA : ∀ q : Nat, s.heap.size ≤ q → A q := fun q h => by rw [← hAe]; exact Or.inr h
  have hS : va_S A s.heap s.heap [] := va_S.rf
  have hP : va_P (dC, dI) vwCl (([(h0, .inr (8, [.ref n0, .ref s0, .ref s1, .ref d0, .ref o0, .int dn, .int nn, .int la, .int ne, .int wi, .ref w0, .ref e0, .ref f0, .ref t0, .ref b0, .int lm])), (n0, .inr (1, [.ref na, .int sz9])), (na, .inl (cT, 16, .inr (.inr (.inr (.inr ga))))), (w0, .inr (7, [.long wu, .long wl, .long wp])), (e0, .inr (4, [.ref eq, .ref ep, .int ns])), (eq, .inr (3, [.long su, .long sl])), (ep, .inr (3, [.long pu, .long pw]))] : va_W) ++ va_pl L f) s.heap := hP
  have hl := lv_entry ([.ref h0, .int p1, .int p2, .int p3]) (n := 6) (Nat.le_of_ble_eq_true rfl)
  rw [lg_entry_eq]
  generalize (lg_sl ([.ref h0, .int p1, .int p2, .int p3]) ++ List.replicate (6 - (lg_sl ([.ref h0, .int p1, .int p2, .int p3])).length) Slot.unset).toArray = ls at hl ⊢
  have hl : lv_has ls 6 [(0, .ref h0), (1, .int p1), (2, .int p2), (3, .int p3)] := hl
  have kl_0 : (0 : Int32).toInt = 0 := by decide
  have kl_4 : (4 : Int32).toInt = 4 := by decide
  have klL_m100003 : (-100003 : Int64).toInt = -100003 := by decide
  have klL_m100002 : (-100002 : Int64).toInt = -100002 := by decide
  have klL_m100001 : (-100001 : Int64).toInt = -100001 := by decide
  obtain ⟨hC0, hC1, hC2⟩ := id hC
  refine lv_aload_n hx hb dX8_least_0 rfl (lv_at hl 0 rfl) ?_
  refine va_get (D := (dC, dI)) (ci := 8) (v := .ref n0) (C := RX8) (T := TX8) (N := 16) hx hb hts in_X8_least_X8 hown hK hP 0 rfl rfl 0 (by decide) (hts (.fieldLink RX8 12 "MeetingsAbove" "now" "LMeetingsAbove$Catalogue;") (by decide +kernel)) (fun _ h9 => h9) rfl dX8_least_1 ?_
  refine lv_iload_n hx hb dX8_least_4 rfl (lv_at hl 1 rfl) ?_
  have hPc := hP.sub (ws' := [(n0, .inr (1, [.ref na, .int sz9])), (na, .inl (cT, 16, .inr (.inr (.inr (.inr ga)))))]) [1, 2] rfl
  have hKc := hK.sub (tys' := [(cT, .object "MeetingsAbove$Thing")]) [0] rfl
  refine va_csq (W.runV (As := [.int p1]) (rest := []) ⟨hx, hb, hml, hown, hts⟩ (c_X1_find l dC dI n0 na cT sz9 ga p1) (cwV 1 hts g_X8_least__X1_find_103 rfl rfl rfl (by decide +kernel) ⟨Nat.le_of_ble_eq_true rfl, Nat.le_of_ble_eq_true rfl⟩) ⟨fun a U g mk q => by obtain ⟨q0, qP, qK⟩ := q; exact ⟨q0, qP, va_K.moved (u := U) (U := U.calling g mk a) (Vm.Alike.refl U.vm) qK⟩, va_recv hKc hPc (ci := 1) (q0 := 0) rfl rfl, fun U hU hW => ⟨rfl, by rw [hU]; exact hPc, va_K.moved hW.alike hKc⟩⟩ rfl rfl hl.1 rfl (lv_room (Nat.le_of_ble_eq_true rfl)) dX8_least_5 ⟨Nat.le_of_ble_eq_true rfl, Nat.le_of_ble_eq_true rfl⟩) (fun r_1 hr_1 => ?_)
  try dsimp only at hr_1
  rcases r_1 with _ | w_2
  · refine W.eq (g2 := F0 m 8 ls [.null]) rfl ?_
    refine lv_astoreN (lv' := [(4, .null), (0, .ref h0), (1, .int p1), (2, .int p2), (3, .int p3)]) hx hb dX8_least_8 hl (by decide) rfl (fun ls hl => ?_)
    refine lv_aload_n hx hb dX8_least_10 rfl (lv_at hl 1 rfl) ?_
    refine va_get (D := (dC, dI)) (ci := 8) (v := .ref n0) (C := RX8) (T := TX8) (N := 16) hx hb hts in_X8_least_X8 hown hK hP 0 rfl rfl 0 (by decide) (hts (.fieldLink RX8 12 "MeetingsAbove" "now" "LMeetingsAbove$Catalogue;") (by decide +kernel)) (fun _ h9 => h9) rfl dX8_least_11 ?_
    refine lv_iload_n hx hb dX8_least_14 rfl (lv_at hl 3 rfl) ?_
    have hPc := hP.sub (ws' := [(n0, .inr (1, [.ref na, .int sz9])), (na, .inl (cT, 16, .inr (.inr (.inr (.inr ga)))))]) [1, 2] rfl
    have hKc := hK.sub (tys' := [(cT, .object "MeetingsAbove$Thing")]) [0] rfl
    refine va_csq (W.runV (As := [.int p2]) (rest := []) ⟨hx, hb, hml, hown, hts⟩ (c_X1_find l dC dI n0 na cT sz9 ga p2) (cwV 1 hts g_X8_least__X1_find_103 rfl rfl rfl (by decide +kernel) ⟨Nat.le_of_ble_eq_true rfl, Nat.le_of_ble_eq_true rfl⟩) ⟨fun a U g mk q => by obtain ⟨q0, qP, qK⟩ := q; exact ⟨q0, qP, va_K.moved (u := U) (U := U.calling g mk a) (Vm.Alike.refl U.vm) qK⟩, va_recv hKc hPc (ci := 1) (q0 := 0) rfl rfl, fun U hU hW => ⟨rfl, by rw [hU]; exact hPc, va_K.moved hW.alike hKc⟩⟩ rfl rfl hl.1 rfl (lv_room (Nat.le_of_ble_eq_true rfl)) dX8_least_15 ⟨Nat.le_of_ble_eq_true rfl, Nat.le_of_ble_eq_true rfl⟩) (fun r_3 hr_3 => ?_)
    try dsimp only at hr_3
    rcases r_3 with _ | w_4
    · refine W.eq (g2 := F0 m 18 ls [.null]) rfl ?_
      refine lv_astoreN (lv' := [(5, .null), (4, .null), (0, .ref h0), (1, .int p1), (2, .int p2), (3, .int p3)]) hx hb dX8_least_18 hl (by decide) rfl (fun ls hl => ?_)
      refine lv_aloadN hx hb dX8_least_20 (lv_at hl 1 rfl) ?_
      refine lv_ifnullN (tgt := 30) hx hb dX8_least_22 (by decide) ?_
      refine lv_ldc2 hx hb hown (hts (.constantLong RX8 187 (-100001)) (by decide +kernel)) dX8_least_30 ?_
      have hP9 := hP.part (cx := [(h0, .inr (8, [.ref n0, .ref s0, .ref s1, .ref d0, .ref o0, .int dn, .int nn, .int la, .int ne, .int wi, .ref w0, .ref e0, .ref f0, .ref t0, .ref b0, .int lm])), (n0, .inr (1, [.ref na, .int sz9])), (na, .inl (cT, 16, .inr (.inr (.inr (.inr ga))))), (w0, .inr (7, [.long wu, .long wl, .long wp])), (e0, .inr (4, [.ref eq, .ref ep, .int ns])), (eq, .inr (3, [.long su, .long sl])), (ep, .inr (3, [.long pu, .long pw]))]) [0, 1, 2, 3, 4, 5, 6] rfl
      have hD9 := hD.part (cx := [(h0, .inr (8, [.ref n0, .ref s0, .ref s1, .ref d0, .ref o0, .int dn, .int nn, .int la, .int ne, .int wi, .ref w0, .ref e0, .ref f0, .ref t0, .ref b0, .int lm])), (n0, .inr (1, [.ref na, .int sz9])), (na, .inl (cT, 16, .inr (.inr (.inr (.inr ga))))), (w0, .inr (7, [.long wu, .long wl, .long wp])), (e0, .inr (4, [.ref eq, .ref ep, .int ns])), (eq, .inr (3, [.long su, .long sl])), (ep, .inr (3, [.long pu, .long pw]))]) [0, 1, 2, 3, 4, 5, 6] (by decide) rfl
      have hK9 := hK.sub (tys' := [(cT, .object "MeetingsAbove$Thing"), (cI, .int)]) [0, 1] rfl
      refine W.widen (k := 0) (n := 0) (by omega) (by omega) ?_
      exact W.lret (v := (-100001)) hx hb hr (fun t ht hW => ⟨⟨_, (), rfl, trivial, ns, wu, wl, wp, su, sl, pu, pw, by rw [ht]; exact hP9, va_K.moved hW.alike hK9, hD9⟩, hS.F ht⟩) hS.2.2 dX8_least_33
    · refine W.eq (g2 := F0 m 18 ls [.ref w_4]) rfl ?_
      obtain ⟨hi_w_4, hw_w_4⟩ := fd_some hr_3
      obtain ⟨x_w_4, fi_w_4, pl_w_4, db_w_4, go_w_4, g_w_4, hL_w_4, hX_w_4, hf_w_4, hg_w_4, ht_w_4, hgo_w_4⟩ := th_of hC (by rw [tc_I (by omega)]; omega) hw_w_4
      obtain ⟨q1_w_4, q2_w_4, q3_w_4, q4_w_4⟩ := id ht_w_4
      refine lv_astore (lv' := [(5, .ref w_4), (4, .null), (0, .ref h0), (1, .int p1), (2, .int p2), (3, .int p3)]) hx hb dX8_least_18 hl (by decide) rfl (fun ls hl => ?_)
      refine lv_aloadN hx hb dX8_least_20 (lv_at hl 1 rfl) ?_
      refine lv_ifnullN (tgt := 30) hx hb dX8_least_22 (by decide) ?_
      refine lv_ldc2 hx hb hown (hts (.constantLong RX8 187 (-100001)) (by decide +kernel)) dX8_least_30 ?_
      have hP9 := hP.part (cx := [(h0, .inr (8, [.ref n0, .ref s0, .ref s1, .ref d0, .ref o0, .int dn, .int nn, .int la, .int ne, .int wi, .ref w0, .ref e0, .ref f0, .ref t0, .ref b0, .int lm])), (n0, .inr (1, [.ref na, .int sz9])), (na, .inl (cT, 16, .inr (.inr (.inr (.inr ga))))), (w0, .inr (7, [.long wu, .long wl, .long wp])), (e0, .inr (4, [.ref eq, .ref ep, .int ns])), (eq, .inr (3, [.long su, .long sl])), (ep, .inr (3, [.long pu, .long pw]))]) [0, 1, 2, 3, 4, 5, 6] rfl
      have hD9 := hD.part (cx := [(h0, .inr (8, [.ref n0, .ref s0, .ref s1, .ref d0, .ref o0, .int dn, .int nn, .int la, .int ne, .int wi, .ref w0, .ref e0, .ref f0, .ref t0, .ref b0, .int lm])), (n0, .inr (1, [.ref na, .int sz9])), (na, .inl (cT, 16, .inr (.inr (.inr (.inr ga))))), (w0, .inr (7, [.long wu, .long wl, .long wp])), (e0, .inr (4, [.ref eq, .ref ep, .int ns])), (eq, .inr (3, [.long su, .long sl])), (ep, .inr (3, [.long pu, .long pw]))]) [0, 1, 2, 3, 4, 5, 6] (by decide) rfl
      have hK9 := hK.sub (tys' := [(cT, .object "MeetingsAbove$Thing"), (cI, .int)]) [0, 1] rfl
      refine W.widen (k := 0) (n := 0) (by omega) (by omega) ?_
      exact W.lret (v := (-100001)) hx hb hr (fun t ht hW => ⟨⟨_, (), rfl, trivial, ns, wu, wl, wp, su, sl, pu, pw, by rw [ht]; exact hP9, va_K.moved hW.alike hK9, hD9⟩, hS.F ht⟩) hS.2.2 dX8_least_33
  · refine W.eq (g2 := F0 m 8 ls [.ref w_2]) rfl ?_
    obtain ⟨hi_w_2, hw_w_2⟩ := fd_some hr_1
    obtain ⟨x_w_2, fi_w_2, pl_w_2, db_w_2, go_w_2, g_w_2, hL_w_2, hX_w_2, hf_w_2, hg_w_2, ht_w_2, hgo_w_2⟩ := th_of hC (by rw [tc_I (by omega)]; omega) hw_w_2
    obtain ⟨q1_w_2, q2_w_2, q3_w_2, q4_w_2⟩ := id ht_w_2
    refine lv_astore (lv' := [(4, .ref w_2), (0, .ref h0), (1, .int p1), (2, .int p2), (3, .int p3)]) hx hb dX8_least_8 hl (by decide) rfl (fun ls hl => ?_)
    refine lv_aload_n hx hb dX8_least_10 rfl (lv_at hl 1 rfl) ?_
    refine va_get (D := (dC, dI)) (ci := 8) (v := .ref n0) (C := RX8) (T := TX8) (N := 16) hx hb hts in_X8_least_X8 hown hK hP 0 rfl rfl 0 (by decide) (hts (.fieldLink RX8 12 "MeetingsAbove" "now" "LMeetingsAbove$Catalogue;") (by decide +kernel)) (fun _ h9 => h9) rfl dX8_least_11 ?_
    refine lv_iload_n hx hb dX8_least_14 rfl (lv_at hl 3 rfl) ?_
    have hPc := hP.sub (ws' := [(n0, .inr (1, [.ref na, .int sz9])), (na, .inl (cT, 16, .inr (.inr (.inr (.inr ga)))))]) [1, 2] rfl
    have hKc := hK.sub (tys' := [(cT, .object "MeetingsAbove$Thing")]) [0] rfl
    refine va_csq (W.runV (As := [.int p2]) (rest := []) ⟨hx, hb, hml, hown, hts⟩ (c_X1_find l dC dI n0 na cT sz9 ga p2) (cwV 1 hts g_X8_least__X1_find_103 rfl rfl rfl (by decide +kernel) ⟨Nat.le_of_ble_eq_true rfl, Nat.le_of_ble_eq_true rfl⟩) ⟨fun a U g mk q => by obtain ⟨q0, qP, qK⟩ := q; exact ⟨q0, qP, va_K.moved (u := U) (U := U.calling g mk a) (Vm.Alike.refl U.vm) qK⟩, va_recv hKc hPc (ci := 1) (q0 := 0) rfl rfl, fun U hU hW => ⟨rfl, by rw [hU]; exact hPc, va_K.moved hW.alike hKc⟩⟩ rfl rfl hl.1 rfl (lv_room (Nat.le_of_ble_eq_true rfl)) dX8_least_15 ⟨Nat.le_of_ble_eq_true rfl, Nat.le_of_ble_eq_true rfl⟩) (fun r_7 hr_7 => ?_)
    try dsimp only at hr_7
    rcases r_7 with _ | w_8
    · refine W.eq (g2 := F0 m 18 ls [.null]) rfl ?_
      refine lv_astoreN (lv' := [(5, .null), (4, .ref w_2), (0, .ref h0), (1, .int p1), (2, .int p2), (3, .int p3)]) hx hb dX8_least_18 hl (by decide) rfl (fun ls hl => ?_)
      refine lv_aload hx hb dX8_least_20 (lv_at hl 1 rfl) ?_
      refine lv_ifnull hx hb dX8_least_22 ?_
      refine lv_aloadN hx hb dX8_least_25 (lv_at hl 0 rfl) ?_
      refine lv_ifnonnullN hx hb dX8_least_27 ?_
      refine lv_ldc2 hx hb hown (hts (.constantLong RX8 187 (-100001)) (by decide +kernel)) dX8_least_30 ?_
      have hP9 := hP.part (cx := [(h0, .inr (8, [.ref n0, .ref s0, .ref s1, .ref d0, .ref o0, .int dn, .int nn, .int la, .int ne, .int wi, .ref w0, .ref e0, .ref f0, .ref t0, .ref b0, .int lm])), (n0, .inr (1, [.ref na, .int sz9])), (na, .inl (cT, 16, .inr (.inr (.inr (.inr ga))))), (w0, .inr (7, [.long wu, .long wl, .long wp])), (e0, .inr (4, [.ref eq, .ref ep, .int ns])), (eq, .inr (3, [.long su, .long sl])), (ep, .inr (3, [.long pu, .long pw]))]) [0, 1, 2, 3, 4, 5, 6] rfl
      have hD9 := hD.part (cx := [(h0, .inr (8, [.ref n0, .ref s0, .ref s1, .ref d0, .ref o0, .int dn, .int nn, .int la, .int ne, .int wi, .ref w0, .ref e0, .ref f0, .ref t0, .ref b0, .int lm])), (n0, .inr (1, [.ref na, .int sz9])), (na, .inl (cT, 16, .inr (.inr (.inr (.inr ga))))), (w0, .inr (7, [.long wu, .long wl, .long wp])), (e0, .inr (4, [.ref eq, .ref ep, .int ns])), (eq, .inr (3, [.long su, .long sl])), (ep, .inr (3, [.long pu, .long pw]))]) [0, 1, 2, 3, 4, 5, 6] (by decide) rfl
      have hK9 := hK.sub (tys' := [(cT, .object "MeetingsAbove$Thing"), (cI, .int)]) [0, 1] rfl
      refine W.widen (k := 0) (n := 0) (by omega) (by omega) ?_
      exact W.lret (v := (-100001)) hx hb hr (fun t ht hW => ⟨⟨_, (), rfl, trivial, ns, wu, wl, wp, su, sl, pu, pw, by rw [ht]; exact hP9, va_K.moved hW.alike hK9, hD9⟩, hS.F ht⟩) hS.2.2 dX8_least_33
    · refine W.eq (g2 := F0 m 18 ls [.ref w_8]) rfl ?_
      obtain ⟨hi_w_8, hw_w_8⟩ := fd_some hr_7
      obtain ⟨x_w_8, fi_w_8, pl_w_8, db_w_8, go_w_8, g_w_8, hL_w_8, hX_w_8, hf_w_8, hg_w_8, ht_w_8, hgo_w_8⟩ := th_of hC (by rw [tc_I (by omega)]; omega) hw_w_8
      obtain ⟨q1_w_8, q2_w_8, q3_w_8, q4_w_8⟩ := id ht_w_8
      refine lv_astore (lv' := [(5, .ref w_8), (4, .ref w_2), (0, .ref h0), (1, .int p1), (2, .int p2), (3, .int p3)]) hx hb dX8_least_18 hl (by decide) rfl (fun ls hl => ?_)
      refine lv_aload hx hb dX8_least_20 (lv_at hl 1 rfl) ?_
      refine lv_ifnull hx hb dX8_least_22 ?_
      refine lv_aload hx hb dX8_least_25 (lv_at hl 0 rfl) ?_
      refine lv_ifnonnull (tgt := 34) hx hb dX8_least_27 (by decide) ?_
      refine lv_iload_n hx hb dX8_least_34 rfl (lv_at hl 5 rfl) ?_
      refine lv_iconst (v := 0) hx hb dX8_least_35 (by decide) ?_
      refine lv_iconst (v := 4) hx hb dX8_least_36 (by decide) ?_
      refine vp_callSi (W.runS (As := [.int p3, .int 0, .int 4]) (rest := []) ⟨hx, hb, hml, hown, hts⟩ (c_X8_isWithin l dC dI p3 0 4) (va_cwS 3 hts g_X8_least__X8_isWithin_84 rfl rfl rfl (by decide +kernel) ⟨Nat.le_of_ble_eq_true rfl, Nat.le_of_ble_eq_true rfl⟩) ⟨fun a U g mk q => by obtain ⟨q0, q1⟩ := q; exact ⟨q0, q1⟩, fun U hU hW => ⟨rfl, trivial⟩⟩ rfl rfl hl.1 rfl (lv_room (Nat.le_of_ble_eq_true rfl)) dX8_least_37 ⟨Nat.le_of_ble_eq_true rfl, Nat.le_of_ble_eq_true rfl⟩) (fun r_10 hr_10 => ?_)
      try dsimp only at hr_10
      rcases bo_split hr_10 with ⟨rfl, q_37⟩ | ⟨rfl, q_37⟩
      · refine lv_if_ne (tgt := 47) hx hb dX8_least_40 (by decide) (fun _ => ?_) (fun h9 => absurd h9 (by decide))
        refine lv_iload_n hx hb dX8_least_47 rfl (lv_at hl 3 rfl) ?_
        refine lv_iload_n hx hb dX8_least_48 rfl (lv_at hl 4 rfl) ?_
        refine lv_icmp_eq (tgt := 63) hx hb dX8_least_49 (by decide) (fun c_49 => ?_) (fun c_49 => ?_)
        · have t_49 := (fa_eq _ _).mp c_49
          refine lv_ldc2 hx hb hown (hts (.constantLong RX8 195 (-100003)) (by decide +kernel)) dX8_least_63 ?_
          have hP9 := hP.part (cx := [(h0, .inr (8, [.ref n0, .ref s0, .ref s1, .ref d0, .ref o0, .int dn, .int nn, .int la, .int ne, .int wi, .ref w0, .ref e0, .ref f0, .ref t0, .ref b0, .int lm])), (n0, .inr (1, [.ref na, .int sz9])), (na, .inl (cT, 16, .inr (.inr (.inr (.inr ga))))), (w0, .inr (7, [.long wu, .long wl, .long wp])), (e0, .inr (4, [.ref eq, .ref ep, .int ns])), (eq, .inr (3, [.long su, .long sl])), (ep, .inr (3, [.long pu, .long pw]))]) [0, 1, 2, 3, 4, 5, 6] rfl
          have hD9 := hD.part (cx := [(h0, .inr (8, [.ref n0, .ref s0, .ref s1, .ref d0, .ref o0, .int dn, .int nn, .int la, .int ne, .int wi, .ref w0, .ref e0, .ref f0, .ref t0, .ref b0, .int lm])), (n0, .inr (1, [.ref na, .int sz9])), (na, .inl (cT, 16, .inr (.inr (.inr (.inr ga))))), (w0, .inr (7, [.long wu, .long wl, .long wp])), (e0, .inr (4, [.ref eq, .ref ep, .int ns])), (eq, .inr (3, [.long su, .long sl])), (ep, .inr (3, [.long pu, .long pw]))]) [0, 1, 2, 3, 4, 5, 6] (by decide) rfl
          have hK9 := hK.sub (tys' := [(cT, .object "MeetingsAbove$Thing"), (cI, .int)]) [0, 1] rfl
          refine W.widen (k := 0) (n := 0) (by omega) (by omega) ?_
          exact W.lret (v := (-100003)) hx hb hr (fun t ht hW => ⟨⟨_, (), rfl, trivial, ns, wu, wl, wp, su, sl, pu, pw, by rw [ht]; exact hP9, va_K.moved hW.alike hK9, hD9⟩, hS.F ht⟩) hS.2.2 dX8_least_66
        · have t_49 := mt (fa_eq _ _).mpr c_49
          refine lv_aload_n hx hb dX8_least_52 rfl (lv_at hl 2 rfl) ?_
          refine lv_aload hx hb dX8_least_53 (lv_at hl 1 rfl) ?_
          refine lv_aload hx hb dX8_least_55 (lv_at hl 0 rfl) ?_
          have hPc := hP.part (cx := [(h0, .inr (8, [.ref n0, .ref s0, .ref s1, .ref d0, .ref o0, .int dn, .int nn, .int la, .int ne, .int wi, .ref w0, .ref e0, .ref f0, .ref t0, .ref b0, .int lm])), (w0, .inr (7, [.long wu, .long wl, .long wp])), (e0, .inr (4, [.ref eq, .ref ep, .int ns])), (eq, .inr (3, [.long su, .long sl])), (ep, .inr (3, [.long pu, .long pw]))]) [0, 3, 4, 5, 6] rfl
          have hKc := hK.sub (tys' := [(cI, .int)]) [1] rfl
          have hDc := hD.part (cx := [(h0, .inr (8, [.ref n0, .ref s0, .ref s1, .ref d0, .ref o0, .int dn, .int nn, .int la, .int ne, .int wi, .ref w0, .ref e0, .ref f0, .ref t0, .ref b0, .int lm])), (w0, .inr (7, [.long wu, .long wl, .long wp])), (e0, .inr (4, [.ref eq, .ref ep, .int ns])), (eq, .inr (3, [.long su, .long sl])), (ep, .inr (3, [.long pu, .long pw]))]) [0, 3, 4, 5, 6] (by decide) rfl
          have hFc := va_freeP (cx := [(h0, .inr (8, [.ref n0, .ref s0, .ref s1, .ref d0, .ref o0, .int dn, .int nn, .int la, .int ne, .int wi, .ref w0, .ref e0, .ref f0, .ref t0, .ref b0, .int lm])), (w0, .inr (7, [.long wu, .long wl, .long wp])), (e0, .inr (4, [.ref eq, .ref ep, .int ns])), (eq, .inr (3, [.long su, .long sl])), (ep, .inr (3, [.long pu, .long pw]))]) hD hS hA [0, 3, 4, 5, 6] rfl
          refine va_calli (va_runV (As := [.ref w_2, .ref w_8]) (rest := []) ⟨hx, hb, hml, hown, hts⟩ (c_X8_findNearestP l dC dI h0 n0 s0 s1 d0 o0 w0 e0 f0 t0 b0 dn nn la ne wi lm eq ep ns wu wl wp su sl pu pw w_2 x_w_2 fi_w_2 pl_w_2 db_w_2 go_w_2 g_w_2 w_8 x_w_8 fi_w_8 pl_w_8 db_w_8 go_w_8 g_w_8 cI L f s.heap.size (by first | assumption | omega) (by first | assumption | omega) (by first | assumption | omega) (by first | assumption | omega) (by first | assumption | omega) (by first | assumption | omega) (by first | assumption | omega) (by first | assumption | omega) (by first | assumption | omega) (by first | assumption | omega)) (cwV 2 hts g_X8_least__X8_findNearestP_191 rfl rfl rfl (by decide +kernel) ⟨Nat.le_of_ble_eq_true rfl, Nat.le_of_ble_eq_true rfl⟩) ⟨fun a U g mk q => by obtain ⟨q0, q1, qP, qK, qD⟩ := q; exact ⟨q0, q1, qP, va_K.moved (u := U) (U := U.calling g mk a) (Vm.Alike.refl U.vm) qK, qD⟩, va_recv hKc hPc (ci := 8) (q0 := 0) rfl rfl, fun U hU hW => ⟨rfl, by rw [hU], by rw [hU]; exact hPc, va_K.moved hW.alike hKc, hDc.weaken (fun _ _ _ _ => trivial)⟩⟩ rfl rfl hl.1 rfl (lv_room (Nat.le_of_ble_eq_true rfl)) dX8_least_57 ⟨Nat.le_of_ble_eq_true rfl, Nat.le_of_ble_eq_true rfl⟩) hS (fun q _ h => hFc q h) hFc (fun r_12 u_11 t H1 locs ht hvm hw_12 hB hz1 hk1 hS => ?_)
          obtain ⟨ns9_13, wu9_14, wl9_15, wp9_16, su9_17, sl9_18, pu9_19, pw9_20, hP1, hK1, hD1⟩ := hB
          rw [ht] at hP1
          have hK1 := va_K.moved hvm.symm hK1
          obtain ⟨hP, hD⟩ := va_joinP (wr := [(n0, .inr (1, [.ref na, .int sz9])), (na, .inl (cT, 16, .inr (.inr (.inr (.inr ga)))))]) (rx := [(h0, .inr (8, [.ref n0, .ref s0, .ref s1, .ref d0, .ref o0, .int dn, .int nn, .int la, .int ne, .int wi, .ref w0, .ref e0, .ref f0, .ref t0, .ref b0, .int lm])), (w0, .inr (7, [.long wu9_14, .long wl9_15, .long wp9_16])), (e0, .inr (4, [.ref eq, .ref ep, .int ns9_13])), (eq, .inr (3, [.long su9_17, .long sl9_18])), (ep, .inr (3, [.long pu9_19, .long pw9_20]))]) hP hD [0, 3, 4, 5, 6] [1, 2] rfl rfl (by decide) (by decide) hk1 hFc hP1 hD1
          have hK := (hK.sub (tys' := [(cT, .object "MeetingsAbove$Thing"), (cI, .int)]) [0, 1] rfl).app hK1
          generalize H1 = H at hP hS ⊢
          have hP : va_P (dC, dI) vwCl (([(n0, .inr (1, [.ref na, .int sz9])), (na, .inl (cT, 16, .inr (.inr (.inr (.inr ga))))), (h0, .inr (8, [.ref n0, .ref s0, .ref s1, .ref d0, .ref o0, .int dn, .int nn, .int la, .int ne, .int wi, .ref w0, .ref e0, .ref f0, .ref t0, .ref b0, .int lm])), (w0, .inr (7, [.long wu9_14, .long wl9_15, .long wp9_16])), (e0, .inr (4, [.ref eq, .ref ep, .int ns9_13])), (eq, .inr (3, [.long su9_17, .long sl9_18])), (ep, .inr (3, [.long pu9_19, .long pw9_20]))] : va_W) ++ va_pl L f) H := hP
          have hD : va_D A (([(n0, .inr (1, [.ref na, .int sz9])), (na, .inl (cT, 16, .inr (.inr (.inr (.inr ga))))), (h0, .inr (8, [.ref n0, .ref s0, .ref s1, .ref d0, .ref o0, .int dn, .int nn, .int la, .int ne, .int wi, .ref w0, .ref e0, .ref f0, .ref t0, .ref b0, .int lm])), (w0, .inr (7, [.long wu9_14, .long wl9_15, .long wp9_16])), (e0, .inr (4, [.ref eq, .ref ep, .int ns9_13])), (eq, .inr (3, [.long su9_17, .long sl9_18])), (ep, .inr (3, [.long pu9_19, .long pw9_20]))] : va_W) ++ va_pl L f) := hD
          have hK : va_K (dC, dI) vwCl [(cT, .object "MeetingsAbove$Thing"), (cI, .int)] s := hK
          refine W.widen (k := 0) (n := 0) (by omega) (by omega) ?_
          try dsimp only at hw_12
          refine lv_if_ne (tgt := 67) hx hb dX8_least_60 (by decide) (fun c_60 => ?_) (fun c_60 => ?_)
          · have t_60 := mt (fa_eq _ _).mpr c_60
            refine lv_iload_n hx hb dX8_least_67 rfl (lv_at hl 5 rfl) ?_
            rcases sw_4 p3 with o_68 | rfl | rfl | rfl | rfl
            · refine lv_tableOut (tgt := 142) hx hb dX8_least_68 o_68 (by decide) ?_
              refine lv_aload_n hx hb dX8_least_142 rfl (lv_at hl 2 rfl) ?_
              refine va_get (D := (dC, dI)) (ci := 8) (v := .ref e0) (C := RX8) (T := TX8) (N := 16) hx hb hts in_X8_least_X8 hown hK hP 2 rfl rfl 11 (by decide) (hts (.fieldLink RX8 51 "MeetingsAbove" "nearest" "LMeetingsAbove$Nearest;") (by decide +kernel)) (fun _ h9 => h9) rfl dX8_least_143 ?_
              refine va_get (D := (dC, dI)) (ci := 4) (v := .ref ep) (C := RX4) (T := TX4) (N := 3) hx hb hts in_X8_least_X4 hown hK hP 4 rfl rfl 1 (by decide) (hts (.fieldLink RX8 210 "MeetingsAbove$Nearest" "part" "LMeetingsAbove$Fraction;") (by decide +kernel)) (fun _ h9 => h9) rfl dX8_least_146 ?_
              refine va_get (D := (dC, dI)) (ci := 3) (v := .long pw9_20) (C := RX3) (T := TX3) (N := 2) hx hb hts in_X8_least_X3 hown hK hP 6 rfl rfl 1 (by decide) (hts (.fieldLink RX8 204 "MeetingsAbove$Fraction" "lower" "J") (by decide +kernel)) (fun _ h9 => h9) rfl dX8_least_149 ?_
              have hP9 := hP.part (cx := [(h0, .inr (8, [.ref n0, .ref s0, .ref s1, .ref d0, .ref o0, .int dn, .int nn, .int la, .int ne, .int wi, .ref w0, .ref e0, .ref f0, .ref t0, .ref b0, .int lm])), (n0, .inr (1, [.ref na, .int sz9])), (na, .inl (cT, 16, .inr (.inr (.inr (.inr ga))))), (w0, .inr (7, [.long wu9_14, .long wl9_15, .long wp9_16])), (e0, .inr (4, [.ref eq, .ref ep, .int ns9_13])), (eq, .inr (3, [.long su9_17, .long sl9_18])), (ep, .inr (3, [.long pu9_19, .long pw9_20]))]) [2, 0, 1, 3, 4, 5, 6] rfl
              have hD9 := hD.part (cx := [(h0, .inr (8, [.ref n0, .ref s0, .ref s1, .ref d0, .ref o0, .int dn, .int nn, .int la, .int ne, .int wi, .ref w0, .ref e0, .ref f0, .ref t0, .ref b0, .int lm])), (n0, .inr (1, [.ref na, .int sz9])), (na, .inl (cT, 16, .inr (.inr (.inr (.inr ga))))), (w0, .inr (7, [.long wu9_14, .long wl9_15, .long wp9_16])), (e0, .inr (4, [.ref eq, .ref ep, .int ns9_13])), (eq, .inr (3, [.long su9_17, .long sl9_18])), (ep, .inr (3, [.long pu9_19, .long pw9_20]))]) [2, 0, 1, 3, 4, 5, 6] (by decide) rfl
              have hK9 := hK.sub (tys' := [(cT, .object "MeetingsAbove$Thing"), (cI, .int)]) [0, 1] rfl
              refine W.widen (k := 0) (n := 0) (by omega) (by omega) ?_
              exact W.lret (v := pw9_20) hx hb hr (fun t ht hW => ⟨⟨_, (), rfl, trivial, ns9_13, wu9_14, wl9_15, wp9_16, su9_17, sl9_18, pu9_19, pw9_20, by rw [ht]; exact hP9, va_K.moved hW.alike hK9, hD9⟩, hS.F ht⟩) hS.2.2 dX8_least_152
            · refine lv_tableIn (tgt := 100) (off := 32) hx hb dX8_least_68 (by decide) (by decide) (by decide) (by decide) ?_
              refine lv_aload_n hx hb dX8_least_100 rfl (lv_at hl 2 rfl) ?_
              refine va_get (D := (dC, dI)) (ci := 8) (v := .ref e0) (C := RX8) (T := TX8) (N := 16) hx hb hts in_X8_least_X8 hown hK hP 2 rfl rfl 11 (by decide) (hts (.fieldLink RX8 51 "MeetingsAbove" "nearest" "LMeetingsAbove$Nearest;") (by decide +kernel)) (fun _ h9 => h9) rfl dX8_least_101 ?_
              refine va_get (D := (dC, dI)) (ci := 4) (v := .ref eq) (C := RX4) (T := TX4) (N := 3) hx hb hts in_X8_least_X4 hown hK hP 4 rfl rfl 0 (by decide) (hts (.fieldLink RX8 197 "MeetingsAbove$Nearest" "square" "LMeetingsAbove$Fraction;") (by decide +kernel)) (fun _ h9 => h9) rfl dX8_least_104 ?_
              refine va_get (D := (dC, dI)) (ci := 3) (v := .long su9_17) (C := RX3) (T := TX3) (N := 2) hx hb hts in_X8_least_X3 hown hK hP 5 rfl rfl 0 (by decide) (hts (.fieldLink RX8 200 "MeetingsAbove$Fraction" "upper" "J") (by decide +kernel)) (fun _ h9 => h9) rfl dX8_least_107 ?_
              have hP9 := hP.part (cx := [(h0, .inr (8, [.ref n0, .ref s0, .ref s1, .ref d0, .ref o0, .int dn, .int nn, .int la, .int ne, .int wi, .ref w0, .ref e0, .ref f0, .ref t0, .ref b0, .int lm])), (n0, .inr (1, [.ref na, .int sz9])), (na, .inl (cT, 16, .inr (.inr (.inr (.inr ga))))), (w0, .inr (7, [.long wu9_14, .long wl9_15, .long wp9_16])), (e0, .inr (4, [.ref eq, .ref ep, .int ns9_13])), (eq, .inr (3, [.long su9_17, .long sl9_18])), (ep, .inr (3, [.long pu9_19, .long pw9_20]))]) [2, 0, 1, 3, 4, 5, 6] rfl
              have hD9 := hD.part (cx := [(h0, .inr (8, [.ref n0, .ref s0, .ref s1, .ref d0, .ref o0, .int dn, .int nn, .int la, .int ne, .int wi, .ref w0, .ref e0, .ref f0, .ref t0, .ref b0, .int lm])), (n0, .inr (1, [.ref na, .int sz9])), (na, .inl (cT, 16, .inr (.inr (.inr (.inr ga))))), (w0, .inr (7, [.long wu9_14, .long wl9_15, .long wp9_16])), (e0, .inr (4, [.ref eq, .ref ep, .int ns9_13])), (eq, .inr (3, [.long su9_17, .long sl9_18])), (ep, .inr (3, [.long pu9_19, .long pw9_20]))]) [2, 0, 1, 3, 4, 5, 6] (by decide) rfl
              have hK9 := hK.sub (tys' := [(cT, .object "MeetingsAbove$Thing"), (cI, .int)]) [0, 1] rfl
              refine W.widen (k := 0) (n := 0) (by omega) (by omega) ?_
              exact W.lret (v := su9_17) hx hb hr (fun t ht hW => ⟨⟨_, (), rfl, trivial, ns9_13, wu9_14, wl9_15, wp9_16, su9_17, sl9_18, pu9_19, pw9_20, by rw [ht]; exact hP9, va_K.moved hW.alike hK9, hD9⟩, hS.F ht⟩) hS.2.2 dX8_least_110
            · refine lv_tableIn (tgt := 111) (off := 43) hx hb dX8_least_68 (by decide) (by decide) (by decide) (by decide) ?_
              refine lv_aload_n hx hb dX8_least_111 rfl (lv_at hl 2 rfl) ?_
              refine va_get (D := (dC, dI)) (ci := 8) (v := .ref e0) (C := RX8) (T := TX8) (N := 16) hx hb hts in_X8_least_X8 hown hK hP 2 rfl rfl 11 (by decide) (hts (.fieldLink RX8 51 "MeetingsAbove" "nearest" "LMeetingsAbove$Nearest;") (by decide +kernel)) (fun _ h9 => h9) rfl dX8_least_112 ?_
              refine va_get (D := (dC, dI)) (ci := 4) (v := .ref eq) (C := RX4) (T := TX4) (N := 3) hx hb hts in_X8_least_X4 hown hK hP 4 rfl rfl 0 (by decide) (hts (.fieldLink RX8 197 "MeetingsAbove$Nearest" "square" "LMeetingsAbove$Fraction;") (by decide +kernel)) (fun _ h9 => h9) rfl dX8_least_115 ?_
              refine va_get (D := (dC, dI)) (ci := 3) (v := .long sl9_18) (C := RX3) (T := TX3) (N := 2) hx hb hts in_X8_least_X3 hown hK hP 5 rfl rfl 1 (by decide) (hts (.fieldLink RX8 204 "MeetingsAbove$Fraction" "lower" "J") (by decide +kernel)) (fun _ h9 => h9) rfl dX8_least_118 ?_
              have hP9 := hP.part (cx := [(h0, .inr (8, [.ref n0, .ref s0, .ref s1, .ref d0, .ref o0, .int dn, .int nn, .int la, .int ne, .int wi, .ref w0, .ref e0, .ref f0, .ref t0, .ref b0, .int lm])), (n0, .inr (1, [.ref na, .int sz9])), (na, .inl (cT, 16, .inr (.inr (.inr (.inr ga))))), (w0, .inr (7, [.long wu9_14, .long wl9_15, .long wp9_16])), (e0, .inr (4, [.ref eq, .ref ep, .int ns9_13])), (eq, .inr (3, [.long su9_17, .long sl9_18])), (ep, .inr (3, [.long pu9_19, .long pw9_20]))]) [2, 0, 1, 3, 4, 5, 6] rfl
              have hD9 := hD.part (cx := [(h0, .inr (8, [.ref n0, .ref s0, .ref s1, .ref d0, .ref o0, .int dn, .int nn, .int la, .int ne, .int wi, .ref w0, .ref e0, .ref f0, .ref t0, .ref b0, .int lm])), (n0, .inr (1, [.ref na, .int sz9])), (na, .inl (cT, 16, .inr (.inr (.inr (.inr ga))))), (w0, .inr (7, [.long wu9_14, .long wl9_15, .long wp9_16])), (e0, .inr (4, [.ref eq, .ref ep, .int ns9_13])), (eq, .inr (3, [.long su9_17, .long sl9_18])), (ep, .inr (3, [.long pu9_19, .long pw9_20]))]) [2, 0, 1, 3, 4, 5, 6] (by decide) rfl
              have hK9 := hK.sub (tys' := [(cT, .object "MeetingsAbove$Thing"), (cI, .int)]) [0, 1] rfl
              refine W.widen (k := 0) (n := 0) (by omega) (by omega) ?_
              exact W.lret (v := sl9_18) hx hb hr (fun t ht hW => ⟨⟨_, (), rfl, trivial, ns9_13, wu9_14, wl9_15, wp9_16, su9_17, sl9_18, pu9_19, pw9_20, by rw [ht]; exact hP9, va_K.moved hW.alike hK9, hD9⟩, hS.F ht⟩) hS.2.2 dX8_least_121
            · refine lv_tableIn (tgt := 122) (off := 54) hx hb dX8_least_68 (by decide) (by decide) (by decide) (by decide) ?_
              refine lv_aload_n hx hb dX8_least_122 rfl (lv_at hl 2 rfl) ?_
              refine va_get (D := (dC, dI)) (ci := 8) (v := .ref e0) (C := RX8) (T := TX8) (N := 16) hx hb hts in_X8_least_X8 hown hK hP 2 rfl rfl 11 (by decide) (hts (.fieldLink RX8 51 "MeetingsAbove" "nearest" "LMeetingsAbove$Nearest;") (by decide +kernel)) (fun _ h9 => h9) rfl dX8_least_123 ?_
              refine va_get (D := (dC, dI)) (ci := 4) (v := .int ns9_13) (C := RX4) (T := TX4) (N := 3) hx hb hts in_X8_least_X4 hown hK hP 4 rfl rfl 2 (by decide) (hts (.fieldLink RX8 207 "MeetingsAbove$Nearest" "step" "I") (by decide +kernel)) (fun _ h9 => h9) rfl dX8_least_126 ?_
              refine lv_i2l hx hb dX8_least_129 rfl ?_
              have hP9 := hP.part (cx := [(h0, .inr (8, [.ref n0, .ref s0, .ref s1, .ref d0, .ref o0, .int dn, .int nn, .int la, .int ne, .int wi, .ref w0, .ref e0, .ref f0, .ref t0, .ref b0, .int lm])), (n0, .inr (1, [.ref na, .int sz9])), (na, .inl (cT, 16, .inr (.inr (.inr (.inr ga))))), (w0, .inr (7, [.long wu9_14, .long wl9_15, .long wp9_16])), (e0, .inr (4, [.ref eq, .ref ep, .int ns9_13])), (eq, .inr (3, [.long su9_17, .long sl9_18])), (ep, .inr (3, [.long pu9_19, .long pw9_20]))]) [2, 0, 1, 3, 4, 5, 6] rfl
              have hD9 := hD.part (cx := [(h0, .inr (8, [.ref n0, .ref s0, .ref s1, .ref d0, .ref o0, .int dn, .int nn, .int la, .int ne, .int wi, .ref w0, .ref e0, .ref f0, .ref t0, .ref b0, .int lm])), (n0, .inr (1, [.ref na, .int sz9])), (na, .inl (cT, 16, .inr (.inr (.inr (.inr ga))))), (w0, .inr (7, [.long wu9_14, .long wl9_15, .long wp9_16])), (e0, .inr (4, [.ref eq, .ref ep, .int ns9_13])), (eq, .inr (3, [.long su9_17, .long sl9_18])), (ep, .inr (3, [.long pu9_19, .long pw9_20]))]) [2, 0, 1, 3, 4, 5, 6] (by decide) rfl
              have hK9 := hK.sub (tys' := [(cT, .object "MeetingsAbove$Thing"), (cI, .int)]) [0, 1] rfl
              refine W.widen (k := 0) (n := 0) (by omega) (by omega) ?_
              exact W.lret (v := ns9_13.toInt64) hx hb hr (fun t ht hW => ⟨⟨_, (), rfl, trivial, ns9_13, wu9_14, wl9_15, wp9_16, su9_17, sl9_18, pu9_19, pw9_20, by rw [ht]; exact hP9, va_K.moved hW.alike hK9, hD9⟩, hS.F ht⟩) hS.2.2 dX8_least_130
            · refine lv_tableIn (tgt := 131) (off := 63) hx hb dX8_least_68 (by decide) (by decide) (by decide) (by decide) ?_
              refine lv_aload_n hx hb dX8_least_131 rfl (lv_at hl 2 rfl) ?_
              refine va_get (D := (dC, dI)) (ci := 8) (v := .ref e0) (C := RX8) (T := TX8) (N := 16) hx hb hts in_X8_least_X8 hown hK hP 2 rfl rfl 11 (by decide) (hts (.fieldLink RX8 51 "MeetingsAbove" "nearest" "LMeetingsAbove$Nearest;") (by decide +kernel)) (fun _ h9 => h9) rfl dX8_least_132 ?_
              refine va_get (D := (dC, dI)) (ci := 4) (v := .ref ep) (C := RX4) (T := TX4) (N := 3) hx hb hts in_X8_least_X4 hown hK hP 4 rfl rfl 1 (by decide) (hts (.fieldLink RX8 210 "MeetingsAbove$Nearest" "part" "LMeetingsAbove$Fraction;") (by decide +kernel)) (fun _ h9 => h9) rfl dX8_least_135 ?_
              refine va_get (D := (dC, dI)) (ci := 3) (v := .long pu9_19) (C := RX3) (T := TX3) (N := 2) hx hb hts in_X8_least_X3 hown hK hP 6 rfl rfl 0 (by decide) (hts (.fieldLink RX8 200 "MeetingsAbove$Fraction" "upper" "J") (by decide +kernel)) (fun _ h9 => h9) rfl dX8_least_138 ?_
              have hP9 := hP.part (cx := [(h0, .inr (8, [.ref n0, .ref s0, .ref s1, .ref d0, .ref o0, .int dn, .int nn, .int la, .int ne, .int wi, .ref w0, .ref e0, .ref f0, .ref t0, .ref b0, .int lm])), (n0, .inr (1, [.ref na, .int sz9])), (na, .inl (cT, 16, .inr (.inr (.inr (.inr ga))))), (w0, .inr (7, [.long wu9_14, .long wl9_15, .long wp9_16])), (e0, .inr (4, [.ref eq, .ref ep, .int ns9_13])), (eq, .inr (3, [.long su9_17, .long sl9_18])), (ep, .inr (3, [.long pu9_19, .long pw9_20]))]) [2, 0, 1, 3, 4, 5, 6] rfl
              have hD9 := hD.part (cx := [(h0, .inr (8, [.ref n0, .ref s0, .ref s1, .ref d0, .ref o0, .int dn, .int nn, .int la, .int ne, .int wi, .ref w0, .ref e0, .ref f0, .ref t0, .ref b0, .int lm])), (n0, .inr (1, [.ref na, .int sz9])), (na, .inl (cT, 16, .inr (.inr (.inr (.inr ga))))), (w0, .inr (7, [.long wu9_14, .long wl9_15, .long wp9_16])), (e0, .inr (4, [.ref eq, .ref ep, .int ns9_13])), (eq, .inr (3, [.long su9_17, .long sl9_18])), (ep, .inr (3, [.long pu9_19, .long pw9_20]))]) [2, 0, 1, 3, 4, 5, 6] (by decide) rfl
              have hK9 := hK.sub (tys' := [(cT, .object "MeetingsAbove$Thing"), (cI, .int)]) [0, 1] rfl
              refine W.widen (k := 0) (n := 0) (by omega) (by omega) ?_
              exact W.lret (v := pu9_19) hx hb hr (fun t ht hW => ⟨⟨_, (), rfl, trivial, ns9_13, wu9_14, wl9_15, wp9_16, su9_17, sl9_18, pu9_19, pw9_20, by rw [ht]; exact hP9, va_K.moved hW.alike hK9, hD9⟩, hS.F ht⟩) hS.2.2 dX8_least_141
          · have t_60 := (fa_eq _ _).mp c_60
            refine lv_ldc2 hx hb hown (hts (.constantLong RX8 195 (-100003)) (by decide +kernel)) dX8_least_63 ?_
            have hP9 := hP.part (cx := [(h0, .inr (8, [.ref n0, .ref s0, .ref s1, .ref d0, .ref o0, .int dn, .int nn, .int la, .int ne, .int wi, .ref w0, .ref e0, .ref f0, .ref t0, .ref b0, .int lm])), (n0, .inr (1, [.ref na, .int sz9])), (na, .inl (cT, 16, .inr (.inr (.inr (.inr ga))))), (w0, .inr (7, [.long wu9_14, .long wl9_15, .long wp9_16])), (e0, .inr (4, [.ref eq, .ref ep, .int ns9_13])), (eq, .inr (3, [.long su9_17, .long sl9_18])), (ep, .inr (3, [.long pu9_19, .long pw9_20]))]) [2, 0, 1, 3, 4, 5, 6] rfl
            have hD9 := hD.part (cx := [(h0, .inr (8, [.ref n0, .ref s0, .ref s1, .ref d0, .ref o0, .int dn, .int nn, .int la, .int ne, .int wi, .ref w0, .ref e0, .ref f0, .ref t0, .ref b0, .int lm])), (n0, .inr (1, [.ref na, .int sz9])), (na, .inl (cT, 16, .inr (.inr (.inr (.inr ga))))), (w0, .inr (7, [.long wu9_14, .long wl9_15, .long wp9_16])), (e0, .inr (4, [.ref eq, .ref ep, .int ns9_13])), (eq, .inr (3, [.long su9_17, .long sl9_18])), (ep, .inr (3, [.long pu9_19, .long pw9_20]))]) [2, 0, 1, 3, 4, 5, 6] (by decide) rfl
            have hK9 := hK.sub (tys' := [(cT, .object "MeetingsAbove$Thing"), (cI, .int)]) [0, 1] rfl
            refine W.widen (k := 0) (n := 0) (by omega) (by omega) ?_
            exact W.lret (v := (-100003)) hx hb hr (fun t ht hW => ⟨⟨_, (), rfl, trivial, ns9_13, wu9_14, wl9_15, wp9_16, su9_17, sl9_18, pu9_19, pw9_20, by rw [ht]; exact hP9, va_K.moved hW.alike hK9, hD9⟩, hS.F ht⟩) hS.2.2 dX8_least_66
      · refine lv_if_ne (tgt := 47) hx hb dX8_least_40 (by decide) (fun h9 => absurd h9 (by decide)) (fun _ => ?_)
        refine lv_ldc2 hx hb hown (hts (.constantLong RX8 189 (-100002)) (by decide +kernel)) dX8_least_43 ?_
        have hP9 := hP.part (cx := [(h0, .inr (8, [.ref n0, .ref s0, .ref s1, .ref d0, .ref o0, .int dn, .int nn, .int la, .int ne, .int wi, .ref w0, .ref e0, .ref f0, .ref t0, .ref b0, .int lm])), (n0, .inr (1, [.ref na, .int sz9])), (na, .inl (cT, 16, .inr (.inr (.inr (.inr ga))))), (w0, .inr (7, [.long wu, .long wl, .long wp])), (e0, .inr (4, [.ref eq, .ref ep, .int ns])), (eq, .inr (3, [.long su, .long sl])), (ep, .inr (3, [.long pu, .long pw]))]) [0, 1, 2, 3, 4, 5, 6] rfl
        have hD9 := hD.part (cx := [(h0, .inr (8, [.ref n0, .ref s0, .ref s1, .ref d0, .ref o0, .int dn, .int nn, .int la, .int ne, .int wi, .ref w0, .ref e0, .ref f0, .ref t0, .ref b0, .int lm])), (n0, .inr (1, [.ref na, .int sz9])), (na, .inl (cT, 16, .inr (.inr (.inr (.inr ga))))), (w0, .inr (7, [.long wu, .long wl, .long wp])), (e0, .inr (4, [.ref eq, .ref ep, .int ns])), (eq, .inr (3, [.long su, .long sl])), (ep, .inr (3, [.long pu, .long pw]))]) [0, 1, 2, 3, 4, 5, 6] (by decide) rfl
        have hK9 := hK.sub (tys' := [(cT, .object "MeetingsAbove$Thing"), (cI, .int)]) [0, 1] rfl
        refine W.widen (k := 0) (n := 0) (by omega) (by omega) ?_
        exact W.lret (v := (-100002)) hx hb hr (fun t ht hW => ⟨⟨_, (), rfl, trivial, ns, wu, wl, wp, su, sl, pu, pw, by rw [ht]; exact hP9, va_K.moved hW.alike hK9, hD9⟩, hS.F ht⟩) hS.2.2 dX8_least_46
