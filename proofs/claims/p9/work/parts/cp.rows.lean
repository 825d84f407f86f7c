def wk_X8_countMeetingsE : List Cond := .code yX8_countMeetings cX8_countMeetings 4 (some .int) :: (([.fieldLink RX8 12 "MeetingsAbove" "now" "LMeetingsAbove$Catalogue;", .fieldLink RX8 88 "MeetingsAbove$Catalogue" "size" "I"] : List Cond) ++ (wsX80 ++ (wsX10 ++ ((wsV RX8 213 RX8 yX8_doMeet wk_X8_doMeetE) ++ ([])))))
theorem in_X8_countMeetingsE_X1 : ∀ w ∈ wsX10, w ∈ wk_X8_countMeetingsE := fun _ h => List.mem_cons_of_mem _ (List.mem_append_right _ (List.mem_append_right _ (List.mem_append_left _ h)))
theorem in_X8_countMeetingsE_X8 : ∀ w ∈ wsX80, w ∈ wk_X8_countMeetingsE := fun _ h => List.mem_cons_of_mem _ (List.mem_append_right _ (List.mem_append_left _ h))
theorem gw_X8_countMeetingsE : AG wk_X8_countMeetingsE := AG_ca (AG_l (by decide +kernel)) (AG_app ag_X8 (AG_app ag_X1 (AG_app (AG_V gw_X8_doMeetE) (AG_nil))))
theorem g_X8_countMeetingsE__X8_doMeetE_213 : GoodIn wk_X8_countMeetingsE (wsV RX8 213 RX8 yX8_doMeet wk_X8_doMeetE) := goodIn_m (fun _ h => List.mem_cons_of_mem _ (List.mem_append_right _ (List.mem_append_right _ (List.mem_append_right _ (List.mem_append_left _ h))))) (AG_V gw_X8_doMeetE)
set_option maxHeartbeats 4000000 in
set_option maxRecDepth 100000 in
theorem c_X8_countMeetingsE (l : Launch) (dC : Nat → ClassId) (dI : Nat → Nat → Nat) (h0 : Nat) (n0 : Nat) (s0 : Nat) (s1 : Nat) (d0 : Nat) (o0 : Nat) (w0 : Nat) (e0 : Nat) (f0 : Nat) (t0 : Nat) (b0 : Nat) (dn : Int32) (nn : Int32) (la : Int32) (ne : Int32) (wi : Int32) (lm : Int32) (na : Nat) (cT : ClassId) (sz9 : Int32) (ga : Nat → Option Nat) (cI : ClassId) (L : List Nat) (f : Nat → va_E) (ow : Nat → Nat) (v : Nat → TV) (wu : Int64) (wl : Int64) (wp : Int64) (sz : Nat) (hV : nowV L f cI ow sz9 ga v) (hne0 : 0 ≤ ne.toInt) (hne1 : ne.toInt ≤ 3000) : Met l yX8_countMeetings wk_X8_countMeetingsE ({ frames := 4, cells := 0, slots := 0, locals := 111 }) (va_Pc [.ref h0] (fun U => U.heap.size = sz ∧ va_P (dC, dI) vwCl (([(h0, .inr (8, [.ref n0, .ref s0, .ref s1, .ref d0, .ref o0, .int dn, .int nn, .int la, .int ne, .int wi, .ref w0, .ref e0, .ref f0, .ref t0, .ref b0, .int lm])), (n0, .inr (1, [.ref na, .int sz9])), (na, .inl (cT, 16, .inr (.inr (.inr (.inr ga))))), (w0, .inr (7, [.long wu, .long wl, .long wp]))] : va_W) ++ va_pl L f) U.heap ∧ va_K (dC, dI) vwCl [(cT, .object "MeetingsAbove$Thing"), (cI, .int)] U ∧ va_D (fun _ => True) (([(h0, .inr (8, [.ref n0, .ref s0, .ref s1, .ref d0, .ref o0, .int dn, .int nn, .int la, .int ne, .int wi, .ref w0, .ref e0, .ref f0, .ref t0, .ref b0, .int lm])), (n0, .inr (1, [.ref na, .int sz9])), (na, .inl (cT, 16, .inr (.inr (.inr (.inr ga))))), (w0, .inr (7, [.long wu, .long wl, .long wp]))] : va_W) ++ va_pl L f))) (va_Qi (fun (r : Int32) (_ : Unit) => r.toInt = allN (mtM v ne.toInt) sz9.toInt.toNat sz9.toInt.toNat) (fun (_ : Unit) (t : State) => ∃ (wu9 : Int64) (wl9 : Int64) (wp9 : Int64), va_P (dC, dI) vwCl (([(h0, .inr (8, [.ref n0, .ref s0, .ref s1, .ref d0, .ref o0, .int dn, .int nn, .int la, .int ne, .int wi, .ref w0, .ref e0, .ref f0, .ref t0, .ref b0, .int lm])), (n0, .inr (1, [.ref na, .int sz9])), (na, .inl (cT, 16, .inr (.inr (.inr (.inr ga))))), (w0, .inr (7, [.long wu9, .long wl9, .long wp9]))] : va_W) ++ va_pl L f) t.heap ∧ va_K (dC, dI) vwCl [(cT, .object "MeetingsAbove$Thing"), (cI, .int)] t ∧ va_D (va_A (([(h0, .inr (8, [.ref n0, .ref s0, .ref s1, .ref d0, .ref o0, .int dn, .int nn, .int la, .int ne, .int wi, .ref w0, .ref e0, .ref f0, .ref t0, .ref b0, .int lm])), (n0, .inr (1, [.ref na, .int sz9])), (na, .inl (cT, 16, .inr (.inr (.inr (.inr ga))))), (w0, .inr (7, [.long wu, .long wl, .long wp]))] : va_W) ++ va_pl L f) sz) (([(h0, .inr (8, [.ref n0, .ref s0, .ref s1, .ref d0, .ref o0, .int dn, .int nn, .int la, .int ne, .int wi, .ref w0, .ref e0, .ref f0, .ref t0, .ref b0, .int lm])), (n0, .inr (1, [.ref na, .int sz9])), (na, .inl (cT, 16, .inr (.inr (.inr (.inr ga))))), (w0, .inr (7, [.long wu9, .long wl9, .long wp9]))] : va_W) ++ va_pl L f)) (va_A (([(h0, .inr (8, [.ref n0, .ref s0, .ref s1, .ref d0, .ref o0, .int dn, .int nn, .int la, .int ne, .int wi, .ref w0, .ref e0, .ref f0, .ref t0, .ref b0, .int lm])), (n0, .inr (1, [.ref na, .int sz9])), (na, .inl (cT, 16, .inr (.inr (.inr (.inr ga))))), (w0, .inr (7, [.long wu, .long wl, .long wp]))] : va_W) ++ va_pl L f) sz)) 0 0 (va_A (([(h0, .inr (8, [.ref n0, .ref s0, .ref s1, .ref d0, .ref o0, .int dn, .int nn, .int la, .int ne, .int wi, .ref w0, .ref e0, .ref f0, .ref t0, .ref b0, .int lm])), (n0, .inr (1, [.ref na, .int sz9])), (na, .inl (cT, 16, .inr (.inr (.inr (.inr ga))))), (w0, .inr (7, [.long wu, .long wl, .long wp]))] : va_W) ++ va_pl L f) sz) := by
  refine Met.ofW (cc := cX8_countMeetings) (maxL := 4) (ret := (some .int)) (by decide) rfl ?_
  intro p e s m args below meth c s₁ B hml hv
  obtain ⟨rfl, hsz, hP, hK, hD0⟩ := hv
  have hx := B.exec
  have hb := B.bytes
  have hr := B.returns
  have hts := atoms_spec (ws := wk_X8_countMeetingsE) B.pre
  have hown : s.vm.findClass RX8 = some m.cls := findClass_of_methodNamed B.named
  have hlocks := B.notSynchronized
  subst hsz
  have hD := hD0.self (sz := s.heap.size)
  generalize hAe : va_A (([(h0, .inr (8, [.ref n0, .ref s0, .ref s1, .ref d0, .ref o0, .int dn, .int nn, .int la, .int ne, .int wi, .ref w0, .ref e0, .ref f0, .ref t0, .ref b0, .int lm])), (n0, .inr (1, [.ref na, .int sz9])), (na, .inl (cT, 16, .inr (.inr (.inr (.inr ga))))), (w0, .inr (7, [.long wu, .long wl, .long wp]))] : va_W) ++ va_pl L f) s.heap.size = A at hD ⊢
  have hA : ∀ q : Nat, s.heap.size ≤ q → A q := fun q h => by rw [← hAe]; exact Or.inr h
  have hS : va_S A s.heap s.heap [] := va_S.rf
  have hP : va_P (dC, dI) vwCl (([(h0, .inr (8, [.ref n0, .ref s0, .ref s1, .ref d0, .ref o0, .int dn, .int nn, .int la, .int ne, .int wi, .ref w0, .ref e0, .ref f0, .ref t0, .ref b0, .int lm])), (n0, .inr (1, [.ref na, .int sz9])), (na, .inl (cT, 16, .inr (.inr (.inr (.inr ga))))), (w0, .inr (7, [.long wu, .long wl, .long wp]))] : va_W) ++ va_pl L f) s.heap := hP
  have hl := lv_entry ([.ref h0]) (n := 4) (Nat.le_of_ble_eq_true rfl)
  rw [lg_entry_eq]
  generalize (lg_sl ([.ref h0]) ++ List.replicate (4 - (lg_sl ([.ref h0])).length) Slot.unset).toArray = ls at hl ⊢
  have hl : lv_has ls 4 [(0, .ref h0)] := hl
  have kl_0 : (0 : Int32).toInt = 0 := by decide
  have kl_1 : (1 : Int32).toInt = 1 := by decide
  have hC := nowV_cat hV
  obtain ⟨hC0, hC1, hC2⟩ := id hC
  refine lv_iconst (v := 0) hx hb dX8_countMeetings_0 (by decide) ?_
  refine lv_istore_n (lv' := [(1, .int 0), (0, .ref h0)]) hx hb dX8_countMeetings_1 rfl hl (by decide) rfl (fun ls hl => ?_)
  refine lv_iconst (v := 0) hx hb dX8_countMeetings_2 (by decide) ?_
  refine lv_istore_n (lv' := [(2, .int 0), (1, .int 0), (0, .ref h0)]) hx hb dX8_countMeetings_3 rfl hl (by decide) rfl (fun ls hl => ?_)
  refine (show ∀ (k : Nat) (n1 : Int32) (t2 : Int32) (vu : Int64) (vl : Int64) (vp : Int64) (hk0 : 0 ≤ t2.toInt) (hk1 : t2.toInt ≤ sz9.toInt) (hn : n1.toInt = allN (mtM v ne.toInt) sz9.toInt.toNat t2.toInt.toNat) (hk_4 : (sz9.toInt - t2.toInt).toNat < k) (H : Heap) (locs : List Loc) (hP : va_P (dC, dI) vwCl (([(h0, .inr (8, [.ref n0, .ref s0, .ref s1, .ref d0, .ref o0, .int dn, .int nn, .int la, .int ne, .int wi, .ref w0, .ref e0, .ref f0, .ref t0, .ref b0, .int lm])), (n0, .inr (1, [.ref na, .int sz9])), (na, .inl (cT, 16, .inr (.inr (.inr (.inr ga))))), (w0, .inr (7, [.long vu, .long vl, .long vp]))] : va_W) ++ va_pl L f) H) (hD : va_D A (([(h0, .inr (8, [.ref n0, .ref s0, .ref s1, .ref d0, .ref o0, .int dn, .int nn, .int la, .int ne, .int wi, .ref w0, .ref e0, .ref f0, .ref t0, .ref b0, .int lm])), (n0, .inr (1, [.ref na, .int sz9])), (na, .inl (cT, 16, .inr (.inr (.inr (.inr ga))))), (w0, .inr (7, [.long vu, .long vl, .long vp]))] : va_W) ++ va_pl L f)) (hS : va_S A s.heap H locs) (ls : Array Slot) (hl : lv_has ls 4 [(0, .ref h0), (1, .int n1), (2, .int t2)]), W p l e _ s m _ below meth c H locs 0 0 _ (F0 m 4 ls []) from ?_) _ 0 0 wu wl wp (by omega) (by omega) (by rw [show (0 : Int32).toInt.toNat = 0 by omega]; exact kl_0) (Nat.lt_succ_self _) _ _ hP hD hS ls (lv_sub hl [2, 1, 0] rfl)
  intro k
  induction k with
  | zero => intro n1 t2 vu vl vp hk0 hk1 hn hk_4; exact absurd hk_4 (Nat.not_lt_zero _)
  | succ k ih_4 =>
    intro n1 t2 vu vl vp hk0 hk1 hn hk_4 H locs hP hD hS ls hl
    refine lv_iload_n hx hb dX8_countMeetings_4 rfl (lv_at hl 2 rfl) ?_
    refine lv_aload_n hx hb dX8_countMeetings_5 rfl (lv_at hl 0 rfl) ?_
    refine va_get (D := (dC, dI)) (ci := 8) (v := .ref n0) (C := RX8) (T := TX8) (N := 16) hx hb hts in_X8_countMeetingsE_X8 hown hK hP 0 rfl rfl 0 (by decide) (hts (.fieldLink RX8 12 "MeetingsAbove" "now" "LMeetingsAbove$Catalogue;") (by decide +kernel)) (fun _ h9 => h9) rfl dX8_countMeetings_6 ?_
    refine va_get (D := (dC, dI)) (ci := 1) (v := .int sz9) (C := RX1) (T := TX1) (N := 2) hx hb hts in_X8_countMeetingsE_X1 hown hK hP 1 rfl rfl 1 (by decide) (hts (.fieldLink RX8 88 "MeetingsAbove$Catalogue" "size" "I") (by decide +kernel)) (fun _ h9 => h9) rfl dX8_countMeetings_9 ?_
    refine lv_icmp_ge (tgt := 54) hx hb dX8_countMeetings_12 (by decide) (fun c_12 => ?_) (fun c_12 => ?_)
    · have t_12 := (fa_le _ _).mp c_12
      refine lv_iload_n hx hb dX8_countMeetings_54 rfl (lv_at hl 1 rfl) ?_
      have hP9 := hP.part (cx := [(h0, .inr (8, [.ref n0, .ref s0, .ref s1, .ref d0, .ref o0, .int dn, .int nn, .int la, .int ne, .int wi, .ref w0, .ref e0, .ref f0, .ref t0, .ref b0, .int lm])), (n0, .inr (1, [.ref na, .int sz9])), (na, .inl (cT, 16, .inr (.inr (.inr (.inr ga))))), (w0, .inr (7, [.long vu, .long vl, .long vp]))]) [0, 1, 2, 3] rfl
      have hD9 := hD.part (cx := [(h0, .inr (8, [.ref n0, .ref s0, .ref s1, .ref d0, .ref o0, .int dn, .int nn, .int la, .int ne, .int wi, .ref w0, .ref e0, .ref f0, .ref t0, .ref b0, .int lm])), (n0, .inr (1, [.ref na, .int sz9])), (na, .inl (cT, 16, .inr (.inr (.inr (.inr ga))))), (w0, .inr (7, [.long vu, .long vl, .long vp]))]) [0, 1, 2, 3] (by decide) rfl
      have hK9 := hK.sub (tys' := [(cT, .object "MeetingsAbove$Thing"), (cI, .int)]) [0, 1] rfl
      refine W.widen (k := 0) (n := 0) (by omega) (by omega) ?_
      exact W.iret (v := n1) hx hb hr (fun t ht hW => ⟨⟨_, (), rfl, (by rw [show sz9.toInt.toNat = t2.toInt.toNat by omega] at hn ⊢; exact hn), vu, vl, vp, by rw [ht]; exact hP9, va_K.moved hW.alike hK9, hD9⟩, hS.F ht⟩) hS.2.2 dX8_countMeetings_55
    · have t_12 := mt (fa_le _ _).mpr c_12
      refine lv_iload_n hx hb dX8_countMeetings_15 rfl (lv_at hl 2 rfl) ?_
      refine lv_iconst (v := 1) hx hb dX8_countMeetings_16 (by decide) ?_
      refine lv_iadd hx hb dX8_countMeetings_17 ?_
      refine lv_topi (fun y_1 ey_1 => ?_)
      have ty_1 : y_1.toInt = t2.toInt + 1 := by rw [ey_1]; have := fb_addI (x := t2) (y := 1) (by omega) (by omega); omega
      refine lv_istore_n (lv' := [(3, .int y_1), (0, .ref h0), (1, .int n1), (2, .int t2)]) hx hb dX8_countMeetings_18 rfl hl (by decide) rfl (fun ls hl => ?_)
      refine (show ∀ (k : Nat) (n3 : Int32) (u3 : Int32) (vux : Int64) (vlx : Int64) (vpx : Int64) (hv0 : t2.toInt < u3.toInt) (hv1 : u3.toInt ≤ sz9.toInt) (hn3 : n3.toInt = ((allN (mtM v ne.toInt) sz9.toInt.toNat t2.toInt.toNat + rowN (mtM v ne.toInt) t2.toInt.toNat u3.toInt.toNat : Nat) : Int)) (hk_19 : (sz9.toInt - u3.toInt).toNat < k) (H : Heap) (locs : List Loc) (hP : va_P (dC, dI) vwCl (([(h0, .inr (8, [.ref n0, .ref s0, .ref s1, .ref d0, .ref o0, .int dn, .int nn, .int la, .int ne, .int wi, .ref w0, .ref e0, .ref f0, .ref t0, .ref b0, .int lm])), (n0, .inr (1, [.ref na, .int sz9])), (na, .inl (cT, 16, .inr (.inr (.inr (.inr ga))))), (w0, .inr (7, [.long vux, .long vlx, .long vpx]))] : va_W) ++ va_pl L f) H) (hD : va_D A (([(h0, .inr (8, [.ref n0, .ref s0, .ref s1, .ref d0, .ref o0, .int dn, .int nn, .int la, .int ne, .int wi, .ref w0, .ref e0, .ref f0, .ref t0, .ref b0, .int lm])), (n0, .inr (1, [.ref na, .int sz9])), (na, .inl (cT, 16, .inr (.inr (.inr (.inr ga))))), (w0, .inr (7, [.long vux, .long vlx, .long vpx]))] : va_W) ++ va_pl L f)) (hS : va_S A s.heap H locs) (ls : Array Slot) (hl : lv_has ls 4 [(0, .ref h0), (1, .int n3), (2, .int t2), (3, .int u3)]), W p l e _ s m _ below meth c H locs 0 0 _ (F0 m 19 ls []) from ?_) _ n1 y_1 vu vl vp (by omega) (by omega) (by rw [rowN_z (by omega)]; exact hn) (Nat.lt_succ_self _) H _ hP hD hS ls (lv_sub hl [1, 2, 3, 0] rfl)
      intro k
      induction k with
      | zero => intro n3 u3 vux vlx vpx hv0 hv1 hn3 hk_19; exact absurd hk_19 (Nat.not_lt_zero _)
      | succ k ih_19 =>
        intro n3 u3 vux vlx vpx hv0 hv1 hn3 hk_19 H locs hP hD hS ls hl
        refine lv_iload_n hx hb dX8_countMeetings_19 rfl (lv_at hl 3 rfl) ?_
        refine lv_aload_n hx hb dX8_countMeetings_20 rfl (lv_at hl 0 rfl) ?_
        refine va_get (D := (dC, dI)) (ci := 8) (v := .ref n0) (C := RX8) (T := TX8) (N := 16) hx hb hts in_X8_countMeetingsE_X8 hown hK hP 0 rfl rfl 0 (by decide) (hts (.fieldLink RX8 12 "MeetingsAbove" "now" "LMeetingsAbove$Catalogue;") (by decide +kernel)) (fun _ h9 => h9) rfl dX8_countMeetings_21 ?_
        refine va_get (D := (dC, dI)) (ci := 1) (v := .int sz9) (C := RX1) (T := TX1) (N := 2) hx hb hts in_X8_countMeetingsE_X1 hown hK hP 1 rfl rfl 1 (by decide) (hts (.fieldLink RX8 88 "MeetingsAbove$Catalogue" "size" "I") (by decide +kernel)) (fun _ h9 => h9) rfl dX8_countMeetings_24 ?_
        refine lv_icmp_ge (tgt := 48) hx hb dX8_countMeetings_27 (by decide) (fun c_27 => ?_) (fun c_27 => ?_)
        · have t_27 := (fa_le _ _).mp c_27
          obtain ⟨y_2, ey_2⟩ : ∃ y : Int32, y = t2 + 1 := ⟨_, rfl⟩
          have ty_2 : y_2.toInt = t2.toInt + 1 := by rw [ey_2]; have := fb_addI (x := t2) (y := 1) (by omega) (by omega); omega
          refine lv_iinc (v := y_2) (lv' := [(2, .int y_2), (0, .ref h0), (1, .int n3), (3, .int u3)]) hx hb dX8_countMeetings_48 hl (k := 2) rfl (by rw [ey_2]; rfl) (by decide) rfl (fun ls hl => ?_)
          refine lv_goto (tgt := 4) hx hb dX8_countMeetings_51 (by decide) ?_
          exact ih_4 n3 y_2 vux vlx vpx (by omega) (by omega) (by rw [show (y_2).toInt.toNat = t2.toInt.toNat + 1 by omega]; have hu9 : u3.toInt.toNat = sz9.toInt.toNat := (by omega); rw [hu9] at hn3; exact hn3) (by omega) H _ (hP.part [0, 1, 2, 3] rfl) (hD.part [0, 1, 2, 3] (by decide) rfl) hS ls (lv_sub hl [1, 2, 0] rfl)
        · have t_27 := mt (fa_le _ _).mpr c_27
          refine lv_aload_n hx hb dX8_countMeetings_30 rfl (lv_at hl 0 rfl) ?_
          refine lv_iload_n hx hb dX8_countMeetings_31 rfl (lv_at hl 2 rfl) ?_
          refine lv_iload_n hx hb dX8_countMeetings_32 rfl (lv_at hl 3 rfl) ?_
          have hPc := hP.part (cx := [(h0, .inr (8, [.ref n0, .ref s0, .ref s1, .ref d0, .ref o0, .int dn, .int nn, .int la, .int ne, .int wi, .ref w0, .ref e0, .ref f0, .ref t0, .ref b0, .int lm])), (n0, .inr (1, [.ref na, .int sz9])), (na, .inl (cT, 16, .inr (.inr (.inr (.inr ga))))), (w0, .inr (7, [.long vux, .long vlx, .long vpx]))]) [0, 1, 2, 3] rfl
          have hKc := hK.sub (tys' := [(cT, .object "MeetingsAbove$Thing"), (cI, .int)]) [0, 1] rfl
          have hDc := hD.part (cx := [(h0, .inr (8, [.ref n0, .ref s0, .ref s1, .ref d0, .ref o0, .int dn, .int nn, .int la, .int ne, .int wi, .ref w0, .ref e0, .ref f0, .ref t0, .ref b0, .int lm])), (n0, .inr (1, [.ref na, .int sz9])), (na, .inl (cT, 16, .inr (.inr (.inr (.inr ga))))), (w0, .inr (7, [.long vux, .long vlx, .long vpx]))]) [0, 1, 2, 3] (by decide) rfl
          have hFc := va_freeP (cx := [(h0, .inr (8, [.ref n0, .ref s0, .ref s1, .ref d0, .ref o0, .int dn, .int nn, .int la, .int ne, .int wi, .ref w0, .ref e0, .ref f0, .ref t0, .ref b0, .int lm])), (n0, .inr (1, [.ref na, .int sz9])), (na, .inl (cT, 16, .inr (.inr (.inr (.inr ga))))), (w0, .inr (7, [.long vux, .long vlx, .long vpx]))]) hD hS hA [0, 1, 2, 3] rfl
          refine va_calli (va_runV (As := [.int t2, .int u3]) (rest := []) ⟨hx, hb, hml, hown, hts⟩ (c_X8_doMeetE l dC dI h0 n0 s0 s1 d0 o0 w0 e0 f0 t0 b0 dn nn la ne wi lm na cT sz9 ga cI L f ow v vux vlx vpx t2 u3 H.size (by first | assumption | omega) (by first | omega | assumption) (by first | omega | assumption)) (cwV 2 hts g_X8_countMeetingsE__X8_doMeetE_213 rfl rfl rfl (by decide +kernel) ⟨Nat.le_of_ble_eq_true rfl, Nat.le_of_ble_eq_true rfl⟩) ⟨fun a U g mk q => by obtain ⟨q0, q1, qP, qK, qD⟩ := q; exact ⟨q0, q1, qP, va_K.moved (u := U) (U := U.calling g mk a) (Vm.Alike.refl U.vm) qK, qD⟩, va_recv hKc hPc (ci := 8) (q0 := 0) rfl rfl, fun U hU hW => ⟨rfl, by rw [hU], by rw [hU]; exact hPc, va_K.moved hW.alike hKc, hDc.weaken (fun _ _ _ _ => trivial)⟩⟩ rfl rfl hl.1 rfl (lv_room (Nat.le_of_ble_eq_true rfl)) dX8_countMeetings_33 ⟨Nat.le_of_ble_eq_true rfl, Nat.le_of_ble_eq_true rfl⟩) hS (fun q _ h => hFc q h) hFc (fun r_4 u_3 t H1 locs ht hvm hw_4 hB hz1 hk1 hS => ?_)
          obtain ⟨wu9_5, wl9_6, wp9_7, hP1, hK1, hD1⟩ := hB
          rw [ht] at hP1
          have hK1 := va_K.moved hvm.symm hK1
          obtain ⟨hP, hD⟩ := va_joinP (wr := []) (rx := [(h0, .inr (8, [.ref n0, .ref s0, .ref s1, .ref d0, .ref o0, .int dn, .int nn, .int la, .int ne, .int wi, .ref w0, .ref e0, .ref f0, .ref t0, .ref b0, .int lm])), (n0, .inr (1, [.ref na, .int sz9])), (na, .inl (cT, 16, .inr (.inr (.inr (.inr ga))))), (w0, .inr (7, [.long wu9_5, .long wl9_6, .long wp9_7]))]) hP hD [0, 1, 2, 3] [] rfl rfl (by decide) (by decide) hk1 hFc hP1 hD1
          have hK := (hK.sub (tys' := [(cT, .object "MeetingsAbove$Thing"), (cI, .int)]) [0, 1] rfl).app hK1
          generalize H1 = H at hP hS ⊢
          have hP : va_P (dC, dI) vwCl (([(h0, .inr (8, [.ref n0, .ref s0, .ref s1, .ref d0, .ref o0, .int dn, .int nn, .int la, .int ne, .int wi, .ref w0, .ref e0, .ref f0, .ref t0, .ref b0, .int lm])), (n0, .inr (1, [.ref na, .int sz9])), (na, .inl (cT, 16, .inr (.inr (.inr (.inr ga))))), (w0, .inr (7, [.long wu9_5, .long wl9_6, .long wp9_7]))] : va_W) ++ va_pl L f) H := hP
          have hD : va_D A (([(h0, .inr (8, [.ref n0, .ref s0, .ref s1, .ref d0, .ref o0, .int dn, .int nn, .int la, .int ne, .int wi, .ref w0, .ref e0, .ref f0, .ref t0, .ref b0, .int lm])), (n0, .inr (1, [.ref na, .int sz9])), (na, .inl (cT, 16, .inr (.inr (.inr (.inr ga))))), (w0, .inr (7, [.long wu9_5, .long wl9_6, .long wp9_7]))] : va_W) ++ va_pl L f) := hD
          have hK : va_K (dC, dI) vwCl [(cT, .object "MeetingsAbove$Thing"), (cI, .int), (cT, .object "MeetingsAbove$Thing"), (cI, .int)] s := hK
          refine W.widen (k := 0) (n := 0) (by omega) (by omega) ?_
          try dsimp only at hw_4
          refine lv_if_eq (tgt := 42) hx hb dX8_countMeetings_36 (by decide) (fun c_36 => ?_) (fun c_36 => ?_)
          · have t_36 := (fa_eq _ _).mp c_36
            obtain ⟨y_8, ey_8⟩ : ∃ y : Int32, y = u3 + 1 := ⟨_, rfl⟩
            have ty_8 : y_8.toInt = u3.toInt + 1 := by rw [ey_8]; have := fb_addI (x := u3) (y := 1) (by omega) (by omega); omega
            refine lv_iinc (v := y_8) (lv' := [(3, .int y_8), (0, .ref h0), (1, .int n3), (2, .int t2)]) hx hb dX8_countMeetings_42 hl (k := 3) rfl (by rw [ey_8]; rfl) (by decide) rfl (fun ls hl => ?_)
            refine lv_goto (tgt := 19) hx hb dX8_countMeetings_45 (by decide) ?_
            exact ih_19 n3 y_8 wu9_5 wl9_6 wp9_7 (by omega) (by omega) (by rw [show (y_8).toInt.toNat = u3.toInt.toNat + 1 by omega]; first | (rw [rowN_1 (M := (mtM v ne.toInt)) (t := t2.toInt.toNat) (n := u3.toInt.toNat) (by omega) (tv_1 hw_4 c_36).2]; omega) | (rw [rowN_0 (M := (mtM v ne.toInt)) (t := t2.toInt.toNat) (n := u3.toInt.toNat) (fun h => (tv_0 hw_4 c_36) ⟨⟨⟨by omega, by omega⟩, ⟨by omega, by omega⟩⟩, h⟩)]; omega)) (by omega) H _ (hP.part [0, 1, 2, 3] rfl) (hD.part [0, 1, 2, 3] (by decide) rfl) hS ls (lv_sub hl [1, 2, 3, 0] rfl)
          · have t_36 := mt (fa_eq _ _).mpr c_36
            have b9 := allN_16 (M := (mtM v ne.toInt)) (sz := sz9.toInt.toNat) (t := t2.toInt.toNat) (by omega) (by omega)
            have b8 := rowN_le (mtM v ne.toInt) t2.toInt.toNat u3.toInt.toNat
            obtain ⟨y_9, ey_9⟩ : ∃ y : Int32, y = n3 + 1 := ⟨_, rfl⟩
            have ty_9 : y_9.toInt = n3.toInt + 1 := by rw [ey_9]; have := fb_addI (x := n3) (y := 1) (by omega) (by omega); omega
            refine lv_iinc (v := y_9) (lv' := [(1, .int y_9), (0, .ref h0), (2, .int t2), (3, .int u3)]) hx hb dX8_countMeetings_39 hl (k := 1) rfl (by rw [ey_9]; rfl) (by decide) rfl (fun ls hl => ?_)
            obtain ⟨y_10, ey_10⟩ : ∃ y : Int32, y = u3 + 1 := ⟨_, rfl⟩
            have ty_10 : y_10.toInt = u3.toInt + 1 := by rw [ey_10]; have := fb_addI (x := u3) (y := 1) (by omega) (by omega); omega
            refine lv_iinc (v := y_10) (lv' := [(3, .int y_10), (1, .int y_9), (0, .ref h0), (2, .int t2)]) hx hb dX8_countMeetings_42 hl (k := 3) rfl (by rw [ey_10]; rfl) (by decide) rfl (fun ls hl => ?_)
            refine lv_goto (tgt := 19) hx hb dX8_countMeetings_45 (by decide) ?_
            exact ih_19 y_9 y_10 wu9_5 wl9_6 wp9_7 (by omega) (by omega) (by rw [show (y_10).toInt.toNat = u3.toInt.toNat + 1 by omega]; first | (rw [rowN_1 (M := (mtM v ne.toInt)) (t := t2.toInt.toNat) (n := u3.toInt.toNat) (by omega) (tv_1 hw_4 c_36).2]; omega) | (rw [rowN_0 (M := (mtM v ne.toInt)) (t := t2.toInt.toNat) (n := u3.toInt.toNat) (fun h => (tv_0 hw_4 c_36) ⟨⟨⟨by omega, by omega⟩, ⟨by omega, by omega⟩⟩, h⟩)]; omega)) (by omega) H _ (hP.part [0, 1, 2, 3] rfl) (hD.part [0, 1, 2, 3] (by decide) rfl) hS ls (lv_sub hl [2, 1, 3, 0] rfl)
