def wk_X8_meetingE : List Cond := .code yX8_meeting cX8_meeting 6 (some .int) :: (([.fieldLink RX8 12 "MeetingsAbove" "now" "LMeetingsAbove$Catalogue;", .fieldLink RX8 88 "MeetingsAbove$Catalogue" "size" "I", .constant RX8 87 (-100002)] : List Cond) ++ (wsX80 ++ (wsX10 ++ ((va_wsS RX8 84 yX8_isWithin wk_X8_isWithin) ++ ((wsV RX8 213 RX8 yX8_doMeet wk_X8_doMeetE) ++ ([]))))))
theorem in_X8_meetingE_X1 : ∀ w ∈ wsX10, w ∈ wk_X8_meetingE := fun _ h => List.mem_cons_of_mem _ (List.mem_append_right _ (List.mem_append_right _ (List.mem_append_left _ h)))
theorem in_X8_meetingE_X8 : ∀ w ∈ wsX80, w ∈ wk_X8_meetingE := fun _ h => List.mem_cons_of_mem _ (List.mem_append_right _ (List.mem_append_left _ h))
theorem gw_X8_meetingE : AG wk_X8_meetingE := AG_ca (AG_l (by decide +kernel)) (AG_app ag_X8 (AG_app ag_X1 (AG_app (AG_S gw_X8_isWithin) (AG_app (AG_V gw_X8_doMeetE) (AG_nil)))))
theorem g_X8_meetingE__X8_isWithin_84 : GoodIn wk_X8_meetingE (va_wsS RX8 84 yX8_isWithin wk_X8_isWithin) := goodIn_m (fun _ h => List.mem_cons_of_mem _ (List.mem_append_right _ (List.mem_append_right _ (List.mem_append_right _ (List.mem_append_left _ h))))) (AG_S gw_X8_isWithin)
theorem g_X8_meetingE__X8_doMeetE_213 : GoodIn wk_X8_meetingE (wsV RX8 213 RX8 yX8_doMeet wk_X8_doMeetE) := goodIn_m (fun _ h => List.mem_cons_of_mem _ (List.mem_append_right _ (List.mem_append_right _ (List.mem_append_right _ (List.mem_append_right _ (List.mem_append_left _ h)))))) (AG_V gw_X8_doMeetE)
set_option maxHeartbeats 4000000 in
set_option maxRecDepth 100000 in
theorem c_X8_meetingE (l : Launch) (dC : Nat → ClassId) (dI : Nat → Nat → Nat) (h0 : Nat) (n0 : Nat) (s0 : Nat) (s1 : Nat) (d0 : Nat) (o0 : Nat) (w0 : Nat) (e0 : Nat) (f0 : Nat) (t0 : Nat) (b0 : Nat) (dn : Int32) (nn : Int32) (la : Int32) (ne : Int32) (wi : Int32) (lm : Int32) (na : Nat) (cT : ClassId) (sz9 : Int32) (ga : Nat → Option Nat) (cI : ClassId) (L : List Nat) (f : Nat → va_E) (ow : Nat → Nat) (v : Nat → TV) (wu : Int64) (wl : Int64) (wp : Int64) (p1 : Int32) (p2 : Int32) (sz : Nat) (hV : nowV L f cI ow sz9 ga v) (hne0 : 0 ≤ ne.toInt) (hne1 : ne.toInt ≤ 3000) : Met l yX8_meeting wk_X8_meetingE ({ frames := 4, cells := 0, slots := 0, locals := 111 }) (va_Pc [.ref h0, .int p1, .int p2] (fun U => U.heap.size = sz ∧ va_P (dC, dI) vwCl (([(h0, .inr (8, [.ref n0, .ref s0, .ref s1, .ref d0, .ref o0, .int dn, .int nn, .int la, .int ne, .int wi, .ref w0, .ref e0, .ref f0, .ref t0, .ref b0, .int lm])), (n0, .inr (1, [.ref na, .int sz9])), (na, .inl (cT, 16, .inr (.inr (.inr (.inr ga))))), (w0, .inr (7, [.long wu, .long wl, .long wp]))] : va_W) ++ va_pl L f) U.heap ∧ va_K (dC, dI) vwCl [(cT, .object "MeetingsAbove$Thing"), (cI, .int)] U ∧ va_D (fun _ => True) (([(h0, .inr (8, [.ref n0, .ref s0, .ref s1, .ref d0, .ref o0, .int dn, .int nn, .int la, .int ne, .int wi, .ref w0, .ref e0, .ref f0, .ref t0, .ref b0, .int lm])), (n0, .inr (1, [.ref na, .int sz9])), (na, .inl (cT, 16, .inr (.inr (.inr (.inr ga))))), (w0, .inr (7, [.long wu, .long wl, .long wp]))] : va_W) ++ va_pl L f))) (va_Qi (fun (r : Int32) (_ : Unit) => (¬ (0 ≤ p2.toInt ∧ p2.toInt ≤ 1) ∧ r = -100002) ∨ ((0 ≤ p2.toInt ∧ p2.toInt ≤ 1) ∧ meA (mtM v ne.toInt) sz9.toInt.toNat p1.toInt p2.toInt r.toInt)) (fun (_ : Unit) (t : State) => ∃ (wu9 : Int64) (wl9 : Int64) (wp9 : Int64), va_P (dC, dI) vwCl (([(h0, .inr (8, [.ref n0, .ref s0, .ref s1, .ref d0, .ref o0, .int dn, .int nn, .int la, .int ne, .int wi, .ref w0, .ref e0, .ref f0, .ref t0, .ref b0, .int lm])), (n0, .inr (1, [.ref na, .int sz9])), (na, .inl (cT, 16, .inr (.inr (.inr (.inr ga))))), (w0, .inr (7, [.long wu9, .long wl9, .long wp9]))] : va_W) ++ va_pl L f) t.heap ∧ va_K (dC, dI) vwCl [(cT, .object "MeetingsAbove$Thing"), (cI, .int)] t ∧ va_D (va_A (([(h0, .inr (8, [.ref n0, .ref s0, .ref s1, .ref d0, .ref o0, .int dn, .int nn, .int la, .int ne, .int wi, .ref w0, .ref e0, .ref f0, .ref t0, .ref b0, .int lm])), (n0, .inr (1, [.ref na, .int sz9])), (na, .inl (cT, 16, .inr (.inr (.inr (.inr ga))))), (w0, .inr (7, [.long wu, .long wl, .long wp]))] : va_W) ++ va_pl L f) sz) (([(h0, .inr (8, [.ref n0, .ref s0, .ref s1, .ref d0, .ref o0, .int dn, .int nn, .int la, .int ne, .int wi, .ref w0, .ref e0, .ref f0, .ref t0, .ref b0, .int lm])), (n0, .inr (1, [.ref na, .int sz9])), (na, .inl (cT, 16, .inr (.inr (.inr (.inr ga))))), (w0, .inr (7, [.long wu9, .long wl9, .long wp9]))] : va_W) ++ va_pl L f)) (va_A (([(h0, .inr (8, [.ref n0, .ref s0, .ref s1, .ref d0, .ref o0, .int dn, .int nn, .int la, .int ne, .int wi, .ref w0, .ref e0, .ref f0, .ref t0, .ref b0, .int lm])), (n0, .inr (1, [.ref na, .int sz9])), (na, .inl (cT, 16, .inr (.inr (.inr (.inr ga))))), (w0, .inr (7, [.long wu, .long wl, .long wp]))] : va_W) ++ va_pl L f) sz)) 0 0 (va_A (([(h0, .inr (8, [.ref n0, .ref s0, .ref s1, .ref d0, .ref o0, .int dn, .int nn, .int la, .int ne, .int wi, .ref w0, .ref e0, .ref f0, .ref t0, .ref b0, .int lm])), (n0, .inr (1, [.ref na, .int sz9])), (na, .inl (cT, 16, .inr (.inr (.inr (.inr ga))))), (w0, .inr (7, [.long wu, .long wl, .long wp]))] : va_W) ++ va_pl L f) sz) := by
  refine Met.ofW (cc := cX8_meeting) (maxL := 6) (ret := (some .int)) (by decide) rfl ?_
  intro p e s m args below meth c s₁ B hml hv
  obtain ⟨rfl, hsz, hP, hK, hD0⟩ := hv
  have hx := B.exec
  have hb := B.bytes
  have hr := B.returns
  have hts := atoms_spec (ws := wk_X8_meetingE) B.pre
  have hown : s.vm.findClass RX8 = some m.cls := findClass_of_methodNamed B.named
  have hlocks := B.notSynchronized
  subst hsz
  have hD := hD0.self (sz := s.heap.size)
  generalize hAe : va_A (([(h0, .inr (8, [.ref n0, .ref s0, .ref s1, .ref d0, .ref o0, .int dn, .int nn, .int la, .int ne, .int wi, .ref w0, .ref e0, .ref f0, .ref t0, .ref b0, .int lm])), (n0, .inr (1, [.ref na, .int sz9])), (na, .inl (cT, 16, .inr (.inr (.inr (.inr ga))))), (w0, .inr (7, [.long wu, .long wl, .long wp]))] : va_W) ++ va_pl L f) s.heap.size = A at hD ⊢
  have hA : ∀ q : Nat, s.heap.size ≤ q → A q := fun q h => by rw [← hAe]; exact Or.inr h
  have hS : va_S A s.heap s.heap [] := va_S.rf
  have hP : va_P (dC, dI) vwCl (([(h0, .inr (8, [.ref n0, .ref s0, .ref s1, .ref d0, .ref o0, .int dn, .int nn, .int la, .int ne, .int wi, .ref w0, .ref e0, .ref f0, .ref t0, .ref b0, .int lm])), (n0, .inr (1, [.ref na, .int sz9])), (na, .inl (cT, 16, .inr (.inr (.inr (.inr ga))))), (w0, .inr (7, [.long wu, .long wl, .long wp]))] : va_W) ++ va_pl L f) s.heap := hP
  have hl := lv_entry ([.ref h0, .int p1, .int p2]) (n := 6) (Nat.le_of_ble_eq_true rfl)
  rw [lg_entry_eq]
  generalize (lg_sl ([.ref h0, .int p1, .int p2]) ++ List.replicate (6 - (lg_sl ([.ref h0, .int p1, .int p2])).length) Slot.unset).toArray = ls at hl ⊢
  have hl : lv_has ls 6 [(0, .ref h0), (1, .int p1), (2, .int p2)] := hl
  have kl_m100002 : (-100002 : Int32).toInt = -100002 := by decide
  have kl_m1 : (-1 : Int32).toInt = -1 := by decide
  have kl_0 : (0 : Int32).toInt = 0 := by decide
  have kl_1 : (1 : Int32).toInt = 1 := by decide
  have hC := nowV_cat hV
  obtain ⟨hC0, hC1, hC2⟩ := id hC
  refine lv_iload_n hx hb dX8_meeting_0 rfl (lv_at hl 2 rfl) ?_
  refine lv_iconst (v := 0) hx hb dX8_meeting_1 (by decide) ?_
  refine lv_iconst (v := 1) hx hb dX8_meeting_2 (by decide) ?_
  refine vp_callSi (W.runS (As := [.int p2, .int 0, .int 1]) (rest := []) ⟨hx, hb, hml, hown, hts⟩ (c_X8_isWithin l dC dI p2 0 1) (va_cwS 3 hts g_X8_meetingE__X8_isWithin_84 rfl rfl rfl (by decide +kernel) ⟨Nat.le_of_ble_eq_true rfl, Nat.le_of_ble_eq_true rfl⟩) ⟨fun a U g mk q => by obtain ⟨q0, q1⟩ := q; exact ⟨q0, q1⟩, fun U hU hW => ⟨rfl, trivial⟩⟩ rfl rfl hl.1 rfl (lv_room (Nat.le_of_ble_eq_true rfl)) dX8_meeting_3 ⟨Nat.le_of_ble_eq_true rfl, Nat.le_of_ble_eq_true rfl⟩) (fun r_1 hr_1 => ?_)
  try dsimp only at hr_1
  rcases bo_split hr_1 with ⟨rfl, q_3⟩ | ⟨rfl, q_3⟩
  · refine lv_if_ne (tgt := 12) hx hb dX8_meeting_6 (by decide) (fun _ => ?_) (fun h9 => absurd h9 (by decide))
    refine lv_iconst (v := 0) hx hb dX8_meeting_12 (by decide) ?_
    refine lv_istore_n (lv' := [(3, .int 0), (0, .ref h0), (1, .int p1), (2, .int p2)]) hx hb dX8_meeting_13 rfl hl (by decide) rfl (fun ls hl => ?_)
    refine lv_iconst (v := 0) hx hb dX8_meeting_14 (by decide) ?_
    refine lv_istore (lv' := [(4, .int 0), (3, .int 0), (0, .ref h0), (1, .int p1), (2, .int p2)]) hx hb dX8_meeting_15 hl (by decide) rfl (fun ls hl => ?_)
    refine (show ∀ (k : Nat) (n3 : Int32) (t4 : Int32) (vu : Int64) (vl : Int64) (vp : Int64) (hk0 : 0 ≤ t4.toInt) (hk1 : t4.toInt ≤ sz9.toInt) (hn : n3.toInt = allN (mtM v ne.toInt) sz9.toInt.toNat t4.toInt.toNat) (hno : meN (mtM v ne.toInt) sz9.toInt.toNat p1.toInt t4.toInt.toNat) (hk_17 : (sz9.toInt - t4.toInt).toNat < k) (H : Heap) (locs : List Loc) (hP : va_P (dC, dI) vwCl (([(h0, .inr (8, [.ref n0, .ref s0, .ref s1, .ref d0, .ref o0, .int dn, .int nn, .int la, .int ne, .int wi, .ref w0, .ref e0, .ref f0, .ref t0, .ref b0, .int lm])), (n0, .inr (1, [.ref na, .int sz9])), (na, .inl (cT, 16, .inr (.inr (.inr (.inr ga))))), (w0, .inr (7, [.long vu, .long vl, .long vp]))] : va_W) ++ va_pl L f) H) (hD : va_D A (([(h0, .inr (8, [.ref n0, .ref s0, .ref s1, .ref d0, .ref o0, .int dn, .int nn, .int la, .int ne, .int wi, .ref w0, .ref e0, .ref f0, .ref t0, .ref b0, .int lm])), (n0, .inr (1, [.ref na, .int sz9])), (na, .inl (cT, 16, .inr (.inr (.inr (.inr ga))))), (w0, .inr (7, [.long vu, .long vl, .long vp]))] : va_W) ++ va_pl L f)) (hS : va_S A s.heap H locs) (ls : Array Slot) (hl : lv_has ls 6 [(0, .ref h0), (1, .int p1), (2, .int p2), (3, .int n3), (4, .int t4)]), W p l e _ s m _ below meth c H locs 0 0 _ (F0 m 17 ls []) from ?_) _ 0 0 wu wl wp (by omega) (by omega) (by rw [show (0 : Int32).toInt.toNat = 0 by omega]; exact kl_0) (by rw [show (0 : Int32).toInt.toNat = 0 by omega]; exact meN_0 _ _ _) (Nat.lt_succ_self _) _ _ hP hD hS ls (lv_sub hl [2, 3, 4, 1, 0] rfl)
    intro k
    induction k with
    | zero => intro n3 t4 vu vl vp hk0 hk1 hn hno hk_17; exact absurd hk_17 (Nat.not_lt_zero _)
    | succ k ih_17 =>
      intro n3 t4 vu vl vp hk0 hk1 hn hno hk_17 H locs hP hD hS ls hl
      refine lv_iload hx hb dX8_meeting_17 (lv_at hl 4 rfl) ?_
      refine lv_aload_n hx hb dX8_meeting_19 rfl (lv_at hl 0 rfl) ?_
      refine va_get (D := (dC, dI)) (ci := 8) (v := .ref n0) (C := RX8) (T := TX8) (N := 16) hx hb hts in_X8_meetingE_X8 hown hK hP 0 rfl rfl 0 (by decide) (hts (.fieldLink RX8 12 "MeetingsAbove" "now" "LMeetingsAbove$Catalogue;") (by decide +kernel)) (fun _ h9 => h9) rfl dX8_meeting_20 ?_
      refine va_get (D := (dC, dI)) (ci := 1) (v := .int sz9) (C := RX1) (T := TX1) (N := 2) hx hb hts in_X8_meetingE_X1 hown hK hP 1 rfl rfl 1 (by decide) (hts (.fieldLink RX8 88 "MeetingsAbove$Catalogue" "size" "I") (by decide +kernel)) (fun _ h9 => h9) rfl dX8_meeting_23 ?_
      refine lv_icmp_ge (tgt := 90) hx hb dX8_meeting_26 (by decide) (fun c_26 => ?_) (fun c_26 => ?_)
      · have t_26 := (fa_le _ _).mp c_26
        refine lv_iconst (v := (-1)) hx hb dX8_meeting_90 (by decide) ?_
        have hP9 := hP.part (cx := [(h0, .inr (8, [.ref n0, .ref s0, .ref s1, .ref d0, .ref o0, .int dn, .int nn, .int la, .int ne, .int wi, .ref w0, .ref e0, .ref f0, .ref t0, .ref b0, .int lm])), (n0, .inr (1, [.ref na, .int sz9])), (na, .inl (cT, 16, .inr (.inr (.inr (.inr ga))))), (w0, .inr (7, [.long vu, .long vl, .long vp]))]) [0, 1, 2, 3] rfl
        have hD9 := hD.part (cx := [(h0, .inr (8, [.ref n0, .ref s0, .ref s1, .ref d0, .ref o0, .int dn, .int nn, .int la, .int ne, .int wi, .ref w0, .ref e0, .ref f0, .ref t0, .ref b0, .int lm])), (n0, .inr (1, [.ref na, .int sz9])), (na, .inl (cT, 16, .inr (.inr (.inr (.inr ga))))), (w0, .inr (7, [.long vu, .long vl, .long vp]))]) [0, 1, 2, 3] (by decide) rfl
        have hK9 := hK.sub (tys' := [(cT, .object "MeetingsAbove$Thing"), (cI, .int)]) [0, 1] rfl
        refine W.widen (k := 0) (n := 0) (by omega) (by omega) ?_
        exact W.iret (v := (-1)) hx hb hr (fun t ht hW => ⟨⟨_, (), rfl, (Or.inr ⟨by omega, meA_no hno (by omega)⟩), vu, vl, vp, by rw [ht]; exact hP9, va_K.moved hW.alike hK9, hD9⟩, hS.F ht⟩) hS.2.2 dX8_meeting_91
      · have t_26 := mt (fa_le _ _).mpr c_26
        refine lv_iload hx hb dX8_meeting_29 (lv_at hl 4 rfl) ?_
        refine lv_iconst (v := 1) hx hb dX8_meeting_31 (by decide) ?_
        refine lv_iadd hx hb dX8_meeting_32 ?_
        refine lv_topi (fun y_2 ey_2 => ?_)
        have ty_2 : y_2.toInt = t4.toInt + 1 := by rw [ey_2]; have := fb_addI (x := t4) (y := 1) (by omega) (by omega); omega
        refine lv_istore (lv' := [(5, .int y_2), (0, .ref h0), (1, .int p1), (2, .int p2), (3, .int n3), (4, .int t4)]) hx hb dX8_meeting_33 hl (by decide) rfl (fun ls hl => ?_)
        refine (show ∀ (k : Nat) (n4 : Int32) (u5 : Int32) (vux : Int64) (vlx : Int64) (vpx : Int64) (hv0 : t4.toInt < u5.toInt) (hv1 : u5.toInt ≤ sz9.toInt) (hn4 : n4.toInt = ((allN (mtM v ne.toInt) sz9.toInt.toNat t4.toInt.toNat + rowN (mtM v ne.toInt) t4.toInt.toNat u5.toInt.toNat : Nat) : Int)) (hnr : meR (mtM v ne.toInt) sz9.toInt.toNat p1.toInt t4.toInt.toNat u5.toInt.toNat) (hk_35 : (sz9.toInt - u5.toInt).toNat < k) (H : Heap) (locs : List Loc) (hP : va_P (dC, dI) vwCl (([(h0, .inr (8, [.ref n0, .ref s0, .ref s1, .ref d0, .ref o0, .int dn, .int nn, .int la, .int ne, .int wi, .ref w0, .ref e0, .ref f0, .ref t0, .ref b0, .int lm])), (n0, .inr (1, [.ref na, .int sz9])), (na, .inl (cT, 16, .inr (.inr (.inr (.inr ga))))), (w0, .inr (7, [.long vux, .long vlx, .long vpx]))] : va_W) ++ va_pl L f) H) (hD : va_D A (([(h0, .inr (8, [.ref n0, .ref s0, .ref s1, .ref d0, .ref o0, .int dn, .int nn, .int la, .int ne, .int wi, .ref w0, .ref e0, .ref f0, .ref t0, .ref b0, .int lm])), (n0, .inr (1, [.ref na, .int sz9])), (na, .inl (cT, 16, .inr (.inr (.inr (.inr ga))))), (w0, .inr (7, [.long vux, .long vlx, .long vpx]))] : va_W) ++ va_pl L f)) (hS : va_S A s.heap H locs) (ls : Array Slot) (hl : lv_has ls 6 [(0, .ref h0), (1, .int p1), (2, .int p2), (3, .int n4), (4, .int t4), (5, .int u5)]), W p l e _ s m _ below meth c H locs 0 0 _ (F0 m 35 ls []) from ?_) _ n3 y_2 vu vl vp (by omega) (by omega) (by rw [rowN_z (by omega)]; exact hn) (by exact meR_0 _ _ _ _ (by omega)) (Nat.lt_succ_self _) H _ hP hD hS ls (lv_sub hl [1, 2, 3, 4, 5, 0] rfl)
        intro k
        induction k with
        | zero => intro n4 u5 vux vlx vpx hv0 hv1 hn4 hnr hk_35; exact absurd hk_35 (Nat.not_lt_zero _)
        | succ k ih_35 =>
          intro n4 u5 vux vlx vpx hv0 hv1 hn4 hnr hk_35 H locs hP hD hS ls hl
          refine lv_iload hx hb dX8_meeting_35 (lv_at hl 5 rfl) ?_
          refine lv_aload_n hx hb dX8_meeting_37 rfl (lv_at hl 0 rfl) ?_
          refine va_get (D := (dC, dI)) (ci := 8) (v := .ref n0) (C := RX8) (T := TX8) (N := 16) hx hb hts in_X8_meetingE_X8 hown hK hP 0 rfl rfl 0 (by decide) (hts (.fieldLink RX8 12 "MeetingsAbove" "now" "LMeetingsAbove$Catalogue;") (by decide +kernel)) (fun _ h9 => h9) rfl dX8_meeting_38 ?_
          refine va_get (D := (dC, dI)) (ci := 1) (v := .int sz9) (C := RX1) (T := TX1) (N := 2) hx hb hts in_X8_meetingE_X1 hown hK hP 1 rfl rfl 1 (by decide) (hts (.fieldLink RX8 88 "MeetingsAbove$Catalogue" "size" "I") (by decide +kernel)) (fun _ h9 => h9) rfl dX8_meeting_41 ?_
          refine lv_icmp_ge (tgt := 84) hx hb dX8_meeting_44 (by decide) (fun c_44 => ?_) (fun c_44 => ?_)
          · have t_44 := (fa_le _ _).mp c_44
            obtain ⟨y_3, ey_3⟩ : ∃ y : Int32, y = t4 + 1 := ⟨_, rfl⟩
            have ty_3 : y_3.toInt = t4.toInt + 1 := by rw [ey_3]; have := fb_addI (x := t4) (y := 1) (by omega) (by omega); omega
            refine lv_iinc (v := y_3) (lv' := [(4, .int y_3), (0, .ref h0), (1, .int p1), (2, .int p2), (3, .int n4), (5, .int u5)]) hx hb dX8_meeting_84 hl (k := 4) rfl (by rw [ey_3]; rfl) (by decide) rfl (fun ls hl => ?_)
            refine lv_goto (tgt := 17) hx hb dX8_meeting_87 (by decide) ?_
            exact ih_17 n4 y_3 vux vlx vpx (by omega) (by omega) (by rw [show (y_3).toInt.toNat = t4.toInt.toNat + 1 by omega]; have hu9 : u5.toInt.toNat = sz9.toInt.toNat := (by omega); rw [hu9] at hn4; exact hn4) (by rw [show (y_3).toInt.toNat = t4.toInt.toNat + 1 by omega]; exact meN_1 hno hnr (by omega)) (by omega) H _ (hP.part [0, 1, 2, 3] rfl) (hD.part [0, 1, 2, 3] (by decide) rfl) hS ls (lv_sub hl [1, 2, 3, 4, 0] rfl)
          · have t_44 := mt (fa_le _ _).mpr c_44
            refine lv_aload_n hx hb dX8_meeting_47 rfl (lv_at hl 0 rfl) ?_
            refine lv_iload hx hb dX8_meeting_48 (lv_at hl 4 rfl) ?_
            refine lv_iload hx hb dX8_meeting_50 (lv_at hl 5 rfl) ?_
            have hPc := hP.part (cx := [(h0, .inr (8, [.ref n0, .ref s0, .ref s1, .ref d0, .ref o0, .int dn, .int nn, .int la, .int ne, .int wi, .ref w0, .ref e0, .ref f0, .ref t0, .ref b0, .int lm])), (n0, .inr (1, [.ref na, .int sz9])), (na, .inl (cT, 16, .inr (.inr (.inr (.inr ga))))), (w0, .inr (7, [.long vux, .long vlx, .long vpx]))]) [0, 1, 2, 3] rfl
            have hKc := hK.sub (tys' := [(cT, .object "MeetingsAbove$Thing"), (cI, .int)]) [0, 1] rfl
            have hDc := hD.part (cx := [(h0, .inr (8, [.ref n0, .ref s0, .ref s1, .ref d0, .ref o0, .int dn, .int nn, .int la, .int ne, .int wi, .ref w0, .ref e0, .ref f0, .ref t0, .ref b0, .int lm])), (n0, .inr (1, [.ref na, .int sz9])), (na, .inl (cT, 16, .inr (.inr (.inr (.inr ga))))), (w0, .inr (7, [.long vux, .long vlx, .long vpx]))]) [0, 1, 2, 3] (by decide) rfl
            have hFc := va_freeP (cx := [(h0, .inr (8, [.ref n0, .ref s0, .ref s1, .ref d0, .ref o0, .int dn, .int nn, .int la, .int ne, .int wi, .ref w0, .ref e0, .ref f0, .ref t0, .ref b0, .int lm])), (n0, .inr (1, [.ref na, .int sz9])), (na, .inl (cT, 16, .inr (.inr (.inr (.inr ga))))), (w0, .inr (7, [.long vux, .long vlx, .long vpx]))]) hD hS hA [0, 1, 2, 3] rfl
            refine va_calli (va_runV (As := [.int t4, .int u5]) (rest := []) ⟨hx, hb, hml, hown, hts⟩ (c_X8_doMeetE l dC dI h0 n0 s0 s1 d0 o0 w0 e0 f0 t0 b0 dn nn la ne wi lm na cT sz9 ga cI L f ow v vux vlx vpx t4 u5 H.size (by first | assumption | omega) (by first | omega | assumption) (by first | omega | assumption)) (cwV 2 hts g_X8_meetingE__X8_doMeetE_213 rfl rfl rfl (by decide +kernel) ⟨Nat.le_of_ble_eq_true rfl, Nat.le_of_ble_eq_true rfl⟩) ⟨fun a U g mk q => by obtain ⟨q0, q1, qP, qK, qD⟩ := q; exact ⟨q0, q1, qP, va_K.moved (u := U) (U := U.calling g mk a) (Vm.Alike.refl U.vm) qK, qD⟩, va_recv hKc hPc (ci := 8) (q0 := 0) rfl rfl, fun U hU hW => ⟨rfl, by rw [hU], by rw [hU]; exact hPc, va_K.moved hW.alike hKc, hDc.weaken (fun _ _ _ _ => trivial)⟩⟩ rfl rfl hl.1 rfl (lv_room (Nat.le_of_ble_eq_true rfl)) dX8_meeting_52 ⟨Nat.le_of_ble_eq_true rfl, Nat.le_of_ble_eq_true rfl⟩) hS (fun q _ h => hFc q h) hFc (fun r_5 u_4 t H1 locs ht hvm hw_5 hB hz1 hk1 hS => ?_)
            obtain ⟨wu9_6, wl9_7, wp9_8, hP1, hK1, hD1⟩ := hB
            rw [ht] at hP1
            have hK1 := va_K.moved hvm.symm hK1
            obtain ⟨hP, hD⟩ := va_joinP (wr := []) (rx := [(h0, .inr (8, [.ref n0, .ref s0, .ref s1, .ref d0, .ref o0, .int dn, .int nn, .int la, .int ne, .int wi, .ref w0, .ref e0, .ref f0, .ref t0, .ref b0, .int lm])), (n0, .inr (1, [.ref na, .int sz9])), (na, .inl (cT, 16, .inr (.inr (.inr (.inr ga))))), (w0, .inr (7, [.long wu9_6, .long wl9_7, .long wp9_8]))]) hP hD [0, 1, 2, 3] [] rfl rfl (by decide) (by decide) hk1 hFc hP1 hD1
            have hK := (hK.sub (tys' := [(cT, .object "MeetingsAbove$Thing"), (cI, .int)]) [0, 1] rfl).app hK1
            generalize H1 = H at hP hS ⊢
            have hP : va_P (dC, dI) vwCl (([(h0, .inr (8, [.ref n0, .ref s0, .ref s1, .ref d0, .ref o0, .int dn, .int nn, .int la, .int ne, .int wi, .ref w0, .ref e0, .ref f0, .ref t0, .ref b0, .int lm])), (n0, .inr (1, [.ref na, .int sz9])), (na, .inl (cT, 16, .inr (.inr (.inr (.inr ga))))), (w0, .inr (7, [.long wu9_6, .long wl9_7, .long wp9_8]))] : va_W) ++ va_pl L f) H := hP
            have hD : va_D A (([(h0, .inr (8, [.ref n0, .ref s0, .ref s1, .ref d0, .ref o0, .int dn, .int nn, .int la, .int ne, .int wi, .ref w0, .ref e0, .ref f0, .ref t0, .ref b0, .int lm])), (n0, .inr (1, [.ref na, .int sz9])), (na, .inl (cT, 16, .inr (.inr (.inr (.inr ga))))), (w0, .inr (7, [.long wu9_6, .long wl9_7, .long wp9_8]))] : va_W) ++ va_pl L f) := hD
            have hK : va_K (dC, dI) vwCl [(cT, .object "MeetingsAbove$Thing"), (cI, .int), (cT, .object "MeetingsAbove$Thing"), (cI, .int)] s := hK
            refine W.widen (k := 0) (n := 0) (by omega) (by omega) ?_
            try dsimp only at hw_5
            refine lv_if_eq (tgt := 78) hx hb dX8_meeting_55 (by decide) (fun c_55 => ?_) (fun c_55 => ?_)
            · have t_55 := (fa_eq _ _).mp c_55
              obtain ⟨y_9, ey_9⟩ : ∃ y : Int32, y = u5 + 1 := ⟨_, rfl⟩
              have ty_9 : y_9.toInt = u5.toInt + 1 := by rw [ey_9]; have := fb_addI (x := u5) (y := 1) (by omega) (by omega); omega
              refine lv_iinc (v := y_9) (lv' := [(5, .int y_9), (0, .ref h0), (1, .int p1), (2, .int p2), (3, .int n4), (4, .int t4)]) hx hb dX8_meeting_78 hl (k := 5) rfl (by rw [ey_9]; rfl) (by decide) rfl (fun ls hl => ?_)
              refine lv_goto (tgt := 35) hx hb dX8_meeting_81 (by decide) ?_
              exact ih_35 n4 y_9 wu9_6 wl9_7 wp9_8 (by omega) (by omega) (by rw [show (y_9).toInt.toNat = u5.toInt.toNat + 1 by omega]; first | (rw [rowN_1 (M := (mtM v ne.toInt)) (t := t4.toInt.toNat) (n := u5.toInt.toNat) (by omega) ((tv_1 hw_5 c_55).2)]; omega) | (rw [rowN_0 (M := (mtM v ne.toInt)) (t := t4.toInt.toNat) (n := u5.toInt.toNat) (fun h => (tv_0 hw_5 c_55) ⟨⟨⟨by omega, by omega⟩, ⟨by omega, by omega⟩⟩, h⟩)]; omega)) (by rw [show (y_9).toInt.toNat = u5.toInt.toNat + 1 by omega]; first | exact meR_1 hnr (by rw [← hn4]; omega) | exact meR_2 hnr (fun h => (tv_0 hw_5 c_55) ⟨⟨⟨by omega, by omega⟩, ⟨by omega, by omega⟩⟩, h⟩)) (by omega) H _ (hP.part [0, 1, 2, 3] rfl) (hD.part [0, 1, 2, 3] (by decide) rfl) hS ls (lv_sub hl [1, 2, 3, 4, 5, 0] rfl)
            · have t_55 := mt (fa_eq _ _).mpr c_55
              refine lv_iload_n hx hb dX8_meeting_58 rfl (lv_at hl 3 rfl) ?_
              refine lv_iload_n hx hb dX8_meeting_59 rfl (lv_at hl 1 rfl) ?_
              refine lv_icmp_ne (tgt := 75) hx hb dX8_meeting_60 (by decide) (fun c_60 => ?_) (fun c_60 => ?_)
              · have t_60 := mt (fa_eq _ _).mpr c_60
                have b9 := allN_16 (M := (mtM v ne.toInt)) (sz := sz9.toInt.toNat) (t := t4.toInt.toNat) (by omega) (by omega)
                have b8 := rowN_le (mtM v ne.toInt) t4.toInt.toNat u5.toInt.toNat
                obtain ⟨y_10, ey_10⟩ : ∃ y : Int32, y = n4 + 1 := ⟨_, rfl⟩
                have ty_10 : y_10.toInt = n4.toInt + 1 := by rw [ey_10]; have := fb_addI (x := n4) (y := 1) (by omega) (by omega); omega
                refine lv_iinc (v := y_10) (lv' := [(3, .int y_10), (0, .ref h0), (1, .int p1), (2, .int p2), (4, .int t4), (5, .int u5)]) hx hb dX8_meeting_75 hl (k := 3) rfl (by rw [ey_10]; rfl) (by decide) rfl (fun ls hl => ?_)
                obtain ⟨y_11, ey_11⟩ : ∃ y : Int32, y = u5 + 1 := ⟨_, rfl⟩
                have ty_11 : y_11.toInt = u5.toInt + 1 := by rw [ey_11]; have := fb_addI (x := u5) (y := 1) (by omega) (by omega); omega
                refine lv_iinc (v := y_11) (lv' := [(5, .int y_11), (3, .int y_10), (0, .ref h0), (1, .int p1), (2, .int p2), (4, .int t4)]) hx hb dX8_meeting_78 hl (k := 5) rfl (by rw [ey_11]; rfl) (by decide) rfl (fun ls hl => ?_)
                refine lv_goto (tgt := 35) hx hb dX8_meeting_81 (by decide) ?_
                exact ih_35 y_10 y_11 wu9_6 wl9_7 wp9_8 (by omega) (by omega) (by rw [show (y_11).toInt.toNat = u5.toInt.toNat + 1 by omega]; first | (rw [rowN_1 (M := (mtM v ne.toInt)) (t := t4.toInt.toNat) (n := u5.toInt.toNat) (by omega) ((tv_1 hw_5 c_55).2)]; omega) | (rw [rowN_0 (M := (mtM v ne.toInt)) (t := t4.toInt.toNat) (n := u5.toInt.toNat) (fun h => (tv_0 hw_5 c_55) ⟨⟨⟨by omega, by omega⟩, ⟨by omega, by omega⟩⟩, h⟩)]; omega)) (by rw [show (y_11).toInt.toNat = u5.toInt.toNat + 1 by omega]; first | exact meR_1 hnr (by rw [← hn4]; omega) | exact meR_2 hnr (fun h => (tv_0 hw_5 c_55) ⟨⟨⟨by omega, by omega⟩, ⟨by omega, by omega⟩⟩, h⟩)) (by omega) H _ (hP.part [0, 1, 2, 3] rfl) (hD.part [0, 1, 2, 3] (by decide) rfl) hS ls (lv_sub hl [2, 3, 4, 1, 5, 0] rfl)
              · have t_60 := (fa_eq _ _).mp c_60
                refine lv_iload_n hx hb dX8_meeting_63 rfl (lv_at hl 2 rfl) ?_
                refine lv_if_ne (tgt := 72) hx hb dX8_meeting_64 (by decide) (fun c_64 => ?_) (fun c_64 => ?_)
                · have t_64 := mt (fa_eq _ _).mpr c_64
                  refine lv_iload hx hb dX8_meeting_72 (lv_at hl 5 rfl) ?_
                  have hP9 := hP.part (cx := [(h0, .inr (8, [.ref n0, .ref s0, .ref s1, .ref d0, .ref o0, .int dn, .int nn, .int la, .int ne, .int wi, .ref w0, .ref e0, .ref f0, .ref t0, .ref b0, .int lm])), (n0, .inr (1, [.ref na, .int sz9])), (na, .inl (cT, 16, .inr (.inr (.inr (.inr ga))))), (w0, .inr (7, [.long wu9_6, .long wl9_7, .long wp9_8]))]) [0, 1, 2, 3] rfl
                  have hD9 := hD.part (cx := [(h0, .inr (8, [.ref n0, .ref s0, .ref s1, .ref d0, .ref o0, .int dn, .int nn, .int la, .int ne, .int wi, .ref w0, .ref e0, .ref f0, .ref t0, .ref b0, .int lm])), (n0, .inr (1, [.ref na, .int sz9])), (na, .inl (cT, 16, .inr (.inr (.inr (.inr ga))))), (w0, .inr (7, [.long wu9_6, .long wl9_7, .long wp9_8]))]) [0, 1, 2, 3] (by decide) rfl
                  have hK9 := hK.sub (tys' := [(cT, .object "MeetingsAbove$Thing"), (cI, .int)]) [0, 1] rfl
                  refine W.widen (k := 0) (n := 0) (by omega) (by omega) ?_
                  exact W.iret (v := u5) hx hb hr (fun t ht hW => ⟨⟨_, (), rfl, (Or.inr ⟨by omega, Or.inl ⟨t4.toInt.toNat, u5.toInt.toNat, by omega, by omega, (tv_1 hw_5 c_55).2, by rw [← hn4]; omega, by first | exact Or.inl ⟨by omega, by omega⟩ | exact Or.inr ⟨by omega, by omega⟩⟩⟩), wu9_6, wl9_7, wp9_8, by rw [ht]; exact hP9, va_K.moved hW.alike hK9, hD9⟩, hS.F ht⟩) hS.2.2 dX8_meeting_74
                · have t_64 := (fa_eq _ _).mp c_64
                  refine lv_iload hx hb dX8_meeting_67 (lv_at hl 4 rfl) ?_
                  refine lv_goto (tgt := 74) hx hb dX8_meeting_69 (by decide) ?_
                  have hP9 := hP.part (cx := [(h0, .inr (8, [.ref n0, .ref s0, .ref s1, .ref d0, .ref o0, .int dn, .int nn, .int la, .int ne, .int wi, .ref w0, .ref e0, .ref f0, .ref t0, .ref b0, .int lm])), (n0, .inr (1, [.ref na, .int sz9])), (na, .inl (cT, 16, .inr (.inr (.inr (.inr ga))))), (w0, .inr (7, [.long wu9_6, .long wl9_7, .long wp9_8]))]) [0, 1, 2, 3] rfl
                  have hD9 := hD.part (cx := [(h0, .inr (8, [.ref n0, .ref s0, .ref s1, .ref d0, .ref o0, .int dn, .int nn, .int la, .int ne, .int wi, .ref w0, .ref e0, .ref f0, .ref t0, .ref b0, .int lm])), (n0, .inr (1, [.ref na, .int sz9])), (na, .inl (cT, 16, .inr (.inr (.inr (.inr ga))))), (w0, .inr (7, [.long wu9_6, .long wl9_7, .long wp9_8]))]) [0, 1, 2, 3] (by decide) rfl
                  have hK9 := hK.sub (tys' := [(cT, .object "MeetingsAbove$Thing"), (cI, .int)]) [0, 1] rfl
                  refine W.widen (k := 0) (n := 0) (by omega) (by omega) ?_
                  exact W.iret (v := t4) hx hb hr (fun t ht hW => ⟨⟨_, (), rfl, (Or.inr ⟨by omega, Or.inl ⟨t4.toInt.toNat, u5.toInt.toNat, by omega, by omega, (tv_1 hw_5 c_55).2, by rw [← hn4]; omega, by first | exact Or.inl ⟨by omega, by omega⟩ | exact Or.inr ⟨by omega, by omega⟩⟩⟩), wu9_6, wl9_7, wp9_8, by rw [ht]; exact hP9, va_K.moved hW.alike hK9, hD9⟩, hS.F ht⟩) hS.2.2 dX8_meeting_74
  · refine lv_if_ne (tgt := 12) hx hb dX8_meeting_6 (by decide) (fun h9 => absurd h9 (by decide)) (fun _ => ?_)
    refine lv_ldc hx hb hown (hts (.constant RX8 87 (-100002)) (by decide +kernel)) dX8_meeting_9 ?_
    have hP9 := hP.part (cx := [(h0, .inr (8, [.ref n0, .ref s0, .ref s1, .ref d0, .ref o0, .int dn, .int nn, .int la, .int ne, .int wi, .ref w0, .ref e0, .ref f0, .ref t0, .ref b0, .int lm])), (n0, .inr (1, [.ref na, .int sz9])), (na, .inl (cT, 16, .inr (.inr (.inr (.inr ga))))), (w0, .inr (7, [.long wu, .long wl, .long wp]))]) [0, 1, 2, 3] rfl
    have hD9 := hD.part (cx := [(h0, .inr (8, [.ref n0, .ref s0, .ref s1, .ref d0, .ref o0, .int dn, .int nn, .int la, .int ne, .int wi, .ref w0, .ref e0, .ref f0, .ref t0, .ref b0, .int lm])), (n0, .inr (1, [.ref na, .int sz9])), (na, .inl (cT, 16, .inr (.inr (.inr (.inr ga))))), (w0, .inr (7, [.long wu, .long wl, .long wp]))]) [0, 1, 2, 3] (by decide) rfl
    have hK9 := hK.sub (tys' := [(cT, .object "MeetingsAbove$Thing"), (cI, .int)]) [0, 1] rfl
    refine W.widen (k := 0) (n := 0) (by omega) (by omega) ?_
    exact W.iret (v := (-100002)) hx hb hr (fun t ht hW => ⟨⟨_, (), rfl, (Or.inl ⟨by omega, rfl⟩), wu, wl, wp, by rw [ht]; exact hP9, va_K.moved hW.alike hK9, hD9⟩, hS.F ht⟩) hS.2.2 dX8_meeting_11
