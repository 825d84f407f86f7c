def wk_X8_meetingsOfE : List Cond := .code yX8_meetingsOf cX8_meetingsOf 6 (some .int) :: (([.fieldLink RX8 12 "MeetingsAbove" "now" "LMeetingsAbove$Catalogue;", .fieldLink RX8 88 "MeetingsAbove$Catalogue" "size" "I", .fieldLink RX8 108 "MeetingsAbove$Thing" "gone" "Z"] : List Cond) ++ (wsX80 ++ (wsX10 ++ (wsX60 ++ ((wsV RX8 103 RX1 yX1_find wk_X1_find) ++ ((va_wsS RX8 350 yX8_isOtherThere wk_X8_isOtherThere_n) ++ ((va_wsS RX8 350 yX8_isOtherThere wk_X8_isOtherThere_r) ++ ((wsV RX8 347 RX8 yX8_comeNear wk_X8_comeNearPE) ++ ([])))))))))
theorem in_X8_meetingsOfE_X1 : ∀ w ∈ wsX10, w ∈ wk_X8_meetingsOfE := fun _ h => List.mem_cons_of_mem _ (List.mem_append_right _ (List.mem_append_right _ (List.mem_append_left _ h)))
theorem in_X8_meetingsOfE_X6 : ∀ w ∈ wsX60, w ∈ wk_X8_meetingsOfE := fun _ h => List.mem_cons_of_mem _ (List.mem_append_right _ (List.mem_append_right _ (List.mem_append_right _ (List.mem_append_left _ h))))
theorem in_X8_meetingsOfE_X8 : ∀ w ∈ wsX80, w ∈ wk_X8_meetingsOfE := fun _ h => List.mem_cons_of_mem _ (List.mem_append_right _ (List.mem_append_left _ h))
theorem gw_X8_meetingsOfE : AG wk_X8_meetingsOfE := AG_ca (AG_l (by decide +kernel)) (AG_app ag_X8 (AG_app ag_X1 (AG_app ag_X6 (AG_app (AG_V gw_X1_find) (AG_app (AG_S gw_X8_isOtherThere_n) (AG_app (AG_S gw_X8_isOtherThere_r) (AG_app (AG_V gw_X8_comeNearPE) (AG_nil))))))))
theorem g_X8_meetingsOfE__X1_find_103 : GoodIn wk_X8_meetingsOfE (wsV RX8 103 RX1 yX1_find wk_X1_find) := goodIn_m (fun _ h => List.mem_cons_of_mem _ (List.mem_append_right _ (List.mem_append_right _ (List.mem_append_right _ (List.mem_append_right _ (List.mem_append_left _ h)))))) (AG_V gw_X1_find)
theorem g_X8_meetingsOfE__X8_isOtherThere_n_350 : GoodIn wk_X8_meetingsOfE (va_wsS RX8 350 yX8_isOtherThere wk_X8_isOtherThere_n) := goodIn_m (fun _ h => List.mem_cons_of_mem _ (List.mem_append_right _ (List.mem_append_right _ (List.mem_append_right _ (List.mem_append_right _ (List.mem_append_right _ (List.mem_append_left _ h))))))) (AG_S gw_X8_isOtherThere_n)
theorem g_X8_meetingsOfE__X8_isOtherThere_r_350 : GoodIn wk_X8_meetingsOfE (va_wsS RX8 350 yX8_isOtherThere wk_X8_isOtherThere_r) := goodIn_m (fun _ h => List.mem_cons_of_mem _ (List.mem_append_right _ (List.mem_append_right _ (List.mem_append_right _ (List.mem_append_right _ (List.mem_append_right _ (List.mem_append_right _ (List.mem_append_left _ h)))))))) (AG_S gw_X8_isOtherThere_r)
theorem g_X8_meetingsOfE__X8_comeNearPE_347 : GoodIn wk_X8_meetingsOfE (wsV RX8 347 RX8 yX8_comeNear wk_X8_comeNearPE) := goodIn_m (fun _ h => List.mem_cons_of_mem _ (List.mem_append_right _ (List.mem_append_right _ (List.mem_append_right _ (List.mem_append_right _ (List.mem_append_right _ (List.mem_append_right _ (List.mem_append_right _ (List.mem_append_left _ h))))))))) (AG_V gw_X8_comeNearPE)
set_option maxHeartbeats 4000000 in
set_option maxRecDepth 100000 in
theorem c_X8_meetingsOfE (l : Launch) (dC : Nat → ClassId) (dI : Nat → Nat → Nat) (h0 : Nat) (n0 : Nat) (s0 : Nat) (s1 : Nat) (d0 : Nat) (o0 : Nat) (w0 : Nat) (e0 : Nat) (f0 : Nat) (t0 : Nat) (b0 : Nat) (dn : Int32) (nn : Int32) (la : Int32) (ne : Int32) (wi : Int32) (lm : Int32) (na : Nat) (cT : ClassId) (sz9 : Int32) (ga : Nat → Option Nat) (cI : ClassId) (L : List Nat) (f : Nat → va_E) (ow : Nat → Nat) (v : Nat → TV) (wu : Int64) (wl : Int64) (wp : Int64) (h1 : Nat) (x1 : Nat) (fi1 : Int32) (pl1 : Int32) (db1 : Int32) (go1 : Int32) (g1 : Nat → Int32) (p1 : Int32) (sz : Nat) (hV : nowV L f cI ow sz9 ga v) (hL1 : h1 ∈ L) (hX1 : x1 ∈ L) (hf1 : f h1 = .inr (6, [.ref x1, .int fi1, .int pl1, .int db1, .int go1])) (hg1 : f x1 = .inl (cI, 36, .inl g1)) (ht1 : tOK fi1 pl1) (hco1 : cOK pl1 g1) (hne0 : 0 ≤ ne.toInt) (hne1 : ne.toInt ≤ 3000) : Met l yX8_meetingsOf wk_X8_meetingsOfE ({ frames := 3, cells := 0, slots := 0, locals := 87 }) (va_Pc [.ref h0, .int p1, .ref h1] (fun U => U.heap.size = sz ∧ va_P (dC, dI) vwCl (([(h0, .inr (8, [.ref n0, .ref s0, .ref s1, .ref d0, .ref o0, .int dn, .int nn, .int la, .int ne, .int wi, .ref w0, .ref e0, .ref f0, .ref t0, .ref b0, .int lm])), (n0, .inr (1, [.ref na, .int sz9])), (na, .inl (cT, 16, .inr (.inr (.inr (.inr ga))))), (w0, .inr (7, [.long wu, .long wl, .long wp]))] : va_W) ++ va_pl L f) U.heap ∧ va_K (dC, dI) vwCl [(cT, .object "MeetingsAbove$Thing"), (cI, .int)] U ∧ va_D (fun _ => True) (([(h0, .inr (8, [.ref n0, .ref s0, .ref s1, .ref d0, .ref o0, .int dn, .int nn, .int la, .int ne, .int wi, .ref w0, .ref e0, .ref f0, .ref t0, .ref b0, .int lm])), (n0, .inr (1, [.ref na, .int sz9])), (na, .inl (cT, 16, .inr (.inr (.inr (.inr ga))))), (w0, .inr (7, [.long wu, .long wl, .long wp]))] : va_W) ++ va_pl L f))) (va_Qi (fun (r : Int32) (_ : Unit) => r.toInt = cnC (mo (fi1, pl1, db1, go1, g1) v ne.toInt p1.toInt) sz9.toInt.toNat) (fun (_ : Unit) (t : State) => ∃ (wu9 : Int64) (wl9 : Int64) (wp9 : Int64), va_P (dC, dI) vwCl (([(h0, .inr (8, [.ref n0, .ref s0, .ref s1, .ref d0, .ref o0, .int dn, .int nn, .int la, .int ne, .int wi, .ref w0, .ref e0, .ref f0, .ref t0, .ref b0, .int lm])), (n0, .inr (1, [.ref na, .int sz9])), (na, .inl (cT, 16, .inr (.inr (.inr (.inr ga))))), (w0, .inr (7, [.long wu9, .long wl9, .long wp9]))] : va_W) ++ va_pl L f) t.heap ∧ va_K (dC, dI) vwCl [(cT, .object "MeetingsAbove$Thing"), (cI, .int)] t ∧ va_D (va_A (([(h0, .inr (8, [.ref n0, .ref s0, .ref s1, .ref d0, .ref o0, .int dn, .int nn, .int la, .int ne, .int wi, .ref w0, .ref e0, .ref f0, .ref t0, .ref b0, .int lm])), (n0, .inr (1, [.ref na, .int sz9])), (na, .inl (cT, 16, .inr (.inr (.inr (.inr ga))))), (w0, .inr (7, [.long wu, .long wl, .long wp]))] : va_W) ++ va_pl L f) sz) (([(h0, .inr (8, [.ref n0, .ref s0, .ref s1, .ref d0, .ref o0, .int dn, .int nn, .int la, .int ne, .int wi, .ref w0, .ref e0, .ref f0, .ref t0, .ref b0, .int lm])), (n0, .inr (1, [.ref na, .int sz9])), (na, .inl (cT, 16, .inr (.inr (.inr (.inr ga))))), (w0, .inr (7, [.long wu9, .long wl9, .long wp9]))] : va_W) ++ va_pl L f)) (va_A (([(h0, .inr (8, [.ref n0, .ref s0, .ref s1, .ref d0, .ref o0, .int dn, .int nn, .int la, .int ne, .int wi, .ref w0, .ref e0, .ref f0, .ref t0, .ref b0, .int lm])), (n0, .inr (1, [.ref na, .int sz9])), (na, .inl (cT, 16, .inr (.inr (.inr (.inr ga))))), (w0, .inr (7, [.long wu, .long wl, .long wp]))] : va_W) ++ va_pl L f) sz)) 0 0 (va_A (([(h0, .inr (8, [.ref n0, .ref s0, .ref s1, .ref d0, .ref o0, .int dn, .int nn, .int la, .int ne, .int wi, .ref w0, .ref e0, .ref f0, .ref t0, .ref b0, .int lm])), (n0, .inr (1, [.ref na, .int sz9])), (na, .inl (cT, 16, .inr (.inr (.inr (.inr ga))))), (w0, .inr (7, [.long wu, .long wl, .long wp]))] : va_W) ++ va_pl L f) sz) := by
  refine Met.ofW (cc := cX8_meetingsOf) (maxL := 6) (ret := (some .int)) (by decide) rfl ?_
  intro p e s m args below meth c s₁ B hml hv
  obtain ⟨rfl, hsz, hP, hK, hD0⟩ := hv
  have hx := B.exec
  have hb := B.bytes
  have hr := B.returns
  have hts := atoms_spec (ws := wk_X8_meetingsOfE) B.pre
  have hown : s.vm.findClass RX8 = some m.cls := findClass_of_methodNamed B.named
  have hlocks := B.notSynchronized
  subst hsz
  have hD := hD0.self (sz := s.heap.size)
  generalize hAe : va_A (([(h0, .inr (8, [.ref n0, .ref s0, .ref s1, .ref d0, .ref o0, .int dn, .int nn, .int la, .int ne, .int wi, .ref w0, .ref e0, .ref f0, .ref t0, .ref b0, .int lm])), (n0, .inr (1, [.ref na, .int sz9])), (na, .inl (cT, 16, .inr (.inr (.inr (.inr ga))))), (w0, .inr (7, [.long wu, .long wl, .long wp]))] : va_W) ++ va_pl L f) s.heap.size = A at hD ⊢
  have hA : ∀ q : Nat, s.heap.size ≤ q → A q := fun q h => by rw [← hAe]; exact Or.inr h
  have hS : va_S A s.heap s.heap [] := va_S.rf
  have hP : va_P (dC, dI) vwCl (([(h0, .inr (8, [.ref n0, .ref s0, .ref s1, .ref d0, .ref o0, .int dn, .int nn, .int la, .int ne, .int wi, .ref w0, .ref e0, .ref f0, .ref t0, .ref b0, .int lm])), (n0, .inr (1, [.ref na, .int sz9])), (na, .inl (cT, 16, .inr (.inr (.inr (.inr ga))))), (w0, .inr (7, [.long wu, .long wl, .long wp]))] : va_W) ++ va_pl L f) s.heap := hP
  have hl := lv_entry ([.ref h0, .int p1, .ref h1]) (n := 6) (Nat.le_of_ble_eq_true rfl)
  rw [lg_entry_eq]
  generalize (lg_sl ([.ref h0, .int p1, .ref h1]) ++ List.replicate (6 - (lg_sl ([.ref h0, .int p1, .ref h1])).length) Slot.unset).toArray = ls at hl ⊢
  have hl : lv_has ls 6 [(0, .ref h0), (1, .int p1), (2, .ref h1)] := hl
  have kl_0 : (0 : Int32).toInt = 0 := by decide
  have kl_1 : (1 : Int32).toInt = 1 := by decide
  have kl_39 : (39 : Int32).toInt = 39 := by decide
  have hC := nowV_cat hV
  obtain ⟨hC0, hC1, hC2⟩ := id hC
  refine lv_iconst (v := 0) hx hb dX8_meetingsOf_0 (by decide) ?_
  refine lv_istore_n (lv' := [(3, .int 0), (0, .ref h0), (1, .int p1), (2, .ref h1)]) hx hb dX8_meetingsOf_1 rfl hl (by decide) rfl (fun ls hl => ?_)
  refine lv_iconst (v := 0) hx hb dX8_meetingsOf_2 (by decide) ?_
  refine lv_istore (lv' := [(4, .int 0), (3, .int 0), (0, .ref h0), (1, .int p1), (2, .ref h1)]) hx hb dX8_meetingsOf_3 hl (by decide) rfl (fun ls hl => ?_)
  refine (show ∀ (k : Nat) (n3 : Int32) (u4 : Int32) (vu : Int64) (vl : Int64) (vp : Int64) (hk0 : 0 ≤ u4.toInt) (hk1 : u4.toInt ≤ sz9.toInt) (hn : n3.toInt = cnC (mo (fi1, pl1, db1, go1, g1) v ne.toInt p1.toInt) u4.toInt.toNat) (hk_5 : (sz9.toInt - u4.toInt).toNat < k) (H : Heap) (locs : List Loc) (hP : va_P (dC, dI) vwCl (([(h0, .inr (8, [.ref n0, .ref s0, .ref s1, .ref d0, .ref o0, .int dn, .int nn, .int la, .int ne, .int wi, .ref w0, .ref e0, .ref f0, .ref t0, .ref b0, .int lm])), (n0, .inr (1, [.ref na, .int sz9])), (na, .inl (cT, 16, .inr (.inr (.inr (.inr ga))))), (w0, .inr (7, [.long vu, .long vl, .long vp]))] : va_W) ++ va_pl L f) H) (hD : va_D A (([(h0, .inr (8, [.ref n0, .ref s0, .ref s1, .ref d0, .ref o0, .int dn, .int nn, .int la, .int ne, .int wi, .ref w0, .ref e0, .ref f0, .ref t0, .ref b0, .int lm])), (n0, .inr (1, [.ref na, .int sz9])), (na, .inl (cT, 16, .inr (.inr (.inr (.inr ga))))), (w0, .inr (7, [.long vu, .long vl, .long vp]))] : va_W) ++ va_pl L f)) (hS : va_S A s.heap H locs) (ls : Array Slot) (hl : lv_has ls 6 [(0, .ref h0), (1, .int p1), (2, .ref h1), (3, .int n3), (4, .int u4)]), W p l e _ s m _ below meth c H locs 0 0 _ (F0 m 5 ls []) from ?_) _ 0 0 wu wl wp (by omega) (by omega) (by rw [show (0 : Int32).toInt.toNat = 0 by omega]; exact kl_0) (Nat.lt_succ_self _) _ _ hP hD hS ls (lv_sub hl [2, 3, 4, 1, 0] rfl)
  intro k
  induction k with
  | zero => intro n3 u4 vu vl vp hk0 hk1 hn hk_5; exact absurd hk_5 (Nat.not_lt_zero _)
  | succ k ih_5 =>
    intro n3 u4 vu vl vp hk0 hk1 hn hk_5 H locs hP hD hS ls hl
    refine lv_iload hx hb dX8_meetingsOf_5 (lv_at hl 4 rfl) ?_
    refine lv_aload_n hx hb dX8_meetingsOf_7 rfl (lv_at hl 0 rfl) ?_
    refine va_get (D := (dC, dI)) (ci := 8) (v := .ref n0) (C := RX8) (T := TX8) (N := 16) hx hb hts in_X8_meetingsOfE_X8 hown hK hP 0 rfl rfl 0 (by decide) (hts (.fieldLink RX8 12 "MeetingsAbove" "now" "LMeetingsAbove$Catalogue;") (by decide +kernel)) (fun _ h9 => h9) rfl dX8_meetingsOf_8 ?_
    refine va_get (D := (dC, dI)) (ci := 1) (v := .int sz9) (C := RX1) (T := TX1) (N := 2) hx hb hts in_X8_meetingsOfE_X1 hown hK hP 1 rfl rfl 1 (by decide) (hts (.fieldLink RX8 88 "MeetingsAbove$Catalogue" "size" "I") (by decide +kernel)) (fun _ h9 => h9) rfl dX8_meetingsOf_11 ?_
    refine lv_icmp_ge (tgt := 68) hx hb dX8_meetingsOf_14 (by decide) (fun c_14 => ?_) (fun c_14 => ?_)
    · have t_14 := (fa_le _ _).mp c_14
      refine lv_iload_n hx hb dX8_meetingsOf_68 rfl (lv_at hl 3 rfl) ?_
      have hP9 := hP.part (cx := [(h0, .inr (8, [.ref n0, .ref s0, .ref s1, .ref d0, .ref o0, .int dn, .int nn, .int la, .int ne, .int wi, .ref w0, .ref e0, .ref f0, .ref t0, .ref b0, .int lm])), (n0, .inr (1, [.ref na, .int sz9])), (na, .inl (cT, 16, .inr (.inr (.inr (.inr ga))))), (w0, .inr (7, [.long vu, .long vl, .long vp]))]) [0, 1, 2, 3] rfl
      have hD9 := hD.part (cx := [(h0, .inr (8, [.ref n0, .ref s0, .ref s1, .ref d0, .ref o0, .int dn, .int nn, .int la, .int ne, .int wi, .ref w0, .ref e0, .ref f0, .ref t0, .ref b0, .int lm])), (n0, .inr (1, [.ref na, .int sz9])), (na, .inl (cT, 16, .inr (.inr (.inr (.inr ga))))), (w0, .inr (7, [.long vu, .long vl, .long vp]))]) [0, 1, 2, 3] (by decide) rfl
      have hK9 := hK.sub (tys' := [(cT, .object "MeetingsAbove$Thing"), (cI, .int)]) [0, 1] rfl
      refine W.widen (k := 0) (n := 0) (by omega) (by omega) ?_
      exact W.iret (v := n3) hx hb hr (fun t ht hW => ⟨⟨_, (), rfl, (by rw [show sz9.toInt.toNat = u4.toInt.toNat by omega]; exact hn), vu, vl, vp, by rw [ht]; exact hP9, va_K.moved hW.alike hK9, hD9⟩, hS.F ht⟩) hS.2.2 dX8_meetingsOf_69
    · have t_14 := mt (fa_le _ _).mpr c_14
      refine lv_aload_n hx hb dX8_meetingsOf_17 rfl (lv_at hl 0 rfl) ?_
      refine va_get (D := (dC, dI)) (ci := 8) (v := .ref n0) (C := RX8) (T := TX8) (N := 16) hx hb hts in_X8_meetingsOfE_X8 hown hK hP 0 rfl rfl 0 (by decide) (hts (.fieldLink RX8 12 "MeetingsAbove" "now" "LMeetingsAbove$Catalogue;") (by decide +kernel)) (fun _ h9 => h9) rfl dX8_meetingsOf_18 ?_
      refine lv_iload hx hb dX8_meetingsOf_21 (lv_at hl 4 rfl) ?_
      have hPc := hP.sub (ws' := [(n0, .inr (1, [.ref na, .int sz9])), (na, .inl (cT, 16, .inr (.inr (.inr (.inr ga)))))]) [1, 2] rfl
      have hKc := hK.sub (tys' := [(cT, .object "MeetingsAbove$Thing")]) [0] rfl
      refine va_csq (W.runV (As := [.int u4]) (rest := []) ⟨hx, hb, hml, hown, hts⟩ (c_X1_find l dC dI n0 na cT sz9 ga u4) (cwV 1 hts g_X8_meetingsOfE__X1_find_103 rfl rfl rfl (by decide +kernel) ⟨Nat.le_of_ble_eq_true rfl, Nat.le_of_ble_eq_true rfl⟩) ⟨fun a U g mk q => by obtain ⟨q0, qP, qK⟩ := q; exact ⟨q0, qP, va_K.moved (u := U) (U := U.calling g mk a) (Vm.Alike.refl U.vm) qK⟩, va_recv hKc hPc (ci := 1) (q0 := 0) rfl rfl, fun U hU hW => ⟨rfl, by rw [hU]; exact hPc, va_K.moved hW.alike hKc⟩⟩ rfl rfl hl.1 rfl (lv_room (Nat.le_of_ble_eq_true rfl)) dX8_meetingsOf_23 ⟨Nat.le_of_ble_eq_true rfl, Nat.le_of_ble_eq_true rfl⟩) (fun r_1 hr_1 => ?_)
      try dsimp only at hr_1
      rcases r_1 with _ | w_2
      · refine W.eq (g2 := F0 m 26 ls [.null]) rfl ?_
        have hno_26 := fd_none hC hr_1
        refine lv_astoreN (lv' := [(5, .null), (0, .ref h0), (1, .int p1), (2, .ref h1), (3, .int n3), (4, .int u4)]) hx hb dX8_meetingsOf_26 hl (by decide) rfl (fun ls hl => ?_)
        refine lv_iload_n hx hb dX8_meetingsOf_28 rfl (lv_at hl 2 rfl) ?_
        refine lv_iload hx hb dX8_meetingsOf_29 (lv_at hl 5 rfl) ?_
        refine lv_aloadN hx hb dX8_meetingsOf_31 (lv_at hl 0 rfl) ?_
        refine vp_callSi (W.runS (As := [.int p1, .int u4, .null]) (rest := []) ⟨hx, hb, hml, hown, hts⟩ (c_X8_isOtherThere_n l dC dI p1 u4) (va_cwS 3 hts g_X8_meetingsOfE__X8_isOtherThere_n_350 rfl rfl rfl (by decide +kernel) ⟨Nat.le_of_ble_eq_true rfl, Nat.le_of_ble_eq_true rfl⟩) ⟨fun a U g mk q => by obtain ⟨q0, q1⟩ := q; exact ⟨q0, q1⟩, fun U hU hW => ⟨rfl, trivial⟩⟩ rfl rfl hl.1 rfl (lv_room (Nat.le_of_ble_eq_true rfl)) dX8_meetingsOf_33 ⟨Nat.le_of_ble_eq_true rfl, Nat.le_of_ble_eq_true rfl⟩) (fun r_3 hr_3 => ?_)
        try dsimp only at hr_3
        subst hr_3
        refine lv_if_eq (tgt := 62) hx hb dX8_meetingsOf_36 (by decide) (fun _ => ?_) (fun h9 => absurd h9 (by decide))
        have hN9 : (n3).toInt = cnC (mo (fi1, pl1, db1, go1, g1) v ne.toInt p1.toInt) (u4.toInt.toNat + 1) := by rw [cnC_0 (P := (mo (fi1, pl1, db1, go1, g1) v ne.toInt p1.toInt)) (n := u4.toInt.toNat) (fun z9 => by first | (have z1 := z9.1; omega) | (have z1 : go1.toInt = 0 := z9.2.1; omega) | (have z1 : (v u4.toNatClampNeg).2.2.2.1.toInt = 0 := z9.2.2.1; rw [hv_w_2] at z1; have z2 : go_w_2.toInt = 0 := z1; have z3 := z9.1; have z4 : p1.toInt ≠ u4.toInt := (by omega); omega) | (have z1 : meP _ (v u4.toNatClampNeg) _ _ _ := z9.2.2.2; rw [hv_w_2] at z1; exact tv_0 hwz_none c_56 z1))]; omega
        obtain ⟨y_4, ey_4⟩ : ∃ y : Int32, y = u4 + 1 := ⟨_, rfl⟩
        have ty_4 : y_4.toInt = u4.toInt + 1 := by rw [ey_4]; have := fb_addI (x := u4) (y := 1) (by omega) (by omega); omega
        refine lv_iinc (v := y_4) (lv' := [(4, .int y_4), (5, .null), (0, .ref h0), (1, .int p1), (2, .ref h1), (3, .int n3)]) hx hb dX8_meetingsOf_62 hl (k := 5) rfl (by rw [ey_4]; rfl) (by decide) rfl (fun ls hl => ?_)
        refine lv_goto (tgt := 5) hx hb dX8_meetingsOf_65 (by decide) ?_
        exact ih_5 n3 y_4 vu vl vp (by omega) (by omega) (by rw [show (y_4).toInt.toNat = u4.toInt.toNat + 1 by omega]; exact hN9) (by omega) H _ (hP.part [0, 1, 2, 3] rfl) (hD.part [0, 1, 2, 3] (by decide) rfl) hS ls (lv_sub hl [2, 3, 4, 5, 0] rfl)
      · refine W.eq (g2 := F0 m 26 ls [.ref w_2]) rfl ?_
        obtain ⟨hi_w_2, hw_w_2⟩ := fd_some hr_1
        obtain ⟨x_w_2, fi_w_2, pl_w_2, db_w_2, go_w_2, g_w_2, hL_w_2, hX_w_2, hf_w_2, hg_w_2, ht_w_2, hgo_w_2, hdb_w_2, hco_w_2, h4_w_2, hv_w_2, oa_w_2, ox_w_2, hne_w_2⟩ := nv_of hV (by rw [tc_I (by omega)]; omega) hw_w_2
        obtain ⟨q1_w_2, q2_w_2, q3_w_2, q4_w_2⟩ := id ht_w_2
        obtain ⟨d1_w_2, d2_w_2⟩ := id hdb_w_2
        obtain ⟨e1_w_2, e2_w_2⟩ := id h4_w_2
        have ni_w_2 : ((u4.toNatClampNeg : Nat) : Int) = u4.toInt := tc_I (by omega)
        have v1_w_2 : ((v u4.toNatClampNeg).1).toInt = fi_w_2.toInt := by rw [hv_w_2]
        have v2_w_2 : ((v u4.toNatClampNeg).2.1).toInt = pl_w_2.toInt := by rw [hv_w_2]
        have v4_w_2 : ((v u4.toNatClampNeg).2.2.2.1).toInt = go_w_2.toInt := by rw [hv_w_2]
        refine lv_astore (lv' := [(5, .ref w_2), (0, .ref h0), (1, .int p1), (2, .ref h1), (3, .int n3), (4, .int u4)]) hx hb dX8_meetingsOf_26 hl (by decide) rfl (fun ls hl => ?_)
        refine lv_iload_n hx hb dX8_meetingsOf_28 rfl (lv_at hl 2 rfl) ?_
        refine lv_iload hx hb dX8_meetingsOf_29 (lv_at hl 5 rfl) ?_
        refine lv_aload hx hb dX8_meetingsOf_31 (lv_at hl 0 rfl) ?_
        have hPc : va_P (dC, dI) vwCl [(w_2, .inr (6, [.ref x_w_2, .int fi_w_2, .int pl_w_2, .int db_w_2, .int go_w_2]))] H := P_cons (pl_at (X := [(h0, .inr (8, [.ref n0, .ref s0, .ref s1, .ref d0, .ref o0, .int dn, .int nn, .int la, .int ne, .int wi, .ref w0, .ref e0, .ref f0, .ref t0, .ref b0, .int lm])), (n0, .inr (1, [.ref na, .int sz9])), (na, .inl (cT, 16, .inr (.inr (.inr (.inr ga))))), (w0, .inr (7, [.long vu, .long vl, .long vp]))]) hP hL_w_2 hf_w_2) (P_nil)
        have hKc := hK.sub (tys' := []) [] rfl
        refine vp_callSi (W.runS (As := [.int p1, .int u4, .ref w_2]) (rest := []) ⟨hx, hb, hml, hown, hts⟩ (c_X8_isOtherThere_r l dC dI p1 u4 w_2 x_w_2 fi_w_2 pl_w_2 db_w_2 go_w_2) (va_cwS 3 hts g_X8_meetingsOfE__X8_isOtherThere_r_350 rfl rfl rfl (by decide +kernel) ⟨Nat.le_of_ble_eq_true rfl, Nat.le_of_ble_eq_true rfl⟩) ⟨fun a U g mk q => by obtain ⟨q0, qP, qK⟩ := q; exact ⟨q0, qP, va_K.moved (u := U) (U := U.calling g mk a) (Vm.Alike.refl U.vm) qK⟩, fun U hU hW => ⟨rfl, by rw [hU]; exact hPc, va_K.moved hW.alike hKc⟩⟩ rfl rfl hl.1 rfl (lv_room (Nat.le_of_ble_eq_true rfl)) dX8_meetingsOf_33 ⟨Nat.le_of_ble_eq_true rfl, Nat.le_of_ble_eq_true rfl⟩) (fun r_5 hr_5 => ?_)
        try dsimp only at hr_5
        rcases bo_split hr_5 with ⟨rfl, q_33⟩ | ⟨rfl, q_33⟩
        · refine lv_if_eq (tgt := 62) hx hb dX8_meetingsOf_36 (by decide) (fun h9 => absurd h9 (by decide)) (fun _ => ?_)
          refine lv_aload_n hx hb dX8_meetingsOf_39 rfl (lv_at hl 3 rfl) ?_
          obtain ⟨k_6, hk_6⟩ := pl_ix (X := [(h0, .inr (8, [.ref n0, .ref s0, .ref s1, .ref d0, .ref o0, .int dn, .int nn, .int la, .int ne, .int wi, .ref w0, .ref e0, .ref f0, .ref t0, .ref b0, .int lm])), (n0, .inr (1, [.ref na, .int sz9])), (na, .inl (cT, 16, .inr (.inr (.inr (.inr ga))))), (w0, .inr (7, [.long vu, .long vl, .long vp]))]) hL1 hf1
          refine va_get (D := (dC, dI)) (ci := 6) (v := .int go1) (C := RX6) (T := TX6) (N := 5) hx hb hts in_X8_meetingsOfE_X6 hown hK hP k_6 hk_6 rfl 4 (by decide) (hts (.fieldLink RX8 108 "MeetingsAbove$Thing" "gone" "Z") (by decide +kernel)) (fun _ h9 => h9) rfl dX8_meetingsOf_40 ?_
          refine lv_if_ne (tgt := 62) hx hb dX8_meetingsOf_43 (by decide) (fun c_43 => ?_) (fun c_43 => ?_)
          · have t_43 := mt (fa_eq _ _).mpr c_43
            have hN9 : (n3).toInt = cnC (mo (fi1, pl1, db1, go1, g1) v ne.toInt p1.toInt) (u4.toInt.toNat + 1) := by rw [cnC_0 (P := (mo (fi1, pl1, db1, go1, g1) v ne.toInt p1.toInt)) (n := u4.toInt.toNat) (fun z9 => by first | (have z1 := z9.1; omega) | (have z1 : go1.toInt = 0 := z9.2.1; omega) | (have z1 : (v u4.toNatClampNeg).2.2.2.1.toInt = 0 := z9.2.2.1; rw [hv_w_2] at z1; have z2 : go_w_2.toInt = 0 := z1; have z3 := z9.1; have z4 : p1.toInt ≠ u4.toInt := (by omega); omega) | (have z1 : meP _ (v u4.toNatClampNeg) _ _ _ := z9.2.2.2; rw [hv_w_2] at z1; exact tv_0 hwz_none c_56 z1))]; omega
            obtain ⟨y_7, ey_7⟩ : ∃ y : Int32, y = u4 + 1 := ⟨_, rfl⟩
            have ty_7 : y_7.toInt = u4.toInt + 1 := by rw [ey_7]; have := fb_addI (x := u4) (y := 1) (by omega) (by omega); omega
            refine lv_iinc (v := y_7) (lv' := [(4, .int y_7), (5, .ref w_2), (0, .ref h0), (1, .int p1), (2, .ref h1), (3, .int n3)]) hx hb dX8_meetingsOf_62 hl (k := 5) rfl (by rw [ey_7]; rfl) (by decide) rfl (fun ls hl => ?_)
            refine lv_goto (tgt := 5) hx hb dX8_meetingsOf_65 (by decide) ?_
            exact ih_5 n3 y_7 vu vl vp (by omega) (by omega) (by rw [show (y_7).toInt.toNat = u4.toInt.toNat + 1 by omega]; exact hN9) (by omega) H _ (hP.part [0, 1, 2, 3] rfl) (hD.part [0, 1, 2, 3] (by decide) rfl) hS ls (lv_sub hl [2, 3, 4, 5, 0] rfl)
          · have t_43 := (fa_eq _ _).mp c_43
            refine lv_aload_n hx hb dX8_meetingsOf_46 rfl (lv_at hl 1 rfl) ?_
            refine lv_aload_n hx hb dX8_meetingsOf_47 rfl (lv_at hl 3 rfl) ?_
            refine lv_aload hx hb dX8_meetingsOf_48 (lv_at hl 0 rfl) ?_
            refine lv_iconst (v := 0) hx hb dX8_meetingsOf_50 (by decide) ?_
            refine lv_bipush (v := 39) hx hb dX8_meetingsOf_51 (by decide) ?_
            have hPc := hP.part (cx := [(h0, .inr (8, [.ref n0, .ref s0, .ref s1, .ref d0, .ref o0, .int dn, .int nn, .int la, .int ne, .int wi, .ref w0, .ref e0, .ref f0, .ref t0, .ref b0, .int lm])), (w0, .inr (7, [.long vu, .long vl, .long vp]))]) [0, 3] rfl
            have hKc := hK.sub (tys' := [(cI, .int)]) [1] rfl
            have hDc := hD.part (cx := [(h0, .inr (8, [.ref n0, .ref s0, .ref s1, .ref d0, .ref o0, .int dn, .int nn, .int la, .int ne, .int wi, .ref w0, .ref e0, .ref f0, .ref t0, .ref b0, .int lm])), (w0, .inr (7, [.long vu, .long vl, .long vp]))]) [0, 3] (by decide) rfl
            have hFc := va_freeP (cx := [(h0, .inr (8, [.ref n0, .ref s0, .ref s1, .ref d0, .ref o0, .int dn, .int nn, .int la, .int ne, .int wi, .ref w0, .ref e0, .ref f0, .ref t0, .ref b0, .int lm])), (w0, .inr (7, [.long vu, .long vl, .long vp]))]) hD hS hA [0, 3] rfl
            refine va_calli (va_runV (As := [.ref h1, .ref w_2, .int 0, .int 39]) (rest := []) ⟨hx, hb, hml, hown, hts⟩ (c_X8_comeNearPE l dC dI h0 n0 s0 s1 d0 o0 w0 e0 f0 t0 b0 dn nn la ne wi lm vu vl vp h1 x1 fi1 pl1 db1 go1 g1 w_2 x_w_2 fi_w_2 pl_w_2 db_w_2 go_w_2 g_w_2 cI L f 0 39 H.size (by first | assumption | omega) (by first | assumption | omega) (by first | assumption | omega) (by first | assumption | omega) (by first | assumption | omega) (by first | assumption | omega) (by first | assumption | omega) (by first | assumption | omega) (by first | assumption | omega) (by first | assumption | omega) (by first | assumption | omega) (by first | assumption | omega) (by first | omega | assumption) (by first | omega | assumption)) (cwV 4 hts g_X8_meetingsOfE__X8_comeNearPE_347 rfl rfl rfl (by decide +kernel) ⟨Nat.le_of_ble_eq_true rfl, Nat.le_of_ble_eq_true rfl⟩) ⟨fun a U g mk q => by obtain ⟨q0, q1, qP, qK, qD⟩ := q; exact ⟨q0, q1, qP, va_K.moved (u := U) (U := U.calling g mk a) (Vm.Alike.refl U.vm) qK, qD⟩, va_recv hKc hPc (ci := 8) (q0 := 0) rfl rfl, fun U hU hW => ⟨rfl, by rw [hU], by rw [hU]; exact hPc, va_K.moved hW.alike hKc, hDc.weaken (fun _ _ _ _ => trivial)⟩⟩ rfl rfl hl.1 rfl (lv_room (Nat.le_of_ble_eq_true rfl)) dX8_meetingsOf_53 ⟨Nat.le_of_ble_eq_true rfl, Nat.le_of_ble_eq_true rfl⟩) hS (fun q _ h => hFc q h) hFc (fun r_9 u_8 t H1 locs ht hvm hw_9 hB hz1 hk1 hS => ?_)
            obtain ⟨wu9_10, wl9_11, wp9_12, hP1, hK1, hD1⟩ := hB
            rw [ht] at hP1
            have hK1 := va_K.moved hvm.symm hK1
            obtain ⟨hP, hD⟩ := va_joinP (wr := [(n0, .inr (1, [.ref na, .int sz9])), (na, .inl (cT, 16, .inr (.inr (.inr (.inr ga)))))]) (rx := [(h0, .inr (8, [.ref n0, .ref s0, .ref s1, .ref d0, .ref o0, .int dn, .int nn, .int la, .int ne, .int wi, .ref w0, .ref e0, .ref f0, .ref t0, .ref b0, .int lm])), (w0, .inr (7, [.long wu9_10, .long wl9_11, .long wp9_12]))]) hP hD [0, 3] [1, 2] rfl rfl (by decide) (by decide) hk1 hFc hP1 hD1
            have hK := (hK.sub (tys' := [(cT, .object "MeetingsAbove$Thing"), (cI, .int)]) [0, 1] rfl).app hK1
            generalize H1 = H at hP hS ⊢
            have hP : va_P (dC, dI) vwCl (([(n0, .inr (1, [.ref na, .int sz9])), (na, .inl (cT, 16, .inr (.inr (.inr (.inr ga))))), (h0, .inr (8, [.ref n0, .ref s0, .ref s1, .ref d0, .ref o0, .int dn, .int nn, .int la, .int ne, .int wi, .ref w0, .ref e0, .ref f0, .ref t0, .ref b0, .int lm])), (w0, .inr (7, [.long wu9_10, .long wl9_11, .long wp9_12]))] : va_W) ++ va_pl L f) H := hP
            have hD : va_D A (([(n0, .inr (1, [.ref na, .int sz9])), (na, .inl (cT, 16, .inr (.inr (.inr (.inr ga))))), (h0, .inr (8, [.ref n0, .ref s0, .ref s1, .ref d0, .ref o0, .int dn, .int nn, .int la, .int ne, .int wi, .ref w0, .ref e0, .ref f0, .ref t0, .ref b0, .int lm])), (w0, .inr (7, [.long wu9_10, .long wl9_11, .long wp9_12]))] : va_W) ++ va_pl L f) := hD
            have hK : va_K (dC, dI) vwCl [(cT, .object "MeetingsAbove$Thing"), (cI, .int)] s := hK
            refine W.widen (k := 0) (n := 0) (by omega) (by omega) ?_
            try dsimp only at hw_9
            refine lv_if_eq (tgt := 62) hx hb dX8_meetingsOf_56 (by decide) (fun c_56 => ?_) (fun c_56 => ?_)
            · have t_56 := (fa_eq _ _).mp c_56
              have hN9 : (n3).toInt = cnC (mo (fi1, pl1, db1, go1, g1) v ne.toInt p1.toInt) (u4.toInt.toNat + 1) := by rw [cnC_0 (P := (mo (fi1, pl1, db1, go1, g1) v ne.toInt p1.toInt)) (n := u4.toInt.toNat) (fun z9 => by first | (have z1 := z9.1; omega) | (have z1 : go1.toInt = 0 := z9.2.1; omega) | (have z1 : (v u4.toNatClampNeg).2.2.2.1.toInt = 0 := z9.2.2.1; rw [hv_w_2] at z1; have z2 : go_w_2.toInt = 0 := z1; have z3 := z9.1; have z4 : p1.toInt ≠ u4.toInt := (by omega); omega) | (have z1 : meP _ (v u4.toNatClampNeg) _ _ _ := z9.2.2.2; rw [hv_w_2] at z1; exact tv_0 hw_9 c_56 z1))]; omega
              obtain ⟨y_13, ey_13⟩ : ∃ y : Int32, y = u4 + 1 := ⟨_, rfl⟩
              have ty_13 : y_13.toInt = u4.toInt + 1 := by rw [ey_13]; have := fb_addI (x := u4) (y := 1) (by omega) (by omega); omega
              refine lv_iinc (v := y_13) (lv' := [(4, .int y_13), (5, .ref w_2), (0, .ref h0), (1, .int p1), (2, .ref h1), (3, .int n3)]) hx hb dX8_meetingsOf_62 hl (k := 5) rfl (by rw [ey_13]; rfl) (by decide) rfl (fun ls hl => ?_)
              refine lv_goto (tgt := 5) hx hb dX8_meetingsOf_65 (by decide) ?_
              exact ih_5 n3 y_13 wu9_10 wl9_11 wp9_12 (by omega) (by omega) (by rw [show (y_13).toInt.toNat = u4.toInt.toNat + 1 by omega]; exact hN9) (by omega) H _ (hP.part [2, 0, 1, 3] rfl) (hD.part [2, 0, 1, 3] (by decide) rfl) hS ls (lv_sub hl [2, 3, 4, 5, 0] rfl)
            · have t_56 := mt (fa_eq _ _).mpr c_56
              have b9 := cnC_le (mo (fi1, pl1, db1, go1, g1) v ne.toInt p1.toInt) u4.toInt.toNat
              obtain ⟨y_14, ey_14⟩ : ∃ y : Int32, y = n3 + 1 := ⟨_, rfl⟩
              have ty_14 : y_14.toInt = n3.toInt + 1 := by rw [ey_14]; have := fb_addI (x := n3) (y := 1) (by omega) (by omega); omega
              refine lv_iinc (v := y_14) (lv' := [(3, .int y_14), (5, .ref w_2), (0, .ref h0), (1, .int p1), (2, .ref h1), (4, .int u4)]) hx hb dX8_meetingsOf_59 hl (k := 4) rfl (by rw [ey_14]; rfl) (by decide) rfl (fun ls hl => ?_)
              have hN9 : (y_14).toInt = cnC (mo (fi1, pl1, db1, go1, g1) v ne.toInt p1.toInt) (u4.toInt.toNat + 1) := by rw [cnC_1 (P := (mo (fi1, pl1, db1, go1, g1) v ne.toInt p1.toInt)) (n := u4.toInt.toNat) (mo_mk (by omega) (by show go1.toInt = 0; omega) (by show (v u4.toNatClampNeg).2.2.2.1.toInt = 0; rw [hv_w_2]; show go_w_2.toInt = 0; omega) (by show meP _ (v u4.toNatClampNeg) _ _ _; rw [hv_w_2]; exact tv_1 hw_9 c_56))]; omega
              obtain ⟨y_15, ey_15⟩ : ∃ y : Int32, y = u4 + 1 := ⟨_, rfl⟩
              have ty_15 : y_15.toInt = u4.toInt + 1 := by rw [ey_15]; have := fb_addI (x := u4) (y := 1) (by omega) (by omega); omega
              refine lv_iinc (v := y_15) (lv' := [(4, .int y_15), (3, .int y_14), (5, .ref w_2), (0, .ref h0), (1, .int p1), (2, .ref h1)]) hx hb dX8_meetingsOf_62 hl (k := 5) rfl (by rw [ey_15]; rfl) (by decide) rfl (fun ls hl => ?_)
              refine lv_goto (tgt := 5) hx hb dX8_meetingsOf_65 (by decide) ?_
              exact ih_5 y_14 y_15 wu9_10 wl9_11 wp9_12 (by omega) (by omega) (by rw [show (y_15).toInt.toNat = u4.toInt.toNat + 1 by omega]; exact hN9) (by omega) H _ (hP.part [2, 0, 1, 3] rfl) (hD.part [2, 0, 1, 3] (by decide) rfl) hS ls (lv_sub hl [3, 4, 5, 1, 0] rfl)
        · refine lv_if_eq (tgt := 62) hx hb dX8_meetingsOf_36 (by decide) (fun _ => ?_) (fun h9 => absurd h9 (by decide))
          have hN9 : (n3).toInt = cnC (mo (fi1, pl1, db1, go1, g1) v ne.toInt p1.toInt) (u4.toInt.toNat + 1) := by rw [cnC_0 (P := (mo (fi1, pl1, db1, go1, g1) v ne.toInt p1.toInt)) (n := u4.toInt.toNat) (fun z9 => by first | (have z1 := z9.1; omega) | (have z1 : go1.toInt = 0 := z9.2.1; omega) | (have z1 : (v u4.toNatClampNeg).2.2.2.1.toInt = 0 := z9.2.2.1; rw [hv_w_2] at z1; have z2 : go_w_2.toInt = 0 := z1; have z3 := z9.1; have z4 : p1.toInt ≠ u4.toInt := (by omega); omega) | (have z1 : meP _ (v u4.toNatClampNeg) _ _ _ := z9.2.2.2; rw [hv_w_2] at z1; exact tv_0 hw_9 c_56 z1))]; omega
          obtain ⟨y_16, ey_16⟩ : ∃ y : Int32, y = u4 + 1 := ⟨_, rfl⟩
          have ty_16 : y_16.toInt = u4.toInt + 1 := by rw [ey_16]; have := fb_addI (x := u4) (y := 1) (by omega) (by omega); omega
          refine lv_iinc (v := y_16) (lv' := [(4, .int y_16), (5, .ref w_2), (0, .ref h0), (1, .int p1), (2, .ref h1), (3, .int n3)]) hx hb dX8_meetingsOf_62 hl (k := 5) rfl (by rw [ey_16]; rfl) (by decide) rfl (fun ls hl => ?_)
          refine lv_goto (tgt := 5) hx hb dX8_meetingsOf_65 (by decide) ?_
          exact ih_5 n3 y_16 vu vl vp (by omega) (by omega) (by rw [show (y_16).toInt.toNat = u4.toInt.toNat + 1 by omega]; exact hN9) (by omega) H _ (hP.part [0, 1, 2, 3] rfl) (hD.part [0, 1, 2, 3] (by decide) rfl) hS ls (lv_sub hl [2, 3, 4, 5, 0] rfl)
