def wk_X1_nextN : List Cond := .code yX1_next cX1_next 2 (some (.object "MeetingsAbove$Thing")) :: (([.fieldLink RX1 17 "MeetingsAbove$Catalogue" "size" "I", .fieldLink RX1 11 "MeetingsAbove$Catalogue" "all" "[LMeetingsAbove$Thing;", .classLink RX1 9 RX6, .instantiable RX6 5, .initialized RX6, .instanceMethod yX6_init] : List Cond) ++ (wsX10 ++ (wsX60 ++ (wk_X6_init ++ ([])))))
theorem in_X1_nextN_X1 : ∀ w ∈ wsX10, w ∈ wk_X1_nextN := fun _ h => List.mem_cons_of_mem _ (List.mem_append_right _ (List.mem_append_left _ h))
theorem in_X1_nextN_X6 : ∀ w ∈ wsX60, w ∈ wk_X1_nextN := fun _ h => List.mem_cons_of_mem _ (List.mem_append_right _ (List.mem_append_right _ (List.mem_append_left _ h)))
theorem gw_X1_nextN : AG wk_X1_nextN := AG_ca (AG_l (by decide +kernel)) (AG_app ag_X1 (AG_app ag_X6 (AG_app gw_X6_init (AG_nil))))
theorem g_X1_nextN__X6_init_21 : GoodIn wk_X1_nextN wk_X6_init := goodIn_m (fun _ h => List.mem_cons_of_mem _ (List.mem_append_right _ (List.mem_append_right _ (List.mem_append_right _ (List.mem_append_left _ h))))) gw_X6_init
set_option maxHeartbeats 4000000 in
set_option maxRecDepth 100000 in
theorem c_X1_nextN (l : Launch) (dC : Nat → ClassId) (dI : Nat → Nat → Nat) (h0 : Nat) (na : Nat) (cT : ClassId) (sz9 : Int32) (ga : Nat → Option Nat) (sz : Nat) (hz0 : 0 ≤ sz9.toInt) (hz1 : sz9.toInt < 16) (hga : ga sz9.toNatClampNeg = none) : Met l yX1_next wk_X1_nextN ({ frames := 2, cells := 2, slots := 41, locals := 32 }) (va_Pc [.ref h0] (fun U => U.heap.size = sz ∧ va_P (dC, dI) vwCl [(h0, .inr (1, [.ref na, .int sz9])), (na, .inl (cT, 16, .inr (.inr (.inr (.inr ga)))))] U.heap ∧ va_K (dC, dI) vwCl [(cT, .object "MeetingsAbove$Thing")] U ∧ va_D (fun _ => True) [(h0, .inr (1, [.ref na, .int sz9])), (na, .inl (cT, 16, .inr (.inr (.inr (.inr ga)))))] ∧ XN U)) (va_Qr (fun (_ : Unit) => True) (fun (_ : Unit) (ra : Nat) (t : State) => ∃ (x1 : Nat) (k1 : ClassId) (sz8 : Int32), va_P (dC, dI) vwCl [(h0, .inr (1, [.ref na, .int sz8])), (na, .inl (cT, 16, .inr (.inr (.inr (.inr (va_up ga (sz9 : Int32).toNatClampNeg (some ra))))))), (ra, .inr (6, [.ref x1, .int 0, .int 0, .int 0, .int 0])), (x1, .inl (k1, 36, .inl (fun _ => 0)))] t.heap ∧ va_K (dC, dI) vwCl [(cT, .object "MeetingsAbove$Thing"), (k1, .int)] t ∧ va_D (va_A [(h0, .inr (1, [.ref na, .int sz9])), (na, .inl (cT, 16, .inr (.inr (.inr (.inr ga)))))] sz) [(h0, .inr (1, [.ref na, .int sz8])), (na, .inl (cT, 16, .inr (.inr (.inr (.inr (va_up ga (sz9 : Int32).toNatClampNeg (some ra))))))), (ra, .inr (6, [.ref x1, .int 0, .int 0, .int 0, .int 0])), (x1, .inl (k1, 36, .inl (fun _ => 0)))] ∧ sz8.toInt = sz9.toInt + 1) (va_A [(h0, .inr (1, [.ref na, .int sz9])), (na, .inl (cT, 16, .inr (.inr (.inr (.inr ga)))))] sz)) 2 41 (va_A [(h0, .inr (1, [.ref na, .int sz9])), (na, .inl (cT, 16, .inr (.inr (.inr (.inr ga)))))] sz) := by
  refine Met.ofW (cc := cX1_next) (maxL := 2) (ret := (some (.object "MeetingsAbove$Thing"))) (by decide) rfl ?_
  intro p e s m args below meth c s₁ B hml hv
  obtain ⟨rfl, hsz, hP, hK, hD0, hN⟩ := hv
  have hx := B.exec
  have hb := B.bytes
  have hr := B.returns
  have hts := atoms_spec (ws := wk_X1_nextN) B.pre
  have hown : s.vm.findClass RX1 = some m.cls := findClass_of_methodNamed B.named
  have hlocks := B.notSynchronized
  subst hsz
  have hD := hD0.self (sz := s.heap.size)
  generalize hAe : va_A [(h0, .inr (1, [.ref na, .int sz9])), (na, .inl (cT, 16, .inr (.inr (.inr (.inr ga)))))] s.heap.size = A at hD ⊢
  have hA : ∀ q : Nat, s.heap.size ≤ q → A q := fun q h => by rw [← hAe]; exact Or.inr h
  have hS : va_S A s.heap s.heap [] := va_S.rf
  have hP : va_P (dC, dI) vwCl [(h0, .inr (1, [.ref na, .int sz9])), (na, .inl (cT, 16, .inr (.inr (.inr (.inr ga)))))] s.heap := hP
  have hl := lv_entry ([.ref h0]) (n := 2) (Nat.le_of_ble_eq_true rfl)
  rw [lg_entry_eq]
  generalize (lg_sl ([.ref h0]) ++ List.replicate (2 - (lg_sl ([.ref h0])).length) Slot.unset).toArray = ls at hl ⊢
  have hl : lv_has ls 2 [(0, .ref h0)] := hl
  have kl_0 : (0 : Int32).toInt = 0 := by decide
  have kl_1 : (1 : Int32).toInt = 1 := by decide
  have kl_16 : (16 : Int32).toInt = 16 := by decide
  refine lv_aload_n hx hb dX1_next_0 rfl (lv_at hl 0 rfl) ?_
  refine va_get (D := (dC, dI)) (ci := 1) (v := .int sz9) (C := RX1) (T := TX1) (N := 2) hx hb hts in_X1_nextN_X1 hown hK hP 0 rfl rfl 1 (by decide) (hts (.fieldLink RX1 17 "MeetingsAbove$Catalogue" "size" "I") (by decide +kernel)) (fun _ h9 => h9) rfl dX1_next_1 ?_
  refine lv_if_lt (tgt := 19) hx hb dX1_next_4 (by decide) (fun c_4 => by have t_4 := (fa_lt _ _).mp c_4; exfalso; omega) (fun c_4 => ?_)
  have t_4 := mt (fa_lt _ _).mpr c_4
  refine lv_aload_n hx hb dX1_next_7 rfl (lv_at hl 0 rfl) ?_
  refine va_get (D := (dC, dI)) (ci := 1) (v := .int sz9) (C := RX1) (T := TX1) (N := 2) hx hb hts in_X1_nextN_X1 hown hK hP 0 rfl rfl 1 (by decide) (hts (.fieldLink RX1 17 "MeetingsAbove$Catalogue" "size" "I") (by decide +kernel)) (fun _ h9 => h9) rfl dX1_next_8 ?_
  refine lv_aload_n hx hb dX1_next_11 rfl (lv_at hl 0 rfl) ?_
  refine va_get (D := (dC, dI)) (ci := 1) (v := .ref na) (C := RX1) (T := TX1) (N := 2) hx hb hts in_X1_nextN_X1 hown hK hP 0 rfl rfl 0 (by decide) (hts (.fieldLink RX1 11 "MeetingsAbove$Catalogue" "all" "[LMeetingsAbove$Thing;") (by decide +kernel)) (fun _ h9 => h9) rfl dX1_next_12 ?_
  refine va_alen (v := 16) hx hb hK hP 1 0 rfl rfl rfl dX1_next_15 ?_
  refine lv_icmp_lt (tgt := 21) hx hb dX1_next_16 (by decide) (fun c_16 => ?_) (fun c_16 => by have t_16 := mt (fa_lt _ _).mpr c_16; exfalso; omega)
  have t_16 := (fa_lt _ _).mp c_16
  refine lv_aload_n hx hb dX1_next_21 rfl (lv_at hl 0 rfl) ?_
  refine va_get (D := (dC, dI)) (ci := 1) (v := .ref na) (C := RX1) (T := TX1) (N := 2) hx hb hts in_X1_nextN_X1 hown hK hP 0 rfl rfl 0 (by decide) (hts (.fieldLink RX1 11 "MeetingsAbove$Catalogue" "all" "[LMeetingsAbove$Thing;") (by decide +kernel)) (fun _ h9 => h9) rfl dX1_next_22 ?_
  refine lv_aload_n hx hb dX1_next_25 rfl (lv_at hl 0 rfl) ?_
  refine va_get (D := (dC, dI)) (ci := 1) (v := .int sz9) (C := RX1) (T := TX1) (N := 2) hx hb hts in_X1_nextN_X1 hown hK hP 0 rfl rfl 1 (by decide) (hts (.fieldLink RX1 17 "MeetingsAbove$Catalogue" "size" "I") (by decide +kernel)) (fun _ h9 => h9) rfl dX1_next_26 ?_
  refine va_aldq hx hb hK hP 1 0 rfl rfl (vp_in_iff.mpr ⟨by omega, by omega⟩) dX1_next_29 ?_
  refine W.eq (g2 := F0 m 30 ls [.null]) (by rw [hga]; rfl) ?_
  refine lv_ifnonnullN hx hb dX1_next_30 ?_
  refine lv_aload_n hx hb dX1_next_33 rfl (lv_at hl 0 rfl) ?_
  refine va_get (D := (dC, dI)) (ci := 1) (v := .ref na) (C := RX1) (T := TX1) (N := 2) hx hb hts in_X1_nextN_X1 hown hK hP 0 rfl rfl 0 (by decide) (hts (.fieldLink RX1 11 "MeetingsAbove$Catalogue" "all" "[LMeetingsAbove$Thing;") (by decide +kernel)) (fun _ h9 => h9) rfl dX1_next_34 ?_
  refine lv_aload_n hx hb dX1_next_37 rfl (lv_at hl 0 rfl) ?_
  refine va_get (D := (dC, dI)) (ci := 1) (v := .int sz9) (C := RX1) (T := TX1) (N := 2) hx hb hts in_X1_nextN_X1 hown hK hP 0 rfl rfl 1 (by decide) (hts (.fieldLink RX1 17 "MeetingsAbove$Catalogue" "size" "I") (by decide +kernel)) (fun _ h9 => h9) rfl dX1_next_38 ?_
  refine va_new (ci := 6) (fs := [.null, .int 0, .int 0, .int 0, .int 0]) (C := RX6) (T := TX6) (N := 5) hx hb hts in_X1_nextN_X6 tyX6 tyX6_ok hown (hts (.classLink RX1 9 RX6) (by decide +kernel)) (hts (.instantiable RX6 5) (by decide +kernel)) (hts (.initialized RX6) (by decide +kernel)) hK hP hD hS hA rfl (fun j hj => by rcases (show j = 0 ∨ j = 1 ∨ j = 2 ∨ j = 3 ∨ j = 4 by omega) with rfl | rfl | rfl | rfl | rfl <;> rfl) (Nat.le_of_ble_eq_true rfl) (Nat.le_of_ble_eq_true rfl) dX1_next_41 (fun q_1 H hP hD hS => ?_)
  have hP : va_P (dC, dI) vwCl [(h0, .inr (1, [.ref na, .int sz9])), (na, .inl (cT, 16, .inr (.inr (.inr (.inr ga))))), (q_1, .inr (6, [.null, .int 0, .int 0, .int 0, .int 0]))] H := hP
  have hD : va_D A [(h0, .inr (1, [.ref na, .int sz9])), (na, .inl (cT, 16, .inr (.inr (.inr (.inr ga))))), (q_1, .inr (6, [.null, .int 0, .int 0, .int 0, .int 0]))] := hD
  refine W.widen (k := 1) (n := 5) (by omega) (by omega) ?_
  refine lv_dup hx hb dX1_next_44 rfl ?_
  have hPc := hP.sub (ws' := [(q_1, .inr (6, [.null, .int 0, .int 0, .int 0, .int 0]))]) [2] rfl
  have hKc := hK.sub (tys' := []) [] rfl
  have hDc := hD.sub (ws' := [(q_1, .inr (6, [.null, .int 0, .int 0, .int 0, .int 0]))]) [2] (by decide) rfl
  have hFc := va_free (wc := [(q_1, .inr (6, [.null, .int 0, .int 0, .int 0, .int 0]))]) hD hS hA [2] rfl
  refine va_callv (va_runIN (As := []) (rest := [.ref q_1, .int sz9, .ref na]) ⟨hx, hb, hml, hown, hts⟩ (c_X6_init l dC dI q_1 H.size) ⟨(va_cnB (host := RX8) 0 hts g_X1_nextN__X6_init_21 rfl rfl rfl (XN_X1_21 hN) (hts (.initialized RX6) (by decide +kernel)) (by decide +kernel) ⟨Nat.le_of_ble_eq_true rfl, Nat.le_of_ble_eq_true rfl⟩), rfl, (hts (.instanceMethod yX6_init) (by decide +kernel))⟩ ⟨fun a U g mk q => by obtain ⟨q0, q1, qP, qK, qD⟩ := q; exact ⟨q0, q1, qP, va_K.moved (u := U) (U := U.calling g mk a) (Vm.Alike.refl U.vm) qK, qD⟩, fun U hU hW => ⟨rfl, by rw [hU], by rw [hU]; exact hPc, va_K.moved hW.alike hKc, hDc.weaken (fun _ _ _ _ => trivial)⟩⟩ rfl rfl hl.1 rfl (lv_room (Nat.le_of_ble_eq_true rfl)) dX1_next_45 ⟨Nat.le_of_ble_eq_true rfl, Nat.le_of_ble_eq_true rfl⟩) hS (fun q _ h => hFc q h) hFc (fun u_2 t H1 locs ht hvm hw_3 hB hz1 hk1 hS => ?_)
  obtain ⟨x1_4, cA_5, hP1, hK1, hD1⟩ := hB
  rw [ht] at hP1
  have hK1 := va_K.moved hvm.symm hK1
  obtain ⟨hP, hD⟩ := va_join (wr := [(h0, .inr (1, [.ref na, .int sz9])), (na, .inl (cT, 16, .inr (.inr (.inr (.inr ga)))))]) (w1 := [(q_1, .inr (6, [.ref x1_4, .int 0, .int 0, .int 0, .int 0])), (x1_4, .inl (cA_5, 36, .inl (fun _ => 0)))]) hP hD [2] [0, 1] rfl rfl (by decide) (by decide) hk1 hFc hP1 hD1
  have hK := (hK.sub (tys' := [(cT, .object "MeetingsAbove$Thing")]) [0] rfl).app hK1
  generalize H1 = H at hP hS ⊢
  have hP : va_P (dC, dI) vwCl [(h0, .inr (1, [.ref na, .int sz9])), (na, .inl (cT, 16, .inr (.inr (.inr (.inr ga))))), (q_1, .inr (6, [.ref x1_4, .int 0, .int 0, .int 0, .int 0])), (x1_4, .inl (cA_5, 36, .inl (fun _ => 0)))] H := hP
  have hD : va_D A [(h0, .inr (1, [.ref na, .int sz9])), (na, .inl (cT, 16, .inr (.inr (.inr (.inr ga))))), (q_1, .inr (6, [.ref x1_4, .int 0, .int 0, .int 0, .int 0])), (x1_4, .inl (cA_5, 36, .inl (fun _ => 0)))] := hD
  have hK : va_K (dC, dI) vwCl [(cT, .object "MeetingsAbove$Thing"), (cA_5, .int)] s := hK
  refine W.widen (k := 2) (n := 41) (by omega) (by omega) ?_
  refine va_astq (r := (RX6, TX6, 5)) hx hb hK hP hD hS 1 0 2 6 rfl rfl rfl rfl (vp_in_iff.mpr ⟨by omega, by omega⟩) dX1_next_48 (fun H locs hP hD hS => ?_)
  have hP : va_P (dC, dI) vwCl [(h0, .inr (1, [.ref na, .int sz9])), (na, .inl (cT, 16, .inr (.inr (.inr (.inr (va_up ga (sz9 : Int32).toNatClampNeg (some q_1))))))), (q_1, .inr (6, [.ref x1_4, .int 0, .int 0, .int 0, .int 0])), (x1_4, .inl (cA_5, 36, .inl (fun _ => 0)))] H := hP
  have hD : va_D A [(h0, .inr (1, [.ref na, .int sz9])), (na, .inl (cT, 16, .inr (.inr (.inr (.inr (va_up ga (sz9 : Int32).toNatClampNeg (some q_1))))))), (q_1, .inr (6, [.ref x1_4, .int 0, .int 0, .int 0, .int 0])), (x1_4, .inl (cA_5, 36, .inl (fun _ => 0)))] := hD
  refine lv_aload_n hx hb dX1_next_49 rfl (lv_at hl 0 rfl) ?_
  refine va_get (D := (dC, dI)) (ci := 1) (v := .ref na) (C := RX1) (T := TX1) (N := 2) hx hb hts in_X1_nextN_X1 hown hK hP 0 rfl rfl 0 (by decide) (hts (.fieldLink RX1 11 "MeetingsAbove$Catalogue" "all" "[LMeetingsAbove$Thing;") (by decide +kernel)) (fun _ h9 => h9) rfl dX1_next_50 ?_
  refine lv_aload_n hx hb dX1_next_53 rfl (lv_at hl 0 rfl) ?_
  refine va_get (D := (dC, dI)) (ci := 1) (v := .int sz9) (C := RX1) (T := TX1) (N := 2) hx hb hts in_X1_nextN_X1 hown hK hP 0 rfl rfl 1 (by decide) (hts (.fieldLink RX1 17 "MeetingsAbove$Catalogue" "size" "I") (by decide +kernel)) (fun _ h9 => h9) rfl dX1_next_54 ?_
  refine va_aldq hx hb hK hP 1 0 rfl rfl (vp_in_iff.mpr ⟨by omega, by omega⟩) dX1_next_57 ?_
  refine W.eq (g2 := F0 m 58 ls (.ref q_1 :: [])) (by first | rfl | simp [va_up, va_rf]) ?_
  refine lv_astore_n (lv' := [(1, .ref q_1), (0, .ref h0)]) hx hb dX1_next_58 rfl hl (by decide) rfl (fun ls hl => ?_)
  refine lv_aload_n hx hb dX1_next_59 rfl (lv_at hl 1 rfl) ?_
  refine lv_dup hx hb dX1_next_60 rfl ?_
  refine va_get (D := (dC, dI)) (ci := 1) (v := .int sz9) (C := RX1) (T := TX1) (N := 2) hx hb hts in_X1_nextN_X1 hown hK hP 0 rfl rfl 1 (by decide) (hts (.fieldLink RX1 17 "MeetingsAbove$Catalogue" "size" "I") (by decide +kernel)) (fun _ h9 => h9) rfl dX1_next_61 ?_
  refine lv_iconst (v := 1) hx hb dX1_next_64 (by decide) ?_
  refine lv_iadd hx hb dX1_next_65 ?_
  refine lv_topi (fun y_6 ey_6 => ?_)
  have ty_6 : y_6.toInt = sz9.toInt + 1 := by rw [ey_6]; have := fb_addI (x := sz9) (y := 1) (by omega) (by omega); omega
  refine va_put (D := (dC, dI)) (ci := 1) (v := .int y_6) (ty := .int) (C := RX1) (T := TX1) (N := 2) hx hb hts in_X1_nextN_X1 tyX1 tyX1_ok nmX1 hown hK hP hD hS 0 rfl rfl 1 (by decide) (hts (.fieldLink RX1 17 "MeetingsAbove$Catalogue" "size" "I") (by decide +kernel)) (fun _ h9 => h9) rfl (by decide +kernel) rfl rfl (Nat.le_of_ble_eq_true rfl) dX1_next_66 (fun H locs hP hD hS => ?_)
  have hP : va_P (dC, dI) vwCl [(h0, .inr (1, [.ref na, .int y_6])), (na, .inl (cT, 16, .inr (.inr (.inr (.inr (va_up ga (sz9 : Int32).toNatClampNeg (some q_1))))))), (q_1, .inr (6, [.ref x1_4, .int 0, .int 0, .int 0, .int 0])), (x1_4, .inl (cA_5, 36, .inl (fun _ => 0)))] H := hP
  have hD : va_D A [(h0, .inr (1, [.ref na, .int y_6])), (na, .inl (cT, 16, .inr (.inr (.inr (.inr (va_up ga (sz9 : Int32).toNatClampNeg (some q_1))))))), (q_1, .inr (6, [.ref x1_4, .int 0, .int 0, .int 0, .int 0])), (x1_4, .inl (cA_5, 36, .inl (fun _ => 0)))] := hD
  refine lv_aload_n hx hb dX1_next_69 rfl (lv_at hl 0 rfl) ?_
  have hP9 := hP.sub (ws' := [(h0, .inr (1, [.ref na, .int y_6])), (na, .inl (cT, 16, .inr (.inr (.inr (.inr (va_up ga (sz9 : Int32).toNatClampNeg (some q_1))))))), (q_1, .inr (6, [.ref x1_4, .int 0, .int 0, .int 0, .int 0])), (x1_4, .inl (cA_5, 36, .inl (fun _ => 0)))]) [0, 1, 2, 3] rfl
  have hD9 := hD.sub (ws' := [(h0, .inr (1, [.ref na, .int y_6])), (na, .inl (cT, 16, .inr (.inr (.inr (.inr (va_up ga (sz9 : Int32).toNatClampNeg (some q_1))))))), (q_1, .inr (6, [.ref x1_4, .int 0, .int 0, .int 0, .int 0])), (x1_4, .inl (cA_5, 36, .inl (fun _ => 0)))]) [0, 1, 2, 3] (by decide) rfl
  have hK9 := hK.sub (tys' := [(cT, .object "MeetingsAbove$Thing"), (cA_5, .int)]) [0, 1] rfl
  refine W.widen (k := 2) (n := 41) (by omega) (by omega) ?_
  exact W.aret hx hb hr (Or.inl ⟨_, rfl⟩) (Or.inr ⟨_, rfl⟩) (fun t ht hW => ⟨⟨(), q_1, rfl, trivial, x1_4, cA_5, y_6, by rw [ht]; exact hP9, va_K.moved hW.alike hK9, hD9, (by omega)⟩, hS.F ht⟩) hS.2.2 dX1_next_70
def wk_X1_nextS : List Cond := .code yX1_next cX1_next 2 (some (.object "MeetingsAbove$Thing")) :: (([.fieldLink RX1 17 "MeetingsAbove$Catalogue" "size" "I", .fieldLink RX1 11 "MeetingsAbove$Catalogue" "all" "[LMeetingsAbove$Thing;"] : List Cond) ++ (wsX10 ++ ([])))
theorem in_X1_nextS_X1 : ∀ w ∈ wsX10, w ∈ wk_X1_nextS := fun _ h => List.mem_cons_of_mem _ (List.mem_append_right _ (List.mem_append_left _ h))
theorem gw_X1_nextS : AG wk_X1_nextS := AG_ca (AG_l (by decide +kernel)) (AG_app ag_X1 (AG_nil))
set_option maxHeartbeats 4000000 in
set_option maxRecDepth 100000 in
theorem c_X1_nextS (l : Launch) (dC : Nat → ClassId) (dI : Nat → Nat → Nat) (h0 : Nat) (na : Nat) (cT : ClassId) (sz9 : Int32) (ga : Nat → Option Nat) (wa : Nat) (sz : Nat) (hz0 : 0 ≤ sz9.toInt) (hz1 : sz9.toInt < 16) (hga : ga sz9.toNatClampNeg = some wa) : Met l yX1_next wk_X1_nextS ({ frames := 0, cells := 0, slots := 0, locals := 0 }) (va_Pc [.ref h0] (fun U => U.heap.size = sz ∧ va_P (dC, dI) vwCl [(h0, .inr (1, [.ref na, .int sz9])), (na, .inl (cT, 16, .inr (.inr (.inr (.inr ga)))))] U.heap ∧ va_K (dC, dI) vwCl [(cT, .object "MeetingsAbove$Thing")] U ∧ va_D (fun _ => True) [(h0, .inr (1, [.ref na, .int sz9])), (na, .inl (cT, 16, .inr (.inr (.inr (.inr ga)))))])) (va_Qr (fun (_ : Unit) => True) (fun (_ : Unit) (ra : Nat) (t : State) => ∃ (sz8 : Int32), va_P (dC, dI) vwCl [(h0, .inr (1, [.ref na, .int sz8])), (na, .inl (cT, 16, .inr (.inr (.inr (.inr ga)))))] t.heap ∧ va_K (dC, dI) vwCl [(cT, .object "MeetingsAbove$Thing")] t ∧ va_D (va_A [(h0, .inr (1, [.ref na, .int sz9])), (na, .inl (cT, 16, .inr (.inr (.inr (.inr ga)))))] sz) [(h0, .inr (1, [.ref na, .int sz8])), (na, .inl (cT, 16, .inr (.inr (.inr (.inr ga)))))] ∧ sz8.toInt = sz9.toInt + 1 ∧ ra = wa) (va_A [(h0, .inr (1, [.ref na, .int sz9])), (na, .inl (cT, 16, .inr (.inr (.inr (.inr ga)))))] sz)) 0 0 (va_A [(h0, .inr (1, [.ref na, .int sz9])), (na, .inl (cT, 16, .inr (.inr (.inr (.inr ga)))))] sz) := by
  refine Met.ofW (cc := cX1_next) (maxL := 2) (ret := (some (.object "MeetingsAbove$Thing"))) (by decide) rfl ?_
  intro p e s m args below meth c s₁ B hml hv
  obtain ⟨rfl, hsz, hP, hK, hD0⟩ := hv
  have hx := B.exec
  have hb := B.bytes
  have hr := B.returns
  have hts := atoms_spec (ws := wk_X1_nextS) B.pre
  have hown : s.vm.findClass RX1 = some m.cls := findClass_of_methodNamed B.named
  have hlocks := B.notSynchronized
  subst hsz
  have hD := hD0.self (sz := s.heap.size)
  generalize hAe : va_A [(h0, .inr (1, [.ref na, .int sz9])), (na, .inl (cT, 16, .inr (.inr (.inr (.inr ga)))))] s.heap.size = A at hD ⊢
  have hA : ∀ q : Nat, s.heap.size ≤ q → A q := fun q h => by rw [← hAe]; exact Or.inr h
  have hS : va_S A s.heap s.heap [] := va_S.rf
  have hP : va_P (dC, dI) vwCl [(h0, .inr (1, [.ref na, .int sz9])), (na, .inl (cT, 16, .inr (.inr (.inr (.inr ga)))))] s.heap := hP
  have hl := lv_entry ([.ref h0]) (n := 2) (Nat.le_of_ble_eq_true rfl)
  rw [lg_entry_eq]
  generalize (lg_sl ([.ref h0]) ++ List.replicate (2 - (lg_sl ([.ref h0])).length) Slot.unset).toArray = ls at hl ⊢
  have hl : lv_has ls 2 [(0, .ref h0)] := hl
  have kl_0 : (0 : Int32).toInt = 0 := by decide
  have kl_1 : (1 : Int32).toInt = 1 := by decide
  have kl_16 : (16 : Int32).toInt = 16 := by decide
  refine lv_aload_n hx hb dX1_next_0 rfl (lv_at hl 0 rfl) ?_
  refine va_get (D := (dC, dI)) (ci := 1) (v := .int sz9) (C := RX1) (T := TX1) (N := 2) hx hb hts in_X1_nextS_X1 hown hK hP 0 rfl rfl 1 (by decide) (hts (.fieldLink RX1 17 "MeetingsAbove$Catalogue" "size" "I") (by decide +kernel)) (fun _ h9 => h9) rfl dX1_next_1 ?_
  refine lv_if_lt (tgt := 19) hx hb dX1_next_4 (by decide) (fun c_4 => by have t_4 := (fa_lt _ _).mp c_4; exfalso; omega) (fun c_4 => ?_)
  have t_4 := mt (fa_lt _ _).mpr c_4
  refine lv_aload_n hx hb dX1_next_7 rfl (lv_at hl 0 rfl) ?_
  refine va_get (D := (dC, dI)) (ci := 1) (v := .int sz9) (C := RX1) (T := TX1) (N := 2) hx hb hts in_X1_nextS_X1 hown hK hP 0 rfl rfl 1 (by decide) (hts (.fieldLink RX1 17 "MeetingsAbove$Catalogue" "size" "I") (by decide +kernel)) (fun _ h9 => h9) rfl dX1_next_8 ?_
  refine lv_aload_n hx hb dX1_next_11 rfl (lv_at hl 0 rfl) ?_
  refine va_get (D := (dC, dI)) (ci := 1) (v := .ref na) (C := RX1) (T := TX1) (N := 2) hx hb hts in_X1_nextS_X1 hown hK hP 0 rfl rfl 0 (by decide) (hts (.fieldLink RX1 11 "MeetingsAbove$Catalogue" "all" "[LMeetingsAbove$Thing;") (by decide +kernel)) (fun _ h9 => h9) rfl dX1_next_12 ?_
  refine va_alen (v := 16) hx hb hK hP 1 0 rfl rfl rfl dX1_next_15 ?_
  refine lv_icmp_lt (tgt := 21) hx hb dX1_next_16 (by decide) (fun c_16 => ?_) (fun c_16 => by have t_16 := mt (fa_lt _ _).mpr c_16; exfalso; omega)
  have t_16 := (fa_lt _ _).mp c_16
  refine lv_aload_n hx hb dX1_next_21 rfl (lv_at hl 0 rfl) ?_
  refine va_get (D := (dC, dI)) (ci := 1) (v := .ref na) (C := RX1) (T := TX1) (N := 2) hx hb hts in_X1_nextS_X1 hown hK hP 0 rfl rfl 0 (by decide) (hts (.fieldLink RX1 11 "MeetingsAbove$Catalogue" "all" "[LMeetingsAbove$Thing;") (by decide +kernel)) (fun _ h9 => h9) rfl dX1_next_22 ?_
  refine lv_aload_n hx hb dX1_next_25 rfl (lv_at hl 0 rfl) ?_
  refine va_get (D := (dC, dI)) (ci := 1) (v := .int sz9) (C := RX1) (T := TX1) (N := 2) hx hb hts in_X1_nextS_X1 hown hK hP 0 rfl rfl 1 (by decide) (hts (.fieldLink RX1 17 "MeetingsAbove$Catalogue" "size" "I") (by decide +kernel)) (fun _ h9 => h9) rfl dX1_next_26 ?_
  refine va_aldq hx hb hK hP 1 0 rfl rfl (vp_in_iff.mpr ⟨by omega, by omega⟩) dX1_next_29 ?_
  refine W.eq (g2 := F0 m 30 ls [.ref wa]) (by rw [hga]; rfl) ?_
  refine lv_ifnonnull (tgt := 49) hx hb dX1_next_30 (by decide) ?_
  refine lv_aload_n hx hb dX1_next_49 rfl (lv_at hl 0 rfl) ?_
  refine va_get (D := (dC, dI)) (ci := 1) (v := .ref na) (C := RX1) (T := TX1) (N := 2) hx hb hts in_X1_nextS_X1 hown hK hP 0 rfl rfl 0 (by decide) (hts (.fieldLink RX1 11 "MeetingsAbove$Catalogue" "all" "[LMeetingsAbove$Thing;") (by decide +kernel)) (fun _ h9 => h9) rfl dX1_next_50 ?_
  refine lv_aload_n hx hb dX1_next_53 rfl (lv_at hl 0 rfl) ?_
  refine va_get (D := (dC, dI)) (ci := 1) (v := .int sz9) (C := RX1) (T := TX1) (N := 2) hx hb hts in_X1_nextS_X1 hown hK hP 0 rfl rfl 1 (by decide) (hts (.fieldLink RX1 17 "MeetingsAbove$Catalogue" "size" "I") (by decide +kernel)) (fun _ h9 => h9) rfl dX1_next_54 ?_
  refine va_aldq hx hb hK hP 1 0 rfl rfl (vp_in_iff.mpr ⟨by omega, by omega⟩) dX1_next_57 ?_
  refine W.eq (g2 := F0 m 58 ls [.ref wa]) (by rw [hga]; rfl) ?_
  refine lv_astore_n (lv' := [(1, .ref wa), (0, .ref h0)]) hx hb dX1_next_58 rfl hl (by decide) rfl (fun ls hl => ?_)
  refine lv_aload_n hx hb dX1_next_59 rfl (lv_at hl 1 rfl) ?_
  refine lv_dup hx hb dX1_next_60 rfl ?_
  refine va_get (D := (dC, dI)) (ci := 1) (v := .int sz9) (C := RX1) (T := TX1) (N := 2) hx hb hts in_X1_nextS_X1 hown hK hP 0 rfl rfl 1 (by decide) (hts (.fieldLink RX1 17 "MeetingsAbove$Catalogue" "size" "I") (by decide +kernel)) (fun _ h9 => h9) rfl dX1_next_61 ?_
  refine lv_iconst (v := 1) hx hb dX1_next_64 (by decide) ?_
  refine lv_iadd hx hb dX1_next_65 ?_
  refine lv_topi (fun y_1 ey_1 => ?_)
  have ty_1 : y_1.toInt = sz9.toInt + 1 := by rw [ey_1]; have := fb_addI (x := sz9) (y := 1) (by omega) (by omega); omega
  refine va_put (D := (dC, dI)) (ci := 1) (v := .int y_1) (ty := .int) (C := RX1) (T := TX1) (N := 2) hx hb hts in_X1_nextS_X1 tyX1 tyX1_ok nmX1 hown hK hP hD hS 0 rfl rfl 1 (by decide) (hts (.fieldLink RX1 17 "MeetingsAbove$Catalogue" "size" "I") (by decide +kernel)) (fun _ h9 => h9) rfl (by decide +kernel) rfl rfl (Nat.le_of_ble_eq_true rfl) dX1_next_66 (fun H locs hP hD hS => ?_)
  have hP : va_P (dC, dI) vwCl [(h0, .inr (1, [.ref na, .int y_1])), (na, .inl (cT, 16, .inr (.inr (.inr (.inr ga)))))] H := hP
  have hD : va_D A [(h0, .inr (1, [.ref na, .int y_1])), (na, .inl (cT, 16, .inr (.inr (.inr (.inr ga)))))] := hD
  refine lv_aload_n hx hb dX1_next_69 rfl (lv_at hl 0 rfl) ?_
  have hP9 := hP.sub (ws' := [(h0, .inr (1, [.ref na, .int y_1])), (na, .inl (cT, 16, .inr (.inr (.inr (.inr ga)))))]) [0, 1] rfl
  have hD9 := hD.sub (ws' := [(h0, .inr (1, [.ref na, .int y_1])), (na, .inl (cT, 16, .inr (.inr (.inr (.inr ga)))))]) [0, 1] (by decide) rfl
  have hK9 := hK.sub (tys' := [(cT, .object "MeetingsAbove$Thing")]) [0] rfl
  refine W.widen (k := 0) (n := 0) (by omega) (by omega) ?_
  exact W.aret hx hb hr (Or.inl ⟨_, rfl⟩) (Or.inr ⟨_, rfl⟩) (fun t ht hW => ⟨⟨(), wa, rfl, trivial, y_1, by rw [ht]; exact hP9, va_K.moved hW.alike hK9, hD9, (by omega), rfl⟩, hS.F ht⟩) hS.2.2 dX1_next_70
def wk_X1_nextF : List Cond := .code yX1_next cX1_next 2 (some (.object "MeetingsAbove$Thing")) :: (([.fieldLink RX1 17 "MeetingsAbove$Catalogue" "size" "I", .fieldLink RX1 11 "MeetingsAbove$Catalogue" "all" "[LMeetingsAbove$Thing;"] : List Cond) ++ (wsX10 ++ ([])))
theorem in_X1_nextF_X1 : ∀ w ∈ wsX10, w ∈ wk_X1_nextF := fun _ h => List.mem_cons_of_mem _ (List.mem_append_right _ (List.mem_append_left _ h))
theorem gw_X1_nextF : AG wk_X1_nextF := AG_ca (AG_l (by decide +kernel)) (AG_app ag_X1 (AG_nil))
set_option maxHeartbeats 4000000 in
set_option maxRecDepth 100000 in
theorem c_X1_nextF (l : Launch) (dC : Nat → ClassId) (dI : Nat → Nat → Nat) (h0 : Nat) (na : Nat) (cT : ClassId) (sz9 : Int32) (ga : Nat → Option Nat) (hz0 : sz9.toInt = 16) : Met l yX1_next wk_X1_nextF ({ frames := 0, cells := 0, slots := 0, locals := 0 }) (va_Pc [.ref h0] (fun U => va_P (dC, dI) vwCl [(h0, .inr (1, [.ref na, .int sz9])), (na, .inl (cT, 16, .inr (.inr (.inr (.inr ga)))))] U.heap ∧ va_K (dC, dI) vwCl [(cT, .object "MeetingsAbove$Thing")] U)) (va_Sq (fun r => r = none)) 0 0 (fun _ => False) := by
  refine Met.ofW (cc := cX1_next) (maxL := 2) (ret := (some (.object "MeetingsAbove$Thing"))) (by decide) rfl ?_
  intro p e s m args below meth c s₁ B hml hv
  obtain ⟨rfl, hP, hK⟩ := hv
  have hx := B.exec
  have hb := B.bytes
  have hr := B.returns
  have hts := atoms_spec (ws := wk_X1_nextF) B.pre
  have hown : s.vm.findClass RX1 = some m.cls := findClass_of_methodNamed B.named
  have hlocks := B.notSynchronized
  have hP : va_P (dC, dI) vwCl [(h0, .inr (1, [.ref na, .int sz9])), (na, .inl (cT, 16, .inr (.inr (.inr (.inr ga)))))] s.heap := hP
  have hl := lv_entry ([.ref h0]) (n := 2) (Nat.le_of_ble_eq_true rfl)
  rw [lg_entry_eq]
  generalize (lg_sl ([.ref h0]) ++ List.replicate (2 - (lg_sl ([.ref h0])).length) Slot.unset).toArray = ls at hl ⊢
  have hl : lv_has ls 2 [(0, .ref h0)] := hl
  have kl_0 : (0 : Int32).toInt = 0 := by decide
  have kl_16 : (16 : Int32).toInt = 16 := by decide
  refine lv_aload_n hx hb dX1_next_0 rfl (lv_at hl 0 rfl) ?_
  refine va_get (D := (dC, dI)) (ci := 1) (v := .int sz9) (C := RX1) (T := TX1) (N := 2) hx hb hts in_X1_nextF_X1 hown hK hP 0 rfl rfl 1 (by decide) (hts (.fieldLink RX1 17 "MeetingsAbove$Catalogue" "size" "I") (by decide +kernel)) (fun _ h9 => h9) rfl dX1_next_1 ?_
  refine lv_if_lt (tgt := 19) hx hb dX1_next_4 (by decide) (fun c_4 => by have t_4 := (fa_lt _ _).mp c_4; exfalso; omega) (fun c_4 => ?_)
  have t_4 := mt (fa_lt _ _).mpr c_4
  refine lv_aload_n hx hb dX1_next_7 rfl (lv_at hl 0 rfl) ?_
  refine va_get (D := (dC, dI)) (ci := 1) (v := .int sz9) (C := RX1) (T := TX1) (N := 2) hx hb hts in_X1_nextF_X1 hown hK hP 0 rfl rfl 1 (by decide) (hts (.fieldLink RX1 17 "MeetingsAbove$Catalogue" "size" "I") (by decide +kernel)) (fun _ h9 => h9) rfl dX1_next_8 ?_
  refine lv_aload_n hx hb dX1_next_11 rfl (lv_at hl 0 rfl) ?_
  refine va_get (D := (dC, dI)) (ci := 1) (v := .ref na) (C := RX1) (T := TX1) (N := 2) hx hb hts in_X1_nextF_X1 hown hK hP 0 rfl rfl 0 (by decide) (hts (.fieldLink RX1 11 "MeetingsAbove$Catalogue" "all" "[LMeetingsAbove$Thing;") (by decide +kernel)) (fun _ h9 => h9) rfl dX1_next_12 ?_
  refine va_alen (v := 16) hx hb hK hP 1 0 rfl rfl rfl dX1_next_15 ?_
  refine lv_icmp_lt (tgt := 21) hx hb dX1_next_16 (by decide) (fun c_16 => by have t_16 := (fa_lt _ _).mp c_16; exfalso; omega) (fun c_16 => ?_)
  have t_16 := mt (fa_lt _ _).mpr c_16
  refine lv_null hx hb dX1_next_19 ?_
  exact W.aret hx hb hr (Or.inl ⟨_, rfl⟩) (Or.inl rfl) (fun t ht _ => ⟨none, rfl, rfl, ht⟩) (fun _ h => absurd h List.not_mem_nil) dX1_next_20
