def wk_X1_next : List Cond := .code yX1_next cX1_next 2 (some (.object "MeetingsAbove$Thing")) :: ([.fieldLink RX1 17 "MeetingsAbove$Catalogue" "size" "I", .fieldLink RX1 11 "MeetingsAbove$Catalogue" "all" "[LMeetingsAbove$Thing;", .classLink RX1 9 RX6, .instantiable RX6 5, .initialized RX6, .code yX6_init cX6_init 1 none, .code objectInit ⟨#[0xb1]⟩ 1 none, .methodLink RX6 3 objectInit, .instanceMethod objectInit, .arrayClass .int, .fieldLink RX6 9 "MeetingsAbove$Thing" "coords" "[I", .instanceMethod yX6_init] ++ wsX10 ++ wsX60)
theorem in_X1_next_X1 : ∀ w ∈ wsX10, w ∈ wk_X1_next := fun _ h => List.mem_cons_of_mem _ (List.mem_append_left _ (List.mem_append_right _ h))
theorem in_X1_next_X6 : ∀ w ∈ wsX60, w ∈ wk_X1_next := fun _ h => List.mem_cons_of_mem _ (List.mem_append_right _ h)
set_option maxRecDepth 20000 in
theorem g_X1_next__X6_init_21 : GoodIn wk_X1_next wk_X6_init := goodIn_r _ [6, 7, 8, 9, 10, 11, 15, 16, 17, 18, 19] (by decide +kernel) (by decide +kernel)
set_option maxHeartbeats 4000000 in
set_option maxRecDepth 100000 in
theorem c_X1_next (l : Launch) (dC : Nat → ClassId) (dI : Nat → Nat → Nat) (h0 : Nat) (na : Nat) (kN : ClassId) (sz : Nat) : Met l yX1_next wk_X1_next ({ frames := 2, cells := 2, slots := 41, locals := 32 }) (va_Pc [.ref h0] (fun U => U.heap.size = sz ∧ va_P (dC, dI) vwCl [(h0, .inr (1, [.ref na, .int 0])), (na, .inl (kN, 16, .inr (.inr (.inr (.inr (fun _ => none))))))] U.heap ∧ va_K (dC, dI) vwCl [(kN, .object "MeetingsAbove$Thing")] U ∧ va_D (fun _ => True) [(h0, .inr (1, [.ref na, .int 0])), (na, .inl (kN, 16, .inr (.inr (.inr (.inr (fun _ => none))))))] ∧ XN U)) (va_Qr (fun (_ : Unit) => True) (fun (_ : Unit) (ra : Nat) (t : State) => ∃ (x1 : Nat) (k1 : ClassId), va_P (dC, dI) vwCl [(ra, .inr (6, [.ref x1, .int 0, .int 0, .int 0, .int 0])), (x1, .inl (k1, 36, .inl (fun _ => 0)))] t.heap ∧ va_K (dC, dI) vwCl [(k1, .int)] t ∧ va_D (va_A [(h0, .inr (1, [.ref na, .int 0])), (na, .inl (kN, 16, .inr (.inr (.inr (.inr (fun _ => none))))))] sz) [(ra, .inr (6, [.ref x1, .int 0, .int 0, .int 0, .int 0])), (x1, .inl (k1, 36, .inl (fun _ => 0)))]) (va_A [(h0, .inr (1, [.ref na, .int 0])), (na, .inl (kN, 16, .inr (.inr (.inr (.inr (fun _ => none))))))] sz)) 2 41 (va_A [(h0, .inr (1, [.ref na, .int 0])), (na, .inl (kN, 16, .inr (.inr (.inr (.inr (fun _ => none))))))] sz) := by
  refine Met.ofW (cc := cX1_next) (maxL := 2) (ret := (some (.object "MeetingsAbove$Thing"))) (by decide) rfl ?_
  intro p e s m args below meth c s₁ B hml hv
  obtain ⟨rfl, hsz, hP, hK, hD0, hN⟩ := hv
  have hx := B.exec
  have hb := B.bytes
  have hr := B.returns
  have hts := atoms_spec (ws := wk_X1_next) B.pre
  have hown : s.vm.findClass RX1 = some m.cls := findClass_of_methodNamed B.named
  have hlocks := B.notSynchronized
  subst hsz
  have hD := hD0.self (sz := s.heap.size)
  generalize hAe : va_A [(h0, .inr (1, [.ref na, .int 0])), (na, .inl (kN, 16, .inr (.inr (.inr (.inr (fun _ => none))))))] s.heap.size = A at hD ⊢
  have hA : ∀ q : Nat, s.heap.size ≤ q → A q := fun q h => by rw [← hAe]; exact Or.inr h
  have hS : va_S A s.heap s.heap [] := va_S.rf
  have hP : va_P (dC, dI) vwCl [(h0, .inr (1, [.ref na, .int 0])), (na, .inl (kN, 16, .inr (.inr (.inr (.inr (fun _ => none))))))] s.heap := hP
  have hl := lv_entry ([.ref h0]) (n := 2) (Nat.le_of_ble_eq_true rfl)
  rw [lg_entry_eq]
  generalize (lg_sl ([.ref h0]) ++ List.replicate (2 - (lg_sl ([.ref h0])).length) Slot.unset).toArray = ls at hl ⊢
  have hl : lv_has ls 2 [(0, .ref h0)] := hl
  refine lv_aload_n hx hb dX1_next_0 rfl (lv_at hl 0 rfl) ?_
  refine va_get (D := (dC, dI)) (ci := 1) (v := .int 0) (C := RX1) (T := TX1) (N := 2) hx hb hts in_X1_next_X1 hown hK hP 0 rfl rfl 1 (by decide) (hts (.fieldLink RX1 17 "MeetingsAbove$Catalogue" "size" "I") (by decide +kernel)) (fun _ h9 => h9) rfl dX1_next_1 ?_
  refine lv_if_lt (tgt := 19) hx hb dX1_next_4 (by decide) (fun h9 => absurd h9 (by decide)) (fun _ => ?_)
  refine lv_aload_n hx hb dX1_next_7 rfl (lv_at hl 0 rfl) ?_
  refine va_get (D := (dC, dI)) (ci := 1) (v := .int 0) (C := RX1) (T := TX1) (N := 2) hx hb hts in_X1_next_X1 hown hK hP 0 rfl rfl 1 (by decide) (hts (.fieldLink RX1 17 "MeetingsAbove$Catalogue" "size" "I") (by decide +kernel)) (fun _ h9 => h9) rfl dX1_next_8 ?_
  refine lv_aload_n hx hb dX1_next_11 rfl (lv_at hl 0 rfl) ?_
  refine va_get (D := (dC, dI)) (ci := 1) (v := .ref na) (C := RX1) (T := TX1) (N := 2) hx hb hts in_X1_next_X1 hown hK hP 0 rfl rfl 0 (by decide) (hts (.fieldLink RX1 11 "MeetingsAbove$Catalogue" "all" "[LMeetingsAbove$Thing;") (by decide +kernel)) (fun _ h9 => h9) rfl dX1_next_12 ?_
  refine va_alen (v := 16) hx hb hK hP 1 0 rfl rfl (by decide) dX1_next_15 ?_
  refine lv_icmp_lt (tgt := 21) hx hb dX1_next_16 (by decide) (fun _ => ?_) (fun h9 => absurd h9 (by decide))
  refine lv_aload_n hx hb dX1_next_21 rfl (lv_at hl 0 rfl) ?_
  refine va_get (D := (dC, dI)) (ci := 1) (v := .ref na) (C := RX1) (T := TX1) (N := 2) hx hb hts in_X1_next_X1 hown hK hP 0 rfl rfl 0 (by decide) (hts (.fieldLink RX1 11 "MeetingsAbove$Catalogue" "all" "[LMeetingsAbove$Thing;") (by decide +kernel)) (fun _ h9 => h9) rfl dX1_next_22 ?_
  refine lv_aload_n hx hb dX1_next_25 rfl (lv_at hl 0 rfl) ?_
  refine va_get (D := (dC, dI)) (ci := 1) (v := .int 0) (C := RX1) (T := TX1) (N := 2) hx hb hts in_X1_next_X1 hown hK hP 0 rfl rfl 1 (by decide) (hts (.fieldLink RX1 17 "MeetingsAbove$Catalogue" "size" "I") (by decide +kernel)) (fun _ h9 => h9) rfl dX1_next_26 ?_
  refine va_aldq hx hb hK hP 1 0 rfl rfl (by unfold vp_in; decide) dX1_next_29 ?_
  refine W.eq (g2 := F0 m 30 ls (.null :: [])) rfl ?_
  refine lv_ifnonnullN hx hb dX1_next_30 ?_
  refine lv_aload_n hx hb dX1_next_33 rfl (lv_at hl 0 rfl) ?_
  refine va_get (D := (dC, dI)) (ci := 1) (v := .ref na) (C := RX1) (T := TX1) (N := 2) hx hb hts in_X1_next_X1 hown hK hP 0 rfl rfl 0 (by decide) (hts (.fieldLink RX1 11 "MeetingsAbove$Catalogue" "all" "[LMeetingsAbove$Thing;") (by decide +kernel)) (fun _ h9 => h9) rfl dX1_next_34 ?_
  refine lv_aload_n hx hb dX1_next_37 rfl (lv_at hl 0 rfl) ?_
  refine va_get (D := (dC, dI)) (ci := 1) (v := .int 0) (C := RX1) (T := TX1) (N := 2) hx hb hts in_X1_next_X1 hown hK hP 0 rfl rfl 1 (by decide) (hts (.fieldLink RX1 17 "MeetingsAbove$Catalogue" "size" "I") (by decide +kernel)) (fun _ h9 => h9) rfl dX1_next_38 ?_
  refine va_new (ci := 6) (fs := [.null, .int 0, .int 0, .int 0, .int 0]) (C := RX6) (T := TX6) (N := 5) hx hb hts in_X1_next_X6 tyX6 tyX6_ok hown (hts (.classLink RX1 9 RX6) (by decide +kernel)) (hts (.instantiable RX6 5) (by decide +kernel)) (hts (.initialized RX6) (by decide +kernel)) hK hP hD hS hA rfl (fun j hj => by rcases (show j = 0 ∨ j = 1 ∨ j = 2 ∨ j = 3 ∨ j = 4 by omega) with rfl | rfl | rfl | rfl | rfl <;> rfl) (Nat.le_of_ble_eq_true rfl) (Nat.le_of_ble_eq_true rfl) dX1_next_41 (fun q_1 H hP hD hS => ?_)
  have hP : va_P (dC, dI) vwCl [(h0, .inr (1, [.ref na, .int 0])), (na, .inl (kN, 16, .inr (.inr (.inr (.inr (fun _ => none)))))), (q_1, .inr (6, [.null, .int 0, .int 0, .int 0, .int 0]))] H := hP
  have hD : va_D A [(h0, .inr (1, [.ref na, .int 0])), (na, .inl (kN, 16, .inr (.inr (.inr (.inr (fun _ => none)))))), (q_1, .inr (6, [.null, .int 0, .int 0, .int 0, .int 0]))] := hD
  refine W.widen (k := 1) (n := 5) (by omega) (by omega) ?_
  refine lv_dup hx hb dX1_next_44 rfl ?_
  have hPc := hP.sub (ws' := [(q_1, .inr (6, [.null, .int 0, .int 0, .int 0, .int 0]))]) [2] rfl
  have hKc := hK.sub (tys' := []) [] rfl
  have hDc := hD.sub (ws' := [(q_1, .inr (6, [.null, .int 0, .int 0, .int 0, .int 0]))]) [2] (by decide) rfl
  have hFc := va_free (wc := [(q_1, .inr (6, [.null, .int 0, .int 0, .int 0, .int 0]))]) hD hS hA [2] rfl
  refine va_callv (va_runIN (As := []) (rest := [.ref q_1, .int 0, .ref na]) ⟨hx, hb, hml, hown, hts⟩ (c_X6_init l dC dI q_1 H.size) ⟨(va_cnB (host := RX8) 0 hts g_X1_next__X6_init_21 rfl rfl rfl (XN_X1_21 hN) (hts (.initialized RX6) (by decide +kernel)) (by decide +kernel) ⟨Nat.le_of_ble_eq_true rfl, Nat.le_of_ble_eq_true rfl⟩), rfl, (hts (.instanceMethod yX6_init) (by decide +kernel))⟩ ⟨fun a U g mk q => by obtain ⟨q0, q1, qP, qK, qD⟩ := q; exact ⟨q0, q1, qP, va_K.moved (u := U) (U := U.calling g mk a) (Vm.Alike.refl U.vm) qK, qD⟩, fun U hU hW => ⟨rfl, by rw [hU], by rw [hU]; exact hPc, va_K.moved hW.alike hKc, hDc.weaken (fun _ _ _ _ => trivial)⟩⟩ rfl rfl hl.1 rfl (lv_room (Nat.le_of_ble_eq_true rfl)) dX1_next_45 ⟨Nat.le_of_ble_eq_true rfl, Nat.le_of_ble_eq_true rfl⟩) hS (fun q _ h => hFc q h) hFc (fun u_2 t H1 locs ht hvm hw_3 hB hz1 hk1 hS => ?_)
  obtain ⟨x1_4, cA_5, hP1, hK1, hD1⟩ := hB
  rw [ht] at hP1
  have hK1 := va_K.moved hvm.symm hK1
  obtain ⟨hP, hD⟩ := va_join (wr := [(h0, .inr (1, [.ref na, .int 0])), (na, .inl (kN, 16, .inr (.inr (.inr (.inr (fun _ => none))))))]) (w1 := [(q_1, .inr (6, [.ref x1_4, .int 0, .int 0, .int 0, .int 0])), (x1_4, .inl (cA_5, 36, .inl (fun _ => 0)))]) hP hD [2] [0, 1] rfl rfl (by decide) (by decide) hk1 hFc hP1 hD1
  have hK := (hK.sub (tys' := [(kN, .object "MeetingsAbove$Thing")]) [0] rfl).app hK1
  generalize H1 = H at hP hS ⊢
  have hP : va_P (dC, dI) vwCl [(h0, .inr (1, [.ref na, .int 0])), (na, .inl (kN, 16, .inr (.inr (.inr (.inr (fun _ => none)))))), (q_1, .inr (6, [.ref x1_4, .int 0, .int 0, .int 0, .int 0])), (x1_4, .inl (cA_5, 36, .inl (fun _ => 0)))] H := hP
  have hD : va_D A [(h0, .inr (1, [.ref na, .int 0])), (na, .inl (kN, 16, .inr (.inr (.inr (.inr (fun _ => none)))))), (q_1, .inr (6, [.ref x1_4, .int 0, .int 0, .int 0, .int 0])), (x1_4, .inl (cA_5, 36, .inl (fun _ => 0)))] := hD
  have hK : va_K (dC, dI) vwCl [(kN, .object "MeetingsAbove$Thing"), (cA_5, .int)] s := hK
  refine W.widen (k := 2) (n := 41) (by omega) (by omega) ?_
  refine va_astq (r := (RX6, TX6, 5)) hx hb hK hP hD hS 1 0 2 6 rfl rfl rfl rfl (by unfold vp_in; decide) dX1_next_48 (fun H locs hP hD hS => ?_)
  have hP : va_P (dC, dI) vwCl [(h0, .inr (1, [.ref na, .int 0])), (na, .inl (kN, 16, .inr (.inr (.inr (.inr (va_up (fun _ => none) (0 : Int32).toNatClampNeg (some q_1))))))), (q_1, .inr (6, [.ref x1_4, .int 0, .int 0, .int 0, .int 0])), (x1_4, .inl (cA_5, 36, .inl (fun _ => 0)))] H := hP
  have hD : va_D A [(h0, .inr (1, [.ref na, .int 0])), (na, .inl (kN, 16, .inr (.inr (.inr (.inr (va_up (fun _ => none) (0 : Int32).toNatClampNeg (some q_1))))))), (q_1, .inr (6, [.ref x1_4, .int 0, .int 0, .int 0, .int 0])), (x1_4, .inl (cA_5, 36, .inl (fun _ => 0)))] := hD
  refine lv_aload_n hx hb dX1_next_49 rfl (lv_at hl 0 rfl) ?_
  refine va_get (D := (dC, dI)) (ci := 1) (v := .ref na) (C := RX1) (T := TX1) (N := 2) hx hb hts in_X1_next_X1 hown hK hP 0 rfl rfl 0 (by decide) (hts (.fieldLink RX1 11 "MeetingsAbove$Catalogue" "all" "[LMeetingsAbove$Thing;") (by decide +kernel)) (fun _ h9 => h9) rfl dX1_next_50 ?_
  refine lv_aload_n hx hb dX1_next_53 rfl (lv_at hl 0 rfl) ?_
  refine va_get (D := (dC, dI)) (ci := 1) (v := .int 0) (C := RX1) (T := TX1) (N := 2) hx hb hts in_X1_next_X1 hown hK hP 0 rfl rfl 1 (by decide) (hts (.fieldLink RX1 17 "MeetingsAbove$Catalogue" "size" "I") (by decide +kernel)) (fun _ h9 => h9) rfl dX1_next_54 ?_
  refine va_aldq hx hb hK hP 1 0 rfl rfl (by unfold vp_in; decide) dX1_next_57 ?_
  refine W.eq (g2 := F0 m 58 ls (.ref q_1 :: [])) (by first | rfl | simp [va_up, va_rf]) ?_
  refine lv_astore_n (lv' := [(1, .ref q_1), (0, .ref h0)]) hx hb dX1_next_58 rfl hl (by decide) rfl (fun ls hl => ?_)
  refine lv_aload_n hx hb dX1_next_59 rfl (lv_at hl 1 rfl) ?_
  refine lv_dup hx hb dX1_next_60 rfl ?_
  refine va_get (D := (dC, dI)) (ci := 1) (v := .int 0) (C := RX1) (T := TX1) (N := 2) hx hb hts in_X1_next_X1 hown hK hP 0 rfl rfl 1 (by decide) (hts (.fieldLink RX1 17 "MeetingsAbove$Catalogue" "size" "I") (by decide +kernel)) (fun _ h9 => h9) rfl dX1_next_61 ?_
  refine lv_iconst (v := 1) hx hb dX1_next_64 (by decide) ?_
  refine lv_iadd hx hb dX1_next_65 ?_
  refine lv_topi (fun y_6 ey_6 => ?_)
  obtain rfl : y_6 = 1 := ey_6.trans (by decide)
  refine va_put (D := (dC, dI)) (ci := 1) (v := .int 1) (ty := .int) (C := RX1) (T := TX1) (N := 2) hx hb hts in_X1_next_X1 tyX1 tyX1_ok nmX1 hown hK hP hD hS 0 rfl rfl 1 (by decide) (hts (.fieldLink RX1 17 "MeetingsAbove$Catalogue" "size" "I") (by decide +kernel)) (fun _ h9 => h9) rfl (by decide +kernel) rfl rfl (Nat.le_of_ble_eq_true rfl) dX1_next_66 (fun H locs hP hD hS => ?_)
  have hP : va_P (dC, dI) vwCl [(h0, .inr (1, [.ref na, .int 1])), (na, .inl (kN, 16, .inr (.inr (.inr (.inr (va_up (fun _ => none) (0 : Int32).toNatClampNeg (some q_1))))))), (q_1, .inr (6, [.ref x1_4, .int 0, .int 0, .int 0, .int 0])), (x1_4, .inl (cA_5, 36, .inl (fun _ => 0)))] H := hP
  have hD : va_D A [(h0, .inr (1, [.ref na, .int 1])), (na, .inl (kN, 16, .inr (.inr (.inr (.inr (va_up (fun _ => none) (0 : Int32).toNatClampNeg (some q_1))))))), (q_1, .inr (6, [.ref x1_4, .int 0, .int 0, .int 0, .int 0])), (x1_4, .inl (cA_5, 36, .inl (fun _ => 0)))] := hD
  refine lv_aload_n hx hb dX1_next_69 rfl (lv_at hl 0 rfl) ?_
  have hP9 := hP.sub (ws' := [(q_1, .inr (6, [.ref x1_4, .int 0, .int 0, .int 0, .int 0])), (x1_4, .inl (cA_5, 36, .inl (fun _ => 0)))]) [2, 3] rfl
  have hD9 := hD.sub (ws' := [(q_1, .inr (6, [.ref x1_4, .int 0, .int 0, .int 0, .int 0])), (x1_4, .inl (cA_5, 36, .inl (fun _ => 0)))]) [2, 3] (by decide) rfl
  have hK9 := hK.sub (tys' := [(cA_5, .int)]) [1] rfl
  refine W.widen (k := 2) (n := 41) (by omega) (by omega) ?_
  exact W.aret hx hb hr (Or.inl ⟨_, rfl⟩) (Or.inr ⟨_, rfl⟩) (fun t ht hW => ⟨⟨(), q_1, rfl, trivial, x1_4, cA_5, by rw [ht]; exact hP9, va_K.moved hW.alike hK9, hD9⟩, hS.F ht⟩) hS.2.2 dX1_next_70
def wk_X6_begin : List Cond := .code yX6_begin cX6_begin 3 none :: ([.fieldLink RX6 15 "MeetingsAbove$Thing" "first" "I", .fieldLink RX6 19 "MeetingsAbove$Thing" "places" "I", .fieldLink RX6 22 "MeetingsAbove$Thing" "doubt" "I", .fieldLink RX6 25 "MeetingsAbove$Thing" "gone" "Z"] ++ wsX60)
theorem in_X6_begin_X6 : ∀ w ∈ wsX60, w ∈ wk_X6_begin := fun _ h => List.mem_cons_of_mem _ (List.mem_append_right _ h)
set_option maxHeartbeats 4000000 in
set_option maxRecDepth 100000 in
theorem c_X6_begin (l : Launch) (dC : Nat → ClassId) (dI : Nat → Nat → Nat) (h0 : Nat) (x1 : Nat) (f1 : Int32) (f2 : Int32) (f3 : Int32) (f4 : Int32) (p1 : Int32) (p2 : Int32) (sz : Nat) : Met l yX6_begin wk_X6_begin ({ frames := 0, cells := 0, slots := 0, locals := 0 }) (va_Pc [.ref h0, .int p1, .int p2] (fun U => U.heap.size = sz ∧ va_P (dC, dI) vwCl [(h0, .inr (6, [.ref x1, .int f1, .int f2, .int f3, .int f4]))] U.heap ∧ va_K (dC, dI) vwCl [] U ∧ va_D (fun _ => True) [(h0, .inr (6, [.ref x1, .int f1, .int f2, .int f3, .int f4]))])) (va_Qv (fun (_ : Unit) => True) (fun (_ : Unit) (t : State) => va_P (dC, dI) vwCl [(h0, .inr (6, [.ref x1, .int p1, .int 0, .int p2, .int 0]))] t.heap ∧ va_K (dC, dI) vwCl [] t ∧ va_D (va_A [(h0, .inr (6, [.ref x1, .int f1, .int f2, .int f3, .int f4]))] sz) [(h0, .inr (6, [.ref x1, .int p1, .int 0, .int p2, .int 0]))]) (va_A [(h0, .inr (6, [.ref x1, .int f1, .int f2, .int f3, .int f4]))] sz)) 0 0 (va_A [(h0, .inr (6, [.ref x1, .int f1, .int f2, .int f3, .int f4]))] sz) := by
  refine Met.ofW (cc := cX6_begin) (maxL := 3) (ret := none) (by decide) rfl ?_
  intro p e s m args below meth c s₁ B hml hv
  obtain ⟨rfl, hsz, hP, hK, hD0⟩ := hv
  have hx := B.exec
  have hb := B.bytes
  have hr := B.returns
  have hts := atoms_spec (ws := wk_X6_begin) B.pre
  have hown : s.vm.findClass RX6 = some m.cls := findClass_of_methodNamed B.named
  have hlocks := B.notSynchronized
  subst hsz
  have hD := hD0.self (sz := s.heap.size)
  generalize hAe : va_A [(h0, .inr (6, [.ref x1, .int f1, .int f2, .int f3, .int f4]))] s.heap.size = A at hD ⊢
  have hA : ∀ q : Nat, s.heap.size ≤ q → A q := fun q h => by rw [← hAe]; exact Or.inr h
  have hS : va_S A s.heap s.heap [] := va_S.rf
  have hP : va_P (dC, dI) vwCl [(h0, .inr (6, [.ref x1, .int f1, .int f2, .int f3, .int f4]))] s.heap := hP
  have hl := lv_entry ([.ref h0, .int p1, .int p2]) (n := 3) (Nat.le_of_ble_eq_true rfl)
  rw [lg_entry_eq]
  generalize (lg_sl ([.ref h0, .int p1, .int p2]) ++ List.replicate (3 - (lg_sl ([.ref h0, .int p1, .int p2])).length) Slot.unset).toArray = ls at hl ⊢
  have hl : lv_has ls 3 [(0, .ref h0), (1, .int p1), (2, .int p2)] := hl
  refine lv_aload_n hx hb dX6_begin_0 rfl (lv_at hl 0 rfl) ?_
  refine lv_iload_n hx hb dX6_begin_1 rfl (lv_at hl 1 rfl) ?_
  refine va_put (D := (dC, dI)) (ci := 6) (v := .int p1) (ty := .int) (C := RX6) (T := TX6) (N := 5) hx hb hts in_X6_begin_X6 tyX6 tyX6_ok nmX6 hown hK hP hD hS 0 rfl rfl 1 (by decide) (hts (.fieldLink RX6 15 "MeetingsAbove$Thing" "first" "I") (by decide +kernel)) (fun _ h9 => h9) rfl (by decide +kernel) rfl rfl (Nat.le_of_ble_eq_true rfl) dX6_begin_2 (fun H locs hP hD hS => ?_)
  have hP : va_P (dC, dI) vwCl [(h0, .inr (6, [.ref x1, .int p1, .int f2, .int f3, .int f4]))] H := hP
  have hD : va_D A [(h0, .inr (6, [.ref x1, .int p1, .int f2, .int f3, .int f4]))] := hD
  refine lv_aload_n hx hb dX6_begin_5 rfl (lv_at hl 0 rfl) ?_
  refine lv_iconst (v := 0) hx hb dX6_begin_6 (by decide) ?_
  refine va_put (D := (dC, dI)) (ci := 6) (v := .int 0) (ty := .int) (C := RX6) (T := TX6) (N := 5) hx hb hts in_X6_begin_X6 tyX6 tyX6_ok nmX6 hown hK hP hD hS 0 rfl rfl 2 (by decide) (hts (.fieldLink RX6 19 "MeetingsAbove$Thing" "places" "I") (by decide +kernel)) (fun _ h9 => h9) rfl (by decide +kernel) rfl rfl (Nat.le_of_ble_eq_true rfl) dX6_begin_7 (fun H locs hP hD hS => ?_)
  have hP : va_P (dC, dI) vwCl [(h0, .inr (6, [.ref x1, .int p1, .int 0, .int f3, .int f4]))] H := hP
  have hD : va_D A [(h0, .inr (6, [.ref x1, .int p1, .int 0, .int f3, .int f4]))] := hD
  refine lv_aload_n hx hb dX6_begin_10 rfl (lv_at hl 0 rfl) ?_
  refine lv_iload_n hx hb dX6_begin_11 rfl (lv_at hl 2 rfl) ?_
  refine va_put (D := (dC, dI)) (ci := 6) (v := .int p2) (ty := .int) (C := RX6) (T := TX6) (N := 5) hx hb hts in_X6_begin_X6 tyX6 tyX6_ok nmX6 hown hK hP hD hS 0 rfl rfl 3 (by decide) (hts (.fieldLink RX6 22 "MeetingsAbove$Thing" "doubt" "I") (by decide +kernel)) (fun _ h9 => h9) rfl (by decide +kernel) rfl rfl (Nat.le_of_ble_eq_true rfl) dX6_begin_12 (fun H locs hP hD hS => ?_)
  have hP : va_P (dC, dI) vwCl [(h0, .inr (6, [.ref x1, .int p1, .int 0, .int p2, .int f4]))] H := hP
  have hD : va_D A [(h0, .inr (6, [.ref x1, .int p1, .int 0, .int p2, .int f4]))] := hD
  refine lv_aload_n hx hb dX6_begin_15 rfl (lv_at hl 0 rfl) ?_
  refine lv_iconst (v := 0) hx hb dX6_begin_16 (by decide) ?_
  refine va_put (D := (dC, dI)) (ci := 6) (v := .int 0) (ty := .boolean) (C := RX6) (T := TX6) (N := 5) hx hb hts in_X6_begin_X6 tyX6 tyX6_ok nmX6 hown hK hP hD hS 0 rfl rfl 4 (by decide) (hts (.fieldLink RX6 25 "MeetingsAbove$Thing" "gone" "Z") (by decide +kernel)) (fun _ h9 => h9) rfl (by decide +kernel) rfl rfl (Nat.le_of_ble_eq_true rfl) dX6_begin_17 (fun H locs hP hD hS => ?_)
  have hP : va_P (dC, dI) vwCl [(h0, .inr (6, [.ref x1, .int p1, .int 0, .int p2, .int 0]))] H := hP
  have hD : va_D A [(h0, .inr (6, [.ref x1, .int p1, .int 0, .int p2, .int 0]))] := hD
  have hP9 := hP.sub (ws' := [(h0, .inr (6, [.ref x1, .int p1, .int 0, .int p2, .int 0]))]) [0] rfl
  have hD9 := hD.sub (ws' := [(h0, .inr (6, [.ref x1, .int p1, .int 0, .int p2, .int 0]))]) [0] (by decide) rfl
  have hK9 := hK.sub (tys' := []) [] rfl
  refine W.widen (k := 0) (n := 0) (by omega) (by omega) ?_
  exact W.vret hx hb hr (fun t ht hW => ⟨⟨(), rfl, trivial, by rw [ht]; exact hP9, va_K.moved hW.alike hK9, hD9⟩, hS.F ht⟩) hS.2.2 dX6_begin_20
def wk_X6_append : List Cond := .code yX6_append cX6_append 5 (some .boolean) :: ([.fieldLink RX6 19 "MeetingsAbove$Thing" "places" "I", .fieldLink RX6 9 "MeetingsAbove$Thing" "coords" "[I"] ++ wsX60)
theorem in_X6_append_X6 : ∀ w ∈ wsX60, w ∈ wk_X6_append := fun _ h => List.mem_cons_of_mem _ (List.mem_append_right _ h)
set_option maxHeartbeats 4000000 in
set_option maxRecDepth 100000 in
theorem c_X6_append (l : Launch) (dC : Nat → ClassId) (dI : Nat → Nat → Nat) (h0 : Nat) (x1 : Nat) (k1 : ClassId) (f1 : Int32) (f3 : Int32) (f4 : Int32) (p1 : Int32) (p2 : Int32) (p3 : Int32) (sz : Nat) : Met l yX6_append wk_X6_append ({ frames := 0, cells := 0, slots := 0, locals := 0 }) (va_Pc [.ref h0, .int p1, .int p2, .int p3] (fun U => U.heap.size = sz ∧ va_P (dC, dI) vwCl [(h0, .inr (6, [.ref x1, .int f1, .int 0, .int f3, .int f4])), (x1, .inl (k1, 36, .inl (fun _ => 0)))] U.heap ∧ va_K (dC, dI) vwCl [(k1, .int)] U ∧ va_D (fun _ => True) [(h0, .inr (6, [.ref x1, .int f1, .int 0, .int f3, .int f4])), (x1, .inl (k1, 36, .inl (fun _ => 0)))])) (va_Qi (fun (r : Int32) (_ : Unit) => r = 1) (fun (_ : Unit) (t : State) => va_P (dC, dI) vwCl [] t.heap ∧ va_K (dC, dI) vwCl [] t ∧ va_D (va_A [(h0, .inr (6, [.ref x1, .int f1, .int 0, .int f3, .int f4])), (x1, .inl (k1, 36, .inl (fun _ => 0)))] sz) []) (va_A [(h0, .inr (6, [.ref x1, .int f1, .int 0, .int f3, .int f4])), (x1, .inl (k1, 36, .inl (fun _ => 0)))] sz)) 0 0 (va_A [(h0, .inr (6, [.ref x1, .int f1, .int 0, .int f3, .int f4])), (x1, .inl (k1, 36, .inl (fun _ => 0)))] sz) := by
  refine Met.ofW (cc := cX6_append) (maxL := 5) (ret := (some .boolean)) (by decide) rfl ?_
  intro p e s m args below meth c s₁ B hml hv
  obtain ⟨rfl, hsz, hP, hK, hD0⟩ := hv
  have hx := B.exec
  have hb := B.bytes
  have hr := B.returns
  have hts := atoms_spec (ws := wk_X6_append) B.pre
  have hown : s.vm.findClass RX6 = some m.cls := findClass_of_methodNamed B.named
  have hlocks := B.notSynchronized
  subst hsz
  have hD := hD0.self (sz := s.heap.size)
  generalize hAe : va_A [(h0, .inr (6, [.ref x1, .int f1, .int 0, .int f3, .int f4])), (x1, .inl (k1, 36, .inl (fun _ => 0)))] s.heap.size = A at hD ⊢
  have hA : ∀ q : Nat, s.heap.size ≤ q → A q := fun q h => by rw [← hAe]; exact Or.inr h
  have hS : va_S A s.heap s.heap [] := va_S.rf
  have hP : va_P (dC, dI) vwCl [(h0, .inr (6, [.ref x1, .int f1, .int 0, .int f3, .int f4])), (x1, .inl (k1, 36, .inl (fun _ => 0)))] s.heap := hP
  have hl := lv_entry ([.ref h0, .int p1, .int p2, .int p3]) (n := 5) (Nat.le_of_ble_eq_true rfl)
  rw [lg_entry_eq]
  generalize (lg_sl ([.ref h0, .int p1, .int p2, .int p3]) ++ List.replicate (5 - (lg_sl ([.ref h0, .int p1, .int p2, .int p3])).length) Slot.unset).toArray = ls at hl ⊢
  have hl : lv_has ls 5 [(0, .ref h0), (1, .int p1), (2, .int p2), (3, .int p3)] := hl
  refine lv_iconst (v := 3) hx hb dX6_append_0 (by decide) ?_
  refine lv_aload_n hx hb dX6_append_1 rfl (lv_at hl 0 rfl) ?_
  refine va_get (D := (dC, dI)) (ci := 6) (v := .int 0) (C := RX6) (T := TX6) (N := 5) hx hb hts in_X6_append_X6 hown hK hP 0 rfl rfl 2 (by decide) (hts (.fieldLink RX6 19 "MeetingsAbove$Thing" "places" "I") (by decide +kernel)) (fun _ h9 => h9) rfl dX6_append_2 ?_
  refine lv_imul hx hb dX6_append_5 ?_
  refine lv_topi (fun y_1 ey_1 => ?_)
  obtain rfl : y_1 = 0 := ey_1.trans (by decide)
  refine lv_istore (lv' := [(4, .int 0), (0, .ref h0), (1, .int p1), (2, .int p2), (3, .int p3)]) hx hb dX6_append_6 hl (by decide) rfl (fun ls hl => ?_)
  refine lv_iload hx hb dX6_append_8 (lv_at hl 0 rfl) ?_
  refine lv_if_lt (tgt := 25) hx hb dX6_append_10 (by decide) (fun h9 => absurd h9 (by decide)) (fun _ => ?_)
  refine lv_iload hx hb dX6_append_13 (lv_at hl 0 rfl) ?_
  refine lv_aload_n hx hb dX6_append_15 rfl (lv_at hl 1 rfl) ?_
  refine va_get (D := (dC, dI)) (ci := 6) (v := .ref x1) (C := RX6) (T := TX6) (N := 5) hx hb hts in_X6_append_X6 hown hK hP 0 rfl rfl 0 (by decide) (hts (.fieldLink RX6 9 "MeetingsAbove$Thing" "coords" "[I") (by decide +kernel)) (fun _ h9 => h9) rfl dX6_append_16 ?_
  refine va_alen (v := 36) hx hb hK hP 1 0 rfl rfl (by decide) dX6_append_19 ?_
  refine lv_iconst (v := 3) hx hb dX6_append_20 (by decide) ?_
  refine lv_isub hx hb dX6_append_21 ?_
  refine lv_topi (fun y_2 ey_2 => ?_)
  obtain rfl : y_2 = 33 := ey_2.trans (by decide)
  refine lv_icmp_le (tgt := 27) hx hb dX6_append_22 (by decide) (fun _ => ?_) (fun h9 => absurd h9 (by decide))
  refine lv_aload_n hx hb dX6_append_27 rfl (lv_at hl 1 rfl) ?_
  refine va_get (D := (dC, dI)) (ci := 6) (v := .ref x1) (C := RX6) (T := TX6) (N := 5) hx hb hts in_X6_append_X6 hown hK hP 0 rfl rfl 0 (by decide) (hts (.fieldLink RX6 9 "MeetingsAbove$Thing" "coords" "[I") (by decide +kernel)) (fun _ h9 => h9) rfl dX6_append_28 ?_
  refine lv_iload hx hb dX6_append_31 (lv_at hl 0 rfl) ?_
  refine lv_iload_n hx hb dX6_append_33 rfl (lv_at hl 2 rfl) ?_
  refine va_iast hx hb hK hP hD hS 1 0 rfl rfl (by unfold vp_in; decide) dX6_append_34 (fun H locs hP hD hS => ?_)
  have hP : va_P (dC, dI) vwCl [(h0, .inr (6, [.ref x1, .int f1, .int 0, .int f3, .int f4])), (x1, .inl (k1, 36, .inl (upd (fun _ => 0) (0 : Int32).toNatClampNeg p1)))] H := hP
  have hD : va_D A [(h0, .inr (6, [.ref x1, .int f1, .int 0, .int f3, .int f4])), (x1, .inl (k1, 36, .inl (upd (fun _ => 0) (0 : Int32).toNatClampNeg p1)))] := hD
  refine lv_aload_n hx hb dX6_append_35 rfl (lv_at hl 1 rfl) ?_
  refine va_get (D := (dC, dI)) (ci := 6) (v := .ref x1) (C := RX6) (T := TX6) (N := 5) hx hb hts in_X6_append_X6 hown hK hP 0 rfl rfl 0 (by decide) (hts (.fieldLink RX6 9 "MeetingsAbove$Thing" "coords" "[I") (by decide +kernel)) (fun _ h9 => h9) rfl dX6_append_36 ?_
  refine lv_iload hx hb dX6_append_39 (lv_at hl 0 rfl) ?_
  refine lv_iconst (v := 1) hx hb dX6_append_41 (by decide) ?_
  refine lv_iadd hx hb dX6_append_42 ?_
  refine lv_topi (fun y_3 ey_3 => ?_)
  obtain rfl : y_3 = 1 := ey_3.trans (by decide)
  refine lv_iload_n hx hb dX6_append_43 rfl (lv_at hl 3 rfl) ?_
  refine va_iast hx hb hK hP hD hS 1 0 rfl rfl (by unfold vp_in; decide) dX6_append_44 (fun H locs hP hD hS => ?_)
  have hP : va_P (dC, dI) vwCl [(h0, .inr (6, [.ref x1, .int f1, .int 0, .int f3, .int f4])), (x1, .inl (k1, 36, .inl (upd (upd (fun _ => 0) (0 : Int32).toNatClampNeg p1) (1 : Int32).toNatClampNeg p2)))] H := hP
  have hD : va_D A [(h0, .inr (6, [.ref x1, .int f1, .int 0, .int f3, .int f4])), (x1, .inl (k1, 36, .inl (upd (upd (fun _ => 0) (0 : Int32).toNatClampNeg p1) (1 : Int32).toNatClampNeg p2)))] := hD
  refine lv_aload_n hx hb dX6_append_45 rfl (lv_at hl 1 rfl) ?_
  refine va_get (D := (dC, dI)) (ci := 6) (v := .ref x1) (C := RX6) (T := TX6) (N := 5) hx hb hts in_X6_append_X6 hown hK hP 0 rfl rfl 0 (by decide) (hts (.fieldLink RX6 9 "MeetingsAbove$Thing" "coords" "[I") (by decide +kernel)) (fun _ h9 => h9) rfl dX6_append_46 ?_
  refine lv_iload hx hb dX6_append_49 (lv_at hl 0 rfl) ?_
  refine lv_iconst (v := 2) hx hb dX6_append_51 (by decide) ?_
  refine lv_iadd hx hb dX6_append_52 ?_
  refine lv_topi (fun y_4 ey_4 => ?_)
  obtain rfl : y_4 = 2 := ey_4.trans (by decide)
  refine lv_iload_n hx hb dX6_append_53 rfl (lv_at hl 4 rfl) ?_
  refine va_iast hx hb hK hP hD hS 1 0 rfl rfl (by unfold vp_in; decide) dX6_append_54 (fun H locs hP hD hS => ?_)
  have hP : va_P (dC, dI) vwCl [(h0, .inr (6, [.ref x1, .int f1, .int 0, .int f3, .int f4])), (x1, .inl (k1, 36, .inl (upd (upd (upd (fun _ => 0) (0 : Int32).toNatClampNeg p1) (1 : Int32).toNatClampNeg p2) (2 : Int32).toNatClampNeg p3)))] H := hP
  have hD : va_D A [(h0, .inr (6, [.ref x1, .int f1, .int 0, .int f3, .int f4])), (x1, .inl (k1, 36, .inl (upd (upd (upd (fun _ => 0) (0 : Int32).toNatClampNeg p1) (1 : Int32).toNatClampNeg p2) (2 : Int32).toNatClampNeg p3)))] := hD
  refine lv_aload_n hx hb dX6_append_55 rfl (lv_at hl 1 rfl) ?_
  refine lv_dup hx hb dX6_append_56 rfl ?_
  refine va_get (D := (dC, dI)) (ci := 6) (v := .int 0) (C := RX6) (T := TX6) (N := 5) hx hb hts in_X6_append_X6 hown hK hP 0 rfl rfl 2 (by decide) (hts (.fieldLink RX6 19 "MeetingsAbove$Thing" "places" "I") (by decide +kernel)) (fun _ h9 => h9) rfl dX6_append_57 ?_
  refine lv_iconst (v := 1) hx hb dX6_append_60 (by decide) ?_
  refine lv_iadd hx hb dX6_append_61 ?_
  refine lv_topi (fun y_5 ey_5 => ?_)
  obtain rfl : y_5 = 1 := ey_5.trans (by decide)
  refine va_put (D := (dC, dI)) (ci := 6) (v := .int 1) (ty := .int) (C := RX6) (T := TX6) (N := 5) hx hb hts in_X6_append_X6 tyX6 tyX6_ok nmX6 hown hK hP hD hS 0 rfl rfl 2 (by decide) (hts (.fieldLink RX6 19 "MeetingsAbove$Thing" "places" "I") (by decide +kernel)) (fun _ h9 => h9) rfl (by decide +kernel) rfl rfl (Nat.le_of_ble_eq_true rfl) dX6_append_62 (fun H locs hP hD hS => ?_)
  have hP : va_P (dC, dI) vwCl [(h0, .inr (6, [.ref x1, .int f1, .int 1, .int f3, .int f4])), (x1, .inl (k1, 36, .inl (upd (upd (upd (fun _ => 0) (0 : Int32).toNatClampNeg p1) (1 : Int32).toNatClampNeg p2) (2 : Int32).toNatClampNeg p3)))] H := hP
  have hD : va_D A [(h0, .inr (6, [.ref x1, .int f1, .int 1, .int f3, .int f4])), (x1, .inl (k1, 36, .inl (upd (upd (upd (fun _ => 0) (0 : Int32).toNatClampNeg p1) (1 : Int32).toNatClampNeg p2) (2 : Int32).toNatClampNeg p3)))] := hD
  refine lv_iconst (v := 1) hx hb dX6_append_65 (by decide) ?_
  have hP9 := hP.sub (ws' := []) [] rfl
  have hD9 := hD.sub (ws' := []) [] (by decide) rfl
  have hK9 := hK.sub (tys' := []) [] rfl
  refine W.widen (k := 0) (n := 0) (by omega) (by omega) ?_
  exact W.zret (v := 1) hx hb hr rfl (fun t ht hW => ⟨⟨_, (), rfl, rfl, by rw [ht]; exact hP9, va_K.moved hW.alike hK9, hD9⟩, hS.F ht⟩) hS.2.2 dX6_append_66
def wk_X8_thing : List Cond := .code yX8_thing cX8_thing 8 (some .int) :: ([.methodLink RX8 76 yX8_isStep, .static yX8_isStep, .initialized RX8, .code yX8_isStep cX8_isStep 1 (some .boolean), .methodLink RX8 84 yX8_isWithin, .static yX8_isWithin, .code yX8_isWithin cX8_isWithin 3 (some .boolean), .methodLink RX8 80 yX8_isPlace, .static yX8_isPlace, .code yX8_isPlace cX8_isPlace 3 (some .boolean), .fieldLink RX8 12 "MeetingsAbove" "now" "LMeetingsAbove$Catalogue;", .fieldLink RX8 88 "MeetingsAbove$Catalogue" "size" "I", .methodLink RX8 91 yX1_next, .instanceMethod yX1_next, .selects RX1 yX1_next yX1_next, .initialized RX1, .code yX1_next cX1_next 2 (some (.object "MeetingsAbove$Thing")), .fieldLink RX1 17 "MeetingsAbove$Catalogue" "size" "I", .fieldLink RX1 11 "MeetingsAbove$Catalogue" "all" "[LMeetingsAbove$Thing;", .classLink RX1 9 RX6, .instantiable RX6 5, .initialized RX6, .code yX6_init cX6_init 1 none, .code objectInit ⟨#[0xb1]⟩ 1 none, .methodLink RX6 3 objectInit, .instanceMethod objectInit, .arrayClass .int, .fieldLink RX6 9 "MeetingsAbove$Thing" "coords" "[I", .instanceMethod yX6_init, .methodLink RX8 96 yX6_begin, .instanceMethod yX6_begin, .selects RX6 yX6_begin yX6_begin, .code yX6_begin cX6_begin 3 none, .fieldLink RX6 15 "MeetingsAbove$Thing" "first" "I", .fieldLink RX6 19 "MeetingsAbove$Thing" "places" "I", .fieldLink RX6 22 "MeetingsAbove$Thing" "doubt" "I", .fieldLink RX6 25 "MeetingsAbove$Thing" "gone" "Z", .methodLink RX8 100 yX6_append, .instanceMethod yX6_append, .selects RX6 yX6_append yX6_append, .code yX6_append cX6_append 5 (some .boolean), .constant RX8 87 (-100002)] ++ wsX80 ++ wsX10 ++ wsX60)
theorem in_X8_thing_X1 : ∀ w ∈ wsX10, w ∈ wk_X8_thing := fun _ h => List.mem_cons_of_mem _ (List.mem_append_left _ (List.mem_append_right _ h))
theorem in_X8_thing_X8 : ∀ w ∈ wsX80, w ∈ wk_X8_thing := fun _ h => List.mem_cons_of_mem _ (List.mem_append_left _ (List.mem_append_left _ (List.mem_append_right _ h)))
set_option maxRecDepth 20000 in
theorem g_X8_thing__X8_isStep_76 : GoodIn wk_X8_thing (va_wsS RX8 76 yX8_isStep wk_X8_isStep) := goodIn_r _ [1, 2, 3, 4, 5, 6, 3, 7] (by decide +kernel) (by decide +kernel)
set_option maxRecDepth 20000 in
theorem g_X8_thing__X8_isPlace_80 : GoodIn wk_X8_thing (va_wsS RX8 80 yX8_isPlace wk_X8_isPlace) := goodIn_r _ [8, 9, 3, 10, 5, 6, 3, 7] (by decide +kernel) (by decide +kernel)
set_option maxRecDepth 20000 in
theorem g_X8_thing__X8_isWithin_84 : GoodIn wk_X8_thing (va_wsS RX8 84 yX8_isWithin wk_X8_isWithin) := goodIn_r _ [5, 6, 3, 7] (by decide +kernel) (by decide +kernel)
set_option maxRecDepth 20000 in
theorem g_X8_thing__X1_next_91 : GoodIn wk_X8_thing (wsV RX8 91 RX1 yX1_next wk_X1_next) := goodIn_r _ [13, 14, 15, 16, 17, 18, 19, 20, 21, 22, 23, 24, 25, 26, 27, 28, 29, 59, 60, 61, 62, 63, 64, 65] (by decide +kernel) (by decide +kernel)
set_option maxRecDepth 20000 in
theorem g_X8_thing__X6_begin_96 : GoodIn wk_X8_thing (wsV RX8 96 RX6 yX6_begin wk_X6_begin) := goodIn_r _ [30, 31, 32, 22, 33, 34, 35, 36, 37, 61, 62, 63, 64, 65] (by decide +kernel) (by decide +kernel)
set_option maxRecDepth 20000 in
theorem g_X8_thing__X6_append_100 : GoodIn wk_X8_thing (wsV RX8 100 RX6 yX6_append wk_X6_append) := goodIn_r _ [38, 39, 40, 22, 41, 35, 28, 61, 62, 63, 64, 65] (by decide +kernel) (by decide +kernel)
set_option maxHeartbeats 4000000 in
set_option maxRecDepth 100000 in
theorem c_X8_thing (l : Launch) (dC : Nat → ClassId) (dI : Nat → Nat → Nat) (h0 : Nat) (n0 : Nat) (s0 : Nat) (s1 : Nat) (d0 : Nat) (o0 : Nat) (w0 : Nat) (e0 : Nat) (f0 : Nat) (t0 : Nat) (b0 : Nat) (na : Nat) (kN : ClassId) (p1 : Int32) (p2 : Int32) (p3 : Int32) (p4 : Int32) (p5 : Int32) (sz : Nat) : Met l yX8_thing wk_X8_thing ({ frames := 3, cells := 2, slots := 41, locals := 53 }) (va_Pc [.ref h0, .int p1, .int p2, .int p3, .int p4, .int p5] (fun U => U.heap.size = sz ∧ va_P (dC, dI) vwCl [(h0, .inr (8, [.ref n0, .ref s0, .ref s1, .ref d0, .ref o0, .int 0, .int 0, .int 0, .int 50, .int 20, .ref w0, .ref e0, .ref f0, .ref t0, .ref b0, .int 0])), (n0, .inr (1, [.ref na, .int 0])), (na, .inl (kN, 16, .inr (.inr (.inr (.inr (fun _ => none))))))] U.heap ∧ va_K (dC, dI) vwCl [(kN, .object "MeetingsAbove$Thing")] U ∧ va_D (fun _ => True) [(h0, .inr (8, [.ref n0, .ref s0, .ref s1, .ref d0, .ref o0, .int 0, .int 0, .int 0, .int 50, .int 20, .ref w0, .ref e0, .ref f0, .ref t0, .ref b0, .int 0])), (n0, .inr (1, [.ref na, .int 0])), (na, .inl (kN, 16, .inr (.inr (.inr (.inr (fun _ => none))))))] ∧ XN U)) (va_Qi (fun (r : Int32) (_ : Unit) => r = an_thing p1 p2 p3 p4 p5) (fun (_ : Unit) (t : State) => va_P (dC, dI) vwCl [] t.heap ∧ va_K (dC, dI) vwCl [] t ∧ va_D (va_A [(h0, .inr (8, [.ref n0, .ref s0, .ref s1, .ref d0, .ref o0, .int 0, .int 0, .int 0, .int 50, .int 20, .ref w0, .ref e0, .ref f0, .ref t0, .ref b0, .int 0])), (n0, .inr (1, [.ref na, .int 0])), (na, .inl (kN, 16, .inr (.inr (.inr (.inr (fun _ => none))))))] sz) []) (va_A [(h0, .inr (8, [.ref n0, .ref s0, .ref s1, .ref d0, .ref o0, .int 0, .int 0, .int 0, .int 50, .int 20, .ref w0, .ref e0, .ref f0, .ref t0, .ref b0, .int 0])), (n0, .inr (1, [.ref na, .int 0])), (na, .inl (kN, 16, .inr (.inr (.inr (.inr (fun _ => none))))))] sz)) 2 41 (va_A [(h0, .inr (8, [.ref n0, .ref s0, .ref s1, .ref d0, .ref o0, .int 0, .int 0, .int 0, .int 50, .int 20, .ref w0, .ref e0, .ref f0, .ref t0, .ref b0, .int 0])), (n0, .inr (1, [.ref na, .int 0])), (na, .inl (kN, 16, .inr (.inr (.inr (.inr (fun _ => none))))))] sz) := by
  refine Met.ofW (cc := cX8_thing) (maxL := 8) (ret := (some .int)) (by decide) rfl ?_
  intro p e s m args below meth c s₁ B hml hv
  obtain ⟨rfl, hsz, hP, hK, hD0, hN⟩ := hv
  have hx := B.exec
  have hb := B.bytes
  have hr := B.returns
  have hts := atoms_spec (ws := wk_X8_thing) B.pre
  have hown : s.vm.findClass RX8 = some m.cls := findClass_of_methodNamed B.named
  have hlocks := B.notSynchronized
  subst hsz
  have hD := hD0.self (sz := s.heap.size)
  generalize hAe : va_A [(h0, .inr (8, [.ref n0, .ref s0, .ref s1, .ref d0, .ref o0, .int 0, .int 0, .int 0, .int 50, .int 20, .ref w0, .ref e0, .ref f0, .ref t0, .ref b0, .int 0])), (n0, .inr (1, [.ref na, .int 0])), (na, .inl (kN, 16, .inr (.inr (.inr (.inr (fun _ => none))))))] s.heap.size = A at hD ⊢
  have hA : ∀ q : Nat, s.heap.size ≤ q → A q := fun q h => by rw [← hAe]; exact Or.inr h
  have hS : va_S A s.heap s.heap [] := va_S.rf
  have hP : va_P (dC, dI) vwCl [(h0, .inr (8, [.ref n0, .ref s0, .ref s1, .ref d0, .ref o0, .int 0, .int 0, .int 0, .int 50, .int 20, .ref w0, .ref e0, .ref f0, .ref t0, .ref b0, .int 0])), (n0, .inr (1, [.ref na, .int 0])), (na, .inl (kN, 16, .inr (.inr (.inr (.inr (fun _ => none))))))] s.heap := hP
  have hl := lv_entry ([.ref h0, .int p1, .int p2, .int p3, .int p4, .int p5]) (n := 8) (Nat.le_of_ble_eq_true rfl)
  rw [lg_entry_eq]
  generalize (lg_sl ([.ref h0, .int p1, .int p2, .int p3, .int p4, .int p5]) ++ List.replicate (8 - (lg_sl ([.ref h0, .int p1, .int p2, .int p3, .int p4, .int p5])).length) Slot.unset).toArray = ls at hl ⊢
  have hl : lv_has ls 8 [(0, .ref h0), (1, .int p1), (2, .int p2), (3, .int p3), (4, .int p4), (5, .int p5)] := hl
  refine lv_iload_n hx hb dX8_thing_0 rfl (lv_at hl 1 rfl) ?_
  refine vp_callSi (W.runS (As := [.int p1]) (rest := []) ⟨hx, hb, hml, hown, hts⟩ (c_X8_isStep l dC dI p1) (va_cwS 1 hts g_X8_thing__X8_isStep_76 rfl rfl rfl (by decide +kernel) ⟨Nat.le_of_ble_eq_true rfl, Nat.le_of_ble_eq_true rfl⟩) ⟨fun a U g mk q => by obtain ⟨q0, q1⟩ := q; exact ⟨q0, q1⟩, fun U hU hW => ⟨rfl, trivial⟩⟩ rfl rfl hl.1 rfl (lv_room (Nat.le_of_ble_eq_true rfl)) dX8_thing_1 ⟨Nat.le_of_ble_eq_true rfl, Nat.le_of_ble_eq_true rfl⟩) (fun r_1 hr_1 => ?_)
  try dsimp only at hr_1
  rcases bo_split hr_1 with ⟨rfl, q_1⟩ | ⟨rfl, q_1⟩
  · refine lv_if_eq (tgt := 29) hx hb dX8_thing_4 (by decide) (fun h9 => absurd h9 (by decide)) (fun _ => ?_)
    refine lv_iload_n hx hb dX8_thing_7 rfl (lv_at hl 2 rfl) ?_
    refine lv_iload_n hx hb dX8_thing_8 rfl (lv_at hl 3 rfl) ?_
    refine lv_iload hx hb dX8_thing_9 (lv_at hl 4 rfl) ?_
    refine vp_callSi (W.runS (As := [.int p2, .int p3, .int p4]) (rest := []) ⟨hx, hb, hml, hown, hts⟩ (c_X8_isPlace l dC dI p2 p3 p4) (va_cwS 3 hts g_X8_thing__X8_isPlace_80 rfl rfl rfl (by decide +kernel) ⟨Nat.le_of_ble_eq_true rfl, Nat.le_of_ble_eq_true rfl⟩) ⟨fun a U g mk q => by obtain ⟨q0, q1⟩ := q; exact ⟨q0, q1⟩, fun U hU hW => ⟨rfl, trivial⟩⟩ rfl rfl hl.1 rfl (lv_room (Nat.le_of_ble_eq_true rfl)) dX8_thing_11 ⟨Nat.le_of_ble_eq_true rfl, Nat.le_of_ble_eq_true rfl⟩) (fun r_2 hr_2 => ?_)
    try dsimp only at hr_2
    rcases bo_split hr_2 with ⟨rfl, q_11⟩ | ⟨rfl, q_11⟩
    · refine lv_if_eq (tgt := 29) hx hb dX8_thing_14 (by decide) (fun h9 => absurd h9 (by decide)) (fun _ => ?_)
      refine lv_iload hx hb dX8_thing_17 (lv_at hl 5 rfl) ?_
      refine lv_iconst (v := 0) hx hb dX8_thing_19 (by decide) ?_
      refine lv_sipush (v := 200) hx hb dX8_thing_20 (by decide) ?_
      refine vp_callSi (W.runS (As := [.int p5, .int 0, .int 200]) (rest := []) ⟨hx, hb, hml, hown, hts⟩ (c_X8_isWithin l dC dI p5 0 200) (va_cwS 3 hts g_X8_thing__X8_isWithin_84 rfl rfl rfl (by decide +kernel) ⟨Nat.le_of_ble_eq_true rfl, Nat.le_of_ble_eq_true rfl⟩) ⟨fun a U g mk q => by obtain ⟨q0, q1⟩ := q; exact ⟨q0, q1⟩, fun U hU hW => ⟨rfl, trivial⟩⟩ rfl rfl hl.1 rfl (lv_room (Nat.le_of_ble_eq_true rfl)) dX8_thing_23 ⟨Nat.le_of_ble_eq_true rfl, Nat.le_of_ble_eq_true rfl⟩) (fun r_3 hr_3 => ?_)
      try dsimp only at hr_3
      rcases bo_split hr_3 with ⟨rfl, q_23⟩ | ⟨rfl, q_23⟩
      · refine lv_if_ne (tgt := 32) hx hb dX8_thing_26 (by decide) (fun _ => ?_) (fun h9 => absurd h9 (by decide))
        refine lv_aload_n hx hb dX8_thing_32 rfl (lv_at hl 0 rfl) ?_
        refine va_get (D := (dC, dI)) (ci := 8) (v := .ref n0) (C := RX8) (T := TX8) (N := 16) hx hb hts in_X8_thing_X8 hown hK hP 0 rfl rfl 0 (by decide) (hts (.fieldLink RX8 12 "MeetingsAbove" "now" "LMeetingsAbove$Catalogue;") (by decide +kernel)) (fun _ h9 => h9) rfl dX8_thing_33 ?_
        refine va_get (D := (dC, dI)) (ci := 1) (v := .int 0) (C := RX1) (T := TX1) (N := 2) hx hb hts in_X8_thing_X1 hown hK hP 1 rfl rfl 1 (by decide) (hts (.fieldLink RX8 88 "MeetingsAbove$Catalogue" "size" "I") (by decide +kernel)) (fun _ h9 => h9) rfl dX8_thing_36 ?_
        refine lv_istore (lv' := [(6, .int 0), (0, .ref h0), (1, .int p1), (2, .int p2), (3, .int p3), (4, .int p4), (5, .int p5)]) hx hb dX8_thing_39 hl (by decide) rfl (fun ls hl => ?_)
        refine lv_aload_n hx hb dX8_thing_41 rfl (lv_at hl 1 rfl) ?_
        refine va_get (D := (dC, dI)) (ci := 8) (v := .ref n0) (C := RX8) (T := TX8) (N := 16) hx hb hts in_X8_thing_X8 hown hK hP 0 rfl rfl 0 (by decide) (hts (.fieldLink RX8 12 "MeetingsAbove" "now" "LMeetingsAbove$Catalogue;") (by decide +kernel)) (fun _ h9 => h9) rfl dX8_thing_42 ?_
        have hPc := hP.sub (ws' := [(n0, .inr (1, [.ref na, .int 0])), (na, .inl (kN, 16, .inr (.inr (.inr (.inr (fun _ => none))))))]) [1, 2] rfl
        have hKc := hK.sub (tys' := [(kN, .object "MeetingsAbove$Thing")]) [0] rfl
        have hDc := hD.sub (ws' := [(n0, .inr (1, [.ref na, .int 0])), (na, .inl (kN, 16, .inr (.inr (.inr (.inr (fun _ => none))))))]) [1, 2] (by decide) rfl
        have hFc := va_free (wc := [(n0, .inr (1, [.ref na, .int 0])), (na, .inl (kN, 16, .inr (.inr (.inr (.inr (fun _ => none))))))]) hD hS hA [1, 2] rfl
        refine va_callr (va_runV (As := []) (rest := []) ⟨hx, hb, hml, hown, hts⟩ (c_X1_next l dC dI n0 na kN s.heap.size) (cwV 0 hts g_X8_thing__X1_next_91 rfl rfl rfl (by decide +kernel) ⟨Nat.le_of_ble_eq_true rfl, Nat.le_of_ble_eq_true rfl⟩) ⟨fun a U g mk q => by obtain ⟨q0, q1, qP, qK, qD, qN⟩ := q; exact ⟨q0, q1, qP, va_K.moved (u := U) (U := U.calling g mk a) (Vm.Alike.refl U.vm) qK, qD, XN_same (U := U) (U2 := U.calling g mk a) rfl qN⟩, va_recv hKc hPc (ci := 1) (q0 := 0) rfl rfl, fun U hU hW => ⟨rfl, by rw [hU], by rw [hU]; exact hPc, va_K.moved hW.alike hKc, hDc.weaken (fun _ _ _ _ => trivial), XN_warm hW hN⟩⟩ rfl rfl hl.1 rfl (lv_room (Nat.le_of_ble_eq_true rfl)) dX8_thing_45 ⟨Nat.le_of_ble_eq_true rfl, Nat.le_of_ble_eq_true rfl⟩) hS (fun q _ h => hFc q h) hFc (fun u_4 r_5 t H1 locs ht hvm hw_5 hB hz1 hk1 hS => ?_)
        obtain ⟨x1_6, cA_7, hP1, hK1, hD1⟩ := hB
        rw [ht] at hP1
        have hK1 := va_K.moved hvm.symm hK1
        obtain ⟨hP, hD⟩ := va_join (wr := [(h0, .inr (8, [.ref n0, .ref s0, .ref s1, .ref d0, .ref o0, .int 0, .int 0, .int 0, .int 50, .int 20, .ref w0, .ref e0, .ref f0, .ref t0, .ref b0, .int 0]))]) (w1 := [(r_5, .inr (6, [.ref x1_6, .int 0, .int 0, .int 0, .int 0])), (x1_6, .inl (cA_7, 36, .inl (fun _ => 0)))]) hP hD [1, 2] [0] rfl rfl (by decide) (by decide) hk1 hFc hP1 hD1
        have hK := (hK.sub (tys' := [(kN, .object "MeetingsAbove$Thing")]) [0] rfl).app hK1
        generalize H1 = H at hP hS ⊢
        have hP : va_P (dC, dI) vwCl [(h0, .inr (8, [.ref n0, .ref s0, .ref s1, .ref d0, .ref o0, .int 0, .int 0, .int 0, .int 50, .int 20, .ref w0, .ref e0, .ref f0, .ref t0, .ref b0, .int 0])), (r_5, .inr (6, [.ref x1_6, .int 0, .int 0, .int 0, .int 0])), (x1_6, .inl (cA_7, 36, .inl (fun _ => 0)))] H := hP
        have hD : va_D A [(h0, .inr (8, [.ref n0, .ref s0, .ref s1, .ref d0, .ref o0, .int 0, .int 0, .int 0, .int 50, .int 20, .ref w0, .ref e0, .ref f0, .ref t0, .ref b0, .int 0])), (r_5, .inr (6, [.ref x1_6, .int 0, .int 0, .int 0, .int 0])), (x1_6, .inl (cA_7, 36, .inl (fun _ => 0)))] := hD
        have hK : va_K (dC, dI) vwCl [(kN, .object "MeetingsAbove$Thing"), (cA_7, .int)] s := hK
        refine W.widen (k := 2) (n := 41) (by omega) (by omega) ?_
        refine lv_astore (lv' := [(7, .ref r_5), (6, .int 0), (0, .ref h0), (1, .int p1), (2, .int p2), (3, .int p3), (4, .int p4), (5, .int p5)]) hx hb dX8_thing_48 hl (by decide) rfl (fun ls hl => ?_)
        refine lv_aload hx hb dX8_thing_50 (lv_at hl 0 rfl) ?_
        refine lv_ifnonnull (tgt := 58) hx hb dX8_thing_52 (by decide) ?_
        refine lv_aload hx hb dX8_thing_58 (lv_at hl 0 rfl) ?_
        refine lv_iload_n hx hb dX8_thing_60 rfl (lv_at hl 3 rfl) ?_
        refine lv_iload hx hb dX8_thing_61 (lv_at hl 7 rfl) ?_
        have hPc := hP.sub (ws' := [(r_5, .inr (6, [.ref x1_6, .int 0, .int 0, .int 0, .int 0]))]) [1] rfl
        have hKc := hK.sub (tys' := []) [] rfl
        have hDc := hD.sub (ws' := [(r_5, .inr (6, [.ref x1_6, .int 0, .int 0, .int 0, .int 0]))]) [1] (by decide) rfl
        have hFc := va_free (wc := [(r_5, .inr (6, [.ref x1_6, .int 0, .int 0, .int 0, .int 0]))]) hD hS hA [1] rfl
        refine va_callv (va_runV (As := [.int p1, .int p5]) (rest := []) ⟨hx, hb, hml, hown, hts⟩ (c_X6_begin l dC dI r_5 x1_6 0 0 0 0 p1 p5 H.size) (cwV 2 hts g_X8_thing__X6_begin_96 rfl rfl rfl (by decide +kernel) ⟨Nat.le_of_ble_eq_true rfl, Nat.le_of_ble_eq_true rfl⟩) ⟨fun a U g mk q => by obtain ⟨q0, q1, qP, qK, qD⟩ := q; exact ⟨q0, q1, qP, va_K.moved (u := U) (U := U.calling g mk a) (Vm.Alike.refl U.vm) qK, qD⟩, va_recv hKc hPc (ci := 6) (q0 := 0) rfl rfl, fun U hU hW => ⟨rfl, by rw [hU], by rw [hU]; exact hPc, va_K.moved hW.alike hKc, hDc.weaken (fun _ _ _ _ => trivial)⟩⟩ rfl rfl hl.1 rfl (lv_room (Nat.le_of_ble_eq_true rfl)) dX8_thing_63 ⟨Nat.le_of_ble_eq_true rfl, Nat.le_of_ble_eq_true rfl⟩) hS (fun q _ h => hFc q h) hFc (fun u_8 t H1 locs ht hvm hw_9 hB hz1 hk1 hS => ?_)
        obtain ⟨hP1, hK1, hD1⟩ := hB
        rw [ht] at hP1
        have hK1 := va_K.moved hvm.symm hK1
        obtain ⟨hP, hD⟩ := va_join (wr := [(h0, .inr (8, [.ref n0, .ref s0, .ref s1, .ref d0, .ref o0, .int 0, .int 0, .int 0, .int 50, .int 20, .ref w0, .ref e0, .ref f0, .ref t0, .ref b0, .int 0])), (x1_6, .inl (cA_7, 36, .inl (fun _ => 0)))]) (w1 := [(r_5, .inr (6, [.ref x1_6, .int p1, .int 0, .int p5, .int 0]))]) hP hD [1] [0, 2] rfl rfl (by decide) (by decide) hk1 hFc hP1 hD1
        have hK := (hK.sub (tys' := [(kN, .object "MeetingsAbove$Thing"), (cA_7, .int)]) [0, 1] rfl).app hK1
        generalize H1 = H at hP hS ⊢
        have hP : va_P (dC, dI) vwCl [(h0, .inr (8, [.ref n0, .ref s0, .ref s1, .ref d0, .ref o0, .int 0, .int 0, .int 0, .int 50, .int 20, .ref w0, .ref e0, .ref f0, .ref t0, .ref b0, .int 0])), (x1_6, .inl (cA_7, 36, .inl (fun _ => 0))), (r_5, .inr (6, [.ref x1_6, .int p1, .int 0, .int p5, .int 0]))] H := hP
        have hD : va_D A [(h0, .inr (8, [.ref n0, .ref s0, .ref s1, .ref d0, .ref o0, .int 0, .int 0, .int 0, .int 50, .int 20, .ref w0, .ref e0, .ref f0, .ref t0, .ref b0, .int 0])), (x1_6, .inl (cA_7, 36, .inl (fun _ => 0))), (r_5, .inr (6, [.ref x1_6, .int p1, .int 0, .int p5, .int 0]))] := hD
        have hK : va_K (dC, dI) vwCl [(kN, .object "MeetingsAbove$Thing"), (cA_7, .int)] s := hK
        refine W.widen (k := 2) (n := 41) (by omega) (by omega) ?_
        refine lv_aload hx hb dX8_thing_66 (lv_at hl 0 rfl) ?_
        refine lv_iload_n hx hb dX8_thing_68 rfl (lv_at hl 4 rfl) ?_
        refine lv_iload_n hx hb dX8_thing_69 rfl (lv_at hl 5 rfl) ?_
        refine lv_iload hx hb dX8_thing_70 (lv_at hl 6 rfl) ?_
        have hPc := hP.sub (ws' := [(r_5, .inr (6, [.ref x1_6, .int p1, .int 0, .int p5, .int 0])), (x1_6, .inl (cA_7, 36, .inl (fun _ => 0)))]) [2, 1] rfl
        have hKc := hK.sub (tys' := [(cA_7, .int)]) [1] rfl
        have hDc := hD.sub (ws' := [(r_5, .inr (6, [.ref x1_6, .int p1, .int 0, .int p5, .int 0])), (x1_6, .inl (cA_7, 36, .inl (fun _ => 0)))]) [2, 1] (by decide) rfl
        have hFc := va_free (wc := [(r_5, .inr (6, [.ref x1_6, .int p1, .int 0, .int p5, .int 0])), (x1_6, .inl (cA_7, 36, .inl (fun _ => 0)))]) hD hS hA [2, 1] rfl
        refine va_calli (va_runV (As := [.int p2, .int p3, .int p4]) (rest := []) ⟨hx, hb, hml, hown, hts⟩ (c_X6_append l dC dI r_5 x1_6 cA_7 p1 p5 0 p2 p3 p4 H.size) (cwV 3 hts g_X8_thing__X6_append_100 rfl rfl rfl (by decide +kernel) ⟨Nat.le_of_ble_eq_true rfl, Nat.le_of_ble_eq_true rfl⟩) ⟨fun a U g mk q => by obtain ⟨q0, q1, qP, qK, qD⟩ := q; exact ⟨q0, q1, qP, va_K.moved (u := U) (U := U.calling g mk a) (Vm.Alike.refl U.vm) qK, qD⟩, va_recv hKc hPc (ci := 6) (q0 := 0) rfl rfl, fun U hU hW => ⟨rfl, by rw [hU], by rw [hU]; exact hPc, va_K.moved hW.alike hKc, hDc.weaken (fun _ _ _ _ => trivial)⟩⟩ rfl rfl hl.1 rfl (lv_room (Nat.le_of_ble_eq_true rfl)) dX8_thing_72 ⟨Nat.le_of_ble_eq_true rfl, Nat.le_of_ble_eq_true rfl⟩) hS (fun q _ h => hFc q h) hFc (fun r_11 u_10 t H1 locs ht hvm hw_11 hB hz1 hk1 hS => ?_)
        obtain ⟨hP1, hK1, hD1⟩ := hB
        rw [ht] at hP1
        have hK1 := va_K.moved hvm.symm hK1
        obtain ⟨hP, hD⟩ := va_join (wr := [(h0, .inr (8, [.ref n0, .ref s0, .ref s1, .ref d0, .ref o0, .int 0, .int 0, .int 0, .int 50, .int 20, .ref w0, .ref e0, .ref f0, .ref t0, .ref b0, .int 0]))]) (w1 := []) hP hD [2, 1] [0] rfl rfl (by decide) (by decide) hk1 hFc hP1 hD1
        have hK := (hK.sub (tys' := [(kN, .object "MeetingsAbove$Thing"), (cA_7, .int)]) [0, 1] rfl).app hK1
        generalize H1 = H at hP hS ⊢
        have hP : va_P (dC, dI) vwCl [(h0, .inr (8, [.ref n0, .ref s0, .ref s1, .ref d0, .ref o0, .int 0, .int 0, .int 0, .int 50, .int 20, .ref w0, .ref e0, .ref f0, .ref t0, .ref b0, .int 0]))] H := hP
        have hD : va_D A [(h0, .inr (8, [.ref n0, .ref s0, .ref s1, .ref d0, .ref o0, .int 0, .int 0, .int 0, .int 50, .int 20, .ref w0, .ref e0, .ref f0, .ref t0, .ref b0, .int 0]))] := hD
        have hK : va_K (dC, dI) vwCl [(kN, .object "MeetingsAbove$Thing"), (cA_7, .int)] s := hK
        refine W.widen (k := 2) (n := 41) (by omega) (by omega) ?_
        try dsimp only at hw_11
        subst hw_11
        refine lv_pop hx hb dX8_thing_75 rfl ?_
        refine lv_iload hx hb dX8_thing_76 (lv_at hl 1 rfl) ?_
        have hP9 := hP.sub (ws' := []) [] rfl
        have hD9 := hD.sub (ws' := []) [] (by decide) rfl
        have hK9 := hK.sub (tys' := []) [] rfl
        refine W.widen (k := 2) (n := 41) (by omega) (by omega) ?_
        exact W.iret (v := 0) hx hb hr (fun t ht hW => ⟨⟨_, (), rfl, (by first | exact (an_thing_ok q_1 q_11 q_23).symm | exact (an_thing_1 q_1).symm | exact (an_thing_2 q_11).symm | exact (an_thing_3 q_23).symm), by rw [ht]; exact hP9, va_K.moved hW.alike hK9, hD9⟩, hS.F ht⟩) hS.2.2 dX8_thing_78
      · refine lv_if_ne (tgt := 32) hx hb dX8_thing_26 (by decide) (fun h9 => absurd h9 (by decide)) (fun _ => ?_)
        refine lv_ldc hx hb hown (hts (.constant RX8 87 (-100002)) (by decide +kernel)) dX8_thing_29 ?_
        have hP9 := hP.sub (ws' := []) [] rfl
        have hD9 := hD.sub (ws' := []) [] (by decide) rfl
        have hK9 := hK.sub (tys' := []) [] rfl
        refine W.widen (k := 2) (n := 41) (by omega) (by omega) ?_
        exact W.iret (v := (-100002)) hx hb hr (fun t ht hW => ⟨⟨_, (), rfl, (by first | exact (an_thing_ok q_1 q_11 q_23).symm | exact (an_thing_1 q_1).symm | exact (an_thing_2 q_11).symm | exact (an_thing_3 q_23).symm), by rw [ht]; exact hP9, va_K.moved hW.alike hK9, hD9⟩, hS.F ht⟩) hS.2.2 dX8_thing_31
    · refine lv_if_eq (tgt := 29) hx hb dX8_thing_14 (by decide) (fun _ => ?_) (fun h9 => absurd h9 (by decide))
      refine lv_ldc hx hb hown (hts (.constant RX8 87 (-100002)) (by decide +kernel)) dX8_thing_29 ?_
      have hP9 := hP.sub (ws' := []) [] rfl
      have hD9 := hD.sub (ws' := []) [] (by decide) rfl
      have hK9 := hK.sub (tys' := []) [] rfl
      refine W.widen (k := 2) (n := 41) (by omega) (by omega) ?_
      exact W.iret (v := (-100002)) hx hb hr (fun t ht hW => ⟨⟨_, (), rfl, (by first | exact (an_thing_ok q_1 q_11 q_23).symm | exact (an_thing_1 q_1).symm | exact (an_thing_2 q_11).symm | exact (an_thing_3 q_23).symm), by rw [ht]; exact hP9, va_K.moved hW.alike hK9, hD9⟩, hS.F ht⟩) hS.2.2 dX8_thing_31
  · refine lv_if_eq (tgt := 29) hx hb dX8_thing_4 (by decide) (fun _ => ?_) (fun h9 => absurd h9 (by decide))
    refine lv_ldc hx hb hown (hts (.constant RX8 87 (-100002)) (by decide +kernel)) dX8_thing_29 ?_
    have hP9 := hP.sub (ws' := []) [] rfl
    have hD9 := hD.sub (ws' := []) [] (by decide) rfl
    have hK9 := hK.sub (tys' := []) [] rfl
    refine W.widen (k := 2) (n := 41) (by omega) (by omega) ?_
    exact W.iret (v := (-100002)) hx hb hr (fun t ht hW => ⟨⟨_, (), rfl, (by first | exact (an_thing_ok q_1 q_11 q_23).symm | exact (an_thing_1 q_1).symm | exact (an_thing_2 q_11).symm | exact (an_thing_3 q_23).symm), by rw [ht]; exact hP9, va_K.moved hW.alike hK9, hD9⟩, hS.F ht⟩) hS.2.2 dX8_thing_31
def wk_X8_dot : List Cond := .code yX8_dot cX8_dot 6 (some .int) :: ([.methodLink RX8 76 yX8_isStep, .static yX8_isStep, .initialized RX8, .code yX8_isStep cX8_isStep 1 (some .boolean), .methodLink RX8 84 yX8_isWithin, .static yX8_isWithin, .code yX8_isWithin cX8_isWithin 3 (some .boolean), .methodLink RX8 80 yX8_isPlace, .static yX8_isPlace, .code yX8_isPlace cX8_isPlace 3 (some .boolean), .fieldLink RX8 158 "MeetingsAbove" "dotCount" "I", .fieldLink RX8 24 "MeetingsAbove" "dots" "[LMeetingsAbove$Dot;", .classLink RX8 22 RX2, .instantiable RX2 4, .initialized RX2, .code yX2_init cX2_init 5 none, .code objectInit ⟨#[0xb1]⟩ 1 none, .methodLink RX2 1 objectInit, .instanceMethod objectInit, .fieldLink RX2 7 "MeetingsAbove$Dot" "step" "I", .fieldLink RX2 13 "MeetingsAbove$Dot" "x" "I", .fieldLink RX2 16 "MeetingsAbove$Dot" "y" "I", .fieldLink RX2 19 "MeetingsAbove$Dot" "z" "I", .methodLink RX8 256 yX2_init, .instanceMethod yX2_init, .constant RX8 87 (-100002)] ++ wsX80 ++ wsX20)
theorem in_X8_dot_X2 : ∀ w ∈ wsX20, w ∈ wk_X8_dot := fun _ h => List.mem_cons_of_mem _ (List.mem_append_right _ h)
theorem in_X8_dot_X8 : ∀ w ∈ wsX80, w ∈ wk_X8_dot := fun _ h => List.mem_cons_of_mem _ (List.mem_append_left _ (List.mem_append_right _ h))
set_option maxRecDepth 20000 in
theorem g_X8_dot__X8_isStep_76 : GoodIn wk_X8_dot (va_wsS RX8 76 yX8_isStep wk_X8_isStep) := goodIn_r _ [1, 2, 3, 4, 5, 6, 3, 7] (by decide +kernel) (by decide +kernel)
set_option maxRecDepth 20000 in
theorem g_X8_dot__X8_isPlace_80 : GoodIn wk_X8_dot (va_wsS RX8 80 yX8_isPlace wk_X8_isPlace) := goodIn_r _ [8, 9, 3, 10, 5, 6, 3, 7] (by decide +kernel) (by decide +kernel)
set_option maxRecDepth 20000 in
theorem g_X8_dot__X2_init_256 : GoodIn wk_X8_dot wk_X2_init := goodIn_r _ [16, 17, 18, 19, 20, 21, 22, 23, 43, 44, 45, 46] (by decide +kernel) (by decide +kernel)
set_option maxHeartbeats 4000000 in
set_option maxRecDepth 100000 in
theorem c_X8_dot (l : Launch) (dC : Nat → ClassId) (dI : Nat → Nat → Nat) (h0 : Nat) (n0 : Nat) (s0 : Nat) (s1 : Nat) (d0 : Nat) (o0 : Nat) (w0 : Nat) (e0 : Nat) (f0 : Nat) (t0 : Nat) (b0 : Nat) (kD : ClassId) (p1 : Int32) (p2 : Int32) (p3 : Int32) (p4 : Int32) (sz : Nat) : Met l yX8_dot wk_X8_dot ({ frames := 2, cells := 1, slots := 4, locals := 44 }) (va_Pc [.ref h0, .int p1, .int p2, .int p3, .int p4] (fun U => U.heap.size = sz ∧ va_P (dC, dI) vwCl [(h0, .inr (8, [.ref n0, .ref s0, .ref s1, .ref d0, .ref o0, .int 0, .int 0, .int 0, .int 50, .int 20, .ref w0, .ref e0, .ref f0, .ref t0, .ref b0, .int 0])), (d0, .inl (kD, 40, .inr (.inr (.inr (.inr (fun _ => none))))))] U.heap ∧ va_K (dC, dI) vwCl [(kD, .object "MeetingsAbove$Dot")] U ∧ va_D (fun _ => True) [(h0, .inr (8, [.ref n0, .ref s0, .ref s1, .ref d0, .ref o0, .int 0, .int 0, .int 0, .int 50, .int 20, .ref w0, .ref e0, .ref f0, .ref t0, .ref b0, .int 0])), (d0, .inl (kD, 40, .inr (.inr (.inr (.inr (fun _ => none))))))])) (va_Qi (fun (r : Int32) (_ : Unit) => r = an_dot p1 p2 p3 p4) (fun (_ : Unit) (t : State) => va_P (dC, dI) vwCl [] t.heap ∧ va_K (dC, dI) vwCl [] t ∧ va_D (va_A [(h0, .inr (8, [.ref n0, .ref s0, .ref s1, .ref d0, .ref o0, .int 0, .int 0, .int 0, .int 50, .int 20, .ref w0, .ref e0, .ref f0, .ref t0, .ref b0, .int 0])), (d0, .inl (kD, 40, .inr (.inr (.inr (.inr (fun _ => none))))))] sz) []) (va_A [(h0, .inr (8, [.ref n0, .ref s0, .ref s1, .ref d0, .ref o0, .int 0, .int 0, .int 0, .int 50, .int 20, .ref w0, .ref e0, .ref f0, .ref t0, .ref b0, .int 0])), (d0, .inl (kD, 40, .inr (.inr (.inr (.inr (fun _ => none))))))] sz)) 1 4 (va_A [(h0, .inr (8, [.ref n0, .ref s0, .ref s1, .ref d0, .ref o0, .int 0, .int 0, .int 0, .int 50, .int 20, .ref w0, .ref e0, .ref f0, .ref t0, .ref b0, .int 0])), (d0, .inl (kD, 40, .inr (.inr (.inr (.inr (fun _ => none))))))] sz) := by
  refine Met.ofW (cc := cX8_dot) (maxL := 6) (ret := (some .int)) (by decide) rfl ?_
  intro p e s m args below meth c s₁ B hml hv
  obtain ⟨rfl, hsz, hP, hK, hD0⟩ := hv
  have hx := B.exec
  have hb := B.bytes
  have hr := B.returns
  have hts := atoms_spec (ws := wk_X8_dot) B.pre
  have hown : s.vm.findClass RX8 = some m.cls := findClass_of_methodNamed B.named
  have hlocks := B.notSynchronized
  subst hsz
  have hD := hD0.self (sz := s.heap.size)
  generalize hAe : va_A [(h0, .inr (8, [.ref n0, .ref s0, .ref s1, .ref d0, .ref o0, .int 0, .int 0, .int 0, .int 50, .int 20, .ref w0, .ref e0, .ref f0, .ref t0, .ref b0, .int 0])), (d0, .inl (kD, 40, .inr (.inr (.inr (.inr (fun _ => none))))))] s.heap.size = A at hD ⊢
  have hA : ∀ q : Nat, s.heap.size ≤ q → A q := fun q h => by rw [← hAe]; exact Or.inr h
  have hS : va_S A s.heap s.heap [] := va_S.rf
  have hP : va_P (dC, dI) vwCl [(h0, .inr (8, [.ref n0, .ref s0, .ref s1, .ref d0, .ref o0, .int 0, .int 0, .int 0, .int 50, .int 20, .ref w0, .ref e0, .ref f0, .ref t0, .ref b0, .int 0])), (d0, .inl (kD, 40, .inr (.inr (.inr (.inr (fun _ => none))))))] s.heap := hP
  have hl := lv_entry ([.ref h0, .int p1, .int p2, .int p3, .int p4]) (n := 6) (Nat.le_of_ble_eq_true rfl)
  rw [lg_entry_eq]
  generalize (lg_sl ([.ref h0, .int p1, .int p2, .int p3, .int p4]) ++ List.replicate (6 - (lg_sl ([.ref h0, .int p1, .int p2, .int p3, .int p4])).length) Slot.unset).toArray = ls at hl ⊢
  have hl : lv_has ls 6 [(0, .ref h0), (1, .int p1), (2, .int p2), (3, .int p3), (4, .int p4)] := hl
  refine lv_iload_n hx hb dX8_dot_0 rfl (lv_at hl 1 rfl) ?_
  refine vp_callSi (W.runS (As := [.int p1]) (rest := []) ⟨hx, hb, hml, hown, hts⟩ (c_X8_isStep l dC dI p1) (va_cwS 1 hts g_X8_dot__X8_isStep_76 rfl rfl rfl (by decide +kernel) ⟨Nat.le_of_ble_eq_true rfl, Nat.le_of_ble_eq_true rfl⟩) ⟨fun a U g mk q => by obtain ⟨q0, q1⟩ := q; exact ⟨q0, q1⟩, fun U hU hW => ⟨rfl, trivial⟩⟩ rfl rfl hl.1 rfl (lv_room (Nat.le_of_ble_eq_true rfl)) dX8_dot_1 ⟨Nat.le_of_ble_eq_true rfl, Nat.le_of_ble_eq_true rfl⟩) (fun r_1 hr_1 => ?_)
  try dsimp only at hr_1
  rcases bo_split hr_1 with ⟨rfl, q_1⟩ | ⟨rfl, q_1⟩
  · refine lv_if_eq (tgt := 17) hx hb dX8_dot_4 (by decide) (fun h9 => absurd h9 (by decide)) (fun _ => ?_)
    refine lv_iload_n hx hb dX8_dot_7 rfl (lv_at hl 2 rfl) ?_
    refine lv_iload_n hx hb dX8_dot_8 rfl (lv_at hl 3 rfl) ?_
    refine lv_iload hx hb dX8_dot_9 (lv_at hl 4 rfl) ?_
    refine vp_callSi (W.runS (As := [.int p2, .int p3, .int p4]) (rest := []) ⟨hx, hb, hml, hown, hts⟩ (c_X8_isPlace l dC dI p2 p3 p4) (va_cwS 3 hts g_X8_dot__X8_isPlace_80 rfl rfl rfl (by decide +kernel) ⟨Nat.le_of_ble_eq_true rfl, Nat.le_of_ble_eq_true rfl⟩) ⟨fun a U g mk q => by obtain ⟨q0, q1⟩ := q; exact ⟨q0, q1⟩, fun U hU hW => ⟨rfl, trivial⟩⟩ rfl rfl hl.1 rfl (lv_room (Nat.le_of_ble_eq_true rfl)) dX8_dot_11 ⟨Nat.le_of_ble_eq_true rfl, Nat.le_of_ble_eq_true rfl⟩) (fun r_2 hr_2 => ?_)
    try dsimp only at hr_2
    rcases bo_split hr_2 with ⟨rfl, q_11⟩ | ⟨rfl, q_11⟩
    · refine lv_if_ne (tgt := 20) hx hb dX8_dot_14 (by decide) (fun _ => ?_) (fun h9 => absurd h9 (by decide))
      refine lv_aload_n hx hb dX8_dot_20 rfl (lv_at hl 0 rfl) ?_
      refine va_get (D := (dC, dI)) (ci := 8) (v := .int 0) (C := RX8) (T := TX8) (N := 16) hx hb hts in_X8_dot_X8 hown hK hP 0 rfl rfl 5 (by decide) (hts (.fieldLink RX8 158 "MeetingsAbove" "dotCount" "I") (by decide +kernel)) (fun _ h9 => h9) rfl dX8_dot_21 ?_
      refine lv_istore (lv' := [(5, .int 0), (0, .ref h0), (1, .int p1), (2, .int p2), (3, .int p3), (4, .int p4)]) hx hb dX8_dot_24 hl (by decide) rfl (fun ls hl => ?_)
      refine lv_iload hx hb dX8_dot_26 (lv_at hl 0 rfl) ?_
      refine lv_if_lt (tgt := 41) hx hb dX8_dot_28 (by decide) (fun h9 => absurd h9 (by decide)) (fun _ => ?_)
      refine lv_iload hx hb dX8_dot_31 (lv_at hl 0 rfl) ?_
      refine lv_aload_n hx hb dX8_dot_33 rfl (lv_at hl 1 rfl) ?_
      refine va_get (D := (dC, dI)) (ci := 8) (v := .ref d0) (C := RX8) (T := TX8) (N := 16) hx hb hts in_X8_dot_X8 hown hK hP 0 rfl rfl 3 (by decide) (hts (.fieldLink RX8 24 "MeetingsAbove" "dots" "[LMeetingsAbove$Dot;") (by decide +kernel)) (fun _ h9 => h9) rfl dX8_dot_34 ?_
      refine va_alen (v := 40) hx hb hK hP 1 0 rfl rfl (by decide) dX8_dot_37 ?_
      refine lv_icmp_lt (tgt := 44) hx hb dX8_dot_38 (by decide) (fun _ => ?_) (fun h9 => absurd h9 (by decide))
      refine lv_aload_n hx hb dX8_dot_44 rfl (lv_at hl 1 rfl) ?_
      refine va_get (D := (dC, dI)) (ci := 8) (v := .ref d0) (C := RX8) (T := TX8) (N := 16) hx hb hts in_X8_dot_X8 hown hK hP 0 rfl rfl 3 (by decide) (hts (.fieldLink RX8 24 "MeetingsAbove" "dots" "[LMeetingsAbove$Dot;") (by decide +kernel)) (fun _ h9 => h9) rfl dX8_dot_45 ?_
      refine lv_iload hx hb dX8_dot_48 (lv_at hl 0 rfl) ?_
      refine va_new (ci := 2) (fs := [.int 0, .int 0, .int 0, .int 0]) (C := RX2) (T := TX2) (N := 4) hx hb hts in_X8_dot_X2 tyX2 tyX2_ok hown (hts (.classLink RX8 22 RX2) (by decide +kernel)) (hts (.instantiable RX2 4) (by decide +kernel)) (hts (.initialized RX2) (by decide +kernel)) hK hP hD hS hA rfl (fun j hj => by rcases (show j = 0 ∨ j = 1 ∨ j = 2 ∨ j = 3 by omega) with rfl | rfl | rfl | rfl <;> rfl) (Nat.le_of_ble_eq_true rfl) (Nat.le_of_ble_eq_true rfl) dX8_dot_50 (fun q_3 H hP hD hS => ?_)
      have hP : va_P (dC, dI) vwCl [(h0, .inr (8, [.ref n0, .ref s0, .ref s1, .ref d0, .ref o0, .int 0, .int 0, .int 0, .int 50, .int 20, .ref w0, .ref e0, .ref f0, .ref t0, .ref b0, .int 0])), (d0, .inl (kD, 40, .inr (.inr (.inr (.inr (fun _ => none)))))), (q_3, .inr (2, [.int 0, .int 0, .int 0, .int 0]))] H := hP
      have hD : va_D A [(h0, .inr (8, [.ref n0, .ref s0, .ref s1, .ref d0, .ref o0, .int 0, .int 0, .int 0, .int 50, .int 20, .ref w0, .ref e0, .ref f0, .ref t0, .ref b0, .int 0])), (d0, .inl (kD, 40, .inr (.inr (.inr (.inr (fun _ => none)))))), (q_3, .inr (2, [.int 0, .int 0, .int 0, .int 0]))] := hD
      refine W.widen (k := 1) (n := 4) (by omega) (by omega) ?_
      refine lv_dup hx hb dX8_dot_53 rfl ?_
      refine lv_iload_n hx hb dX8_dot_54 rfl (lv_at hl 2 rfl) ?_
      refine lv_iload_n hx hb dX8_dot_55 rfl (lv_at hl 3 rfl) ?_
      refine lv_iload_n hx hb dX8_dot_56 rfl (lv_at hl 4 rfl) ?_
      refine lv_iload hx hb dX8_dot_57 (lv_at hl 5 rfl) ?_
      have hPc := hP.sub (ws' := [(q_3, .inr (2, [.int 0, .int 0, .int 0, .int 0]))]) [2] rfl
      have hKc := hK.sub (tys' := []) [] rfl
      have hDc := hD.sub (ws' := [(q_3, .inr (2, [.int 0, .int 0, .int 0, .int 0]))]) [2] (by decide) rfl
      have hFc := va_free (wc := [(q_3, .inr (2, [.int 0, .int 0, .int 0, .int 0]))]) hD hS hA [2] rfl
      refine va_callv (va_runI (As := [.int p1, .int p2, .int p3, .int p4]) (rest := [.ref q_3, .int 0, .ref d0]) ⟨hx, hb, hml, hown, hts⟩ (c_X2_init l dC dI q_3 p1 p2 p3 p4 H.size) (cwI 4 hts g_X8_dot__X2_init_256 rfl rfl rfl (hts (.initialized RX2) (by decide +kernel)) (hts (.methodLink RX8 256 yX2_init) (by decide +kernel)) (hts (.instanceMethod yX2_init) (by decide +kernel)) rfl (by decide +kernel) ⟨Nat.le_of_ble_eq_true rfl, Nat.le_of_ble_eq_true rfl⟩) ⟨fun a U g mk q => by obtain ⟨q0, q1, qP, qK, qD⟩ := q; exact ⟨q0, q1, qP, va_K.moved (u := U) (U := U.calling g mk a) (Vm.Alike.refl U.vm) qK, qD⟩, fun U hU hW => ⟨rfl, by rw [hU], by rw [hU]; exact hPc, va_K.moved hW.alike hKc, hDc.weaken (fun _ _ _ _ => trivial)⟩⟩ rfl rfl hl.1 rfl (lv_room (Nat.le_of_ble_eq_true rfl)) dX8_dot_59 ⟨Nat.le_of_ble_eq_true rfl, Nat.le_of_ble_eq_true rfl⟩) hS (fun q _ h => hFc q h) hFc (fun u_4 t H1 locs ht hvm hw_5 hB hz1 hk1 hS => ?_)
      obtain ⟨hP1, hK1, hD1⟩ := hB
      rw [ht] at hP1
      have hK1 := va_K.moved hvm.symm hK1
      obtain ⟨hP, hD⟩ := va_join (wr := [(h0, .inr (8, [.ref n0, .ref s0, .ref s1, .ref d0, .ref o0, .int 0, .int 0, .int 0, .int 50, .int 20, .ref w0, .ref e0, .ref f0, .ref t0, .ref b0, .int 0])), (d0, .inl (kD, 40, .inr (.inr (.inr (.inr (fun _ => none))))))]) (w1 := [(q_3, .inr (2, [.int p1, .int p2, .int p3, .int p4]))]) hP hD [2] [0, 1] rfl rfl (by decide) (by decide) hk1 hFc hP1 hD1
      have hK := (hK.sub (tys' := [(kD, .object "MeetingsAbove$Dot")]) [0] rfl).app hK1
      generalize H1 = H at hP hS ⊢
      have hP : va_P (dC, dI) vwCl [(h0, .inr (8, [.ref n0, .ref s0, .ref s1, .ref d0, .ref o0, .int 0, .int 0, .int 0, .int 50, .int 20, .ref w0, .ref e0, .ref f0, .ref t0, .ref b0, .int 0])), (d0, .inl (kD, 40, .inr (.inr (.inr (.inr (fun _ => none)))))), (q_3, .inr (2, [.int p1, .int p2, .int p3, .int p4]))] H := hP
      have hD : va_D A [(h0, .inr (8, [.ref n0, .ref s0, .ref s1, .ref d0, .ref o0, .int 0, .int 0, .int 0, .int 50, .int 20, .ref w0, .ref e0, .ref f0, .ref t0, .ref b0, .int 0])), (d0, .inl (kD, 40, .inr (.inr (.inr (.inr (fun _ => none)))))), (q_3, .inr (2, [.int p1, .int p2, .int p3, .int p4]))] := hD
      have hK : va_K (dC, dI) vwCl [(kD, .object "MeetingsAbove$Dot")] s := hK
      refine W.widen (k := 1) (n := 4) (by omega) (by omega) ?_
      refine va_astq (r := (RX2, TX2, 4)) hx hb hK hP hD hS 1 0 2 2 rfl rfl rfl rfl (by unfold vp_in; decide) dX8_dot_62 (fun H locs hP hD hS => ?_)
      have hP : va_P (dC, dI) vwCl [(h0, .inr (8, [.ref n0, .ref s0, .ref s1, .ref d0, .ref o0, .int 0, .int 0, .int 0, .int 50, .int 20, .ref w0, .ref e0, .ref f0, .ref t0, .ref b0, .int 0])), (d0, .inl (kD, 40, .inr (.inr (.inr (.inr (va_up (fun _ => none) (0 : Int32).toNatClampNeg (some q_3))))))), (q_3, .inr (2, [.int p1, .int p2, .int p3, .int p4]))] H := hP
      have hD : va_D A [(h0, .inr (8, [.ref n0, .ref s0, .ref s1, .ref d0, .ref o0, .int 0, .int 0, .int 0, .int 50, .int 20, .ref w0, .ref e0, .ref f0, .ref t0, .ref b0, .int 0])), (d0, .inl (kD, 40, .inr (.inr (.inr (.inr (va_up (fun _ => none) (0 : Int32).toNatClampNeg (some q_3))))))), (q_3, .inr (2, [.int p1, .int p2, .int p3, .int p4]))] := hD
      refine lv_aload_n hx hb dX8_dot_63 rfl (lv_at hl 1 rfl) ?_
      refine lv_dup hx hb dX8_dot_64 rfl ?_
      refine va_get (D := (dC, dI)) (ci := 8) (v := .int 0) (C := RX8) (T := TX8) (N := 16) hx hb hts in_X8_dot_X8 hown hK hP 0 rfl rfl 5 (by decide) (hts (.fieldLink RX8 158 "MeetingsAbove" "dotCount" "I") (by decide +kernel)) (fun _ h9 => h9) rfl dX8_dot_65 ?_
      refine lv_iconst (v := 1) hx hb dX8_dot_68 (by decide) ?_
      refine lv_iadd hx hb dX8_dot_69 ?_
      refine lv_topi (fun y_6 ey_6 => ?_)
      obtain rfl : y_6 = 1 := ey_6.trans (by decide)
      refine va_put (D := (dC, dI)) (ci := 8) (v := .int 1) (ty := .int) (C := RX8) (T := TX8) (N := 16) hx hb hts in_X8_dot_X8 tyX8 tyX8_ok nmX8 hown hK hP hD hS 0 rfl rfl 5 (by decide) (hts (.fieldLink RX8 158 "MeetingsAbove" "dotCount" "I") (by decide +kernel)) (fun _ h9 => h9) rfl (by decide +kernel) rfl rfl (Nat.le_of_ble_eq_true rfl) dX8_dot_70 (fun H locs hP hD hS => ?_)
      have hP : va_P (dC, dI) vwCl [(h0, .inr (8, [.ref n0, .ref s0, .ref s1, .ref d0, .ref o0, .int 1, .int 0, .int 0, .int 50, .int 20, .ref w0, .ref e0, .ref f0, .ref t0, .ref b0, .int 0])), (d0, .inl (kD, 40, .inr (.inr (.inr (.inr (va_up (fun _ => none) (0 : Int32).toNatClampNeg (some q_3))))))), (q_3, .inr (2, [.int p1, .int p2, .int p3, .int p4]))] H := hP
      have hD : va_D A [(h0, .inr (8, [.ref n0, .ref s0, .ref s1, .ref d0, .ref o0, .int 1, .int 0, .int 0, .int 50, .int 20, .ref w0, .ref e0, .ref f0, .ref t0, .ref b0, .int 0])), (d0, .inl (kD, 40, .inr (.inr (.inr (.inr (va_up (fun _ => none) (0 : Int32).toNatClampNeg (some q_3))))))), (q_3, .inr (2, [.int p1, .int p2, .int p3, .int p4]))] := hD
      refine lv_iload hx hb dX8_dot_73 (lv_at hl 0 rfl) ?_
      have hP9 := hP.sub (ws' := []) [] rfl
      have hD9 := hD.sub (ws' := []) [] (by decide) rfl
      have hK9 := hK.sub (tys' := []) [] rfl
      refine W.widen (k := 1) (n := 4) (by omega) (by omega) ?_
      exact W.iret (v := 0) hx hb hr (fun t ht hW => ⟨⟨_, (), rfl, (by first | exact (an_dot_ok q_1 q_11).symm | exact (an_dot_1 q_1).symm | exact (an_dot_2 q_11).symm), by rw [ht]; exact hP9, va_K.moved hW.alike hK9, hD9⟩, hS.F ht⟩) hS.2.2 dX8_dot_75
    · refine lv_if_ne (tgt := 20) hx hb dX8_dot_14 (by decide) (fun h9 => absurd h9 (by decide)) (fun _ => ?_)
      refine lv_ldc hx hb hown (hts (.constant RX8 87 (-100002)) (by decide +kernel)) dX8_dot_17 ?_
      have hP9 := hP.sub (ws' := []) [] rfl
      have hD9 := hD.sub (ws' := []) [] (by decide) rfl
      have hK9 := hK.sub (tys' := []) [] rfl
      refine W.widen (k := 1) (n := 4) (by omega) (by omega) ?_
      exact W.iret (v := (-100002)) hx hb hr (fun t ht hW => ⟨⟨_, (), rfl, (by first | exact (an_dot_ok q_1 q_11).symm | exact (an_dot_1 q_1).symm | exact (an_dot_2 q_11).symm), by rw [ht]; exact hP9, va_K.moved hW.alike hK9, hD9⟩, hS.F ht⟩) hS.2.2 dX8_dot_19
  · refine lv_if_eq (tgt := 17) hx hb dX8_dot_4 (by decide) (fun _ => ?_) (fun h9 => absurd h9 (by decide))
    refine lv_ldc hx hb hown (hts (.constant RX8 87 (-100002)) (by decide +kernel)) dX8_dot_17 ?_
    have hP9 := hP.sub (ws' := []) [] rfl
    have hD9 := hD.sub (ws' := []) [] (by decide) rfl
    have hK9 := hK.sub (tys' := []) [] rfl
    refine W.widen (k := 1) (n := 4) (by omega) (by omega) ?_
    exact W.iret (v := (-100002)) hx hb hr (fun t ht hW => ⟨⟨_, (), rfl, (by first | exact (an_dot_ok q_1 q_11).symm | exact (an_dot_1 q_1).symm | exact (an_dot_2 q_11).symm), by rw [ht]; exact hP9, va_K.moved hW.alike hK9, hD9⟩, hS.F ht⟩) hS.2.2 dX8_dot_19
