def wk_X8_rule : List Cond := .code yX8_rule cX8_rule 4 (some .int) :: (([.constant RX8 87 (-100002), .fieldLink RX8 38 "MeetingsAbove" "wide" "I", .fieldLink RX8 34 "MeetingsAbove" "near" "I"] : List Cond) ++ (wsX80 ++ ((va_wsS RX8 84 yX8_isWithin wk_X8_isWithin) ++ ([]))))
theorem in_X8_rule_X8 : ∀ w ∈ wsX80, w ∈ wk_X8_rule := fun _ h => List.mem_cons_of_mem _ (List.mem_append_right _ (List.mem_append_left _ h))
theorem gw_X8_rule : AG wk_X8_rule := AG_ca (AG_l (by decide +kernel)) (AG_app ag_X8 (AG_app (AG_S gw_X8_isWithin) (AG_nil)))
theorem g_X8_rule__X8_isWithin_84 : GoodIn wk_X8_rule (va_wsS RX8 84 yX8_isWithin wk_X8_isWithin) := goodIn_m (fun _ h => List.mem_cons_of_mem _ (List.mem_append_right _ (List.mem_append_right _ (List.mem_append_left _ h)))) (AG_S gw_X8_isWithin)
set_option maxHeartbeats 4000000 in
set_option maxRecDepth 100000 in
theorem c_X8_rule (l : Launch) (dC : Nat → ClassId) (dI : Nat → Nat → Nat) (h0 : Nat) (n0 : Nat) (s0 : Nat) (s1 : Nat) (d0 : Nat) (o0 : Nat) (w0 : Nat) (e0 : Nat) (f0 : Nat) (t0 : Nat) (b0 : Nat) (dn : Int32) (nn : Int32) (la : Int32) (ne : Int32) (wi : Int32) (lm : Int32) (p1 : Int32) (p2 : Int32) (sz : Nat) : Met l yX8_rule wk_X8_rule ({ frames := 1, cells := 0, slots := 0, locals := 22 }) (va_Pc [.ref h0, .int p1, .int p2] (fun U => U.heap.size = sz ∧ va_P (dC, dI) vwCl [(h0, .inr (8, [.ref n0, .ref s0, .ref s1, .ref d0, .ref o0, .int dn, .int nn, .int la, .int ne, .int wi, .ref w0, .ref e0, .ref f0, .ref t0, .ref b0, .int lm]))] U.heap ∧ va_K (dC, dI) vwCl [] U ∧ va_D (fun _ => True) [(h0, .inr (8, [.ref n0, .ref s0, .ref s1, .ref d0, .ref o0, .int dn, .int nn, .int la, .int ne, .int wi, .ref w0, .ref e0, .ref f0, .ref t0, .ref b0, .int lm]))])) (va_Qi (fun (r : Int32) (_ : Unit) => r = if p1.toInt = 0 ∧ 1 ≤ p2.toInt ∧ p2.toInt ≤ 3000 then ne else (if p1.toInt = 1 ∧ 0 ≤ p2.toInt ∧ p2.toInt ≤ 400 then wi else -100002)) (fun (_ : Unit) (t : State) => ∃ (ne9 : Int32) (wi9 : Int32), va_P (dC, dI) vwCl [(h0, .inr (8, [.ref n0, .ref s0, .ref s1, .ref d0, .ref o0, .int dn, .int nn, .int la, .int ne9, .int wi9, .ref w0, .ref e0, .ref f0, .ref t0, .ref b0, .int lm]))] t.heap ∧ va_K (dC, dI) vwCl [] t ∧ va_D (va_A [(h0, .inr (8, [.ref n0, .ref s0, .ref s1, .ref d0, .ref o0, .int dn, .int nn, .int la, .int ne, .int wi, .ref w0, .ref e0, .ref f0, .ref t0, .ref b0, .int lm]))] sz) [(h0, .inr (8, [.ref n0, .ref s0, .ref s1, .ref d0, .ref o0, .int dn, .int nn, .int la, .int ne9, .int wi9, .ref w0, .ref e0, .ref f0, .ref t0, .ref b0, .int lm]))] ∧ ne9 = (if p1.toInt = 0 ∧ 1 ≤ p2.toInt ∧ p2.toInt ≤ 3000 then p2 else ne) ∧ wi9 = (if p1.toInt = 1 ∧ 0 ≤ p2.toInt ∧ p2.toInt ≤ 400 then p2 else wi)) (va_A [(h0, .inr (8, [.ref n0, .ref s0, .ref s1, .ref d0, .ref o0, .int dn, .int nn, .int la, .int ne, .int wi, .ref w0, .ref e0, .ref f0, .ref t0, .ref b0, .int lm]))] sz)) 0 0 (va_A [(h0, .inr (8, [.ref n0, .ref s0, .ref s1, .ref d0, .ref o0, .int dn, .int nn, .int la, .int ne, .int wi, .ref w0, .ref e0, .ref f0, .ref t0, .ref b0, .int lm]))] sz) := by
  refine Met.ofW (cc := cX8_rule) (maxL := 4) (ret := (some .int)) (by decide) rfl ?_
  intro p e s m args below meth c s₁ B hml hv
  obtain ⟨rfl, hsz, hP, hK, hD0⟩ := hv
  have hx := B.exec
  have hb := B.bytes
  have hr := B.returns
  have hts := atoms_spec (ws := wk_X8_rule) B.pre
  have hown : s.vm.findClass RX8 = some m.cls := findClass_of_methodNamed B.named
  have hlocks := B.notSynchronized
  subst hsz
  have hD := hD0.self (sz := s.heap.size)
  generalize hAe : va_A [(h0, .inr (8, [.ref n0, .ref s0, .ref s1, .ref d0, .ref o0, .int dn, .int nn, .int la, .int ne, .int wi, .ref w0, .ref e0, .ref f0, .ref t0, .ref b0, .int lm]))] s.heap.size = A at hD ⊢
  have hA : ∀ q : Nat, s.heap.size ≤ q → A q := fun q h => by rw [← hAe]; exact Or.inr h
  have hS : va_S A s.heap s.heap [] := va_S.rf
  have hP : va_P (dC, dI) vwCl [(h0, .inr (8, [.ref n0, .ref s0, .ref s1, .ref d0, .ref o0, .int dn, .int nn, .int la, .int ne, .int wi, .ref w0, .ref e0, .ref f0, .ref t0, .ref b0, .int lm]))] s.heap := hP
  have hl := lv_entry ([.ref h0, .int p1, .int p2]) (n := 4) (Nat.le_of_ble_eq_true rfl)
  rw [lg_entry_eq]
  generalize (lg_sl ([.ref h0, .int p1, .int p2]) ++ List.replicate (4 - (lg_sl ([.ref h0, .int p1, .int p2])).length) Slot.unset).toArray = ls at hl ⊢
  have hl : lv_has ls 4 [(0, .ref h0), (1, .int p1), (2, .int p2)] := hl
  have kl_m100002 : (-100002 : Int32).toInt = -100002 := by decide
  have kl_0 : (0 : Int32).toInt = 0 := by decide
  have kl_1 : (1 : Int32).toInt = 1 := by decide
  have kl_400 : (400 : Int32).toInt = 400 := by decide
  have kl_3000 : (3000 : Int32).toInt = 3000 := by decide
  refine lv_iload_n hx hb dX8_rule_0 rfl (lv_at hl 1 rfl) ?_
  refine lv_if_ne (tgt := 27) hx hb dX8_rule_1 (by decide) (fun c_1 => ?_) (fun c_1 => ?_)
  · have t_1 := mt (fa_eq _ _).mpr c_1
    refine lv_iload_n hx hb dX8_rule_27 rfl (lv_at hl 1 rfl) ?_
    refine lv_iconst (v := 1) hx hb dX8_rule_28 (by decide) ?_
    refine lv_icmp_ne (tgt := 55) hx hb dX8_rule_29 (by decide) (fun c_29 => ?_) (fun c_29 => ?_)
    · have t_29 := mt (fa_eq _ _).mpr c_29
      refine lv_ldc hx hb hown (hts (.constant RX8 87 (-100002)) (by decide +kernel)) dX8_rule_55 ?_
      have hP9 := hP.sub (ws' := [(h0, .inr (8, [.ref n0, .ref s0, .ref s1, .ref d0, .ref o0, .int dn, .int nn, .int la, .int ne, .int wi, .ref w0, .ref e0, .ref f0, .ref t0, .ref b0, .int lm]))]) [0] rfl
      have hD9 := hD.sub (ws' := [(h0, .inr (8, [.ref n0, .ref s0, .ref s1, .ref d0, .ref o0, .int dn, .int nn, .int la, .int ne, .int wi, .ref w0, .ref e0, .ref f0, .ref t0, .ref b0, .int lm]))]) [0] (by decide) rfl
      have hK9 := hK.sub (tys' := []) [] rfl
      refine W.widen (k := 0) (n := 0) (by omega) (by omega) ?_
      exact W.iret (v := (-100002)) hx hb hr (fun t ht hW => ⟨⟨_, (), rfl, (by first | (exfalso; omega) | rw [if_pos (by omega)] | rw [if_neg (by omega), if_pos (by omega)] | rw [if_neg (by omega), if_neg (by omega)]), ne, wi, by rw [ht]; exact hP9, va_K.moved hW.alike hK9, hD9, (by first | (exfalso; omega) | rw [if_pos (by omega)] | rw [if_neg (by omega)]), (by first | (exfalso; omega) | rw [if_pos (by omega)] | rw [if_neg (by omega)])⟩, hS.F ht⟩) hS.2.2 dX8_rule_57
    · have t_29 := (fa_eq _ _).mp c_29
      refine lv_iload_n hx hb dX8_rule_32 rfl (lv_at hl 2 rfl) ?_
      refine lv_iconst (v := 0) hx hb dX8_rule_33 (by decide) ?_
      refine lv_sipush (v := 400) hx hb dX8_rule_34 (by decide) ?_
      refine vp_callSi (W.runS (As := [.int p2, .int 0, .int 400]) (rest := []) ⟨hx, hb, hml, hown, hts⟩ (c_X8_isWithin l dC dI p2 0 400) (va_cwS 3 hts g_X8_rule__X8_isWithin_84 rfl rfl rfl (by decide +kernel) ⟨Nat.le_of_ble_eq_true rfl, Nat.le_of_ble_eq_true rfl⟩) ⟨fun a U g mk q => by obtain ⟨q0, q1⟩ := q; exact ⟨q0, q1⟩, fun U hU hW => ⟨rfl, trivial⟩⟩ rfl rfl hl.1 rfl (lv_room (Nat.le_of_ble_eq_true rfl)) dX8_rule_37 ⟨Nat.le_of_ble_eq_true rfl, Nat.le_of_ble_eq_true rfl⟩) (fun r_1 hr_1 => ?_)
      try dsimp only at hr_1
      rcases bo_split hr_1 with ⟨rfl, q_37⟩ | ⟨rfl, q_37⟩
      · refine lv_if_eq (tgt := 55) hx hb dX8_rule_40 (by decide) (fun h9 => absurd h9 (by decide)) (fun _ => ?_)
        refine lv_aload_n hx hb dX8_rule_43 rfl (lv_at hl 0 rfl) ?_
        refine va_get (D := (dC, dI)) (ci := 8) (v := .int wi) (C := RX8) (T := TX8) (N := 16) hx hb hts in_X8_rule_X8 hown hK hP 0 rfl rfl 9 (by decide) (hts (.fieldLink RX8 38 "MeetingsAbove" "wide" "I") (by decide +kernel)) (fun _ h9 => h9) rfl dX8_rule_44 ?_
        refine lv_istore_n (lv' := [(3, .int wi), (0, .ref h0), (1, .int p1), (2, .int p2)]) hx hb dX8_rule_47 rfl hl (by decide) rfl (fun ls hl => ?_)
        refine lv_aload_n hx hb dX8_rule_48 rfl (lv_at hl 1 rfl) ?_
        refine lv_iload_n hx hb dX8_rule_49 rfl (lv_at hl 3 rfl) ?_
        refine va_put (D := (dC, dI)) (ci := 8) (v := .int p2) (ty := .int) (C := RX8) (T := TX8) (N := 16) hx hb hts in_X8_rule_X8 tyX8 tyX8_ok nmX8 hown hK hP hD hS 0 rfl rfl 9 (by decide) (hts (.fieldLink RX8 38 "MeetingsAbove" "wide" "I") (by decide +kernel)) (fun _ h9 => h9) rfl (by decide +kernel) rfl rfl (Nat.le_of_ble_eq_true rfl) dX8_rule_50 (fun H locs hP hD hS => ?_)
        have hP : va_P (dC, dI) vwCl [(h0, .inr (8, [.ref n0, .ref s0, .ref s1, .ref d0, .ref o0, .int dn, .int nn, .int la, .int ne, .int p2, .ref w0, .ref e0, .ref f0, .ref t0, .ref b0, .int lm]))] H := hP
        have hD : va_D A [(h0, .inr (8, [.ref n0, .ref s0, .ref s1, .ref d0, .ref o0, .int dn, .int nn, .int la, .int ne, .int p2, .ref w0, .ref e0, .ref f0, .ref t0, .ref b0, .int lm]))] := hD
        refine lv_iload_n hx hb dX8_rule_53 rfl (lv_at hl 0 rfl) ?_
        have hP9 := hP.sub (ws' := [(h0, .inr (8, [.ref n0, .ref s0, .ref s1, .ref d0, .ref o0, .int dn, .int nn, .int la, .int ne, .int p2, .ref w0, .ref e0, .ref f0, .ref t0, .ref b0, .int lm]))]) [0] rfl
        have hD9 := hD.sub (ws' := [(h0, .inr (8, [.ref n0, .ref s0, .ref s1, .ref d0, .ref o0, .int dn, .int nn, .int la, .int ne, .int p2, .ref w0, .ref e0, .ref f0, .ref t0, .ref b0, .int lm]))]) [0] (by decide) rfl
        have hK9 := hK.sub (tys' := []) [] rfl
        refine W.widen (k := 0) (n := 0) (by omega) (by omega) ?_
        exact W.iret (v := wi) hx hb hr (fun t ht hW => ⟨⟨_, (), rfl, (by first | (exfalso; omega) | rw [if_pos (by omega)] | rw [if_neg (by omega), if_pos (by omega)] | rw [if_neg (by omega), if_neg (by omega)]), ne, p2, by rw [ht]; exact hP9, va_K.moved hW.alike hK9, hD9, (by first | (exfalso; omega) | rw [if_pos (by omega)] | rw [if_neg (by omega)]), (by first | (exfalso; omega) | rw [if_pos (by omega)] | rw [if_neg (by omega)])⟩, hS.F ht⟩) hS.2.2 dX8_rule_54
      · refine lv_if_eq (tgt := 55) hx hb dX8_rule_40 (by decide) (fun _ => ?_) (fun h9 => absurd h9 (by decide))
        refine lv_ldc hx hb hown (hts (.constant RX8 87 (-100002)) (by decide +kernel)) dX8_rule_55 ?_
        have hP9 := hP.sub (ws' := [(h0, .inr (8, [.ref n0, .ref s0, .ref s1, .ref d0, .ref o0, .int dn, .int nn, .int la, .int ne, .int wi, .ref w0, .ref e0, .ref f0, .ref t0, .ref b0, .int lm]))]) [0] rfl
        have hD9 := hD.sub (ws' := [(h0, .inr (8, [.ref n0, .ref s0, .ref s1, .ref d0, .ref o0, .int dn, .int nn, .int la, .int ne, .int wi, .ref w0, .ref e0, .ref f0, .ref t0, .ref b0, .int lm]))]) [0] (by decide) rfl
        have hK9 := hK.sub (tys' := []) [] rfl
        refine W.widen (k := 0) (n := 0) (by omega) (by omega) ?_
        exact W.iret (v := (-100002)) hx hb hr (fun t ht hW => ⟨⟨_, (), rfl, (by first | (exfalso; omega) | rw [if_pos (by omega)] | rw [if_neg (by omega), if_pos (by omega)] | rw [if_neg (by omega), if_neg (by omega)]), ne, wi, by rw [ht]; exact hP9, va_K.moved hW.alike hK9, hD9, (by first | (exfalso; omega) | rw [if_pos (by omega)] | rw [if_neg (by omega)]), (by first | (exfalso; omega) | rw [if_pos (by omega)] | rw [if_neg (by omega)])⟩, hS.F ht⟩) hS.2.2 dX8_rule_57
  · have t_1 := (fa_eq _ _).mp c_1
    refine lv_iload_n hx hb dX8_rule_4 rfl (lv_at hl 2 rfl) ?_
    refine lv_iconst (v := 1) hx hb dX8_rule_5 (by decide) ?_
    refine lv_sipush (v := 3000) hx hb dX8_rule_6 (by decide) ?_
    refine vp_callSi (W.runS (As := [.int p2, .int 1, .int 3000]) (rest := []) ⟨hx, hb, hml, hown, hts⟩ (c_X8_isWithin l dC dI p2 1 3000) (va_cwS 3 hts g_X8_rule__X8_isWithin_84 rfl rfl rfl (by decide +kernel) ⟨Nat.le_of_ble_eq_true rfl, Nat.le_of_ble_eq_true rfl⟩) ⟨fun a U g mk q => by obtain ⟨q0, q1⟩ := q; exact ⟨q0, q1⟩, fun U hU hW => ⟨rfl, trivial⟩⟩ rfl rfl hl.1 rfl (lv_room (Nat.le_of_ble_eq_true rfl)) dX8_rule_9 ⟨Nat.le_of_ble_eq_true rfl, Nat.le_of_ble_eq_true rfl⟩) (fun r_2 hr_2 => ?_)
    try dsimp only at hr_2
    rcases bo_split hr_2 with ⟨rfl, q_9⟩ | ⟨rfl, q_9⟩
    · refine lv_if_eq (tgt := 27) hx hb dX8_rule_12 (by decide) (fun h9 => absurd h9 (by decide)) (fun _ => ?_)
      refine lv_aload_n hx hb dX8_rule_15 rfl (lv_at hl 0 rfl) ?_
      refine va_get (D := (dC, dI)) (ci := 8) (v := .int ne) (C := RX8) (T := TX8) (N := 16) hx hb hts in_X8_rule_X8 hown hK hP 0 rfl rfl 8 (by decide) (hts (.fieldLink RX8 34 "MeetingsAbove" "near" "I") (by decide +kernel)) (fun _ h9 => h9) rfl dX8_rule_16 ?_
      refine lv_istore_n (lv' := [(3, .int ne), (0, .ref h0), (1, .int p1), (2, .int p2)]) hx hb dX8_rule_19 rfl hl (by decide) rfl (fun ls hl => ?_)
      refine lv_aload_n hx hb dX8_rule_20 rfl (lv_at hl 1 rfl) ?_
      refine lv_iload_n hx hb dX8_rule_21 rfl (lv_at hl 3 rfl) ?_
      refine va_put (D := (dC, dI)) (ci := 8) (v := .int p2) (ty := .int) (C := RX8) (T := TX8) (N := 16) hx hb hts in_X8_rule_X8 tyX8 tyX8_ok nmX8 hown hK hP hD hS 0 rfl rfl 8 (by decide) (hts (.fieldLink RX8 34 "MeetingsAbove" "near" "I") (by decide +kernel)) (fun _ h9 => h9) rfl (by decide +kernel) rfl rfl (Nat.le_of_ble_eq_true rfl) dX8_rule_22 (fun H locs hP hD hS => ?_)
      have hP : va_P (dC, dI) vwCl [(h0, .inr (8, [.ref n0, .ref s0, .ref s1, .ref d0, .ref o0, .int dn, .int nn, .int la, .int p2, .int wi, .ref w0, .ref e0, .ref f0, .ref t0, .ref b0, .int lm]))] H := hP
      have hD : va_D A [(h0, .inr (8, [.ref n0, .ref s0, .ref s1, .ref d0, .ref o0, .int dn, .int nn, .int la, .int p2, .int wi, .ref w0, .ref e0, .ref f0, .ref t0, .ref b0, .int lm]))] := hD
      refine lv_iload_n hx hb dX8_rule_25 rfl (lv_at hl 0 rfl) ?_
      have hP9 := hP.sub (ws' := [(h0, .inr (8, [.ref n0, .ref s0, .ref s1, .ref d0, .ref o0, .int dn, .int nn, .int la, .int p2, .int wi, .ref w0, .ref e0, .ref f0, .ref t0, .ref b0, .int lm]))]) [0] rfl
      have hD9 := hD.sub (ws' := [(h0, .inr (8, [.ref n0, .ref s0, .ref s1, .ref d0, .ref o0, .int dn, .int nn, .int la, .int p2, .int wi, .ref w0, .ref e0, .ref f0, .ref t0, .ref b0, .int lm]))]) [0] (by decide) rfl
      have hK9 := hK.sub (tys' := []) [] rfl
      refine W.widen (k := 0) (n := 0) (by omega) (by omega) ?_
      exact W.iret (v := ne) hx hb hr (fun t ht hW => ⟨⟨_, (), rfl, (by first | (exfalso; omega) | rw [if_pos (by omega)] | rw [if_neg (by omega), if_pos (by omega)] | rw [if_neg (by omega), if_neg (by omega)]), p2, wi, by rw [ht]; exact hP9, va_K.moved hW.alike hK9, hD9, (by first | (exfalso; omega) | rw [if_pos (by omega)] | rw [if_neg (by omega)]), (by first | (exfalso; omega) | rw [if_pos (by omega)] | rw [if_neg (by omega)])⟩, hS.F ht⟩) hS.2.2 dX8_rule_26
    · refine lv_if_eq (tgt := 27) hx hb dX8_rule_12 (by decide) (fun _ => ?_) (fun h9 => absurd h9 (by decide))
      refine lv_iload_n hx hb dX8_rule_27 rfl (lv_at hl 1 rfl) ?_
      refine lv_iconst (v := 1) hx hb dX8_rule_28 (by decide) ?_
      refine lv_icmp_ne (tgt := 55) hx hb dX8_rule_29 (by decide) (fun c_29 => ?_) (fun c_29 => ?_)
      · have t_29 := mt (fa_eq _ _).mpr c_29
        refine lv_ldc hx hb hown (hts (.constant RX8 87 (-100002)) (by decide +kernel)) dX8_rule_55 ?_
        have hP9 := hP.sub (ws' := [(h0, .inr (8, [.ref n0, .ref s0, .ref s1, .ref d0, .ref o0, .int dn, .int nn, .int la, .int ne, .int wi, .ref w0, .ref e0, .ref f0, .ref t0, .ref b0, .int lm]))]) [0] rfl
        have hD9 := hD.sub (ws' := [(h0, .inr (8, [.ref n0, .ref s0, .ref s1, .ref d0, .ref o0, .int dn, .int nn, .int la, .int ne, .int wi, .ref w0, .ref e0, .ref f0, .ref t0, .ref b0, .int lm]))]) [0] (by decide) rfl
        have hK9 := hK.sub (tys' := []) [] rfl
        refine W.widen (k := 0) (n := 0) (by omega) (by omega) ?_
        exact W.iret (v := (-100002)) hx hb hr (fun t ht hW => ⟨⟨_, (), rfl, (by first | (exfalso; omega) | rw [if_pos (by omega)] | rw [if_neg (by omega), if_pos (by omega)] | rw [if_neg (by omega), if_neg (by omega)]), ne, wi, by rw [ht]; exact hP9, va_K.moved hW.alike hK9, hD9, (by first | (exfalso; omega) | rw [if_pos (by omega)] | rw [if_neg (by omega)]), (by first | (exfalso; omega) | rw [if_pos (by omega)] | rw [if_neg (by omega)])⟩, hS.F ht⟩) hS.2.2 dX8_rule_57
      · have t_29 := (fa_eq _ _).mp c_29
        refine lv_iload_n hx hb dX8_rule_32 rfl (lv_at hl 2 rfl) ?_
        refine lv_iconst (v := 0) hx hb dX8_rule_33 (by decide) ?_
        refine lv_sipush (v := 400) hx hb dX8_rule_34 (by decide) ?_
        refine vp_callSi (W.runS (As := [.int p2, .int 0, .int 400]) (rest := []) ⟨hx, hb, hml, hown, hts⟩ (c_X8_isWithin l dC dI p2 0 400) (va_cwS 3 hts g_X8_rule__X8_isWithin_84 rfl rfl rfl (by decide +kernel) ⟨Nat.le_of_ble_eq_true rfl, Nat.le_of_ble_eq_true rfl⟩) ⟨fun a U g mk q => by obtain ⟨q0, q1⟩ := q; exact ⟨q0, q1⟩, fun U hU hW => ⟨rfl, trivial⟩⟩ rfl rfl hl.1 rfl (lv_room (Nat.le_of_ble_eq_true rfl)) dX8_rule_37 ⟨Nat.le_of_ble_eq_true rfl, Nat.le_of_ble_eq_true rfl⟩) (fun r_3 hr_3 => ?_)
        try dsimp only at hr_3
        rcases bo_split hr_3 with ⟨rfl, q_37⟩ | ⟨rfl, q_37⟩
        · refine lv_if_eq (tgt := 55) hx hb dX8_rule_40 (by decide) (fun h9 => absurd h9 (by decide)) (fun _ => ?_)
          refine lv_aload_n hx hb dX8_rule_43 rfl (lv_at hl 0 rfl) ?_
          refine va_get (D := (dC, dI)) (ci := 8) (v := .int wi) (C := RX8) (T := TX8) (N := 16) hx hb hts in_X8_rule_X8 hown hK hP 0 rfl rfl 9 (by decide) (hts (.fieldLink RX8 38 "MeetingsAbove" "wide" "I") (by decide +kernel)) (fun _ h9 => h9) rfl dX8_rule_44 ?_
          refine lv_istore_n (lv' := [(3, .int wi), (0, .ref h0), (1, .int p1), (2, .int p2)]) hx hb dX8_rule_47 rfl hl (by decide) rfl (fun ls hl => ?_)
          refine lv_aload_n hx hb dX8_rule_48 rfl (lv_at hl 1 rfl) ?_
          refine lv_iload_n hx hb dX8_rule_49 rfl (lv_at hl 3 rfl) ?_
          refine va_put (D := (dC, dI)) (ci := 8) (v := .int p2) (ty := .int) (C := RX8) (T := TX8) (N := 16) hx hb hts in_X8_rule_X8 tyX8 tyX8_ok nmX8 hown hK hP hD hS 0 rfl rfl 9 (by decide) (hts (.fieldLink RX8 38 "MeetingsAbove" "wide" "I") (by decide +kernel)) (fun _ h9 => h9) rfl (by decide +kernel) rfl rfl (Nat.le_of_ble_eq_true rfl) dX8_rule_50 (fun H locs hP hD hS => ?_)
          have hP : va_P (dC, dI) vwCl [(h0, .inr (8, [.ref n0, .ref s0, .ref s1, .ref d0, .ref o0, .int dn, .int nn, .int la, .int ne, .int p2, .ref w0, .ref e0, .ref f0, .ref t0, .ref b0, .int lm]))] H := hP
          have hD : va_D A [(h0, .inr (8, [.ref n0, .ref s0, .ref s1, .ref d0, .ref o0, .int dn, .int nn, .int la, .int ne, .int p2, .ref w0, .ref e0, .ref f0, .ref t0, .ref b0, .int lm]))] := hD
          refine lv_iload_n hx hb dX8_rule_53 rfl (lv_at hl 0 rfl) ?_
          have hP9 := hP.sub (ws' := [(h0, .inr (8, [.ref n0, .ref s0, .ref s1, .ref d0, .ref o0, .int dn, .int nn, .int la, .int ne, .int p2, .ref w0, .ref e0, .ref f0, .ref t0, .ref b0, .int lm]))]) [0] rfl
          have hD9 := hD.sub (ws' := [(h0, .inr (8, [.ref n0, .ref s0, .ref s1, .ref d0, .ref o0, .int dn, .int nn, .int la, .int ne, .int p2, .ref w0, .ref e0, .ref f0, .ref t0, .ref b0, .int lm]))]) [0] (by decide) rfl
          have hK9 := hK.sub (tys' := []) [] rfl
          refine W.widen (k := 0) (n := 0) (by omega) (by omega) ?_
          exact W.iret (v := wi) hx hb hr (fun t ht hW => ⟨⟨_, (), rfl, (by first | (exfalso; omega) | rw [if_pos (by omega)] | rw [if_neg (by omega), if_pos (by omega)] | rw [if_neg (by omega), if_neg (by omega)]), ne, p2, by rw [ht]; exact hP9, va_K.moved hW.alike hK9, hD9, (by first | (exfalso; omega) | rw [if_pos (by omega)] | rw [if_neg (by omega)]), (by first | (exfalso; omega) | rw [if_pos (by omega)] | rw [if_neg (by omega)])⟩, hS.F ht⟩) hS.2.2 dX8_rule_54
        · refine lv_if_eq (tgt := 55) hx hb dX8_rule_40 (by decide) (fun _ => ?_) (fun h9 => absurd h9 (by decide))
          refine lv_ldc hx hb hown (hts (.constant RX8 87 (-100002)) (by decide +kernel)) dX8_rule_55 ?_
          have hP9 := hP.sub (ws' := [(h0, .inr (8, [.ref n0, .ref s0, .ref s1, .ref d0, .ref o0, .int dn, .int nn, .int la, .int ne, .int wi, .ref w0, .ref e0, .ref f0, .ref t0, .ref b0, .int lm]))]) [0] rfl
          have hD9 := hD.sub (ws' := [(h0, .inr (8, [.ref n0, .ref s0, .ref s1, .ref d0, .ref o0, .int dn, .int nn, .int la, .int ne, .int wi, .ref w0, .ref e0, .ref f0, .ref t0, .ref b0, .int lm]))]) [0] (by decide) rfl
          have hK9 := hK.sub (tys' := []) [] rfl
          refine W.widen (k := 0) (n := 0) (by omega) (by omega) ?_
          exact W.iret (v := (-100002)) hx hb hr (fun t ht hW => ⟨⟨_, (), rfl, (by first | (exfalso; omega) | rw [if_pos (by omega)] | rw [if_neg (by omega), if_pos (by omega)] | rw [if_neg (by omega), if_neg (by omega)]), ne, wi, by rw [ht]; exact hP9, va_K.moved hW.alike hK9, hD9, (by first | (exfalso; omega) | rw [if_pos (by omega)] | rw [if_neg (by omega)]), (by first | (exfalso; omega) | rw [if_pos (by omega)] | rw [if_neg (by omega)])⟩, hS.F ht⟩) hS.2.2 dX8_rule_57
def wk_X8_findShelf_0 : List Cond := .code yX8_findShelf cX8_findShelf 2 (some (.object "MeetingsAbove$Catalogue")) :: (([.fieldLink RX8 16 "MeetingsAbove" "shelf0" "LMeetingsAbove$Catalogue;"] : List Cond) ++ (wsX80 ++ ([])))
theorem in_X8_findShelf_0_X8 : ∀ w ∈ wsX80, w ∈ wk_X8_findShelf_0 := fun _ h => List.mem_cons_of_mem _ (List.mem_append_right _ (List.mem_append_left _ h))
theorem gw_X8_findShelf_0 : AG wk_X8_findShelf_0 := AG_ca (AG_l (by decide +kernel)) (AG_app ag_X8 (AG_nil))
set_option maxHeartbeats 4000000 in
set_option maxRecDepth 100000 in
theorem c_X8_findShelf_0 (l : Launch) (dC : Nat → ClassId) (dI : Nat → Nat → Nat) (h0 : Nat) (n0 : Nat) (s0 : Nat) (s1 : Nat) (d0 : Nat) (o0 : Nat) (w0 : Nat) (e0 : Nat) (f0 : Nat) (t0 : Nat) (b0 : Nat) (dn : Int32) (nn : Int32) (la : Int32) (ne : Int32) (wi : Int32) (lm : Int32) : Met l yX8_findShelf wk_X8_findShelf_0 ({ frames := 0, cells := 0, slots := 0, locals := 0 }) (va_Pc [.ref h0, .int 0] (fun U => va_P (dC, dI) vwCl [(h0, .inr (8, [.ref n0, .ref s0, .ref s1, .ref d0, .ref o0, .int dn, .int nn, .int la, .int ne, .int wi, .ref w0, .ref e0, .ref f0, .ref t0, .ref b0, .int lm]))] U.heap ∧ va_K (dC, dI) vwCl [] U)) (va_Sq (fun r => r = some s0)) 0 0 (fun _ => False) := by
  refine Met.ofW (cc := cX8_findShelf) (maxL := 2) (ret := (some (.object "MeetingsAbove$Catalogue"))) (by decide) rfl ?_
  intro p e s m args below meth c s₁ B hml hv
  obtain ⟨rfl, hP, hK⟩ := hv
  have hx := B.exec
  have hb := B.bytes
  have hr := B.returns
  have hts := atoms_spec (ws := wk_X8_findShelf_0) B.pre
  have hown : s.vm.findClass RX8 = some m.cls := findClass_of_methodNamed B.named
  have hlocks := B.notSynchronized
  have hP : va_P (dC, dI) vwCl [(h0, .inr (8, [.ref n0, .ref s0, .ref s1, .ref d0, .ref o0, .int dn, .int nn, .int la, .int ne, .int wi, .ref w0, .ref e0, .ref f0, .ref t0, .ref b0, .int lm]))] s.heap := hP
  have hl := lv_entry ([.ref h0, .int 0]) (n := 2) (Nat.le_of_ble_eq_true rfl)
  rw [lg_entry_eq]
  generalize (lg_sl ([.ref h0, .int 0]) ++ List.replicate (2 - (lg_sl ([.ref h0, .int 0])).length) Slot.unset).toArray = ls at hl ⊢
  have hl : lv_has ls 2 [(0, .ref h0), (1, .int 0)] := hl
  refine lv_iload_n hx hb dX8_findShelf_0 rfl (lv_at hl 1 rfl) ?_
  refine lv_lookup (off := 27) (tgt := 28) hx hb dX8_findShelf_1 (by decide) (by decide) (by decide) ?_
  refine lv_aload_n hx hb dX8_findShelf_28 rfl (lv_at hl 0 rfl) ?_
  refine va_get (D := (dC, dI)) (ci := 8) (v := .ref s0) (C := RX8) (T := TX8) (N := 16) hx hb hts in_X8_findShelf_0_X8 hown hK hP 0 rfl rfl 1 (by decide) (hts (.fieldLink RX8 16 "MeetingsAbove" "shelf0" "LMeetingsAbove$Catalogue;") (by decide +kernel)) (fun _ h9 => h9) rfl dX8_findShelf_29 ?_
  exact W.aret hx hb hr (Or.inl ⟨_, rfl⟩) (Or.inr ⟨_, rfl⟩) (fun t ht _ => ⟨some s0, rfl, rfl, ht⟩) (fun _ h => absurd h List.not_mem_nil) dX8_findShelf_32
def wk_X8_findShelf_1 : List Cond := .code yX8_findShelf cX8_findShelf 2 (some (.object "MeetingsAbove$Catalogue")) :: (([.fieldLink RX8 19 "MeetingsAbove" "shelf1" "LMeetingsAbove$Catalogue;"] : List Cond) ++ (wsX80 ++ ([])))
theorem in_X8_findShelf_1_X8 : ∀ w ∈ wsX80, w ∈ wk_X8_findShelf_1 := fun _ h => List.mem_cons_of_mem _ (List.mem_append_right _ (List.mem_append_left _ h))
theorem gw_X8_findShelf_1 : AG wk_X8_findShelf_1 := AG_ca (AG_l (by decide +kernel)) (AG_app ag_X8 (AG_nil))
set_option maxHeartbeats 4000000 in
set_option maxRecDepth 100000 in
theorem c_X8_findShelf_1 (l : Launch) (dC : Nat → ClassId) (dI : Nat → Nat → Nat) (h0 : Nat) (n0 : Nat) (s0 : Nat) (s1 : Nat) (d0 : Nat) (o0 : Nat) (w0 : Nat) (e0 : Nat) (f0 : Nat) (t0 : Nat) (b0 : Nat) (dn : Int32) (nn : Int32) (la : Int32) (ne : Int32) (wi : Int32) (lm : Int32) : Met l yX8_findShelf wk_X8_findShelf_1 ({ frames := 0, cells := 0, slots := 0, locals := 0 }) (va_Pc [.ref h0, .int 1] (fun U => va_P (dC, dI) vwCl [(h0, .inr (8, [.ref n0, .ref s0, .ref s1, .ref d0, .ref o0, .int dn, .int nn, .int la, .int ne, .int wi, .ref w0, .ref e0, .ref f0, .ref t0, .ref b0, .int lm]))] U.heap ∧ va_K (dC, dI) vwCl [] U)) (va_Sq (fun r => r = some s1)) 0 0 (fun _ => False) := by
  refine Met.ofW (cc := cX8_findShelf) (maxL := 2) (ret := (some (.object "MeetingsAbove$Catalogue"))) (by decide) rfl ?_
  intro p e s m args below meth c s₁ B hml hv
  obtain ⟨rfl, hP, hK⟩ := hv
  have hx := B.exec
  have hb := B.bytes
  have hr := B.returns
  have hts := atoms_spec (ws := wk_X8_findShelf_1) B.pre
  have hown : s.vm.findClass RX8 = some m.cls := findClass_of_methodNamed B.named
  have hlocks := B.notSynchronized
  have hP : va_P (dC, dI) vwCl [(h0, .inr (8, [.ref n0, .ref s0, .ref s1, .ref d0, .ref o0, .int dn, .int nn, .int la, .int ne, .int wi, .ref w0, .ref e0, .ref f0, .ref t0, .ref b0, .int lm]))] s.heap := hP
  have hl := lv_entry ([.ref h0, .int 1]) (n := 2) (Nat.le_of_ble_eq_true rfl)
  rw [lg_entry_eq]
  generalize (lg_sl ([.ref h0, .int 1]) ++ List.replicate (2 - (lg_sl ([.ref h0, .int 1])).length) Slot.unset).toArray = ls at hl ⊢
  have hl : lv_has ls 2 [(0, .ref h0), (1, .int 1)] := hl
  refine lv_iload_n hx hb dX8_findShelf_0 rfl (lv_at hl 1 rfl) ?_
  refine lv_lookup (off := 32) (tgt := 33) hx hb dX8_findShelf_1 (by decide) (by decide) (by decide) ?_
  refine lv_aload_n hx hb dX8_findShelf_33 rfl (lv_at hl 0 rfl) ?_
  refine va_get (D := (dC, dI)) (ci := 8) (v := .ref s1) (C := RX8) (T := TX8) (N := 16) hx hb hts in_X8_findShelf_1_X8 hown hK hP 0 rfl rfl 2 (by decide) (hts (.fieldLink RX8 19 "MeetingsAbove" "shelf1" "LMeetingsAbove$Catalogue;") (by decide +kernel)) (fun _ h9 => h9) rfl dX8_findShelf_34 ?_
  exact W.aret hx hb hr (Or.inl ⟨_, rfl⟩) (Or.inr ⟨_, rfl⟩) (fun t ht _ => ⟨some s1, rfl, rfl, ht⟩) (fun _ h => absurd h List.not_mem_nil) dX8_findShelf_37
def wk_X8_findShelf_n : List Cond := .code yX8_findShelf cX8_findShelf 2 (some (.object "MeetingsAbove$Catalogue")) :: (([] : List Cond) ++ ([]))
theorem gw_X8_findShelf_n : AG wk_X8_findShelf_n := AG_ca (AG_l (by decide +kernel)) (AG_nil)
set_option maxHeartbeats 4000000 in
set_option maxRecDepth 100000 in
theorem c_X8_findShelf_n (l : Launch) (dC : Nat → ClassId) (dI : Nat → Nat → Nat) (h0 : Nat) (n0 : Nat) (s0 : Nat) (s1 : Nat) (d0 : Nat) (o0 : Nat) (w0 : Nat) (e0 : Nat) (f0 : Nat) (t0 : Nat) (b0 : Nat) (dn : Int32) (nn : Int32) (la : Int32) (ne : Int32) (wi : Int32) (lm : Int32) (p1 : Int32) (n0_1 : ¬ p1 = 0) (n1_1 : ¬ p1 = 1) : Met l yX8_findShelf wk_X8_findShelf_n ({ frames := 0, cells := 0, slots := 0, locals := 0 }) (va_Pc [.ref h0, .int p1] (fun U => va_P (dC, dI) vwCl [(h0, .inr (8, [.ref n0, .ref s0, .ref s1, .ref d0, .ref o0, .int dn, .int nn, .int la, .int ne, .int wi, .ref w0, .ref e0, .ref f0, .ref t0, .ref b0, .int lm]))] U.heap ∧ va_K (dC, dI) vwCl [] U)) (va_Sq (fun r => r = none)) 0 0 (fun _ => False) := by
  refine Met.ofW (cc := cX8_findShelf) (maxL := 2) (ret := (some (.object "MeetingsAbove$Catalogue"))) (by decide) rfl ?_
  intro p e s m args below meth c s₁ B hml hv
  obtain ⟨rfl, hP, hK⟩ := hv
  have hx := B.exec
  have hb := B.bytes
  have hr := B.returns
  have hts := atoms_spec (ws := wk_X8_findShelf_n) B.pre
  have hown : s.vm.findClass RX8 = some m.cls := findClass_of_methodNamed B.named
  have hlocks := B.notSynchronized
  have hP : va_P (dC, dI) vwCl [(h0, .inr (8, [.ref n0, .ref s0, .ref s1, .ref d0, .ref o0, .int dn, .int nn, .int la, .int ne, .int wi, .ref w0, .ref e0, .ref f0, .ref t0, .ref b0, .int lm]))] s.heap := hP
  have hl := lv_entry ([.ref h0, .int p1]) (n := 2) (Nat.le_of_ble_eq_true rfl)
  rw [lg_entry_eq]
  generalize (lg_sl ([.ref h0, .int p1]) ++ List.replicate (2 - (lg_sl ([.ref h0, .int p1])).length) Slot.unset).toArray = ls at hl ⊢
  have hl : lv_has ls 2 [(0, .ref h0), (1, .int p1)] := hl
  refine lv_iload_n hx hb dX8_findShelf_0 rfl (lv_at hl 1 rfl) ?_
  refine lv_lookup (off := 37) (tgt := 38) hx hb dX8_findShelf_1 (by decide) (lk_01_df n0_1 n1_1) (by decide) ?_
  refine lv_null hx hb dX8_findShelf_38 ?_
  exact W.aret hx hb hr (Or.inl ⟨_, rfl⟩) (Or.inl rfl) (fun t ht _ => ⟨none, rfl, rfl, ht⟩) (fun _ h => absurd h List.not_mem_nil) dX8_findShelf_39
def wk_X8_differs : List Cond := .code yX8_differs cX8_differs 3 (some .int) :: (([.constant RX8 107 (-100001), .fieldLink RX8 88 "MeetingsAbove$Catalogue" "size" "I", .fieldLink RX8 12 "MeetingsAbove" "now" "LMeetingsAbove$Catalogue;", .constant RX8 116 (-100003)] : List Cond) ++ (wsX10 ++ (wsX80 ++ ((wsV RX8 308 RX8 yX8_findShelf wk_X8_findShelf_n) ++ ((wsV RX8 308 RX8 yX8_findShelf wk_X8_findShelf_0) ++ ((wsV RX8 316 RX1 yX1_countDifferences wk_X1_countDifferences) ++ ((wsV RX8 308 RX8 yX8_findShelf wk_X8_findShelf_1) ++ ([]))))))))
theorem in_X8_differs_X1 : ∀ w ∈ wsX10, w ∈ wk_X8_differs := fun _ h => List.mem_cons_of_mem _ (List.mem_append_right _ (List.mem_append_left _ h))
theorem in_X8_differs_X8 : ∀ w ∈ wsX80, w ∈ wk_X8_differs := fun _ h => List.mem_cons_of_mem _ (List.mem_append_right _ (List.mem_append_right _ (List.mem_append_left _ h)))
theorem gw_X8_differs : AG wk_X8_differs := AG_ca (AG_l (by decide +kernel)) (AG_app ag_X1 (AG_app ag_X8 (AG_app (AG_V gw_X8_findShelf_n) (AG_app (AG_V gw_X8_findShelf_0) (AG_app (AG_V gw_X1_countDifferences) (AG_app (AG_V gw_X8_findShelf_1) (AG_nil)))))))
theorem g_X8_differs__X8_findShelf_n_308 : GoodIn wk_X8_differs (wsV RX8 308 RX8 yX8_findShelf wk_X8_findShelf_n) := goodIn_m (fun _ h => List.mem_cons_of_mem _ (List.mem_append_right _ (List.mem_append_right _ (List.mem_append_right _ (List.mem_append_left _ h))))) (AG_V gw_X8_findShelf_n)
theorem g_X8_differs__X8_findShelf_0_308 : GoodIn wk_X8_differs (wsV RX8 308 RX8 yX8_findShelf wk_X8_findShelf_0) := goodIn_m (fun _ h => List.mem_cons_of_mem _ (List.mem_append_right _ (List.mem_append_right _ (List.mem_append_right _ (List.mem_append_right _ (List.mem_append_left _ h)))))) (AG_V gw_X8_findShelf_0)
theorem g_X8_differs__X1_countDifferences_316 : GoodIn wk_X8_differs (wsV RX8 316 RX1 yX1_countDifferences wk_X1_countDifferences) := goodIn_m (fun _ h => List.mem_cons_of_mem _ (List.mem_append_right _ (List.mem_append_right _ (List.mem_append_right _ (List.mem_append_right _ (List.mem_append_right _ (List.mem_append_left _ h))))))) (AG_V gw_X1_countDifferences)
theorem g_X8_differs__X8_findShelf_1_308 : GoodIn wk_X8_differs (wsV RX8 308 RX8 yX8_findShelf wk_X8_findShelf_1) := goodIn_m (fun _ h => List.mem_cons_of_mem _ (List.mem_append_right _ (List.mem_append_right _ (List.mem_append_right _ (List.mem_append_right _ (List.mem_append_right _ (List.mem_append_right _ (List.mem_append_left _ h)))))))) (AG_V gw_X8_findShelf_1)
set_option maxHeartbeats 4000000 in
set_option maxRecDepth 100000 in
theorem c_X8_differs (l : Launch) (dC : Nat → ClassId) (dI : Nat → Nat → Nat) (h0 : Nat) (n0 : Nat) (s0 : Nat) (s1 : Nat) (d0 : Nat) (o0 : Nat) (w0 : Nat) (e0 : Nat) (f0 : Nat) (t0 : Nat) (b0 : Nat) (dn : Int32) (nn : Int32) (la : Int32) (ne : Int32) (wi : Int32) (lm : Int32) (na : Nat) (cT : ClassId) (sz9 : Int32) (ga : Nat → Option Nat) (cI : ClassId) (L : List Nat) (f : Nat → va_E) (sa : Nat) (zs0 : Int32) (gs0 : Nat → Option Nat) (sb : Nat) (zs1 : Int32) (gs1 : Nat → Option Nat) (p1 : Int32) (hC : catOK L f cI sz9 ga) (hS0 : catOK L f cI zs0 gs0) (hS1 : catOK L f cI zs1 gs1) : Met l yX8_differs wk_X8_differs ({ frames := 2, cells := 0, slots := 0, locals := 47 }) (va_Pc [.ref h0, .int p1] (fun U => va_P (dC, dI) vwCl (([(h0, .inr (8, [.ref n0, .ref s0, .ref s1, .ref d0, .ref o0, .int dn, .int nn, .int la, .int ne, .int wi, .ref w0, .ref e0, .ref f0, .ref t0, .ref b0, .int lm])), (n0, .inr (1, [.ref na, .int sz9])), (na, .inl (cT, 16, .inr (.inr (.inr (.inr ga))))), (s0, .inr (1, [.ref sa, .int zs0])), (sa, .inl (cT, 16, .inr (.inr (.inr (.inr gs0))))), (s1, .inr (1, [.ref sb, .int zs1])), (sb, .inl (cT, 16, .inr (.inr (.inr (.inr gs1)))))] : va_W) ++ va_pl L f) U.heap ∧ va_K (dC, dI) vwCl [(cT, .object "MeetingsAbove$Thing"), (cI, .int)] U)) (vp_Si (fun r => True)) 0 0 (fun _ => False) := by
  refine Met.ofW (cc := cX8_differs) (maxL := 3) (ret := (some .int)) (by decide) rfl ?_
  intro p e s m args below meth c s₁ B hml hv
  obtain ⟨rfl, hP, hK⟩ := hv
  have hx := B.exec
  have hb := B.bytes
  have hr := B.returns
  have hts := atoms_spec (ws := wk_X8_differs) B.pre
  have hown : s.vm.findClass RX8 = some m.cls := findClass_of_methodNamed B.named
  have hlocks := B.notSynchronized
  have hP : va_P (dC, dI) vwCl (([(h0, .inr (8, [.ref n0, .ref s0, .ref s1, .ref d0, .ref o0, .int dn, .int nn, .int la, .int ne, .int wi, .ref w0, .ref e0, .ref f0, .ref t0, .ref b0, .int lm])), (n0, .inr (1, [.ref na, .int sz9])), (na, .inl (cT, 16, .inr (.inr (.inr (.inr ga))))), (s0, .inr (1, [.ref sa, .int zs0])), (sa, .inl (cT, 16, .inr (.inr (.inr (.inr gs0))))), (s1, .inr (1, [.ref sb, .int zs1])), (sb, .inl (cT, 16, .inr (.inr (.inr (.inr gs1)))))] : va_W) ++ va_pl L f) s.heap := hP
  have hl := lv_entry ([.ref h0, .int p1]) (n := 3) (Nat.le_of_ble_eq_true rfl)
  rw [lg_entry_eq]
  generalize (lg_sl ([.ref h0, .int p1]) ++ List.replicate (3 - (lg_sl ([.ref h0, .int p1])).length) Slot.unset).toArray = ls at hl ⊢
  have hl : lv_has ls 3 [(0, .ref h0), (1, .int p1)] := hl
  have kl_m100003 : (-100003 : Int32).toInt = -100003 := by decide
  have kl_m100001 : (-100001 : Int32).toInt = -100001 := by decide
  have kl_0 : (0 : Int32).toInt = 0 := by decide
  have kl_1 : (1 : Int32).toInt = 1 := by decide
  rcases lk_01 p1 with ⟨z0, z1⟩ | rfl | rfl
  · refine lv_aload_n hx hb dX8_differs_0 rfl (lv_at hl 0 rfl) ?_
    refine lv_iload_n hx hb dX8_differs_1 rfl (lv_at hl 1 rfl) ?_
    have hPc := hP.sub (ws' := [(h0, .inr (8, [.ref n0, .ref s0, .ref s1, .ref d0, .ref o0, .int dn, .int nn, .int la, .int ne, .int wi, .ref w0, .ref e0, .ref f0, .ref t0, .ref b0, .int lm]))]) [0] rfl
    have hKc := hK.sub (tys' := []) [] rfl
    refine va_csq (W.runV (As := [.int p1]) (rest := []) ⟨hx, hb, hml, hown, hts⟩ (c_X8_findShelf_n l dC dI h0 n0 s0 s1 d0 o0 w0 e0 f0 t0 b0 dn nn la ne wi lm p1 z0 z1) (cwV 1 hts g_X8_differs__X8_findShelf_n_308 rfl rfl rfl (by decide +kernel) ⟨Nat.le_of_ble_eq_true rfl, Nat.le_of_ble_eq_true rfl⟩) ⟨fun a U g mk q => by obtain ⟨q0, qP, qK⟩ := q; exact ⟨q0, qP, va_K.moved (u := U) (U := U.calling g mk a) (Vm.Alike.refl U.vm) qK⟩, va_recv hKc hPc (ci := 8) (q0 := 0) rfl rfl, fun U hU hW => ⟨rfl, by rw [hU]; exact hPc, va_K.moved hW.alike hKc⟩⟩ rfl rfl hl.1 rfl (lv_room (Nat.le_of_ble_eq_true rfl)) dX8_differs_2 ⟨Nat.le_of_ble_eq_true rfl, Nat.le_of_ble_eq_true rfl⟩) (fun r_1 hr_1 => ?_)
    try dsimp only at hr_1
    subst hr_1
    refine W.eq (g2 := F0 m 5 ls [.null]) rfl ?_
    refine lv_astore_nN (lv' := [(2, .null), (0, .ref h0), (1, .int p1)]) hx hb dX8_differs_5 rfl hl (by decide) rfl (fun ls hl => ?_)
    refine lv_aload_nN hx hb dX8_differs_6 rfl (lv_at hl 0 rfl) ?_
    refine lv_ifnonnullN hx hb dX8_differs_7 ?_
    refine lv_ldc hx hb hown (hts (.constant RX8 107 (-100001)) (by decide +kernel)) dX8_differs_10 ?_
    exact W.iret (v := (-100001)) hx hb hr (fun t ht _ => ⟨_, rfl, trivial, ht⟩) (fun _ h => absurd h List.not_mem_nil) dX8_differs_12
  · refine lv_aload_n hx hb dX8_differs_0 rfl (lv_at hl 0 rfl) ?_
    refine lv_iload_n hx hb dX8_differs_1 rfl (lv_at hl 1 rfl) ?_
    have hPc := hP.sub (ws' := [(h0, .inr (8, [.ref n0, .ref s0, .ref s1, .ref d0, .ref o0, .int dn, .int nn, .int la, .int ne, .int wi, .ref w0, .ref e0, .ref f0, .ref t0, .ref b0, .int lm]))]) [0] rfl
    have hKc := hK.sub (tys' := []) [] rfl
    refine va_csq (W.runV (As := [.int 0]) (rest := []) ⟨hx, hb, hml, hown, hts⟩ (c_X8_findShelf_0 l dC dI h0 n0 s0 s1 d0 o0 w0 e0 f0 t0 b0 dn nn la ne wi lm) (cwV 1 hts g_X8_differs__X8_findShelf_0_308 rfl rfl rfl (by decide +kernel) ⟨Nat.le_of_ble_eq_true rfl, Nat.le_of_ble_eq_true rfl⟩) ⟨fun a U g mk q => by obtain ⟨q0, qP, qK⟩ := q; exact ⟨q0, qP, va_K.moved (u := U) (U := U.calling g mk a) (Vm.Alike.refl U.vm) qK⟩, va_recv hKc hPc (ci := 8) (q0 := 0) rfl rfl, fun U hU hW => ⟨rfl, by rw [hU]; exact hPc, va_K.moved hW.alike hKc⟩⟩ rfl rfl hl.1 rfl (lv_room (Nat.le_of_ble_eq_true rfl)) dX8_differs_2 ⟨Nat.le_of_ble_eq_true rfl, Nat.le_of_ble_eq_true rfl⟩) (fun r_2 hr_2 => ?_)
    try dsimp only at hr_2
    subst hr_2
    refine W.eq (g2 := F0 m 5 ls [.ref s0]) rfl ?_
    refine lv_astore_n (lv' := [(2, .ref s0), (0, .ref h0), (1, .int 0)]) hx hb dX8_differs_5 rfl hl (by decide) rfl (fun ls hl => ?_)
    refine lv_aload_n hx hb dX8_differs_6 rfl (lv_at hl 0 rfl) ?_
    refine lv_ifnonnull (tgt := 13) hx hb dX8_differs_7 (by decide) ?_
    refine lv_aload_n hx hb dX8_differs_13 rfl (lv_at hl 0 rfl) ?_
    refine va_get (D := (dC, dI)) (ci := 1) (v := .int zs0) (C := RX1) (T := TX1) (N := 2) hx hb hts in_X8_differs_X1 hown hK hP 3 rfl rfl 1 (by decide) (hts (.fieldLink RX8 88 "MeetingsAbove$Catalogue" "size" "I") (by decide +kernel)) (fun _ h9 => h9) rfl dX8_differs_14 ?_
    refine lv_if_ne (tgt := 25) hx hb dX8_differs_17 (by decide) (fun c_17 => ?_) (fun c_17 => ?_)
    · have t_17 := mt (fa_eq _ _).mpr c_17
      refine lv_aload_n hx hb dX8_differs_25 rfl (lv_at hl 1 rfl) ?_
      refine va_get (D := (dC, dI)) (ci := 8) (v := .ref n0) (C := RX8) (T := TX8) (N := 16) hx hb hts in_X8_differs_X8 hown hK hP 0 rfl rfl 0 (by decide) (hts (.fieldLink RX8 12 "MeetingsAbove" "now" "LMeetingsAbove$Catalogue;") (by decide +kernel)) (fun _ h9 => h9) rfl dX8_differs_26 ?_
      refine lv_aload_n hx hb dX8_differs_29 rfl (lv_at hl 0 rfl) ?_
      have hPc := hP.part (cx := [(n0, .inr (1, [.ref na, .int sz9])), (na, .inl (cT, 16, .inr (.inr (.inr (.inr ga))))), (s0, .inr (1, [.ref sa, .int zs0])), (sa, .inl (cT, 16, .inr (.inr (.inr (.inr gs0)))))]) [1, 2, 3, 4] rfl
      have hKc := hK.sub (tys' := [(cT, .object "MeetingsAbove$Thing"), (cI, .int)]) [0, 1] rfl
      refine vp_callSi (W.runV (As := [.ref s0]) (rest := []) ⟨hx, hb, hml, hown, hts⟩ (c_X1_countDifferences l dC dI n0 na cT sz9 ga cI L f s0 sa zs0 gs0 (by first | assumption | omega) (by first | assumption | omega)) (cwV 1 hts g_X8_differs__X1_countDifferences_316 rfl rfl rfl (by decide +kernel) ⟨Nat.le_of_ble_eq_true rfl, Nat.le_of_ble_eq_true rfl⟩) ⟨fun a U g mk q => by obtain ⟨q0, qP, qK⟩ := q; exact ⟨q0, qP, va_K.moved (u := U) (U := U.calling g mk a) (Vm.Alike.refl U.vm) qK⟩, va_recv hKc hPc (ci := 1) (q0 := 0) rfl rfl, fun U hU hW => ⟨rfl, by rw [hU]; exact hPc, va_K.moved hW.alike hKc⟩⟩ rfl rfl hl.1 rfl (lv_room (Nat.le_of_ble_eq_true rfl)) dX8_differs_30 ⟨Nat.le_of_ble_eq_true rfl, Nat.le_of_ble_eq_true rfl⟩) (fun r_3 hr_3 => ?_)
      try dsimp only at hr_3
      exact W.iret (v := r_3) hx hb hr (fun t ht _ => ⟨_, rfl, trivial, ht⟩) (fun _ h => absurd h List.not_mem_nil) dX8_differs_33
    · have t_17 := (fa_eq _ _).mp c_17
      refine lv_ldc hx hb hown (hts (.constant RX8 116 (-100003)) (by decide +kernel)) dX8_differs_20 ?_
      refine lv_goto (tgt := 33) hx hb dX8_differs_22 (by decide) ?_
      exact W.iret (v := (-100003)) hx hb hr (fun t ht _ => ⟨_, rfl, trivial, ht⟩) (fun _ h => absurd h List.not_mem_nil) dX8_differs_33
  · refine lv_aload_n hx hb dX8_differs_0 rfl (lv_at hl 0 rfl) ?_
    refine lv_iload_n hx hb dX8_differs_1 rfl (lv_at hl 1 rfl) ?_
    have hPc := hP.sub (ws' := [(h0, .inr (8, [.ref n0, .ref s0, .ref s1, .ref d0, .ref o0, .int dn, .int nn, .int la, .int ne, .int wi, .ref w0, .ref e0, .ref f0, .ref t0, .ref b0, .int lm]))]) [0] rfl
    have hKc := hK.sub (tys' := []) [] rfl
    refine va_csq (W.runV (As := [.int 1]) (rest := []) ⟨hx, hb, hml, hown, hts⟩ (c_X8_findShelf_1 l dC dI h0 n0 s0 s1 d0 o0 w0 e0 f0 t0 b0 dn nn la ne wi lm) (cwV 1 hts g_X8_differs__X8_findShelf_1_308 rfl rfl rfl (by decide +kernel) ⟨Nat.le_of_ble_eq_true rfl, Nat.le_of_ble_eq_true rfl⟩) ⟨fun a U g mk q => by obtain ⟨q0, qP, qK⟩ := q; exact ⟨q0, qP, va_K.moved (u := U) (U := U.calling g mk a) (Vm.Alike.refl U.vm) qK⟩, va_recv hKc hPc (ci := 8) (q0 := 0) rfl rfl, fun U hU hW => ⟨rfl, by rw [hU]; exact hPc, va_K.moved hW.alike hKc⟩⟩ rfl rfl hl.1 rfl (lv_room (Nat.le_of_ble_eq_true rfl)) dX8_differs_2 ⟨Nat.le_of_ble_eq_true rfl, Nat.le_of_ble_eq_true rfl⟩) (fun r_4 hr_4 => ?_)
    try dsimp only at hr_4
    subst hr_4
    refine W.eq (g2 := F0 m 5 ls [.ref s1]) rfl ?_
    refine lv_astore_n (lv' := [(2, .ref s1), (0, .ref h0), (1, .int 1)]) hx hb dX8_differs_5 rfl hl (by decide) rfl (fun ls hl => ?_)
    refine lv_aload_n hx hb dX8_differs_6 rfl (lv_at hl 0 rfl) ?_
    refine lv_ifnonnull (tgt := 13) hx hb dX8_differs_7 (by decide) ?_
    refine lv_aload_n hx hb dX8_differs_13 rfl (lv_at hl 0 rfl) ?_
    refine va_get (D := (dC, dI)) (ci := 1) (v := .int zs1) (C := RX1) (T := TX1) (N := 2) hx hb hts in_X8_differs_X1 hown hK hP 5 rfl rfl 1 (by decide) (hts (.fieldLink RX8 88 "MeetingsAbove$Catalogue" "size" "I") (by decide +kernel)) (fun _ h9 => h9) rfl dX8_differs_14 ?_
    refine lv_if_ne (tgt := 25) hx hb dX8_differs_17 (by decide) (fun c_17 => ?_) (fun c_17 => ?_)
    · have t_17 := mt (fa_eq _ _).mpr c_17
      refine lv_aload_n hx hb dX8_differs_25 rfl (lv_at hl 1 rfl) ?_
      refine va_get (D := (dC, dI)) (ci := 8) (v := .ref n0) (C := RX8) (T := TX8) (N := 16) hx hb hts in_X8_differs_X8 hown hK hP 0 rfl rfl 0 (by decide) (hts (.fieldLink RX8 12 "MeetingsAbove" "now" "LMeetingsAbove$Catalogue;") (by decide +kernel)) (fun _ h9 => h9) rfl dX8_differs_26 ?_
      refine lv_aload_n hx hb dX8_differs_29 rfl (lv_at hl 0 rfl) ?_
      have hPc := hP.part (cx := [(n0, .inr (1, [.ref na, .int sz9])), (na, .inl (cT, 16, .inr (.inr (.inr (.inr ga))))), (s1, .inr (1, [.ref sb, .int zs1])), (sb, .inl (cT, 16, .inr (.inr (.inr (.inr gs1)))))]) [1, 2, 5, 6] rfl
      have hKc := hK.sub (tys' := [(cT, .object "MeetingsAbove$Thing"), (cI, .int)]) [0, 1] rfl
      refine vp_callSi (W.runV (As := [.ref s1]) (rest := []) ⟨hx, hb, hml, hown, hts⟩ (c_X1_countDifferences l dC dI n0 na cT sz9 ga cI L f s1 sb zs1 gs1 (by first | assumption | omega) (by first | assumption | omega)) (cwV 1 hts g_X8_differs__X1_countDifferences_316 rfl rfl rfl (by decide +kernel) ⟨Nat.le_of_ble_eq_true rfl, Nat.le_of_ble_eq_true rfl⟩) ⟨fun a U g mk q => by obtain ⟨q0, qP, qK⟩ := q; exact ⟨q0, qP, va_K.moved (u := U) (U := U.calling g mk a) (Vm.Alike.refl U.vm) qK⟩, va_recv hKc hPc (ci := 1) (q0 := 0) rfl rfl, fun U hU hW => ⟨rfl, by rw [hU]; exact hPc, va_K.moved hW.alike hKc⟩⟩ rfl rfl hl.1 rfl (lv_room (Nat.le_of_ble_eq_true rfl)) dX8_differs_30 ⟨Nat.le_of_ble_eq_true rfl, Nat.le_of_ble_eq_true rfl⟩) (fun r_5 hr_5 => ?_)
      try dsimp only at hr_5
      exact W.iret (v := r_5) hx hb hr (fun t ht _ => ⟨_, rfl, trivial, ht⟩) (fun _ h => absurd h List.not_mem_nil) dX8_differs_33
    · have t_17 := (fa_eq _ _).mp c_17
      refine lv_ldc hx hb hown (hts (.constant RX8 116 (-100003)) (by decide +kernel)) dX8_differs_20 ?_
      refine lv_goto (tgt := 33) hx hb dX8_differs_22 (by decide) ?_
      exact W.iret (v := (-100003)) hx hb hr (fun t ht _ => ⟨_, rfl, trivial, ht⟩) (fun _ h => absurd h List.not_mem_nil) dX8_differs_33
