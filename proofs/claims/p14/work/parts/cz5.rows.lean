def wk_X9_isBetterE : List Cond := .code yX9_isBetter cX9_isBetter 3 (some .boolean) :: (([.fieldLink RX9 48 "MeetingsAboveModel" "burns" "[I"] : List Cond) ++ (wsX90 ++ ([])))
theorem in_X9_isBetterE_X9 : ∀ w ∈ wsX90, w ∈ wk_X9_isBetterE := fun _ h => List.mem_cons_of_mem _ (List.mem_append_right _ (List.mem_append_left _ h))
theorem gw_X9_isBetterE : AG wk_X9_isBetterE := AG_ca (AG_l (by decide +kernel)) (AG_app ag_X9 (AG_nil))
set_option maxHeartbeats 4000000 in
set_option maxRecDepth 100000 in
theorem c_X9_isBetterE (l : Launch) (dC : Nat → ClassId) (dI : Nat → Nat → Nat) (h0 : Nat) (a1 : Nat) (a2 : Nat) (a3 : Nat) (a4 : Nat) (a5 : Nat) (a6 : Nat) (a7 : Nat) (a8 : Nat) (a9 : Nat) (a10 : Nat) (a11 : Nat) (th : Int32) (ne : Int32) (wi : Int32) (dn : Int32) (nn : Int32) (la : Int32) (wh : Int32) (up : Int64) (lw : Int64) (pu : Int64) (pw : Int64) (cI : ClassId) (Bu : Nat → Int32) (p1 : Int32) (p2 : Int32) : Met l yX9_isBetter wk_X9_isBetterE ({ frames := 0, cells := 0, slots := 0, locals := 0 }) (va_Pc [.ref h0, .int p1, .int p2] (fun U => va_P (dC, dI) vwCl [(h0, .inr (9, [.int th, .ref a1, .ref a2, .ref a3, .ref a4, .ref a5, .int ne, .int wi, .int dn, .ref a6, .ref a7, .int nn, .ref a8, .int la, .ref a9, .ref a10, .long up, .long lw, .int wh, .long pu, .long pw, .ref a11])), (a11, .inl (cI, 5, .inl Bu))] U.heap ∧ va_K (dC, dI) vwCl [(cI, .int)] U)) (vp_Si (fun r => (r = 1 ∧ ((Bu 0).toInt < 0 ∨ p1.toInt < (Bu 0).toInt ∨ (p1.toInt = (Bu 0).toInt ∧ (Bu 1).toInt < p2.toInt))) ∨ (r = 0 ∧ ¬ ((Bu 0).toInt < 0 ∨ p1.toInt < (Bu 0).toInt ∨ (p1.toInt = (Bu 0).toInt ∧ (Bu 1).toInt < p2.toInt))))) 0 0 (fun _ => False) := by
  refine Met.ofW (cc := cX9_isBetter) (maxL := 3) (ret := (some .boolean)) (by decide) rfl ?_
  intro p e s m args below meth c s₁ B hml hv
  obtain ⟨rfl, hP, hK⟩ := hv
  have hx := B.exec
  have hb := B.bytes
  have hr := B.returns
  have hts := atoms_spec (ws := wk_X9_isBetterE) B.pre
  have hown : s.vm.findClass RX9 = some m.cls := findClass_of_methodNamed B.named
  have hlocks := B.notSynchronized
  have hP : va_P (dC, dI) vwCl [(h0, .inr (9, [.int th, .ref a1, .ref a2, .ref a3, .ref a4, .ref a5, .int ne, .int wi, .int dn, .ref a6, .ref a7, .int nn, .ref a8, .int la, .ref a9, .ref a10, .long up, .long lw, .int wh, .long pu, .long pw, .ref a11])), (a11, .inl (cI, 5, .inl Bu))] s.heap := hP
  have hl := lv_entry ([.ref h0, .int p1, .int p2]) (n := 3) (Nat.le_of_ble_eq_true rfl)
  rw [lg_entry_eq]
  generalize (lg_sl ([.ref h0, .int p1, .int p2]) ++ List.replicate (3 - (lg_sl ([.ref h0, .int p1, .int p2])).length) Slot.unset).toArray = ls at hl ⊢
  have hl : lv_has ls 3 [(0, .ref h0), (1, .int p1), (2, .int p2)] := hl
  have kl_0 : (0 : Int32).toInt = 0 := by decide
  have kl_1 : (1 : Int32).toInt = 1 := by decide
  refine lv_aload_n hx hb dX9_isBetter_0 rfl (lv_at hl 0 rfl) ?_
  refine va_get (D := (dC, dI)) (ci := 9) (v := .ref a11) (C := RX9) (T := TX9) (N := 22) hx hb hts in_X9_isBetterE_X9 hown hK hP 0 rfl rfl 21 (by decide) (hts (.fieldLink RX9 48 "MeetingsAboveModel" "burns" "[I") (by decide +kernel)) (fun _ h9 => h9) rfl dX9_isBetter_1 ?_
  refine lv_iconst (v := 0) hx hb dX9_isBetter_4 (by decide) ?_
  refine va_iald hx hb hK hP 1 0 rfl rfl (by unfold vp_in; decide) dX9_isBetter_5 ?_
  refine lv_topi (fun y_1 ey_1 => ?_)
  have uy_1 : y_1.toInt = (Bu 0).toInt := by rw [ey_1]; rfl
  refine lv_if_lt (tgt := 39) hx hb dX9_isBetter_6 (by decide) (fun c_6 => ?_) (fun c_6 => ?_)
  · have t_6 := (fa_lt _ _).mp c_6
    refine lv_iconst (v := 1) hx hb dX9_isBetter_39 (by decide) ?_
    refine lv_goto (tgt := 44) hx hb dX9_isBetter_40 (by decide) ?_
    exact W.zret (v := 1) hx hb hr rfl (fun t ht _ => ⟨_, rfl, (Or.inl ⟨rfl, by omega⟩), ht⟩) (fun _ h => absurd h List.not_mem_nil) dX9_isBetter_44
  · have t_6 := mt (fa_lt _ _).mpr c_6
    refine lv_iload_n hx hb dX9_isBetter_9 rfl (lv_at hl 1 rfl) ?_
    refine lv_aload_n hx hb dX9_isBetter_10 rfl (lv_at hl 0 rfl) ?_
    refine va_get (D := (dC, dI)) (ci := 9) (v := .ref a11) (C := RX9) (T := TX9) (N := 22) hx hb hts in_X9_isBetterE_X9 hown hK hP 0 rfl rfl 21 (by decide) (hts (.fieldLink RX9 48 "MeetingsAboveModel" "burns" "[I") (by decide +kernel)) (fun _ h9 => h9) rfl dX9_isBetter_11 ?_
    refine lv_iconst (v := 0) hx hb dX9_isBetter_14 (by decide) ?_
    refine va_iald hx hb hK hP 1 0 rfl rfl (by unfold vp_in; decide) dX9_isBetter_15 ?_
    refine lv_topi (fun y_2 ey_2 => ?_)
    have uy_2 : y_2.toInt = (Bu 0).toInt := by rw [ey_2]; rfl
    refine lv_icmp_lt (tgt := 39) hx hb dX9_isBetter_16 (by decide) (fun c_16 => ?_) (fun c_16 => ?_)
    · have t_16 := (fa_lt _ _).mp c_16
      refine lv_iconst (v := 1) hx hb dX9_isBetter_39 (by decide) ?_
      refine lv_goto (tgt := 44) hx hb dX9_isBetter_40 (by decide) ?_
      exact W.zret (v := 1) hx hb hr rfl (fun t ht _ => ⟨_, rfl, (Or.inl ⟨rfl, by omega⟩), ht⟩) (fun _ h => absurd h List.not_mem_nil) dX9_isBetter_44
    · have t_16 := mt (fa_lt _ _).mpr c_16
      refine lv_iload_n hx hb dX9_isBetter_19 rfl (lv_at hl 1 rfl) ?_
      refine lv_aload_n hx hb dX9_isBetter_20 rfl (lv_at hl 0 rfl) ?_
      refine va_get (D := (dC, dI)) (ci := 9) (v := .ref a11) (C := RX9) (T := TX9) (N := 22) hx hb hts in_X9_isBetterE_X9 hown hK hP 0 rfl rfl 21 (by decide) (hts (.fieldLink RX9 48 "MeetingsAboveModel" "burns" "[I") (by decide +kernel)) (fun _ h9 => h9) rfl dX9_isBetter_21 ?_
      refine lv_iconst (v := 0) hx hb dX9_isBetter_24 (by decide) ?_
      refine va_iald hx hb hK hP 1 0 rfl rfl (by unfold vp_in; decide) dX9_isBetter_25 ?_
      refine lv_topi (fun y_3 ey_3 => ?_)
      have uy_3 : y_3.toInt = (Bu 0).toInt := by rw [ey_3]; rfl
      refine lv_icmp_ne (tgt := 43) hx hb dX9_isBetter_26 (by decide) (fun c_26 => ?_) (fun c_26 => ?_)
      · have t_26 := mt (fa_eq _ _).mpr c_26
        refine lv_iconst (v := 0) hx hb dX9_isBetter_43 (by decide) ?_
        exact W.zret (v := 0) hx hb hr rfl (fun t ht _ => ⟨_, rfl, (Or.inr ⟨rfl, by omega⟩), ht⟩) (fun _ h => absurd h List.not_mem_nil) dX9_isBetter_44
      · have t_26 := (fa_eq _ _).mp c_26
        refine lv_iload_n hx hb dX9_isBetter_29 rfl (lv_at hl 2 rfl) ?_
        refine lv_aload_n hx hb dX9_isBetter_30 rfl (lv_at hl 0 rfl) ?_
        refine va_get (D := (dC, dI)) (ci := 9) (v := .ref a11) (C := RX9) (T := TX9) (N := 22) hx hb hts in_X9_isBetterE_X9 hown hK hP 0 rfl rfl 21 (by decide) (hts (.fieldLink RX9 48 "MeetingsAboveModel" "burns" "[I") (by decide +kernel)) (fun _ h9 => h9) rfl dX9_isBetter_31 ?_
        refine lv_iconst (v := 1) hx hb dX9_isBetter_34 (by decide) ?_
        refine va_iald hx hb hK hP 1 0 rfl rfl (by unfold vp_in; decide) dX9_isBetter_35 ?_
        refine lv_topi (fun y_4 ey_4 => ?_)
        have uy_4 : y_4.toInt = (Bu 1).toInt := by rw [ey_4]; rfl
        refine lv_icmp_le (tgt := 43) hx hb dX9_isBetter_36 (by decide) (fun c_36 => ?_) (fun c_36 => ?_)
        · have t_36 := (fa_le _ _).mp c_36
          refine lv_iconst (v := 0) hx hb dX9_isBetter_43 (by decide) ?_
          exact W.zret (v := 0) hx hb hr rfl (fun t ht _ => ⟨_, rfl, (Or.inr ⟨rfl, by omega⟩), ht⟩) (fun _ h => absurd h List.not_mem_nil) dX9_isBetter_44
        · have t_36 := mt (fa_le _ _).mpr c_36
          refine lv_iconst (v := 1) hx hb dX9_isBetter_39 (by decide) ?_
          refine lv_goto (tgt := 44) hx hb dX9_isBetter_40 (by decide) ?_
          exact W.zret (v := 1) hx hb hr rfl (fun t ht _ => ⟨_, rfl, (Or.inl ⟨rfl, by omega⟩), ht⟩) (fun _ h => absurd h List.not_mem_nil) dX9_isBetter_44
