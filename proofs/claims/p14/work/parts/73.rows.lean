def wk_X9_keep : List Cond := .code yX9_keep cX9_keep 4 (some .int) :: (([.fieldLink RX9 42 "MeetingsAboveModel" "shelfMany" "[I", .fieldLink RX9 59 "MeetingsAboveModel" "things" "I", .fieldLink RX9 45 "MeetingsAboveModel" "shelf" "[I", .constant RX9 84 (-100001)] : List Cond) ++ (wsX90 ++ ((va_wsS RX9 55 yX9_in wk_X9_in) ++ ((wsV RX9 198 RX9 yX9_numberOf wk_X9_numberOf) ++ ([])))))
theorem in_X9_keep_X9 : ∀ w ∈ wsX90, w ∈ wk_X9_keep := fun _ h => List.mem_cons_of_mem _ (List.mem_append_right _ (List.mem_append_left _ h))
theorem gw_X9_keep : AG wk_X9_keep := AG_ca (AG_l (by decide +kernel)) (AG_app ag_X9 (AG_app (AG_S gw_X9_in) (AG_app (AG_V gw_X9_numberOf) (AG_nil))))
theorem g_X9_keep__X9_in_55 : GoodIn wk_X9_keep (va_wsS RX9 55 yX9_in wk_X9_in) := goodIn_m (fun _ h => List.mem_cons_of_mem _ (List.mem_append_right _ (List.mem_append_right _ (List.mem_append_left _ h)))) (AG_S gw_X9_in)
theorem g_X9_keep__X9_numberOf_198 : GoodIn wk_X9_keep (wsV RX9 198 RX9 yX9_numberOf wk_X9_numberOf) := goodIn_m (fun _ h => List.mem_cons_of_mem _ (List.mem_append_right _ (List.mem_append_right _ (List.mem_append_right _ (List.mem_append_left _ h))))) (AG_V gw_X9_numberOf)
set_option maxHeartbeats 4000000 in
set_option maxRecDepth 100000 in
theorem c_X9_keep (l : Launch) (dC : Nat → ClassId) (dI : Nat → Nat → Nat) (h0 : Nat) (a1 : Nat) (a2 : Nat) (a3 : Nat) (a4 : Nat) (a5 : Nat) (a6 : Nat) (a7 : Nat) (a8 : Nat) (a9 : Nat) (a10 : Nat) (a11 : Nat) (th : Int32) (ne : Int32) (wi : Int32) (dn : Int32) (nn : Int32) (la : Int32) (wh : Int32) (up : Int64) (lw : Int64) (pu : Int64) (pw : Int64) (cI : ClassId) (cZ : ClassId) (Fi : Nat → Int32) (Ma : Nat → Int32) (Db : Nat → Int32) (Go : Nat → Int32) (Sp : Nat → Int32) (Sm : Nat → Int32) (Sh : Nat → Int32) (p1 : Int32) (sz : Nat) (hM : mOK th Fi Ma) (hSm : ∀ k : Nat, k < 2 → (Sm k).toInt ≤ 16) : Met l yX9_keep wk_X9_keep ({ frames := 1, cells := 0, slots := 0, locals := 25 }) (va_Pc [.ref h0, .int p1] (fun U => U.heap.size = sz ∧ va_P (dC, dI) vwCl [(h0, .inr (9, [.int th, .ref a1, .ref a2, .ref a3, .ref a4, .ref a5, .int ne, .int wi, .int dn, .ref a6, .ref a7, .int nn, .ref a8, .int la, .ref a9, .ref a10, .long up, .long lw, .int wh, .long pu, .long pw, .ref a11])), (a1, .inl (cI, 16, .inl Fi)), (a2, .inl (cI, 16, .inl Ma)), (a3, .inl (cI, 16, .inl Db)), (a4, .inl (cZ, 16, .inl Go)), (a5, .inl (cI, 576, .inl Sp)), (a9, .inl (cI, 2, .inl Sm)), (a10, .inl (cI, 1280, .inl Sh))] U.heap ∧ va_K (dC, dI) vwCl [(cI, .int), (cZ, .boolean)] U ∧ va_D (fun _ => True) [(h0, .inr (9, [.int th, .ref a1, .ref a2, .ref a3, .ref a4, .ref a5, .int ne, .int wi, .int dn, .ref a6, .ref a7, .int nn, .ref a8, .int la, .ref a9, .ref a10, .long up, .long lw, .int wh, .long pu, .long pw, .ref a11])), (a1, .inl (cI, 16, .inl Fi)), (a2, .inl (cI, 16, .inl Ma)), (a3, .inl (cI, 16, .inl Db)), (a4, .inl (cZ, 16, .inl Go)), (a5, .inl (cI, 576, .inl Sp)), (a9, .inl (cI, 2, .inl Sm)), (a10, .inl (cI, 1280, .inl Sh))])) (va_Qi (fun (r : Int32) (_ : Unit) => r = if 0 ≤ p1.toInt ∧ p1.toInt ≤ 1 then th else -100001) (fun (_ : Unit) (t : State) => ∃ (Sm9 : Nat → Int32) (Sh9 : Nat → Int32), va_P (dC, dI) vwCl [(h0, .inr (9, [.int th, .ref a1, .ref a2, .ref a3, .ref a4, .ref a5, .int ne, .int wi, .int dn, .ref a6, .ref a7, .int nn, .ref a8, .int la, .ref a9, .ref a10, .long up, .long lw, .int wh, .long pu, .long pw, .ref a11])), (a1, .inl (cI, 16, .inl Fi)), (a2, .inl (cI, 16, .inl Ma)), (a3, .inl (cI, 16, .inl Db)), (a4, .inl (cZ, 16, .inl Go)), (a5, .inl (cI, 576, .inl Sp)), (a9, .inl (cI, 2, .inl Sm9)), (a10, .inl (cI, 1280, .inl Sh9))] t.heap ∧ va_K (dC, dI) vwCl [(cI, .int), (cZ, .boolean)] t ∧ va_D (va_A [(h0, .inr (9, [.int th, .ref a1, .ref a2, .ref a3, .ref a4, .ref a5, .int ne, .int wi, .int dn, .ref a6, .ref a7, .int nn, .ref a8, .int la, .ref a9, .ref a10, .long up, .long lw, .int wh, .long pu, .long pw, .ref a11])), (a1, .inl (cI, 16, .inl Fi)), (a2, .inl (cI, 16, .inl Ma)), (a3, .inl (cI, 16, .inl Db)), (a4, .inl (cZ, 16, .inl Go)), (a5, .inl (cI, 576, .inl Sp)), (a9, .inl (cI, 2, .inl Sm)), (a10, .inl (cI, 1280, .inl Sh))] sz) [(h0, .inr (9, [.int th, .ref a1, .ref a2, .ref a3, .ref a4, .ref a5, .int ne, .int wi, .int dn, .ref a6, .ref a7, .int nn, .ref a8, .int la, .ref a9, .ref a10, .long up, .long lw, .int wh, .long pu, .long pw, .ref a11])), (a1, .inl (cI, 16, .inl Fi)), (a2, .inl (cI, 16, .inl Ma)), (a3, .inl (cI, 16, .inl Db)), (a4, .inl (cZ, 16, .inl Go)), (a5, .inl (cI, 576, .inl Sp)), (a9, .inl (cI, 2, .inl Sm9)), (a10, .inl (cI, 1280, .inl Sh9))] ∧ ∀ k : Nat, k < 2 → (Sm9 k).toInt ≤ 16) (va_A [(h0, .inr (9, [.int th, .ref a1, .ref a2, .ref a3, .ref a4, .ref a5, .int ne, .int wi, .int dn, .ref a6, .ref a7, .int nn, .ref a8, .int la, .ref a9, .ref a10, .long up, .long lw, .int wh, .long pu, .long pw, .ref a11])), (a1, .inl (cI, 16, .inl Fi)), (a2, .inl (cI, 16, .inl Ma)), (a3, .inl (cI, 16, .inl Db)), (a4, .inl (cZ, 16, .inl Go)), (a5, .inl (cI, 576, .inl Sp)), (a9, .inl (cI, 2, .inl Sm)), (a10, .inl (cI, 1280, .inl Sh))] sz)) 0 0 (va_A [(h0, .inr (9, [.int th, .ref a1, .ref a2, .ref a3, .ref a4, .ref a5, .int ne, .int wi, .int dn, .ref a6, .ref a7, .int nn, .ref a8, .int la, .ref a9, .ref a10, .long up, .long lw, .int wh, .long pu, .long pw, .ref a11])), (a1, .inl (cI, 16, .inl Fi)), (a2, .inl (cI, 16, .inl Ma)), (a3, .inl (cI, 16, .inl Db)), (a4, .inl (cZ, 16, .inl Go)), (a5, .inl (cI, 576, .inl Sp)), (a9, .inl (cI, 2, .inl Sm)), (a10, .inl (cI, 1280, .inl Sh))] sz) := by
  refine Met.ofW (cc := cX9_keep) (maxL := 4) (ret := (some .int)) (by decide) rfl ?_
  intro p e s m args below meth c s₁ B hml hv
  obtain ⟨rfl, hsz, hP, hK, hD0⟩ := hv
  have hx := B.exec
  have hb := B.bytes
  have hr := B.returns
  have hts := atoms_spec (ws := wk_X9_keep) B.pre
  have hown : s.vm.findClass RX9 = some m.cls := findClass_of_methodNamed B.named
  have hlocks := B.notSynchronized
  subst hsz
  have hD := hD0.self (sz := s.heap.size)
  generalize hAe : va_A [(h0, .inr (9, [.int th, .ref a1, .ref a2, .ref a3, .ref a4, .ref a5, .int ne, .int wi, .int dn, .ref a6, .ref a7, .int nn, .ref a8, .int la, .ref a9, .ref a10, .long up, .long lw, .int wh, .long pu, .long pw, .ref a11])), (a1, .inl (cI, 16, .inl Fi)), (a2, .inl (cI, 16, .inl Ma)), (a3, .inl (cI, 16, .inl Db)), (a4, .inl (cZ, 16, .inl Go)), (a5, .inl (cI, 576, .inl Sp)), (a9, .inl (cI, 2, .inl Sm)), (a10, .inl (cI, 1280, .inl Sh))] s.heap.size = A at hD ⊢
  have hA : ∀ q : Nat, s.heap.size ≤ q → A q := fun q h => by rw [← hAe]; exact Or.inr h
  have hS : va_S A s.heap s.heap [] := va_S.rf
  have hP : va_P (dC, dI) vwCl [(h0, .inr (9, [.int th, .ref a1, .ref a2, .ref a3, .ref a4, .ref a5, .int ne, .int wi, .int dn, .ref a6, .ref a7, .int nn, .ref a8, .int la, .ref a9, .ref a10, .long up, .long lw, .int wh, .long pu, .long pw, .ref a11])), (a1, .inl (cI, 16, .inl Fi)), (a2, .inl (cI, 16, .inl Ma)), (a3, .inl (cI, 16, .inl Db)), (a4, .inl (cZ, 16, .inl Go)), (a5, .inl (cI, 576, .inl Sp)), (a9, .inl (cI, 2, .inl Sm)), (a10, .inl (cI, 1280, .inl Sh))] s.heap := hP
  have hl := lv_entry ([.ref h0, .int p1]) (n := 4) (Nat.le_of_ble_eq_true rfl)
  rw [lg_entry_eq]
  generalize (lg_sl ([.ref h0, .int p1]) ++ List.replicate (4 - (lg_sl ([.ref h0, .int p1])).length) Slot.unset).toArray = ls at hl ⊢
  have hl : lv_has ls 4 [(0, .ref h0), (1, .int p1)] := hl
  have kl_m100001 : (-100001 : Int32).toInt = -100001 := by decide
  have kl_0 : (0 : Int32).toInt = 0 := by decide
  have kl_1 : (1 : Int32).toInt = 1 := by decide
  have kl_40 : (40 : Int32).toInt = 40 := by decide
  have kl_640 : (640 : Int32).toInt = 640 := by decide
  have klL_0 : (0 : Int64).toInt = 0 := by decide
  have klL_1 : (1 : Int64).toInt = 1 := by decide
  obtain ⟨hM0, hM1, hM2⟩ := id hM
  refine lv_iload_n hx hb dX9_keep_0 rfl (lv_at hl 1 rfl) ?_
  refine lv_i2l hx hb dX9_keep_1 rfl ?_
  refine lv_lconst (v := 0) hx hb dX9_keep_2 (by decide) ?_
  refine lv_lconst (v := 1) hx hb dX9_keep_3 (by decide) ?_
  refine vp_callSi (W.runS (As := [.long p1.toInt64, .long 0, .long 1]) (rest := []) ⟨hx, hb, hml, hown, hts⟩ (c_X9_in l dC dI p1.toInt64 0 1) (va_cwS 3 hts g_X9_keep__X9_in_55 rfl rfl rfl (by decide +kernel) ⟨Nat.le_of_ble_eq_true rfl, Nat.le_of_ble_eq_true rfl⟩) ⟨fun a U g mk q => by obtain ⟨q0, q1⟩ := q; exact ⟨q0, q1⟩, fun U hU hW => ⟨rfl, trivial⟩⟩ rfl rfl hl.1 rfl (lv_room (Nat.le_of_ble_eq_true rfl)) dX9_keep_4 ⟨Nat.le_of_ble_eq_true rfl, Nat.le_of_ble_eq_true rfl⟩) (fun r_1 hr_1 => ?_)
  try dsimp only at hr_1
  rcases bo_split hr_1 with ⟨rfl, q_4⟩ | ⟨rfl, q_4⟩
  · simp only [Int32.toInt_toInt64, klL_0, klL_1] at q_4
    refine lv_if_ne (tgt := 13) hx hb dX9_keep_7 (by decide) (fun _ => ?_) (fun h9 => absurd h9 (by decide))
    refine lv_aload_n hx hb dX9_keep_13 rfl (lv_at hl 0 rfl) ?_
    refine va_get (D := (dC, dI)) (ci := 9) (v := .ref a9) (C := RX9) (T := TX9) (N := 22) hx hb hts in_X9_keep_X9 hown hK hP 0 rfl rfl 14 (by decide) (hts (.fieldLink RX9 42 "MeetingsAboveModel" "shelfMany" "[I") (by decide +kernel)) (fun _ h9 => h9) rfl dX9_keep_14 ?_
    refine lv_iload_n hx hb dX9_keep_17 rfl (lv_at hl 1 rfl) ?_
    refine lv_aload_n hx hb dX9_keep_18 rfl (lv_at hl 0 rfl) ?_
    refine va_get (D := (dC, dI)) (ci := 9) (v := .int th) (C := RX9) (T := TX9) (N := 22) hx hb hts in_X9_keep_X9 hown hK hP 0 rfl rfl 0 (by decide) (hts (.fieldLink RX9 59 "MeetingsAboveModel" "things" "I") (by decide +kernel)) (fun _ h9 => h9) rfl dX9_keep_19 ?_
    refine va_iast hx hb hK hP hD hS 6 0 rfl rfl (vp_in_iff.mpr ⟨by omega, by omega⟩) dX9_keep_22 (fun H locs hP hD hS => ?_)
    have hP : va_P (dC, dI) vwCl [(h0, .inr (9, [.int th, .ref a1, .ref a2, .ref a3, .ref a4, .ref a5, .int ne, .int wi, .int dn, .ref a6, .ref a7, .int nn, .ref a8, .int la, .ref a9, .ref a10, .long up, .long lw, .int wh, .long pu, .long pw, .ref a11])), (a1, .inl (cI, 16, .inl Fi)), (a2, .inl (cI, 16, .inl Ma)), (a3, .inl (cI, 16, .inl Db)), (a4, .inl (cZ, 16, .inl Go)), (a5, .inl (cI, 576, .inl Sp)), (a9, .inl (cI, 2, .inl (upd Sm (p1 : Int32).toNatClampNeg th))), (a10, .inl (cI, 1280, .inl Sh))] H := hP
    have hD : va_D A [(h0, .inr (9, [.int th, .ref a1, .ref a2, .ref a3, .ref a4, .ref a5, .int ne, .int wi, .int dn, .ref a6, .ref a7, .int nn, .ref a8, .int la, .ref a9, .ref a10, .long up, .long lw, .int wh, .long pu, .long pw, .ref a11])), (a1, .inl (cI, 16, .inl Fi)), (a2, .inl (cI, 16, .inl Ma)), (a3, .inl (cI, 16, .inl Db)), (a4, .inl (cZ, 16, .inl Go)), (a5, .inl (cI, 576, .inl Sp)), (a9, .inl (cI, 2, .inl (upd Sm (p1 : Int32).toNatClampNeg th))), (a10, .inl (cI, 1280, .inl Sh))] := hD
    refine lv_iconst (v := 0) hx hb dX9_keep_23 (by decide) ?_
    refine lv_istore_n (lv' := [(2, .int 0), (0, .ref h0), (1, .int p1)]) hx hb dX9_keep_24 rfl hl (by decide) rfl (fun ls hl => ?_)
    refine (show ∀ (k : Nat) (t2 : Int32) (S7 : Nat → Int32) (ht0 : 0 ≤ t2.toInt) (ht1 : t2.toInt ≤ th.toInt) (hk_25 : (th.toInt - t2.toInt).toNat < k) (H : Heap) (locs : List Loc) (hP : va_P (dC, dI) vwCl [(h0, .inr (9, [.int th, .ref a1, .ref a2, .ref a3, .ref a4, .ref a5, .int ne, .int wi, .int dn, .ref a6, .ref a7, .int nn, .ref a8, .int la, .ref a9, .ref a10, .long up, .long lw, .int wh, .long pu, .long pw, .ref a11])), (a1, .inl (cI, 16, .inl Fi)), (a2, .inl (cI, 16, .inl Ma)), (a3, .inl (cI, 16, .inl Db)), (a4, .inl (cZ, 16, .inl Go)), (a5, .inl (cI, 576, .inl Sp)), (a9, .inl (cI, 2, .inl (upd Sm (p1 : Int32).toNatClampNeg th))), (a10, .inl (cI, 1280, .inl S7))] H) (hD : va_D A [(h0, .inr (9, [.int th, .ref a1, .ref a2, .ref a3, .ref a4, .ref a5, .int ne, .int wi, .int dn, .ref a6, .ref a7, .int nn, .ref a8, .int la, .ref a9, .ref a10, .long up, .long lw, .int wh, .long pu, .long pw, .ref a11])), (a1, .inl (cI, 16, .inl Fi)), (a2, .inl (cI, 16, .inl Ma)), (a3, .inl (cI, 16, .inl Db)), (a4, .inl (cZ, 16, .inl Go)), (a5, .inl (cI, 576, .inl Sp)), (a9, .inl (cI, 2, .inl (upd Sm (p1 : Int32).toNatClampNeg th))), (a10, .inl (cI, 1280, .inl S7))]) (hS : va_S A s.heap H locs) (ls : Array Slot) (hl : lv_has ls 4 [(0, .ref h0), (1, .int p1), (2, .int t2)]), W p l e _ s m _ below meth c H locs 0 0 _ (F0 m 25 ls []) from ?_) _ 0 Sh (by omega) (by omega) (Nat.lt_succ_self _) H _ hP hD hS ls (lv_sub hl [1, 2, 0] rfl)
    intro k
    induction k with
    | zero => intro t2 S7 ht0 ht1 hk_25; exact absurd hk_25 (Nat.not_lt_zero _)
    | succ k ih_25 =>
      intro t2 S7 ht0 ht1 hk_25 H locs hP hD hS ls hl
      refine lv_iload_n hx hb dX9_keep_25 rfl (lv_at hl 2 rfl) ?_
      refine lv_aload_n hx hb dX9_keep_26 rfl (lv_at hl 0 rfl) ?_
      refine va_get (D := (dC, dI)) (ci := 9) (v := .int th) (C := RX9) (T := TX9) (N := 22) hx hb hts in_X9_keep_X9 hown hK hP 0 rfl rfl 0 (by decide) (hts (.fieldLink RX9 59 "MeetingsAboveModel" "things" "I") (by decide +kernel)) (fun _ h9 => h9) rfl dX9_keep_27 ?_
      refine lv_icmp_ge (tgt := 76) hx hb dX9_keep_30 (by decide) (fun c_30 => ?_) (fun c_30 => ?_)
      · have t_30 := (fa_le _ _).mp c_30
        refine lv_aload_n hx hb dX9_keep_76 rfl (lv_at hl 0 rfl) ?_
        refine va_get (D := (dC, dI)) (ci := 9) (v := .int th) (C := RX9) (T := TX9) (N := 22) hx hb hts in_X9_keep_X9 hown hK hP 0 rfl rfl 0 (by decide) (hts (.fieldLink RX9 59 "MeetingsAboveModel" "things" "I") (by decide +kernel)) (fun _ h9 => h9) rfl dX9_keep_77 ?_
        have hP9 := hP.sub (ws' := [(h0, .inr (9, [.int th, .ref a1, .ref a2, .ref a3, .ref a4, .ref a5, .int ne, .int wi, .int dn, .ref a6, .ref a7, .int nn, .ref a8, .int la, .ref a9, .ref a10, .long up, .long lw, .int wh, .long pu, .long pw, .ref a11])), (a1, .inl (cI, 16, .inl Fi)), (a2, .inl (cI, 16, .inl Ma)), (a3, .inl (cI, 16, .inl Db)), (a4, .inl (cZ, 16, .inl Go)), (a5, .inl (cI, 576, .inl Sp)), (a9, .inl (cI, 2, .inl (upd Sm (p1 : Int32).toNatClampNeg th))), (a10, .inl (cI, 1280, .inl S7))]) [0, 1, 2, 3, 4, 5, 6, 7] rfl
        have hD9 := hD.sub (ws' := [(h0, .inr (9, [.int th, .ref a1, .ref a2, .ref a3, .ref a4, .ref a5, .int ne, .int wi, .int dn, .ref a6, .ref a7, .int nn, .ref a8, .int la, .ref a9, .ref a10, .long up, .long lw, .int wh, .long pu, .long pw, .ref a11])), (a1, .inl (cI, 16, .inl Fi)), (a2, .inl (cI, 16, .inl Ma)), (a3, .inl (cI, 16, .inl Db)), (a4, .inl (cZ, 16, .inl Go)), (a5, .inl (cI, 576, .inl Sp)), (a9, .inl (cI, 2, .inl (upd Sm (p1 : Int32).toNatClampNeg th))), (a10, .inl (cI, 1280, .inl S7))]) [0, 1, 2, 3, 4, 5, 6, 7] (by decide) rfl
        have hK9 := hK.sub (tys' := [(cI, .int), (cZ, .boolean)]) [0, 1] rfl
        refine W.widen (k := 0) (n := 0) (by omega) (by omega) ?_
        exact W.iret (v := th) hx hb hr (fun t ht hW => ⟨⟨_, (), rfl, (by first | rw [if_neg (by omega)] | rw [if_pos (by omega)]), (upd Sm (p1 : Int32).toNatClampNeg th), S7, by rw [ht]; exact hP9, va_K.moved hW.alike hK9, hD9, (by first | exact hSm | exact fun k hk => by show (if k = _ then th else Sm k).toInt ≤ 16; split <;> first | omega | exact hSm k hk)⟩, hS.F ht⟩) hS.2.2 dX9_keep_80
      · have t_30 := mt (fa_le _ _).mpr c_30
        refine lv_iconst (v := 0) hx hb dX9_keep_33 (by decide) ?_
        refine lv_istore_n (lv' := [(3, .int 0), (0, .ref h0), (1, .int p1), (2, .int t2)]) hx hb dX9_keep_34 rfl hl (by decide) rfl (fun ls hl => ?_)
        refine (show ∀ (k : Nat) (k3 : Int32) (S8 : Nat → Int32) (hk0 : 0 ≤ k3.toInt) (hk1 : k3.toInt ≤ 40) (hk_35 : (40 - k3.toInt).toNat < k) (H : Heap) (locs : List Loc) (hP : va_P (dC, dI) vwCl [(h0, .inr (9, [.int th, .ref a1, .ref a2, .ref a3, .ref a4, .ref a5, .int ne, .int wi, .int dn, .ref a6, .ref a7, .int nn, .ref a8, .int la, .ref a9, .ref a10, .long up, .long lw, .int wh, .long pu, .long pw, .ref a11])), (a1, .inl (cI, 16, .inl Fi)), (a2, .inl (cI, 16, .inl Ma)), (a3, .inl (cI, 16, .inl Db)), (a4, .inl (cZ, 16, .inl Go)), (a5, .inl (cI, 576, .inl Sp)), (a9, .inl (cI, 2, .inl (upd Sm (p1 : Int32).toNatClampNeg th))), (a10, .inl (cI, 1280, .inl S8))] H) (hD : va_D A [(h0, .inr (9, [.int th, .ref a1, .ref a2, .ref a3, .ref a4, .ref a5, .int ne, .int wi, .int dn, .ref a6, .ref a7, .int nn, .ref a8, .int la, .ref a9, .ref a10, .long up, .long lw, .int wh, .long pu, .long pw, .ref a11])), (a1, .inl (cI, 16, .inl Fi)), (a2, .inl (cI, 16, .inl Ma)), (a3, .inl (cI, 16, .inl Db)), (a4, .inl (cZ, 16, .inl Go)), (a5, .inl (cI, 576, .inl Sp)), (a9, .inl (cI, 2, .inl (upd Sm (p1 : Int32).toNatClampNeg th))), (a10, .inl (cI, 1280, .inl S8))]) (hS : va_S A s.heap H locs) (ls : Array Slot) (hl : lv_has ls 4 [(0, .ref h0), (1, .int p1), (2, .int t2), (3, .int k3)]), W p l e _ s m _ below meth c H locs 0 0 _ (F0 m 35 ls []) from ?_) _ 0 S7 (by omega) (by omega) (Nat.lt_succ_self _) H _ hP hD hS ls (lv_sub hl [1, 2, 3, 0] rfl)
        intro k
        induction k with
        | zero => intro k3 S8 hk0 hk1 hk_35; exact absurd hk_35 (Nat.not_lt_zero _)
        | succ k ih_35 =>
          intro k3 S8 hk0 hk1 hk_35 H locs hP hD hS ls hl
          refine lv_iload_n hx hb dX9_keep_35 rfl (lv_at hl 3 rfl) ?_
          refine lv_bipush (v := 40) hx hb dX9_keep_36 (by decide) ?_
          refine lv_icmp_ge (tgt := 70) hx hb dX9_keep_38 (by decide) (fun c_38 => ?_) (fun c_38 => ?_)
          · have t_38 := (fa_le _ _).mp c_38
            obtain ⟨y_2, ey_2⟩ : ∃ y : Int32, y = t2 + 1 := ⟨_, rfl⟩
            have ty_2 : y_2.toInt = t2.toInt + 1 := by rw [ey_2]; have := fb_addI (x := t2) (y := 1) (by omega) (by omega); omega
            refine lv_iinc (v := y_2) (lv' := [(2, .int y_2), (0, .ref h0), (1, .int p1), (3, .int k3)]) hx hb dX9_keep_70 hl (k := 2) rfl (by rw [ey_2]; rfl) (by decide) rfl (fun ls hl => ?_)
            refine lv_goto (tgt := 25) hx hb dX9_keep_73 (by decide) ?_
            exact ih_25 y_2 S8 (by omega) (by omega) (by omega) H _ (hP.sub [0, 1, 2, 3, 4, 5, 6, 7] rfl) (hD.sub [0, 1, 2, 3, 4, 5, 6, 7] (by decide) rfl) hS ls (lv_sub hl [1, 2, 0] rfl)
          · have t_38 := mt (fa_le _ _).mpr c_38
            refine lv_aload_n hx hb dX9_keep_41 rfl (lv_at hl 0 rfl) ?_
            refine va_get (D := (dC, dI)) (ci := 9) (v := .ref a10) (C := RX9) (T := TX9) (N := 22) hx hb hts in_X9_keep_X9 hown hK hP 0 rfl rfl 15 (by decide) (hts (.fieldLink RX9 45 "MeetingsAboveModel" "shelf" "[I") (by decide +kernel)) (fun _ h9 => h9) rfl dX9_keep_42 ?_
            refine lv_sipush (v := 640) hx hb dX9_keep_45 (by decide) ?_
            refine lv_iload_n hx hb dX9_keep_48 rfl (lv_at hl 1 rfl) ?_
            refine lv_imul hx hb dX9_keep_49 ?_
            refine lv_topi (fun y_3 ey_3 => ?_)
            have ty_3 : y_3.toInt = 640 * p1.toInt := by rw [ey_3]; exact fm_lI kl_640 (by omega) (by omega)
            refine lv_bipush (v := 40) hx hb dX9_keep_50 (by decide) ?_
            refine lv_iload_n hx hb dX9_keep_52 rfl (lv_at hl 2 rfl) ?_
            refine lv_imul hx hb dX9_keep_53 ?_
            refine lv_topi (fun y_4 ey_4 => ?_)
            have ty_4 : y_4.toInt = 40 * t2.toInt := by rw [ey_4]; exact fm_lI kl_40 (by omega) (by omega)
            refine lv_iadd hx hb dX9_keep_54 ?_
            refine lv_topi (fun y_5 ey_5 => ?_)
            have ty_5 : y_5.toInt = y_3.toInt + y_4.toInt := by rw [ey_5]; have := fb_addI (x := y_3) (y := y_4) (by omega) (by omega); omega
            refine lv_iload_n hx hb dX9_keep_55 rfl (lv_at hl 3 rfl) ?_
            refine lv_iadd hx hb dX9_keep_56 ?_
            refine lv_topi (fun y_6 ey_6 => ?_)
            have ty_6 : y_6.toInt = y_5.toInt + k3.toInt := by rw [ey_6]; have := fb_addI (x := y_5) (y := k3) (by omega) (by omega); omega
            refine lv_aload_n hx hb dX9_keep_57 rfl (lv_at hl 0 rfl) ?_
            refine lv_iload_n hx hb dX9_keep_58 rfl (lv_at hl 2 rfl) ?_
            refine lv_iload_n hx hb dX9_keep_59 rfl (lv_at hl 3 rfl) ?_
            have hPc := hP.sub (ws' := [(h0, .inr (9, [.int th, .ref a1, .ref a2, .ref a3, .ref a4, .ref a5, .int ne, .int wi, .int dn, .ref a6, .ref a7, .int nn, .ref a8, .int la, .ref a9, .ref a10, .long up, .long lw, .int wh, .long pu, .long pw, .ref a11])), (a1, .inl (cI, 16, .inl Fi)), (a2, .inl (cI, 16, .inl Ma)), (a3, .inl (cI, 16, .inl Db)), (a4, .inl (cZ, 16, .inl Go)), (a5, .inl (cI, 576, .inl Sp))]) [0, 1, 2, 3, 4, 5] rfl
            have hKc := hK.sub (tys' := [(cI, .int), (cZ, .boolean)]) [0, 1] rfl
            refine vp_callSi (W.runV (As := [.int t2, .int k3]) (rest := [.int y_6, .ref a10]) ⟨hx, hb, hml, hown, hts⟩ (c_X9_numberOf l dC dI h0 a1 a2 a3 a4 a5 a6 a7 a8 a9 a10 a11 th ne wi dn nn la wh up lw pu pw cI cZ Fi Ma Db Go Sp t2 k3 (by first | assumption | omega) (by first | omega | assumption) (by first | omega | assumption) (by first | omega | assumption) (by first | omega | assumption)) (cwV 2 hts g_X9_keep__X9_numberOf_198 rfl rfl rfl (by decide +kernel) ⟨Nat.le_of_ble_eq_true rfl, Nat.le_of_ble_eq_true rfl⟩) ⟨fun a U g mk q => by obtain ⟨q0, qP, qK⟩ := q; exact ⟨q0, qP, va_K.moved (u := U) (U := U.calling g mk a) (Vm.Alike.refl U.vm) qK⟩, va_recv hKc hPc (ci := 9) (q0 := 0) rfl rfl, fun U hU hW => ⟨rfl, by rw [hU]; exact hPc, va_K.moved hW.alike hKc⟩⟩ rfl rfl hl.1 rfl (lv_room (Nat.le_of_ble_eq_true rfl)) dX9_keep_60 ⟨Nat.le_of_ble_eq_true rfl, Nat.le_of_ble_eq_true rfl⟩) (fun r_7 hr_7 => ?_)
            try dsimp only at hr_7
            refine va_iast hx hb hK hP hD hS 7 0 rfl rfl (vp_in_iff.mpr ⟨by omega, by omega⟩) dX9_keep_63 (fun H locs hP hD hS => ?_)
            have hP : va_P (dC, dI) vwCl [(h0, .inr (9, [.int th, .ref a1, .ref a2, .ref a3, .ref a4, .ref a5, .int ne, .int wi, .int dn, .ref a6, .ref a7, .int nn, .ref a8, .int la, .ref a9, .ref a10, .long up, .long lw, .int wh, .long pu, .long pw, .ref a11])), (a1, .inl (cI, 16, .inl Fi)), (a2, .inl (cI, 16, .inl Ma)), (a3, .inl (cI, 16, .inl Db)), (a4, .inl (cZ, 16, .inl Go)), (a5, .inl (cI, 576, .inl Sp)), (a9, .inl (cI, 2, .inl (upd Sm (p1 : Int32).toNatClampNeg th))), (a10, .inl (cI, 1280, .inl (upd S8 (y_6 : Int32).toNatClampNeg r_7)))] H := hP
            have hD : va_D A [(h0, .inr (9, [.int th, .ref a1, .ref a2, .ref a3, .ref a4, .ref a5, .int ne, .int wi, .int dn, .ref a6, .ref a7, .int nn, .ref a8, .int la, .ref a9, .ref a10, .long up, .long lw, .int wh, .long pu, .long pw, .ref a11])), (a1, .inl (cI, 16, .inl Fi)), (a2, .inl (cI, 16, .inl Ma)), (a3, .inl (cI, 16, .inl Db)), (a4, .inl (cZ, 16, .inl Go)), (a5, .inl (cI, 576, .inl Sp)), (a9, .inl (cI, 2, .inl (upd Sm (p1 : Int32).toNatClampNeg th))), (a10, .inl (cI, 1280, .inl (upd S8 (y_6 : Int32).toNatClampNeg r_7)))] := hD
            obtain ⟨y_8, ey_8⟩ : ∃ y : Int32, y = k3 + 1 := ⟨_, rfl⟩
            have ty_8 : y_8.toInt = k3.toInt + 1 := by rw [ey_8]; have := fb_addI (x := k3) (y := 1) (by omega) (by omega); omega
            refine lv_iinc (v := y_8) (lv' := [(3, .int y_8), (0, .ref h0), (1, .int p1), (2, .int t2)]) hx hb dX9_keep_64 hl (k := 3) rfl (by rw [ey_8]; rfl) (by decide) rfl (fun ls hl => ?_)
            refine lv_goto (tgt := 35) hx hb dX9_keep_67 (by decide) ?_
            exact ih_35 y_8 (upd S8 (y_6 : Int32).toNatClampNeg r_7) (by omega) (by omega) (by omega) H _ (hP.sub [0, 1, 2, 3, 4, 5, 6, 7] rfl) (hD.sub [0, 1, 2, 3, 4, 5, 6, 7] (by decide) rfl) hS ls (lv_sub hl [1, 2, 3, 0] rfl)
  · simp only [Int32.toInt_toInt64, klL_0, klL_1] at q_4
    refine lv_if_ne (tgt := 13) hx hb dX9_keep_7 (by decide) (fun h9 => absurd h9 (by decide)) (fun _ => ?_)
    refine lv_ldc hx hb hown (hts (.constant RX9 84 (-100001)) (by decide +kernel)) dX9_keep_10 ?_
    have hP9 := hP.sub (ws' := [(h0, .inr (9, [.int th, .ref a1, .ref a2, .ref a3, .ref a4, .ref a5, .int ne, .int wi, .int dn, .ref a6, .ref a7, .int nn, .ref a8, .int la, .ref a9, .ref a10, .long up, .long lw, .int wh, .long pu, .long pw, .ref a11])), (a1, .inl (cI, 16, .inl Fi)), (a2, .inl (cI, 16, .inl Ma)), (a3, .inl (cI, 16, .inl Db)), (a4, .inl (cZ, 16, .inl Go)), (a5, .inl (cI, 576, .inl Sp)), (a9, .inl (cI, 2, .inl Sm)), (a10, .inl (cI, 1280, .inl Sh))]) [0, 1, 2, 3, 4, 5, 6, 7] rfl
    have hD9 := hD.sub (ws' := [(h0, .inr (9, [.int th, .ref a1, .ref a2, .ref a3, .ref a4, .ref a5, .int ne, .int wi, .int dn, .ref a6, .ref a7, .int nn, .ref a8, .int la, .ref a9, .ref a10, .long up, .long lw, .int wh, .long pu, .long pw, .ref a11])), (a1, .inl (cI, 16, .inl Fi)), (a2, .inl (cI, 16, .inl Ma)), (a3, .inl (cI, 16, .inl Db)), (a4, .inl (cZ, 16, .inl Go)), (a5, .inl (cI, 576, .inl Sp)), (a9, .inl (cI, 2, .inl Sm)), (a10, .inl (cI, 1280, .inl Sh))]) [0, 1, 2, 3, 4, 5, 6, 7] (by decide) rfl
    have hK9 := hK.sub (tys' := [(cI, .int), (cZ, .boolean)]) [0, 1] rfl
    refine W.widen (k := 0) (n := 0) (by omega) (by omega) ?_
    exact W.iret (v := (-100001)) hx hb hr (fun t ht hW => ⟨⟨_, (), rfl, (by first | rw [if_neg (by omega)] | rw [if_pos (by omega)]), Sm, Sh, by rw [ht]; exact hP9, va_K.moved hW.alike hK9, hD9, (by first | exact hSm | exact fun k hk => by show (if k = _ then th else Sm k).toInt ≤ 16; split <;> first | omega | exact hSm k hk)⟩, hS.F ht⟩) hS.2.2 dX9_keep_12
def wk_X9_differs : List Cond := .code yX9_differs cX9_differs 6 (some .int) :: (([.fieldLink RX9 42 "MeetingsAboveModel" "shelfMany" "[I", .fieldLink RX9 59 "MeetingsAboveModel" "things" "I", .fieldLink RX9 45 "MeetingsAboveModel" "shelf" "[I", .constant RX9 85 (-100003), .constant RX9 84 (-100001)] : List Cond) ++ (wsX90 ++ ((va_wsS RX9 55 yX9_in wk_X9_in) ++ ((wsV RX9 198 RX9 yX9_numberOf wk_X9_numberOf) ++ ([])))))
theorem in_X9_differs_X9 : ∀ w ∈ wsX90, w ∈ wk_X9_differs := fun _ h => List.mem_cons_of_mem _ (List.mem_append_right _ (List.mem_append_left _ h))
theorem gw_X9_differs : AG wk_X9_differs := AG_ca (AG_l (by decide +kernel)) (AG_app ag_X9 (AG_app (AG_S gw_X9_in) (AG_app (AG_V gw_X9_numberOf) (AG_nil))))
theorem g_X9_differs__X9_in_55 : GoodIn wk_X9_differs (va_wsS RX9 55 yX9_in wk_X9_in) := goodIn_m (fun _ h => List.mem_cons_of_mem _ (List.mem_append_right _ (List.mem_append_right _ (List.mem_append_left _ h)))) (AG_S gw_X9_in)
theorem g_X9_differs__X9_numberOf_198 : GoodIn wk_X9_differs (wsV RX9 198 RX9 yX9_numberOf wk_X9_numberOf) := goodIn_m (fun _ h => List.mem_cons_of_mem _ (List.mem_append_right _ (List.mem_append_right _ (List.mem_append_right _ (List.mem_append_left _ h))))) (AG_V gw_X9_numberOf)
set_option maxHeartbeats 4000000 in
set_option maxRecDepth 100000 in
theorem c_X9_differs (l : Launch) (dC : Nat → ClassId) (dI : Nat → Nat → Nat) (h0 : Nat) (a1 : Nat) (a2 : Nat) (a3 : Nat) (a4 : Nat) (a5 : Nat) (a6 : Nat) (a7 : Nat) (a8 : Nat) (a9 : Nat) (a10 : Nat) (a11 : Nat) (th : Int32) (ne : Int32) (wi : Int32) (dn : Int32) (nn : Int32) (la : Int32) (wh : Int32) (up : Int64) (lw : Int64) (pu : Int64) (pw : Int64) (cI : ClassId) (cZ : ClassId) (Fi : Nat → Int32) (Ma : Nat → Int32) (Db : Nat → Int32) (Go : Nat → Int32) (Sp : Nat → Int32) (Sm : Nat → Int32) (Sh : Nat → Int32) (p1 : Int32) (hM : mOK th Fi Ma) (hSm : ∀ k : Nat, k < 2 → (Sm k).toInt ≤ 16) : Met l yX9_differs wk_X9_differs ({ frames := 1, cells := 0, slots := 0, locals := 25 }) (va_Pc [.ref h0, .int p1] (fun U => va_P (dC, dI) vwCl [(h0, .inr (9, [.int th, .ref a1, .ref a2, .ref a3, .ref a4, .ref a5, .int ne, .int wi, .int dn, .ref a6, .ref a7, .int nn, .ref a8, .int la, .ref a9, .ref a10, .long up, .long lw, .int wh, .long pu, .long pw, .ref a11])), (a1, .inl (cI, 16, .inl Fi)), (a2, .inl (cI, 16, .inl Ma)), (a3, .inl (cI, 16, .inl Db)), (a4, .inl (cZ, 16, .inl Go)), (a5, .inl (cI, 576, .inl Sp)), (a9, .inl (cI, 2, .inl Sm)), (a10, .inl (cI, 1280, .inl Sh))] U.heap ∧ va_K (dC, dI) vwCl [(cI, .int), (cZ, .boolean)] U)) (vp_Si (fun r => True)) 0 0 (fun _ => False) := by
  refine Met.ofW (cc := cX9_differs) (maxL := 6) (ret := (some .int)) (by decide) rfl ?_
  intro p e s m args below meth c s₁ B hml hv
  obtain ⟨rfl, hP, hK⟩ := hv
  have hx := B.exec
  have hb := B.bytes
  have hr := B.returns
  have hts := atoms_spec (ws := wk_X9_differs) B.pre
  have hown : s.vm.findClass RX9 = some m.cls := findClass_of_methodNamed B.named
  have hlocks := B.notSynchronized
  have hP : va_P (dC, dI) vwCl [(h0, .inr (9, [.int th, .ref a1, .ref a2, .ref a3, .ref a4, .ref a5, .int ne, .int wi, .int dn, .ref a6, .ref a7, .int nn, .ref a8, .int la, .ref a9, .ref a10, .long up, .long lw, .int wh, .long pu, .long pw, .ref a11])), (a1, .inl (cI, 16, .inl Fi)), (a2, .inl (cI, 16, .inl Ma)), (a3, .inl (cI, 16, .inl Db)), (a4, .inl (cZ, 16, .inl Go)), (a5, .inl (cI, 576, .inl Sp)), (a9, .inl (cI, 2, .inl Sm)), (a10, .inl (cI, 1280, .inl Sh))] s.heap := hP
  have hl := lv_entry ([.ref h0, .int p1]) (n := 6) (Nat.le_of_ble_eq_true rfl)
  rw [lg_entry_eq]
  generalize (lg_sl ([.ref h0, .int p1]) ++ List.replicate (6 - (lg_sl ([.ref h0, .int p1])).length) Slot.unset).toArray = ls at hl ⊢
  have hl : lv_has ls 6 [(0, .ref h0), (1, .int p1)] := hl
  have kl_m100003 : (-100003 : Int32).toInt = -100003 := by decide
  have kl_m100001 : (-100001 : Int32).toInt = -100001 := by decide
  have kl_0 : (0 : Int32).toInt = 0 := by decide
  have kl_1 : (1 : Int32).toInt = 1 := by decide
  have kl_40 : (40 : Int32).toInt = 40 := by decide
  have kl_640 : (640 : Int32).toInt = 640 := by decide
  have klL_0 : (0 : Int64).toInt = 0 := by decide
  have klL_1 : (1 : Int64).toInt = 1 := by decide
  obtain ⟨hM0, hM1, hM2⟩ := id hM
  refine lv_iload_n hx hb dX9_differs_0 rfl (lv_at hl 1 rfl) ?_
  refine lv_i2l hx hb dX9_differs_1 rfl ?_
  refine lv_lconst (v := 0) hx hb dX9_differs_2 (by decide) ?_
  refine lv_lconst (v := 1) hx hb dX9_differs_3 (by decide) ?_
  refine vp_callSi (W.runS (As := [.long p1.toInt64, .long 0, .long 1]) (rest := []) ⟨hx, hb, hml, hown, hts⟩ (c_X9_in l dC dI p1.toInt64 0 1) (va_cwS 3 hts g_X9_differs__X9_in_55 rfl rfl rfl (by decide +kernel) ⟨Nat.le_of_ble_eq_true rfl, Nat.le_of_ble_eq_true rfl⟩) ⟨fun a U g mk q => by obtain ⟨q0, q1⟩ := q; exact ⟨q0, q1⟩, fun U hU hW => ⟨rfl, trivial⟩⟩ rfl rfl hl.1 rfl (lv_room (Nat.le_of_ble_eq_true rfl)) dX9_differs_4 ⟨Nat.le_of_ble_eq_true rfl, Nat.le_of_ble_eq_true rfl⟩) (fun r_1 hr_1 => ?_)
  try dsimp only at hr_1
  rcases bo_split hr_1 with ⟨rfl, q_4⟩ | ⟨rfl, q_4⟩
  · simp only [Int32.toInt_toInt64, klL_0, klL_1] at q_4
    refine lv_if_ne (tgt := 13) hx hb dX9_differs_7 (by decide) (fun _ => ?_) (fun h9 => absurd h9 (by decide))
    refine lv_aload_n hx hb dX9_differs_13 rfl (lv_at hl 0 rfl) ?_
    refine va_get (D := (dC, dI)) (ci := 9) (v := .ref a9) (C := RX9) (T := TX9) (N := 22) hx hb hts in_X9_differs_X9 hown hK hP 0 rfl rfl 14 (by decide) (hts (.fieldLink RX9 42 "MeetingsAboveModel" "shelfMany" "[I") (by decide +kernel)) (fun _ h9 => h9) rfl dX9_differs_14 ?_
    refine lv_iload_n hx hb dX9_differs_17 rfl (lv_at hl 1 rfl) ?_
    refine va_iald hx hb hK hP 6 0 rfl rfl (vp_in_iff.mpr ⟨by omega, by omega⟩) dX9_differs_18 ?_
    refine lv_topi (fun y_2 ey_2 => ?_)
    have uy_2 : y_2.toInt = (Sm (p1 : Int32).toNatClampNeg).toInt := by rw [ey_2]
    have ny_2 : (((p1 : Int32).toNatClampNeg : Nat) : Int) = (p1 : Int32).toInt := tc_I (by omega)
    have sy_2 := hSm (p1 : Int32).toNatClampNeg (by omega)
    refine lv_if_ge (tgt := 25) hx hb dX9_differs_19 (by decide) (fun c_19 => ?_) (fun c_19 => ?_)
    · have t_19 := (fa_le _ _).mp c_19
      refine lv_iconst (v := 0) hx hb dX9_differs_25 (by decide) ?_
      refine lv_istore_n (lv' := [(2, .int 0), (0, .ref h0), (1, .int p1)]) hx hb dX9_differs_26 rfl hl (by decide) rfl (fun ls hl => ?_)
      refine lv_iconst (v := 0) hx hb dX9_differs_27 (by decide) ?_
      refine lv_istore_n (lv' := [(3, .int 0), (2, .int 0), (0, .ref h0), (1, .int p1)]) hx hb dX9_differs_28 rfl hl (by decide) rfl (fun ls hl => ?_)
      refine (show ∀ (k : Nat) (n2 : Int32) (t3 : Int32) (ht0 : 0 ≤ t3.toInt) (ht1 : t3.toInt ≤ 16) (hk_29 : (16 - t3.toInt).toNat < k) (ls : Array Slot) (hl : lv_has ls 6 [(0, .ref h0), (1, .int p1), (2, .int n2), (3, .int t3)]), W p l e _ s m _ below meth c s.heap [] 0 0 _ (F0 m 29 ls []) from ?_) _ 0 0 (by omega) (by omega) (Nat.lt_succ_self _) ls (lv_sub hl [2, 3, 1, 0] rfl)
      intro k
      induction k with
      | zero => intro n2 t3 ht0 ht1 hk_29; exact absurd hk_29 (Nat.not_lt_zero _)
      | succ k ih_29 =>
        intro n2 t3 ht0 ht1 hk_29 ls hl
        refine lv_iload_n hx hb dX9_differs_29 rfl (lv_at hl 3 rfl) ?_
        refine lv_aload_n hx hb dX9_differs_30 rfl (lv_at hl 0 rfl) ?_
        refine va_get (D := (dC, dI)) (ci := 9) (v := .int th) (C := RX9) (T := TX9) (N := 22) hx hb hts in_X9_differs_X9 hown hK hP 0 rfl rfl 0 (by decide) (hts (.fieldLink RX9 59 "MeetingsAboveModel" "things" "I") (by decide +kernel)) (fun _ h9 => h9) rfl dX9_differs_31 ?_
        refine lv_icmp_lt (tgt := 47) hx hb dX9_differs_34 (by decide) (fun c_34 => ?_) (fun c_34 => ?_)
        · have t_34 := (fa_lt _ _).mp c_34
          refine lv_iload_n hx hb dX9_differs_47 rfl (lv_at hl 3 rfl) ?_
          refine lv_aload_n hx hb dX9_differs_48 rfl (lv_at hl 0 rfl) ?_
          refine va_get (D := (dC, dI)) (ci := 9) (v := .int th) (C := RX9) (T := TX9) (N := 22) hx hb hts in_X9_differs_X9 hown hK hP 0 rfl rfl 0 (by decide) (hts (.fieldLink RX9 59 "MeetingsAboveModel" "things" "I") (by decide +kernel)) (fun _ h9 => h9) rfl dX9_differs_49 ?_
          refine lv_icmp_ge (tgt := 69) hx hb dX9_differs_52 (by decide) (fun c_52 => ?_) (fun c_52 => ?_)
          · have t_52 := (fa_le _ _).mp c_52
            refine lv_iconst (v := 0) hx hb dX9_differs_69 (by decide) ?_
            refine lv_istore (lv' := [(4, .int 0), (0, .ref h0), (1, .int p1), (2, .int n2), (3, .int t3)]) hx hb dX9_differs_70 hl (by decide) rfl (fun ls hl => ?_)
            refine lv_iconst (v := 0) hx hb dX9_differs_72 (by decide) ?_
            refine lv_istore (lv' := [(5, .int 0), (4, .int 0), (0, .ref h0), (1, .int p1), (2, .int n2), (3, .int t3)]) hx hb dX9_differs_73 hl (by decide) rfl (fun ls hl => ?_)
            refine (show ∀ (k : Nat) (l4 : Int32) (k5 : Int32) (hk0 : 0 ≤ k5.toInt) (hk1 : k5.toInt ≤ 40) (hl4 : l4.toInt ≠ 0 → t3.toInt < th.toInt) (hk_75 : (40 - k5.toInt).toNat < k) (ls : Array Slot) (hl : lv_has ls 6 [(0, .ref h0), (1, .int p1), (2, .int n2), (3, .int t3), (4, .int l4), (5, .int k5)]), W p l e _ s m _ below meth c s.heap [] 0 0 _ (F0 m 75 ls []) from ?_) _ 0 0 (by omega) (by omega) (by omega) (Nat.lt_succ_self _) ls (lv_sub hl [2, 3, 4, 5, 1, 0] rfl)
            intro k
            induction k with
            | zero => intro l4 k5 hk0 hk1 hl4 hk_75; exact absurd hk_75 (Nat.not_lt_zero _)
            | succ k ih_75 =>
              intro l4 k5 hk0 hk1 hl4 hk_75 ls hl
              refine lv_iload hx hb dX9_differs_75 (lv_at hl 5 rfl) ?_
              refine lv_bipush (v := 40) hx hb dX9_differs_77 (by decide) ?_
              refine lv_icmp_ge (tgt := 128) hx hb dX9_differs_79 (by decide) (fun c_79 => ?_) (fun c_79 => ?_)
              · have t_79 := (fa_le _ _).mp c_79
                refine lv_iload_n hx hb dX9_differs_128 rfl (lv_at hl 2 rfl) ?_
                refine lv_iload hx hb dX9_differs_129 (lv_at hl 4 rfl) ?_
                refine lv_if_eq (tgt := 138) hx hb dX9_differs_131 (by decide) (fun c_131 => ?_) (fun c_131 => ?_)
                · have t_131 := (fa_eq _ _).mp c_131
                  refine lv_iconst (v := 1) hx hb dX9_differs_138 (by decide) ?_
                  refine lv_iadd hx hb dX9_differs_139 ?_
                  refine lv_topi (fun y_3 ey_3 => ?_)
                  refine lv_istore_n (lv' := [(2, .int y_3), (0, .ref h0), (1, .int p1), (3, .int t3), (4, .int l4), (5, .int k5)]) hx hb dX9_differs_140 rfl hl (by decide) rfl (fun ls hl => ?_)
                  obtain ⟨y_4, ey_4⟩ : ∃ y : Int32, y = t3 + 1 := ⟨_, rfl⟩
                  have ty_4 : y_4.toInt = t3.toInt + 1 := by rw [ey_4]; have := fb_addI (x := t3) (y := 1) (by omega) (by omega); omega
                  refine lv_iinc (v := y_4) (lv' := [(3, .int y_4), (2, .int y_3), (0, .ref h0), (1, .int p1), (4, .int l4), (5, .int k5)]) hx hb dX9_differs_141 hl (k := 3) rfl (by rw [ey_4]; rfl) (by decide) rfl (fun ls hl => ?_)
                  refine lv_goto (tgt := 29) hx hb dX9_differs_144 (by decide) ?_
                  exact ih_29 y_3 y_4 (by omega) (by omega) (by omega) ls (lv_sub hl [2, 3, 1, 0] rfl)
                · have t_131 := mt (fa_eq _ _).mpr c_131
                  refine lv_iconst (v := 0) hx hb dX9_differs_134 (by decide) ?_
                  refine lv_goto (tgt := 139) hx hb dX9_differs_135 (by decide) ?_
                  refine lv_iadd hx hb dX9_differs_139 ?_
                  refine lv_topi (fun y_5 ey_5 => ?_)
                  refine lv_istore_n (lv' := [(2, .int y_5), (0, .ref h0), (1, .int p1), (3, .int t3), (4, .int l4), (5, .int k5)]) hx hb dX9_differs_140 rfl hl (by decide) rfl (fun ls hl => ?_)
                  obtain ⟨y_6, ey_6⟩ : ∃ y : Int32, y = t3 + 1 := ⟨_, rfl⟩
                  have ty_6 : y_6.toInt = t3.toInt + 1 := by rw [ey_6]; have := fb_addI (x := t3) (y := 1) (by omega) (by omega); omega
                  refine lv_iinc (v := y_6) (lv' := [(3, .int y_6), (2, .int y_5), (0, .ref h0), (1, .int p1), (4, .int l4), (5, .int k5)]) hx hb dX9_differs_141 hl (k := 3) rfl (by rw [ey_6]; rfl) (by decide) rfl (fun ls hl => ?_)
                  refine lv_goto (tgt := 29) hx hb dX9_differs_144 (by decide) ?_
                  exact ih_29 y_5 y_6 (by omega) (by omega) (by omega) ls (lv_sub hl [2, 3, 1, 0] rfl)
              · have t_79 := mt (fa_le _ _).mpr c_79
                refine lv_iload hx hb dX9_differs_82 (lv_at hl 4 rfl) ?_
                refine lv_if_eq (tgt := 128) hx hb dX9_differs_84 (by decide) (fun c_84 => ?_) (fun c_84 => ?_)
                · have t_84 := (fa_eq _ _).mp c_84
                  refine lv_iload_n hx hb dX9_differs_128 rfl (lv_at hl 2 rfl) ?_
                  refine lv_iload hx hb dX9_differs_129 (lv_at hl 4 rfl) ?_
                  refine lv_if_eq (tgt := 138) hx hb dX9_differs_131 (by decide) (fun c_131 => ?_) (fun c_131 => ?_)
                  · have t_131 := (fa_eq _ _).mp c_131
                    refine lv_iconst (v := 1) hx hb dX9_differs_138 (by decide) ?_
                    refine lv_iadd hx hb dX9_differs_139 ?_
                    refine lv_topi (fun y_7 ey_7 => ?_)
                    refine lv_istore_n (lv' := [(2, .int y_7), (0, .ref h0), (1, .int p1), (3, .int t3), (4, .int l4), (5, .int k5)]) hx hb dX9_differs_140 rfl hl (by decide) rfl (fun ls hl => ?_)
                    obtain ⟨y_8, ey_8⟩ : ∃ y : Int32, y = t3 + 1 := ⟨_, rfl⟩
                    have ty_8 : y_8.toInt = t3.toInt + 1 := by rw [ey_8]; have := fb_addI (x := t3) (y := 1) (by omega) (by omega); omega
                    refine lv_iinc (v := y_8) (lv' := [(3, .int y_8), (2, .int y_7), (0, .ref h0), (1, .int p1), (4, .int l4), (5, .int k5)]) hx hb dX9_differs_141 hl (k := 3) rfl (by rw [ey_8]; rfl) (by decide) rfl (fun ls hl => ?_)
                    refine lv_goto (tgt := 29) hx hb dX9_differs_144 (by decide) ?_
                    exact ih_29 y_7 y_8 (by omega) (by omega) (by omega) ls (lv_sub hl [2, 3, 1, 0] rfl)
                  · have t_131 := mt (fa_eq _ _).mpr c_131
                    refine lv_iconst (v := 0) hx hb dX9_differs_134 (by decide) ?_
                    refine lv_goto (tgt := 139) hx hb dX9_differs_135 (by decide) ?_
                    refine lv_iadd hx hb dX9_differs_139 ?_
                    refine lv_topi (fun y_9 ey_9 => ?_)
                    refine lv_istore_n (lv' := [(2, .int y_9), (0, .ref h0), (1, .int p1), (3, .int t3), (4, .int l4), (5, .int k5)]) hx hb dX9_differs_140 rfl hl (by decide) rfl (fun ls hl => ?_)
                    obtain ⟨y_10, ey_10⟩ : ∃ y : Int32, y = t3 + 1 := ⟨_, rfl⟩
                    have ty_10 : y_10.toInt = t3.toInt + 1 := by rw [ey_10]; have := fb_addI (x := t3) (y := 1) (by omega) (by omega); omega
                    refine lv_iinc (v := y_10) (lv' := [(3, .int y_10), (2, .int y_9), (0, .ref h0), (1, .int p1), (4, .int l4), (5, .int k5)]) hx hb dX9_differs_141 hl (k := 3) rfl (by rw [ey_10]; rfl) (by decide) rfl (fun ls hl => ?_)
                    refine lv_goto (tgt := 29) hx hb dX9_differs_144 (by decide) ?_
                    exact ih_29 y_9 y_10 (by omega) (by omega) (by omega) ls (lv_sub hl [2, 3, 1, 0] rfl)
                · have t_84 := mt (fa_eq _ _).mpr c_84
                  refine lv_aload_n hx hb dX9_differs_87 rfl (lv_at hl 0 rfl) ?_
                  refine va_get (D := (dC, dI)) (ci := 9) (v := .ref a10) (C := RX9) (T := TX9) (N := 22) hx hb hts in_X9_differs_X9 hown hK hP 0 rfl rfl 15 (by decide) (hts (.fieldLink RX9 45 "MeetingsAboveModel" "shelf" "[I") (by decide +kernel)) (fun _ h9 => h9) rfl dX9_differs_88 ?_
                  refine lv_sipush (v := 640) hx hb dX9_differs_91 (by decide) ?_
                  refine lv_iload_n hx hb dX9_differs_94 rfl (lv_at hl 1 rfl) ?_
                  refine lv_imul hx hb dX9_differs_95 ?_
                  refine lv_topi (fun y_11 ey_11 => ?_)
                  have ty_11 : y_11.toInt = 640 * p1.toInt := by rw [ey_11]; exact fm_lI kl_640 (by omega) (by omega)
                  refine lv_bipush (v := 40) hx hb dX9_differs_96 (by decide) ?_
                  refine lv_iload_n hx hb dX9_differs_98 rfl (lv_at hl 3 rfl) ?_
                  refine lv_imul hx hb dX9_differs_99 ?_
                  refine lv_topi (fun y_12 ey_12 => ?_)
                  have ty_12 : y_12.toInt = 40 * t3.toInt := by rw [ey_12]; exact fm_lI kl_40 (by omega) (by omega)
                  refine lv_iadd hx hb dX9_differs_100 ?_
                  refine lv_topi (fun y_13 ey_13 => ?_)
                  have ty_13 : y_13.toInt = y_11.toInt + y_12.toInt := by rw [ey_13]; have := fb_addI (x := y_11) (y := y_12) (by omega) (by omega); omega
                  refine lv_iload hx hb dX9_differs_101 (lv_at hl 5 rfl) ?_
                  refine lv_iadd hx hb dX9_differs_103 ?_
                  refine lv_topi (fun y_14 ey_14 => ?_)
                  have ty_14 : y_14.toInt = y_13.toInt + k5.toInt := by rw [ey_14]; have := fb_addI (x := y_13) (y := k5) (by omega) (by omega); omega
                  refine va_iald hx hb hK hP 7 0 rfl rfl (vp_in_iff.mpr ⟨by omega, by omega⟩) dX9_differs_104 ?_
                  refine lv_topi (fun y_15 ey_15 => ?_)
                  refine lv_aload_n hx hb dX9_differs_105 rfl (lv_at hl 0 rfl) ?_
                  refine lv_iload_n hx hb dX9_differs_106 rfl (lv_at hl 3 rfl) ?_
                  refine lv_iload hx hb dX9_differs_107 (lv_at hl 5 rfl) ?_
                  have hPc := hP.sub (ws' := [(h0, .inr (9, [.int th, .ref a1, .ref a2, .ref a3, .ref a4, .ref a5, .int ne, .int wi, .int dn, .ref a6, .ref a7, .int nn, .ref a8, .int la, .ref a9, .ref a10, .long up, .long lw, .int wh, .long pu, .long pw, .ref a11])), (a1, .inl (cI, 16, .inl Fi)), (a2, .inl (cI, 16, .inl Ma)), (a3, .inl (cI, 16, .inl Db)), (a4, .inl (cZ, 16, .inl Go)), (a5, .inl (cI, 576, .inl Sp))]) [0, 1, 2, 3, 4, 5] rfl
                  have hKc := hK.sub (tys' := [(cI, .int), (cZ, .boolean)]) [0, 1] rfl
                  refine vp_callSi (W.runV (As := [.int t3, .int k5]) (rest := [.int y_15]) ⟨hx, hb, hml, hown, hts⟩ (c_X9_numberOf l dC dI h0 a1 a2 a3 a4 a5 a6 a7 a8 a9 a10 a11 th ne wi dn nn la wh up lw pu pw cI cZ Fi Ma Db Go Sp t3 k5 (by first | assumption | omega) (by first | omega | assumption) (by first | omega | assumption) (by first | omega | assumption) (by first | omega | assumption)) (cwV 2 hts g_X9_differs__X9_numberOf_198 rfl rfl rfl (by decide +kernel) ⟨Nat.le_of_ble_eq_true rfl, Nat.le_of_ble_eq_true rfl⟩) ⟨fun a U g mk q => by obtain ⟨q0, qP, qK⟩ := q; exact ⟨q0, qP, va_K.moved (u := U) (U := U.calling g mk a) (Vm.Alike.refl U.vm) qK⟩, va_recv hKc hPc (ci := 9) (q0 := 0) rfl rfl, fun U hU hW => ⟨rfl, by rw [hU]; exact hPc, va_K.moved hW.alike hKc⟩⟩ rfl rfl hl.1 rfl (lv_room (Nat.le_of_ble_eq_true rfl)) dX9_differs_109 ⟨Nat.le_of_ble_eq_true rfl, Nat.le_of_ble_eq_true rfl⟩) (fun r_16 hr_16 => ?_)
                  try dsimp only at hr_16
                  refine lv_icmp_ne (tgt := 119) hx hb dX9_differs_112 (by decide) (fun c_112 => ?_) (fun c_112 => ?_)
                  · have t_112 := mt (fa_eq _ _).mpr c_112
                    refine lv_iconst (v := 0) hx hb dX9_differs_119 (by decide) ?_
                    refine lv_istore (lv' := [(4, .int 0), (0, .ref h0), (1, .int p1), (2, .int n2), (3, .int t3), (5, .int k5)]) hx hb dX9_differs_120 hl (by decide) rfl (fun ls hl => ?_)
                    obtain ⟨y_17, ey_17⟩ : ∃ y : Int32, y = k5 + 1 := ⟨_, rfl⟩
                    have ty_17 : y_17.toInt = k5.toInt + 1 := by rw [ey_17]; have := fb_addI (x := k5) (y := 1) (by omega) (by omega); omega
                    refine lv_iinc (v := y_17) (lv' := [(5, .int y_17), (4, .int 0), (0, .ref h0), (1, .int p1), (2, .int n2), (3, .int t3)]) hx hb dX9_differs_122 hl (k := 5) rfl (by rw [ey_17]; rfl) (by decide) rfl (fun ls hl => ?_)
                    refine lv_goto (tgt := 75) hx hb dX9_differs_125 (by decide) ?_
                    exact ih_75 0 y_17 (by omega) (by omega) (by omega) (by omega) ls (lv_sub hl [2, 3, 4, 5, 1, 0] rfl)
                  · have t_112 := (fa_eq _ _).mp c_112
                    refine lv_iconst (v := 1) hx hb dX9_differs_115 (by decide) ?_
                    refine lv_goto (tgt := 120) hx hb dX9_differs_116 (by decide) ?_
                    refine lv_istore (lv' := [(4, .int 1), (0, .ref h0), (1, .int p1), (2, .int n2), (3, .int t3), (5, .int k5)]) hx hb dX9_differs_120 hl (by decide) rfl (fun ls hl => ?_)
                    obtain ⟨y_18, ey_18⟩ : ∃ y : Int32, y = k5 + 1 := ⟨_, rfl⟩
                    have ty_18 : y_18.toInt = k5.toInt + 1 := by rw [ey_18]; have := fb_addI (x := k5) (y := 1) (by omega) (by omega); omega
                    refine lv_iinc (v := y_18) (lv' := [(5, .int y_18), (4, .int 1), (0, .ref h0), (1, .int p1), (2, .int n2), (3, .int t3)]) hx hb dX9_differs_122 hl (k := 5) rfl (by rw [ey_18]; rfl) (by decide) rfl (fun ls hl => ?_)
                    refine lv_goto (tgt := 75) hx hb dX9_differs_125 (by decide) ?_
                    exact ih_75 1 y_18 (by omega) (by omega) (by omega) (by omega) ls (lv_sub hl [2, 3, 4, 5, 1, 0] rfl)
          · have t_52 := mt (fa_le _ _).mpr c_52
            refine lv_iload_n hx hb dX9_differs_55 rfl (lv_at hl 3 rfl) ?_
            refine lv_aload_n hx hb dX9_differs_56 rfl (lv_at hl 0 rfl) ?_
            refine va_get (D := (dC, dI)) (ci := 9) (v := .ref a9) (C := RX9) (T := TX9) (N := 22) hx hb hts in_X9_differs_X9 hown hK hP 0 rfl rfl 14 (by decide) (hts (.fieldLink RX9 42 "MeetingsAboveModel" "shelfMany" "[I") (by decide +kernel)) (fun _ h9 => h9) rfl dX9_differs_57 ?_
            refine lv_iload_n hx hb dX9_differs_60 rfl (lv_at hl 1 rfl) ?_
            refine va_iald hx hb hK hP 6 0 rfl rfl (vp_in_iff.mpr ⟨by omega, by omega⟩) dX9_differs_61 ?_
            refine lv_topi (fun y_19 ey_19 => ?_)
            have uy_19 : y_19.toInt = (Sm (p1 : Int32).toNatClampNeg).toInt := by rw [ey_19]
            have ny_19 : (((p1 : Int32).toNatClampNeg : Nat) : Int) = (p1 : Int32).toInt := tc_I (by omega)
            have sy_19 := hSm (p1 : Int32).toNatClampNeg (by omega)
            refine lv_icmp_ge (tgt := 69) hx hb dX9_differs_62 (by decide) (fun c_62 => ?_) (fun c_62 => ?_)
            · have t_62 := (fa_le _ _).mp c_62
              refine lv_iconst (v := 0) hx hb dX9_differs_69 (by decide) ?_
              refine lv_istore (lv' := [(4, .int 0), (0, .ref h0), (1, .int p1), (2, .int n2), (3, .int t3)]) hx hb dX9_differs_70 hl (by decide) rfl (fun ls hl => ?_)
              refine lv_iconst (v := 0) hx hb dX9_differs_72 (by decide) ?_
              refine lv_istore (lv' := [(5, .int 0), (4, .int 0), (0, .ref h0), (1, .int p1), (2, .int n2), (3, .int t3)]) hx hb dX9_differs_73 hl (by decide) rfl (fun ls hl => ?_)
              refine (show ∀ (k : Nat) (l4 : Int32) (k5 : Int32) (hk0 : 0 ≤ k5.toInt) (hk1 : k5.toInt ≤ 40) (hl4 : l4.toInt ≠ 0 → t3.toInt < th.toInt) (hk_75 : (40 - k5.toInt).toNat < k) (ls : Array Slot) (hl : lv_has ls 6 [(0, .ref h0), (1, .int p1), (2, .int n2), (3, .int t3), (4, .int l4), (5, .int k5)]), W p l e _ s m _ below meth c s.heap [] 0 0 _ (F0 m 75 ls []) from ?_) _ 0 0 (by omega) (by omega) (by omega) (Nat.lt_succ_self _) ls (lv_sub hl [2, 3, 4, 5, 1, 0] rfl)
              intro k
              induction k with
              | zero => intro l4 k5 hk0 hk1 hl4 hk_75; exact absurd hk_75 (Nat.not_lt_zero _)
              | succ k ih_75 =>
                intro l4 k5 hk0 hk1 hl4 hk_75 ls hl
                refine lv_iload hx hb dX9_differs_75 (lv_at hl 5 rfl) ?_
                refine lv_bipush (v := 40) hx hb dX9_differs_77 (by decide) ?_
                refine lv_icmp_ge (tgt := 128) hx hb dX9_differs_79 (by decide) (fun c_79 => ?_) (fun c_79 => ?_)
                · have t_79 := (fa_le _ _).mp c_79
                  refine lv_iload_n hx hb dX9_differs_128 rfl (lv_at hl 2 rfl) ?_
                  refine lv_iload hx hb dX9_differs_129 (lv_at hl 4 rfl) ?_
                  refine lv_if_eq (tgt := 138) hx hb dX9_differs_131 (by decide) (fun c_131 => ?_) (fun c_131 => ?_)
                  · have t_131 := (fa_eq _ _).mp c_131
                    refine lv_iconst (v := 1) hx hb dX9_differs_138 (by decide) ?_
                    refine lv_iadd hx hb dX9_differs_139 ?_
                    refine lv_topi (fun y_20 ey_20 => ?_)
                    refine lv_istore_n (lv' := [(2, .int y_20), (0, .ref h0), (1, .int p1), (3, .int t3), (4, .int l4), (5, .int k5)]) hx hb dX9_differs_140 rfl hl (by decide) rfl (fun ls hl => ?_)
                    obtain ⟨y_21, ey_21⟩ : ∃ y : Int32, y = t3 + 1 := ⟨_, rfl⟩
                    have ty_21 : y_21.toInt = t3.toInt + 1 := by rw [ey_21]; have := fb_addI (x := t3) (y := 1) (by omega) (by omega); omega
                    refine lv_iinc (v := y_21) (lv' := [(3, .int y_21), (2, .int y_20), (0, .ref h0), (1, .int p1), (4, .int l4), (5, .int k5)]) hx hb dX9_differs_141 hl (k := 3) rfl (by rw [ey_21]; rfl) (by decide) rfl (fun ls hl => ?_)
                    refine lv_goto (tgt := 29) hx hb dX9_differs_144 (by decide) ?_
                    exact ih_29 y_20 y_21 (by omega) (by omega) (by omega) ls (lv_sub hl [2, 3, 1, 0] rfl)
                  · have t_131 := mt (fa_eq _ _).mpr c_131
                    refine lv_iconst (v := 0) hx hb dX9_differs_134 (by decide) ?_
                    refine lv_goto (tgt := 139) hx hb dX9_differs_135 (by decide) ?_
                    refine lv_iadd hx hb dX9_differs_139 ?_
                    refine lv_topi (fun y_22 ey_22 => ?_)
                    refine lv_istore_n (lv' := [(2, .int y_22), (0, .ref h0), (1, .int p1), (3, .int t3), (4, .int l4), (5, .int k5)]) hx hb dX9_differs_140 rfl hl (by decide) rfl (fun ls hl => ?_)
                    obtain ⟨y_23, ey_23⟩ : ∃ y : Int32, y = t3 + 1 := ⟨_, rfl⟩
                    have ty_23 : y_23.toInt = t3.toInt + 1 := by rw [ey_23]; have := fb_addI (x := t3) (y := 1) (by omega) (by omega); omega
                    refine lv_iinc (v := y_23) (lv' := [(3, .int y_23), (2, .int y_22), (0, .ref h0), (1, .int p1), (4, .int l4), (5, .int k5)]) hx hb dX9_differs_141 hl (k := 3) rfl (by rw [ey_23]; rfl) (by decide) rfl (fun ls hl => ?_)
                    refine lv_goto (tgt := 29) hx hb dX9_differs_144 (by decide) ?_
                    exact ih_29 y_22 y_23 (by omega) (by omega) (by omega) ls (lv_sub hl [2, 3, 1, 0] rfl)
                · have t_79 := mt (fa_le _ _).mpr c_79
                  refine lv_iload hx hb dX9_differs_82 (lv_at hl 4 rfl) ?_
                  refine lv_if_eq (tgt := 128) hx hb dX9_differs_84 (by decide) (fun c_84 => ?_) (fun c_84 => ?_)
                  · have t_84 := (fa_eq _ _).mp c_84
                    refine lv_iload_n hx hb dX9_differs_128 rfl (lv_at hl 2 rfl) ?_
                    refine lv_iload hx hb dX9_differs_129 (lv_at hl 4 rfl) ?_
                    refine lv_if_eq (tgt := 138) hx hb dX9_differs_131 (by decide) (fun c_131 => ?_) (fun c_131 => ?_)
                    · have t_131 := (fa_eq _ _).mp c_131
                      refine lv_iconst (v := 1) hx hb dX9_differs_138 (by decide) ?_
                      refine lv_iadd hx hb dX9_differs_139 ?_
                      refine lv_topi (fun y_24 ey_24 => ?_)
                      refine lv_istore_n (lv' := [(2, .int y_24), (0, .ref h0), (1, .int p1), (3, .int t3), (4, .int l4), (5, .int k5)]) hx hb dX9_differs_140 rfl hl (by decide) rfl (fun ls hl => ?_)
                      obtain ⟨y_25, ey_25⟩ : ∃ y : Int32, y = t3 + 1 := ⟨_, rfl⟩
                      have ty_25 : y_25.toInt = t3.toInt + 1 := by rw [ey_25]; have := fb_addI (x := t3) (y := 1) (by omega) (by omega); omega
                      refine lv_iinc (v := y_25) (lv' := [(3, .int y_25), (2, .int y_24), (0, .ref h0), (1, .int p1), (4, .int l4), (5, .int k5)]) hx hb dX9_differs_141 hl (k := 3) rfl (by rw [ey_25]; rfl) (by decide) rfl (fun ls hl => ?_)
                      refine lv_goto (tgt := 29) hx hb dX9_differs_144 (by decide) ?_
                      exact ih_29 y_24 y_25 (by omega) (by omega) (by omega) ls (lv_sub hl [2, 3, 1, 0] rfl)
                    · have t_131 := mt (fa_eq _ _).mpr c_131
                      refine lv_iconst (v := 0) hx hb dX9_differs_134 (by decide) ?_
                      refine lv_goto (tgt := 139) hx hb dX9_differs_135 (by decide) ?_
                      refine lv_iadd hx hb dX9_differs_139 ?_
                      refine lv_topi (fun y_26 ey_26 => ?_)
                      refine lv_istore_n (lv' := [(2, .int y_26), (0, .ref h0), (1, .int p1), (3, .int t3), (4, .int l4), (5, .int k5)]) hx hb dX9_differs_140 rfl hl (by decide) rfl (fun ls hl => ?_)
                      obtain ⟨y_27, ey_27⟩ : ∃ y : Int32, y = t3 + 1 := ⟨_, rfl⟩
                      have ty_27 : y_27.toInt = t3.toInt + 1 := by rw [ey_27]; have := fb_addI (x := t3) (y := 1) (by omega) (by omega); omega
                      refine lv_iinc (v := y_27) (lv' := [(3, .int y_27), (2, .int y_26), (0, .ref h0), (1, .int p1), (4, .int l4), (5, .int k5)]) hx hb dX9_differs_141 hl (k := 3) rfl (by rw [ey_27]; rfl) (by decide) rfl (fun ls hl => ?_)
                      refine lv_goto (tgt := 29) hx hb dX9_differs_144 (by decide) ?_
                      exact ih_29 y_26 y_27 (by omega) (by omega) (by omega) ls (lv_sub hl [2, 3, 1, 0] rfl)
                  · have t_84 := mt (fa_eq _ _).mpr c_84
                    refine lv_aload_n hx hb dX9_differs_87 rfl (lv_at hl 0 rfl) ?_
                    refine va_get (D := (dC, dI)) (ci := 9) (v := .ref a10) (C := RX9) (T := TX9) (N := 22) hx hb hts in_X9_differs_X9 hown hK hP 0 rfl rfl 15 (by decide) (hts (.fieldLink RX9 45 "MeetingsAboveModel" "shelf" "[I") (by decide +kernel)) (fun _ h9 => h9) rfl dX9_differs_88 ?_
                    refine lv_sipush (v := 640) hx hb dX9_differs_91 (by decide) ?_
                    refine lv_iload_n hx hb dX9_differs_94 rfl (lv_at hl 1 rfl) ?_
                    refine lv_imul hx hb dX9_differs_95 ?_
                    refine lv_topi (fun y_28 ey_28 => ?_)
                    have ty_28 : y_28.toInt = 640 * p1.toInt := by rw [ey_28]; exact fm_lI kl_640 (by omega) (by omega)
                    refine lv_bipush (v := 40) hx hb dX9_differs_96 (by decide) ?_
                    refine lv_iload_n hx hb dX9_differs_98 rfl (lv_at hl 3 rfl) ?_
                    refine lv_imul hx hb dX9_differs_99 ?_
                    refine lv_topi (fun y_29 ey_29 => ?_)
                    have ty_29 : y_29.toInt = 40 * t3.toInt := by rw [ey_29]; exact fm_lI kl_40 (by omega) (by omega)
                    refine lv_iadd hx hb dX9_differs_100 ?_
                    refine lv_topi (fun y_30 ey_30 => ?_)
                    have ty_30 : y_30.toInt = y_28.toInt + y_29.toInt := by rw [ey_30]; have := fb_addI (x := y_28) (y := y_29) (by omega) (by omega); omega
                    refine lv_iload hx hb dX9_differs_101 (lv_at hl 5 rfl) ?_
                    refine lv_iadd hx hb dX9_differs_103 ?_
                    refine lv_topi (fun y_31 ey_31 => ?_)
                    have ty_31 : y_31.toInt = y_30.toInt + k5.toInt := by rw [ey_31]; have := fb_addI (x := y_30) (y := k5) (by omega) (by omega); omega
                    refine va_iald hx hb hK hP 7 0 rfl rfl (vp_in_iff.mpr ⟨by omega, by omega⟩) dX9_differs_104 ?_
                    refine lv_topi (fun y_32 ey_32 => ?_)
                    refine lv_aload_n hx hb dX9_differs_105 rfl (lv_at hl 0 rfl) ?_
                    refine lv_iload_n hx hb dX9_differs_106 rfl (lv_at hl 3 rfl) ?_
                    refine lv_iload hx hb dX9_differs_107 (lv_at hl 5 rfl) ?_
                    have hPc := hP.sub (ws' := [(h0, .inr (9, [.int th, .ref a1, .ref a2, .ref a3, .ref a4, .ref a5, .int ne, .int wi, .int dn, .ref a6, .ref a7, .int nn, .ref a8, .int la, .ref a9, .ref a10, .long up, .long lw, .int wh, .long pu, .long pw, .ref a11])), (a1, .inl (cI, 16, .inl Fi)), (a2, .inl (cI, 16, .inl Ma)), (a3, .inl (cI, 16, .inl Db)), (a4, .inl (cZ, 16, .inl Go)), (a5, .inl (cI, 576, .inl Sp))]) [0, 1, 2, 3, 4, 5] rfl
                    have hKc := hK.sub (tys' := [(cI, .int), (cZ, .boolean)]) [0, 1] rfl
                    refine vp_callSi (W.runV (As := [.int t3, .int k5]) (rest := [.int y_32]) ⟨hx, hb, hml, hown, hts⟩ (c_X9_numberOf l dC dI h0 a1 a2 a3 a4 a5 a6 a7 a8 a9 a10 a11 th ne wi dn nn la wh up lw pu pw cI cZ Fi Ma Db Go Sp t3 k5 (by first | assumption | omega) (by first | omega | assumption) (by first | omega | assumption) (by first | omega | assumption) (by first | omega | assumption)) (cwV 2 hts g_X9_differs__X9_numberOf_198 rfl rfl rfl (by decide +kernel) ⟨Nat.le_of_ble_eq_true rfl, Nat.le_of_ble_eq_true rfl⟩) ⟨fun a U g mk q => by obtain ⟨q0, qP, qK⟩ := q; exact ⟨q0, qP, va_K.moved (u := U) (U := U.calling g mk a) (Vm.Alike.refl U.vm) qK⟩, va_recv hKc hPc (ci := 9) (q0 := 0) rfl rfl, fun U hU hW => ⟨rfl, by rw [hU]; exact hPc, va_K.moved hW.alike hKc⟩⟩ rfl rfl hl.1 rfl (lv_room (Nat.le_of_ble_eq_true rfl)) dX9_differs_109 ⟨Nat.le_of_ble_eq_true rfl, Nat.le_of_ble_eq_true rfl⟩) (fun r_33 hr_33 => ?_)
                    try dsimp only at hr_33
                    refine lv_icmp_ne (tgt := 119) hx hb dX9_differs_112 (by decide) (fun c_112 => ?_) (fun c_112 => ?_)
                    · have t_112 := mt (fa_eq _ _).mpr c_112
                      refine lv_iconst (v := 0) hx hb dX9_differs_119 (by decide) ?_
                      refine lv_istore (lv' := [(4, .int 0), (0, .ref h0), (1, .int p1), (2, .int n2), (3, .int t3), (5, .int k5)]) hx hb dX9_differs_120 hl (by decide) rfl (fun ls hl => ?_)
                      obtain ⟨y_34, ey_34⟩ : ∃ y : Int32, y = k5 + 1 := ⟨_, rfl⟩
                      have ty_34 : y_34.toInt = k5.toInt + 1 := by rw [ey_34]; have := fb_addI (x := k5) (y := 1) (by omega) (by omega); omega
                      refine lv_iinc (v := y_34) (lv' := [(5, .int y_34), (4, .int 0), (0, .ref h0), (1, .int p1), (2, .int n2), (3, .int t3)]) hx hb dX9_differs_122 hl (k := 5) rfl (by rw [ey_34]; rfl) (by decide) rfl (fun ls hl => ?_)
                      refine lv_goto (tgt := 75) hx hb dX9_differs_125 (by decide) ?_
                      exact ih_75 0 y_34 (by omega) (by omega) (by omega) (by omega) ls (lv_sub hl [2, 3, 4, 5, 1, 0] rfl)
                    · have t_112 := (fa_eq _ _).mp c_112
                      refine lv_iconst (v := 1) hx hb dX9_differs_115 (by decide) ?_
                      refine lv_goto (tgt := 120) hx hb dX9_differs_116 (by decide) ?_
                      refine lv_istore (lv' := [(4, .int 1), (0, .ref h0), (1, .int p1), (2, .int n2), (3, .int t3), (5, .int k5)]) hx hb dX9_differs_120 hl (by decide) rfl (fun ls hl => ?_)
                      obtain ⟨y_35, ey_35⟩ : ∃ y : Int32, y = k5 + 1 := ⟨_, rfl⟩
                      have ty_35 : y_35.toInt = k5.toInt + 1 := by rw [ey_35]; have := fb_addI (x := k5) (y := 1) (by omega) (by omega); omega
                      refine lv_iinc (v := y_35) (lv' := [(5, .int y_35), (4, .int 1), (0, .ref h0), (1, .int p1), (2, .int n2), (3, .int t3)]) hx hb dX9_differs_122 hl (k := 5) rfl (by rw [ey_35]; rfl) (by decide) rfl (fun ls hl => ?_)
                      refine lv_goto (tgt := 75) hx hb dX9_differs_125 (by decide) ?_
                      exact ih_75 1 y_35 (by omega) (by omega) (by omega) (by omega) ls (lv_sub hl [2, 3, 4, 5, 1, 0] rfl)
            · have t_62 := mt (fa_le _ _).mpr c_62
              refine lv_iconst (v := 1) hx hb dX9_differs_65 (by decide) ?_
              refine lv_goto (tgt := 70) hx hb dX9_differs_66 (by decide) ?_
              refine lv_istore (lv' := [(4, .int 1), (0, .ref h0), (1, .int p1), (2, .int n2), (3, .int t3)]) hx hb dX9_differs_70 hl (by decide) rfl (fun ls hl => ?_)
              refine lv_iconst (v := 0) hx hb dX9_differs_72 (by decide) ?_
              refine lv_istore (lv' := [(5, .int 0), (4, .int 1), (0, .ref h0), (1, .int p1), (2, .int n2), (3, .int t3)]) hx hb dX9_differs_73 hl (by decide) rfl (fun ls hl => ?_)
              refine (show ∀ (k : Nat) (l4 : Int32) (k5 : Int32) (hk0 : 0 ≤ k5.toInt) (hk1 : k5.toInt ≤ 40) (hl4 : l4.toInt ≠ 0 → t3.toInt < th.toInt) (hk_75 : (40 - k5.toInt).toNat < k) (ls : Array Slot) (hl : lv_has ls 6 [(0, .ref h0), (1, .int p1), (2, .int n2), (3, .int t3), (4, .int l4), (5, .int k5)]), W p l e _ s m _ below meth c s.heap [] 0 0 _ (F0 m 75 ls []) from ?_) _ 1 0 (by omega) (by omega) (by omega) (Nat.lt_succ_self _) ls (lv_sub hl [2, 3, 4, 5, 1, 0] rfl)
              intro k
              induction k with
              | zero => intro l4 k5 hk0 hk1 hl4 hk_75; exact absurd hk_75 (Nat.not_lt_zero _)
              | succ k ih_75 =>
                intro l4 k5 hk0 hk1 hl4 hk_75 ls hl
                refine lv_iload hx hb dX9_differs_75 (lv_at hl 5 rfl) ?_
                refine lv_bipush (v := 40) hx hb dX9_differs_77 (by decide) ?_
                refine lv_icmp_ge (tgt := 128) hx hb dX9_differs_79 (by decide) (fun c_79 => ?_) (fun c_79 => ?_)
                · have t_79 := (fa_le _ _).mp c_79
                  refine lv_iload_n hx hb dX9_differs_128 rfl (lv_at hl 2 rfl) ?_
                  refine lv_iload hx hb dX9_differs_129 (lv_at hl 4 rfl) ?_
                  refine lv_if_eq (tgt := 138) hx hb dX9_differs_131 (by decide) (fun c_131 => ?_) (fun c_131 => ?_)
                  · have t_131 := (fa_eq _ _).mp c_131
                    refine lv_iconst (v := 1) hx hb dX9_differs_138 (by decide) ?_
                    refine lv_iadd hx hb dX9_differs_139 ?_
                    refine lv_topi (fun y_36 ey_36 => ?_)
                    refine lv_istore_n (lv' := [(2, .int y_36), (0, .ref h0), (1, .int p1), (3, .int t3), (4, .int l4), (5, .int k5)]) hx hb dX9_differs_140 rfl hl (by decide) rfl (fun ls hl => ?_)
                    obtain ⟨y_37, ey_37⟩ : ∃ y : Int32, y = t3 + 1 := ⟨_, rfl⟩
                    have ty_37 : y_37.toInt = t3.toInt + 1 := by rw [ey_37]; have := fb_addI (x := t3) (y := 1) (by omega) (by omega); omega
                    refine lv_iinc (v := y_37) (lv' := [(3, .int y_37), (2, .int y_36), (0, .ref h0), (1, .int p1), (4, .int l4), (5, .int k5)]) hx hb dX9_differs_141 hl (k := 3) rfl (by rw [ey_37]; rfl) (by decide) rfl (fun ls hl => ?_)
                    refine lv_goto (tgt := 29) hx hb dX9_differs_144 (by decide) ?_
                    exact ih_29 y_36 y_37 (by omega) (by omega) (by omega) ls (lv_sub hl [2, 3, 1, 0] rfl)
                  · have t_131 := mt (fa_eq _ _).mpr c_131
                    refine lv_iconst (v := 0) hx hb dX9_differs_134 (by decide) ?_
                    refine lv_goto (tgt := 139) hx hb dX9_differs_135 (by decide) ?_
                    refine lv_iadd hx hb dX9_differs_139 ?_
                    refine lv_topi (fun y_38 ey_38 => ?_)
                    refine lv_istore_n (lv' := [(2, .int y_38), (0, .ref h0), (1, .int p1), (3, .int t3), (4, .int l4), (5, .int k5)]) hx hb dX9_differs_140 rfl hl (by decide) rfl (fun ls hl => ?_)
                    obtain ⟨y_39, ey_39⟩ : ∃ y : Int32, y = t3 + 1 := ⟨_, rfl⟩
                    have ty_39 : y_39.toInt = t3.toInt + 1 := by rw [ey_39]; have := fb_addI (x := t3) (y := 1) (by omega) (by omega); omega
                    refine lv_iinc (v := y_39) (lv' := [(3, .int y_39), (2, .int y_38), (0, .ref h0), (1, .int p1), (4, .int l4), (5, .int k5)]) hx hb dX9_differs_141 hl (k := 3) rfl (by rw [ey_39]; rfl) (by decide) rfl (fun ls hl => ?_)
                    refine lv_goto (tgt := 29) hx hb dX9_differs_144 (by decide) ?_
                    exact ih_29 y_38 y_39 (by omega) (by omega) (by omega) ls (lv_sub hl [2, 3, 1, 0] rfl)
                · have t_79 := mt (fa_le _ _).mpr c_79
                  refine lv_iload hx hb dX9_differs_82 (lv_at hl 4 rfl) ?_
                  refine lv_if_eq (tgt := 128) hx hb dX9_differs_84 (by decide) (fun c_84 => ?_) (fun c_84 => ?_)
                  · have t_84 := (fa_eq _ _).mp c_84
                    refine lv_iload_n hx hb dX9_differs_128 rfl (lv_at hl 2 rfl) ?_
                    refine lv_iload hx hb dX9_differs_129 (lv_at hl 4 rfl) ?_
                    refine lv_if_eq (tgt := 138) hx hb dX9_differs_131 (by decide) (fun c_131 => ?_) (fun c_131 => ?_)
                    · have t_131 := (fa_eq _ _).mp c_131
                      refine lv_iconst (v := 1) hx hb dX9_differs_138 (by decide) ?_
                      refine lv_iadd hx hb dX9_differs_139 ?_
                      refine lv_topi (fun y_40 ey_40 => ?_)
                      refine lv_istore_n (lv' := [(2, .int y_40), (0, .ref h0), (1, .int p1), (3, .int t3), (4, .int l4), (5, .int k5)]) hx hb dX9_differs_140 rfl hl (by decide) rfl (fun ls hl => ?_)
                      obtain ⟨y_41, ey_41⟩ : ∃ y : Int32, y = t3 + 1 := ⟨_, rfl⟩
                      have ty_41 : y_41.toInt = t3.toInt + 1 := by rw [ey_41]; have := fb_addI (x := t3) (y := 1) (by omega) (by omega); omega
                      refine lv_iinc (v := y_41) (lv' := [(3, .int y_41), (2, .int y_40), (0, .ref h0), (1, .int p1), (4, .int l4), (5, .int k5)]) hx hb dX9_differs_141 hl (k := 3) rfl (by rw [ey_41]; rfl) (by decide) rfl (fun ls hl => ?_)
                      refine lv_goto (tgt := 29) hx hb dX9_differs_144 (by decide) ?_
                      exact ih_29 y_40 y_41 (by omega) (by omega) (by omega) ls (lv_sub hl [2, 3, 1, 0] rfl)
                    · have t_131 := mt (fa_eq _ _).mpr c_131
                      refine lv_iconst (v := 0) hx hb dX9_differs_134 (by decide) ?_
                      refine lv_goto (tgt := 139) hx hb dX9_differs_135 (by decide) ?_
                      refine lv_iadd hx hb dX9_differs_139 ?_
                      refine lv_topi (fun y_42 ey_42 => ?_)
                      refine lv_istore_n (lv' := [(2, .int y_42), (0, .ref h0), (1, .int p1), (3, .int t3), (4, .int l4), (5, .int k5)]) hx hb dX9_differs_140 rfl hl (by decide) rfl (fun ls hl => ?_)
                      obtain ⟨y_43, ey_43⟩ : ∃ y : Int32, y = t3 + 1 := ⟨_, rfl⟩
                      have ty_43 : y_43.toInt = t3.toInt + 1 := by rw [ey_43]; have := fb_addI (x := t3) (y := 1) (by omega) (by omega); omega
                      refine lv_iinc (v := y_43) (lv' := [(3, .int y_43), (2, .int y_42), (0, .ref h0), (1, .int p1), (4, .int l4), (5, .int k5)]) hx hb dX9_differs_141 hl (k := 3) rfl (by rw [ey_43]; rfl) (by decide) rfl (fun ls hl => ?_)
                      refine lv_goto (tgt := 29) hx hb dX9_differs_144 (by decide) ?_
                      exact ih_29 y_42 y_43 (by omega) (by omega) (by omega) ls (lv_sub hl [2, 3, 1, 0] rfl)
                  · have t_84 := mt (fa_eq _ _).mpr c_84
                    refine lv_aload_n hx hb dX9_differs_87 rfl (lv_at hl 0 rfl) ?_
                    refine va_get (D := (dC, dI)) (ci := 9) (v := .ref a10) (C := RX9) (T := TX9) (N := 22) hx hb hts in_X9_differs_X9 hown hK hP 0 rfl rfl 15 (by decide) (hts (.fieldLink RX9 45 "MeetingsAboveModel" "shelf" "[I") (by decide +kernel)) (fun _ h9 => h9) rfl dX9_differs_88 ?_
                    refine lv_sipush (v := 640) hx hb dX9_differs_91 (by decide) ?_
                    refine lv_iload_n hx hb dX9_differs_94 rfl (lv_at hl 1 rfl) ?_
                    refine lv_imul hx hb dX9_differs_95 ?_
                    refine lv_topi (fun y_44 ey_44 => ?_)
                    have ty_44 : y_44.toInt = 640 * p1.toInt := by rw [ey_44]; exact fm_lI kl_640 (by omega) (by omega)
                    refine lv_bipush (v := 40) hx hb dX9_differs_96 (by decide) ?_
                    refine lv_iload_n hx hb dX9_differs_98 rfl (lv_at hl 3 rfl) ?_
                    refine lv_imul hx hb dX9_differs_99 ?_
                    refine lv_topi (fun y_45 ey_45 => ?_)
                    have ty_45 : y_45.toInt = 40 * t3.toInt := by rw [ey_45]; exact fm_lI kl_40 (by omega) (by omega)
                    refine lv_iadd hx hb dX9_differs_100 ?_
                    refine lv_topi (fun y_46 ey_46 => ?_)
                    have ty_46 : y_46.toInt = y_44.toInt + y_45.toInt := by rw [ey_46]; have := fb_addI (x := y_44) (y := y_45) (by omega) (by omega); omega
                    refine lv_iload hx hb dX9_differs_101 (lv_at hl 5 rfl) ?_
                    refine lv_iadd hx hb dX9_differs_103 ?_
                    refine lv_topi (fun y_47 ey_47 => ?_)
                    have ty_47 : y_47.toInt = y_46.toInt + k5.toInt := by rw [ey_47]; have := fb_addI (x := y_46) (y := k5) (by omega) (by omega); omega
                    refine va_iald hx hb hK hP 7 0 rfl rfl (vp_in_iff.mpr ⟨by omega, by omega⟩) dX9_differs_104 ?_
                    refine lv_topi (fun y_48 ey_48 => ?_)
                    refine lv_aload_n hx hb dX9_differs_105 rfl (lv_at hl 0 rfl) ?_
                    refine lv_iload_n hx hb dX9_differs_106 rfl (lv_at hl 3 rfl) ?_
                    refine lv_iload hx hb dX9_differs_107 (lv_at hl 5 rfl) ?_
                    have hPc := hP.sub (ws' := [(h0, .inr (9, [.int th, .ref a1, .ref a2, .ref a3, .ref a4, .ref a5, .int ne, .int wi, .int dn, .ref a6, .ref a7, .int nn, .ref a8, .int la, .ref a9, .ref a10, .long up, .long lw, .int wh, .long pu, .long pw, .ref a11])), (a1, .inl (cI, 16, .inl Fi)), (a2, .inl (cI, 16, .inl Ma)), (a3, .inl (cI, 16, .inl Db)), (a4, .inl (cZ, 16, .inl Go)), (a5, .inl (cI, 576, .inl Sp))]) [0, 1, 2, 3, 4, 5] rfl
                    have hKc := hK.sub (tys' := [(cI, .int), (cZ, .boolean)]) [0, 1] rfl
                    refine vp_callSi (W.runV (As := [.int t3, .int k5]) (rest := [.int y_48]) ⟨hx, hb, hml, hown, hts⟩ (c_X9_numberOf l dC dI h0 a1 a2 a3 a4 a5 a6 a7 a8 a9 a10 a11 th ne wi dn nn la wh up lw pu pw cI cZ Fi Ma Db Go Sp t3 k5 (by first | assumption | omega) (by first | omega | assumption) (by first | omega | assumption) (by first | omega | assumption) (by first | omega | assumption)) (cwV 2 hts g_X9_differs__X9_numberOf_198 rfl rfl rfl (by decide +kernel) ⟨Nat.le_of_ble_eq_true rfl, Nat.le_of_ble_eq_true rfl⟩) ⟨fun a U g mk q => by obtain ⟨q0, qP, qK⟩ := q; exact ⟨q0, qP, va_K.moved (u := U) (U := U.calling g mk a) (Vm.Alike.refl U.vm) qK⟩, va_recv hKc hPc (ci := 9) (q0 := 0) rfl rfl, fun U hU hW => ⟨rfl, by rw [hU]; exact hPc, va_K.moved hW.alike hKc⟩⟩ rfl rfl hl.1 rfl (lv_room (Nat.le_of_ble_eq_true rfl)) dX9_differs_109 ⟨Nat.le_of_ble_eq_true rfl, Nat.le_of_ble_eq_true rfl⟩) (fun r_49 hr_49 => ?_)
                    try dsimp only at hr_49
                    refine lv_icmp_ne (tgt := 119) hx hb dX9_differs_112 (by decide) (fun c_112 => ?_) (fun c_112 => ?_)
                    · have t_112 := mt (fa_eq _ _).mpr c_112
                      refine lv_iconst (v := 0) hx hb dX9_differs_119 (by decide) ?_
                      refine lv_istore (lv' := [(4, .int 0), (0, .ref h0), (1, .int p1), (2, .int n2), (3, .int t3), (5, .int k5)]) hx hb dX9_differs_120 hl (by decide) rfl (fun ls hl => ?_)
                      obtain ⟨y_50, ey_50⟩ : ∃ y : Int32, y = k5 + 1 := ⟨_, rfl⟩
                      have ty_50 : y_50.toInt = k5.toInt + 1 := by rw [ey_50]; have := fb_addI (x := k5) (y := 1) (by omega) (by omega); omega
                      refine lv_iinc (v := y_50) (lv' := [(5, .int y_50), (4, .int 0), (0, .ref h0), (1, .int p1), (2, .int n2), (3, .int t3)]) hx hb dX9_differs_122 hl (k := 5) rfl (by rw [ey_50]; rfl) (by decide) rfl (fun ls hl => ?_)
                      refine lv_goto (tgt := 75) hx hb dX9_differs_125 (by decide) ?_
                      exact ih_75 0 y_50 (by omega) (by omega) (by omega) (by omega) ls (lv_sub hl [2, 3, 4, 5, 1, 0] rfl)
                    · have t_112 := (fa_eq _ _).mp c_112
                      refine lv_iconst (v := 1) hx hb dX9_differs_115 (by decide) ?_
                      refine lv_goto (tgt := 120) hx hb dX9_differs_116 (by decide) ?_
                      refine lv_istore (lv' := [(4, .int 1), (0, .ref h0), (1, .int p1), (2, .int n2), (3, .int t3), (5, .int k5)]) hx hb dX9_differs_120 hl (by decide) rfl (fun ls hl => ?_)
                      obtain ⟨y_51, ey_51⟩ : ∃ y : Int32, y = k5 + 1 := ⟨_, rfl⟩
                      have ty_51 : y_51.toInt = k5.toInt + 1 := by rw [ey_51]; have := fb_addI (x := k5) (y := 1) (by omega) (by omega); omega
                      refine lv_iinc (v := y_51) (lv' := [(5, .int y_51), (4, .int 1), (0, .ref h0), (1, .int p1), (2, .int n2), (3, .int t3)]) hx hb dX9_differs_122 hl (k := 5) rfl (by rw [ey_51]; rfl) (by decide) rfl (fun ls hl => ?_)
                      refine lv_goto (tgt := 75) hx hb dX9_differs_125 (by decide) ?_
                      exact ih_75 1 y_51 (by omega) (by omega) (by omega) (by omega) ls (lv_sub hl [2, 3, 4, 5, 1, 0] rfl)
        · have t_34 := mt (fa_lt _ _).mpr c_34
          refine lv_iload_n hx hb dX9_differs_37 rfl (lv_at hl 3 rfl) ?_
          refine lv_aload_n hx hb dX9_differs_38 rfl (lv_at hl 0 rfl) ?_
          refine va_get (D := (dC, dI)) (ci := 9) (v := .ref a9) (C := RX9) (T := TX9) (N := 22) hx hb hts in_X9_differs_X9 hown hK hP 0 rfl rfl 14 (by decide) (hts (.fieldLink RX9 42 "MeetingsAboveModel" "shelfMany" "[I") (by decide +kernel)) (fun _ h9 => h9) rfl dX9_differs_39 ?_
          refine lv_iload_n hx hb dX9_differs_42 rfl (lv_at hl 1 rfl) ?_
          refine va_iald hx hb hK hP 6 0 rfl rfl (vp_in_iff.mpr ⟨by omega, by omega⟩) dX9_differs_43 ?_
          refine lv_topi (fun y_52 ey_52 => ?_)
          have uy_52 : y_52.toInt = (Sm (p1 : Int32).toNatClampNeg).toInt := by rw [ey_52]
          have ny_52 : (((p1 : Int32).toNatClampNeg : Nat) : Int) = (p1 : Int32).toInt := tc_I (by omega)
          have sy_52 := hSm (p1 : Int32).toNatClampNeg (by omega)
          refine lv_icmp_ge (tgt := 147) hx hb dX9_differs_44 (by decide) (fun c_44 => ?_) (fun c_44 => ?_)
          · have t_44 := (fa_le _ _).mp c_44
            refine lv_iload_n hx hb dX9_differs_147 rfl (lv_at hl 2 rfl) ?_
            exact W.iret (v := n2) hx hb hr (fun t ht _ => ⟨_, rfl, trivial, ht⟩) (fun _ h => absurd h List.not_mem_nil) dX9_differs_148
          · have t_44 := mt (fa_le _ _).mpr c_44
            refine lv_iload_n hx hb dX9_differs_47 rfl (lv_at hl 3 rfl) ?_
            refine lv_aload_n hx hb dX9_differs_48 rfl (lv_at hl 0 rfl) ?_
            refine va_get (D := (dC, dI)) (ci := 9) (v := .int th) (C := RX9) (T := TX9) (N := 22) hx hb hts in_X9_differs_X9 hown hK hP 0 rfl rfl 0 (by decide) (hts (.fieldLink RX9 59 "MeetingsAboveModel" "things" "I") (by decide +kernel)) (fun _ h9 => h9) rfl dX9_differs_49 ?_
            refine lv_icmp_ge (tgt := 69) hx hb dX9_differs_52 (by decide) (fun c_52 => ?_) (fun c_52 => ?_)
            · have t_52 := (fa_le _ _).mp c_52
              refine lv_iconst (v := 0) hx hb dX9_differs_69 (by decide) ?_
              refine lv_istore (lv' := [(4, .int 0), (0, .ref h0), (1, .int p1), (2, .int n2), (3, .int t3)]) hx hb dX9_differs_70 hl (by decide) rfl (fun ls hl => ?_)
              refine lv_iconst (v := 0) hx hb dX9_differs_72 (by decide) ?_
              refine lv_istore (lv' := [(5, .int 0), (4, .int 0), (0, .ref h0), (1, .int p1), (2, .int n2), (3, .int t3)]) hx hb dX9_differs_73 hl (by decide) rfl (fun ls hl => ?_)
              refine (show ∀ (k : Nat) (l4 : Int32) (k5 : Int32) (hk0 : 0 ≤ k5.toInt) (hk1 : k5.toInt ≤ 40) (hl4 : l4.toInt ≠ 0 → t3.toInt < th.toInt) (hk_75 : (40 - k5.toInt).toNat < k) (ls : Array Slot) (hl : lv_has ls 6 [(0, .ref h0), (1, .int p1), (2, .int n2), (3, .int t3), (4, .int l4), (5, .int k5)]), W p l e _ s m _ below meth c s.heap [] 0 0 _ (F0 m 75 ls []) from ?_) _ 0 0 (by omega) (by omega) (by omega) (Nat.lt_succ_self _) ls (lv_sub hl [2, 3, 4, 5, 1, 0] rfl)
              intro k
              induction k with
              | zero => intro l4 k5 hk0 hk1 hl4 hk_75; exact absurd hk_75 (Nat.not_lt_zero _)
              | succ k ih_75 =>
                intro l4 k5 hk0 hk1 hl4 hk_75 ls hl
                refine lv_iload hx hb dX9_differs_75 (lv_at hl 5 rfl) ?_
                refine lv_bipush (v := 40) hx hb dX9_differs_77 (by decide) ?_
                refine lv_icmp_ge (tgt := 128) hx hb dX9_differs_79 (by decide) (fun c_79 => ?_) (fun c_79 => ?_)
                · have t_79 := (fa_le _ _).mp c_79
                  refine lv_iload_n hx hb dX9_differs_128 rfl (lv_at hl 2 rfl) ?_
                  refine lv_iload hx hb dX9_differs_129 (lv_at hl 4 rfl) ?_
                  refine lv_if_eq (tgt := 138) hx hb dX9_differs_131 (by decide) (fun c_131 => ?_) (fun c_131 => ?_)
                  · have t_131 := (fa_eq _ _).mp c_131
                    refine lv_iconst (v := 1) hx hb dX9_differs_138 (by decide) ?_
                    refine lv_iadd hx hb dX9_differs_139 ?_
                    refine lv_topi (fun y_53 ey_53 => ?_)
                    refine lv_istore_n (lv' := [(2, .int y_53), (0, .ref h0), (1, .int p1), (3, .int t3), (4, .int l4), (5, .int k5)]) hx hb dX9_differs_140 rfl hl (by decide) rfl (fun ls hl => ?_)
                    obtain ⟨y_54, ey_54⟩ : ∃ y : Int32, y = t3 + 1 := ⟨_, rfl⟩
                    have ty_54 : y_54.toInt = t3.toInt + 1 := by rw [ey_54]; have := fb_addI (x := t3) (y := 1) (by omega) (by omega); omega
                    refine lv_iinc (v := y_54) (lv' := [(3, .int y_54), (2, .int y_53), (0, .ref h0), (1, .int p1), (4, .int l4), (5, .int k5)]) hx hb dX9_differs_141 hl (k := 3) rfl (by rw [ey_54]; rfl) (by decide) rfl (fun ls hl => ?_)
                    refine lv_goto (tgt := 29) hx hb dX9_differs_144 (by decide) ?_
                    exact ih_29 y_53 y_54 (by omega) (by omega) (by omega) ls (lv_sub hl [2, 3, 1, 0] rfl)
                  · have t_131 := mt (fa_eq _ _).mpr c_131
                    refine lv_iconst (v := 0) hx hb dX9_differs_134 (by decide) ?_
                    refine lv_goto (tgt := 139) hx hb dX9_differs_135 (by decide) ?_
                    refine lv_iadd hx hb dX9_differs_139 ?_
                    refine lv_topi (fun y_55 ey_55 => ?_)
                    refine lv_istore_n (lv' := [(2, .int y_55), (0, .ref h0), (1, .int p1), (3, .int t3), (4, .int l4), (5, .int k5)]) hx hb dX9_differs_140 rfl hl (by decide) rfl (fun ls hl => ?_)
                    obtain ⟨y_56, ey_56⟩ : ∃ y : Int32, y = t3 + 1 := ⟨_, rfl⟩
                    have ty_56 : y_56.toInt = t3.toInt + 1 := by rw [ey_56]; have := fb_addI (x := t3) (y := 1) (by omega) (by omega); omega
                    refine lv_iinc (v := y_56) (lv' := [(3, .int y_56), (2, .int y_55), (0, .ref h0), (1, .int p1), (4, .int l4), (5, .int k5)]) hx hb dX9_differs_141 hl (k := 3) rfl (by rw [ey_56]; rfl) (by decide) rfl (fun ls hl => ?_)
                    refine lv_goto (tgt := 29) hx hb dX9_differs_144 (by decide) ?_
                    exact ih_29 y_55 y_56 (by omega) (by omega) (by omega) ls (lv_sub hl [2, 3, 1, 0] rfl)
                · have t_79 := mt (fa_le _ _).mpr c_79
                  refine lv_iload hx hb dX9_differs_82 (lv_at hl 4 rfl) ?_
                  refine lv_if_eq (tgt := 128) hx hb dX9_differs_84 (by decide) (fun c_84 => ?_) (fun c_84 => ?_)
                  · have t_84 := (fa_eq _ _).mp c_84
                    refine lv_iload_n hx hb dX9_differs_128 rfl (lv_at hl 2 rfl) ?_
                    refine lv_iload hx hb dX9_differs_129 (lv_at hl 4 rfl) ?_
                    refine lv_if_eq (tgt := 138) hx hb dX9_differs_131 (by decide) (fun c_131 => ?_) (fun c_131 => ?_)
                    · have t_131 := (fa_eq _ _).mp c_131
                      refine lv_iconst (v := 1) hx hb dX9_differs_138 (by decide) ?_
                      refine lv_iadd hx hb dX9_differs_139 ?_
                      refine lv_topi (fun y_57 ey_57 => ?_)
                      refine lv_istore_n (lv' := [(2, .int y_57), (0, .ref h0), (1, .int p1), (3, .int t3), (4, .int l4), (5, .int k5)]) hx hb dX9_differs_140 rfl hl (by decide) rfl (fun ls hl => ?_)
                      obtain ⟨y_58, ey_58⟩ : ∃ y : Int32, y = t3 + 1 := ⟨_, rfl⟩
                      have ty_58 : y_58.toInt = t3.toInt + 1 := by rw [ey_58]; have := fb_addI (x := t3) (y := 1) (by omega) (by omega); omega
                      refine lv_iinc (v := y_58) (lv' := [(3, .int y_58), (2, .int y_57), (0, .ref h0), (1, .int p1), (4, .int l4), (5, .int k5)]) hx hb dX9_differs_141 hl (k := 3) rfl (by rw [ey_58]; rfl) (by decide) rfl (fun ls hl => ?_)
                      refine lv_goto (tgt := 29) hx hb dX9_differs_144 (by decide) ?_
                      exact ih_29 y_57 y_58 (by omega) (by omega) (by omega) ls (lv_sub hl [2, 3, 1, 0] rfl)
                    · have t_131 := mt (fa_eq _ _).mpr c_131
                      refine lv_iconst (v := 0) hx hb dX9_differs_134 (by decide) ?_
                      refine lv_goto (tgt := 139) hx hb dX9_differs_135 (by decide) ?_
                      refine lv_iadd hx hb dX9_differs_139 ?_
                      refine lv_topi (fun y_59 ey_59 => ?_)
                      refine lv_istore_n (lv' := [(2, .int y_59), (0, .ref h0), (1, .int p1), (3, .int t3), (4, .int l4), (5, .int k5)]) hx hb dX9_differs_140 rfl hl (by decide) rfl (fun ls hl => ?_)
                      obtain ⟨y_60, ey_60⟩ : ∃ y : Int32, y = t3 + 1 := ⟨_, rfl⟩
                      have ty_60 : y_60.toInt = t3.toInt + 1 := by rw [ey_60]; have := fb_addI (x := t3) (y := 1) (by omega) (by omega); omega
                      refine lv_iinc (v := y_60) (lv' := [(3, .int y_60), (2, .int y_59), (0, .ref h0), (1, .int p1), (4, .int l4), (5, .int k5)]) hx hb dX9_differs_141 hl (k := 3) rfl (by rw [ey_60]; rfl) (by decide) rfl (fun ls hl => ?_)
                      refine lv_goto (tgt := 29) hx hb dX9_differs_144 (by decide) ?_
                      exact ih_29 y_59 y_60 (by omega) (by omega) (by omega) ls (lv_sub hl [2, 3, 1, 0] rfl)
                  · have t_84 := mt (fa_eq _ _).mpr c_84
                    refine lv_aload_n hx hb dX9_differs_87 rfl (lv_at hl 0 rfl) ?_
                    refine va_get (D := (dC, dI)) (ci := 9) (v := .ref a10) (C := RX9) (T := TX9) (N := 22) hx hb hts in_X9_differs_X9 hown hK hP 0 rfl rfl 15 (by decide) (hts (.fieldLink RX9 45 "MeetingsAboveModel" "shelf" "[I") (by decide +kernel)) (fun _ h9 => h9) rfl dX9_differs_88 ?_
                    refine lv_sipush (v := 640) hx hb dX9_differs_91 (by decide) ?_
                    refine lv_iload_n hx hb dX9_differs_94 rfl (lv_at hl 1 rfl) ?_
                    refine lv_imul hx hb dX9_differs_95 ?_
                    refine lv_topi (fun y_61 ey_61 => ?_)
                    have ty_61 : y_61.toInt = 640 * p1.toInt := by rw [ey_61]; exact fm_lI kl_640 (by omega) (by omega)
                    refine lv_bipush (v := 40) hx hb dX9_differs_96 (by decide) ?_
                    refine lv_iload_n hx hb dX9_differs_98 rfl (lv_at hl 3 rfl) ?_
                    refine lv_imul hx hb dX9_differs_99 ?_
                    refine lv_topi (fun y_62 ey_62 => ?_)
                    have ty_62 : y_62.toInt = 40 * t3.toInt := by rw [ey_62]; exact fm_lI kl_40 (by omega) (by omega)
                    refine lv_iadd hx hb dX9_differs_100 ?_
                    refine lv_topi (fun y_63 ey_63 => ?_)
                    have ty_63 : y_63.toInt = y_61.toInt + y_62.toInt := by rw [ey_63]; have := fb_addI (x := y_61) (y := y_62) (by omega) (by omega); omega
                    refine lv_iload hx hb dX9_differs_101 (lv_at hl 5 rfl) ?_
                    refine lv_iadd hx hb dX9_differs_103 ?_
                    refine lv_topi (fun y_64 ey_64 => ?_)
                    have ty_64 : y_64.toInt = y_63.toInt + k5.toInt := by rw [ey_64]; have := fb_addI (x := y_63) (y := k5) (by omega) (by omega); omega
                    refine va_iald hx hb hK hP 7 0 rfl rfl (vp_in_iff.mpr ⟨by omega, by omega⟩) dX9_differs_104 ?_
                    refine lv_topi (fun y_65 ey_65 => ?_)
                    refine lv_aload_n hx hb dX9_differs_105 rfl (lv_at hl 0 rfl) ?_
                    refine lv_iload_n hx hb dX9_differs_106 rfl (lv_at hl 3 rfl) ?_
                    refine lv_iload hx hb dX9_differs_107 (lv_at hl 5 rfl) ?_
                    have hPc := hP.sub (ws' := [(h0, .inr (9, [.int th, .ref a1, .ref a2, .ref a3, .ref a4, .ref a5, .int ne, .int wi, .int dn, .ref a6, .ref a7, .int nn, .ref a8, .int la, .ref a9, .ref a10, .long up, .long lw, .int wh, .long pu, .long pw, .ref a11])), (a1, .inl (cI, 16, .inl Fi)), (a2, .inl (cI, 16, .inl Ma)), (a3, .inl (cI, 16, .inl Db)), (a4, .inl (cZ, 16, .inl Go)), (a5, .inl (cI, 576, .inl Sp))]) [0, 1, 2, 3, 4, 5] rfl
                    have hKc := hK.sub (tys' := [(cI, .int), (cZ, .boolean)]) [0, 1] rfl
                    refine vp_callSi (W.runV (As := [.int t3, .int k5]) (rest := [.int y_65]) ⟨hx, hb, hml, hown, hts⟩ (c_X9_numberOf l dC dI h0 a1 a2 a3 a4 a5 a6 a7 a8 a9 a10 a11 th ne wi dn nn la wh up lw pu pw cI cZ Fi Ma Db Go Sp t3 k5 (by first | assumption | omega) (by first | omega | assumption) (by first | omega | assumption) (by first | omega | assumption) (by first | omega | assumption)) (cwV 2 hts g_X9_differs__X9_numberOf_198 rfl rfl rfl (by decide +kernel) ⟨Nat.le_of_ble_eq_true rfl, Nat.le_of_ble_eq_true rfl⟩) ⟨fun a U g mk q => by obtain ⟨q0, qP, qK⟩ := q; exact ⟨q0, qP, va_K.moved (u := U) (U := U.calling g mk a) (Vm.Alike.refl U.vm) qK⟩, va_recv hKc hPc (ci := 9) (q0 := 0) rfl rfl, fun U hU hW => ⟨rfl, by rw [hU]; exact hPc, va_K.moved hW.alike hKc⟩⟩ rfl rfl hl.1 rfl (lv_room (Nat.le_of_ble_eq_true rfl)) dX9_differs_109 ⟨Nat.le_of_ble_eq_true rfl, Nat.le_of_ble_eq_true rfl⟩) (fun r_66 hr_66 => ?_)
                    try dsimp only at hr_66
                    refine lv_icmp_ne (tgt := 119) hx hb dX9_differs_112 (by decide) (fun c_112 => ?_) (fun c_112 => ?_)
                    · have t_112 := mt (fa_eq _ _).mpr c_112
                      refine lv_iconst (v := 0) hx hb dX9_differs_119 (by decide) ?_
                      refine lv_istore (lv' := [(4, .int 0), (0, .ref h0), (1, .int p1), (2, .int n2), (3, .int t3), (5, .int k5)]) hx hb dX9_differs_120 hl (by decide) rfl (fun ls hl => ?_)
                      obtain ⟨y_67, ey_67⟩ : ∃ y : Int32, y = k5 + 1 := ⟨_, rfl⟩
                      have ty_67 : y_67.toInt = k5.toInt + 1 := by rw [ey_67]; have := fb_addI (x := k5) (y := 1) (by omega) (by omega); omega
                      refine lv_iinc (v := y_67) (lv' := [(5, .int y_67), (4, .int 0), (0, .ref h0), (1, .int p1), (2, .int n2), (3, .int t3)]) hx hb dX9_differs_122 hl (k := 5) rfl (by rw [ey_67]; rfl) (by decide) rfl (fun ls hl => ?_)
                      refine lv_goto (tgt := 75) hx hb dX9_differs_125 (by decide) ?_
                      exact ih_75 0 y_67 (by omega) (by omega) (by omega) (by omega) ls (lv_sub hl [2, 3, 4, 5, 1, 0] rfl)
                    · have t_112 := (fa_eq _ _).mp c_112
                      refine lv_iconst (v := 1) hx hb dX9_differs_115 (by decide) ?_
                      refine lv_goto (tgt := 120) hx hb dX9_differs_116 (by decide) ?_
                      refine lv_istore (lv' := [(4, .int 1), (0, .ref h0), (1, .int p1), (2, .int n2), (3, .int t3), (5, .int k5)]) hx hb dX9_differs_120 hl (by decide) rfl (fun ls hl => ?_)
                      obtain ⟨y_68, ey_68⟩ : ∃ y : Int32, y = k5 + 1 := ⟨_, rfl⟩
                      have ty_68 : y_68.toInt = k5.toInt + 1 := by rw [ey_68]; have := fb_addI (x := k5) (y := 1) (by omega) (by omega); omega
                      refine lv_iinc (v := y_68) (lv' := [(5, .int y_68), (4, .int 1), (0, .ref h0), (1, .int p1), (2, .int n2), (3, .int t3)]) hx hb dX9_differs_122 hl (k := 5) rfl (by rw [ey_68]; rfl) (by decide) rfl (fun ls hl => ?_)
                      refine lv_goto (tgt := 75) hx hb dX9_differs_125 (by decide) ?_
                      exact ih_75 1 y_68 (by omega) (by omega) (by omega) (by omega) ls (lv_sub hl [2, 3, 4, 5, 1, 0] rfl)
            · have t_52 := mt (fa_le _ _).mpr c_52
              refine lv_iload_n hx hb dX9_differs_55 rfl (lv_at hl 3 rfl) ?_
              refine lv_aload_n hx hb dX9_differs_56 rfl (lv_at hl 0 rfl) ?_
              refine va_get (D := (dC, dI)) (ci := 9) (v := .ref a9) (C := RX9) (T := TX9) (N := 22) hx hb hts in_X9_differs_X9 hown hK hP 0 rfl rfl 14 (by decide) (hts (.fieldLink RX9 42 "MeetingsAboveModel" "shelfMany" "[I") (by decide +kernel)) (fun _ h9 => h9) rfl dX9_differs_57 ?_
              refine lv_iload_n hx hb dX9_differs_60 rfl (lv_at hl 1 rfl) ?_
              refine va_iald hx hb hK hP 6 0 rfl rfl (vp_in_iff.mpr ⟨by omega, by omega⟩) dX9_differs_61 ?_
              refine lv_topi (fun y_69 ey_69 => ?_)
              have uy_69 : y_69.toInt = (Sm (p1 : Int32).toNatClampNeg).toInt := by rw [ey_69]
              have ny_69 : (((p1 : Int32).toNatClampNeg : Nat) : Int) = (p1 : Int32).toInt := tc_I (by omega)
              have sy_69 := hSm (p1 : Int32).toNatClampNeg (by omega)
              refine lv_icmp_ge (tgt := 69) hx hb dX9_differs_62 (by decide) (fun c_62 => ?_) (fun c_62 => ?_)
              · have t_62 := (fa_le _ _).mp c_62
                refine lv_iconst (v := 0) hx hb dX9_differs_69 (by decide) ?_
                refine lv_istore (lv' := [(4, .int 0), (0, .ref h0), (1, .int p1), (2, .int n2), (3, .int t3)]) hx hb dX9_differs_70 hl (by decide) rfl (fun ls hl => ?_)
                refine lv_iconst (v := 0) hx hb dX9_differs_72 (by decide) ?_
                refine lv_istore (lv' := [(5, .int 0), (4, .int 0), (0, .ref h0), (1, .int p1), (2, .int n2), (3, .int t3)]) hx hb dX9_differs_73 hl (by decide) rfl (fun ls hl => ?_)
                refine (show ∀ (k : Nat) (l4 : Int32) (k5 : Int32) (hk0 : 0 ≤ k5.toInt) (hk1 : k5.toInt ≤ 40) (hl4 : l4.toInt ≠ 0 → t3.toInt < th.toInt) (hk_75 : (40 - k5.toInt).toNat < k) (ls : Array Slot) (hl : lv_has ls 6 [(0, .ref h0), (1, .int p1), (2, .int n2), (3, .int t3), (4, .int l4), (5, .int k5)]), W p l e _ s m _ below meth c s.heap [] 0 0 _ (F0 m 75 ls []) from ?_) _ 0 0 (by omega) (by omega) (by omega) (Nat.lt_succ_self _) ls (lv_sub hl [2, 3, 4, 5, 1, 0] rfl)
                intro k
                induction k with
                | zero => intro l4 k5 hk0 hk1 hl4 hk_75; exact absurd hk_75 (Nat.not_lt_zero _)
                | succ k ih_75 =>
                  intro l4 k5 hk0 hk1 hl4 hk_75 ls hl
                  refine lv_iload hx hb dX9_differs_75 (lv_at hl 5 rfl) ?_
                  refine lv_bipush (v := 40) hx hb dX9_differs_77 (by decide) ?_
                  refine lv_icmp_ge (tgt := 128) hx hb dX9_differs_79 (by decide) (fun c_79 => ?_) (fun c_79 => ?_)
                  · have t_79 := (fa_le _ _).mp c_79
                    refine lv_iload_n hx hb dX9_differs_128 rfl (lv_at hl 2 rfl) ?_
                    refine lv_iload hx hb dX9_differs_129 (lv_at hl 4 rfl) ?_
                    refine lv_if_eq (tgt := 138) hx hb dX9_differs_131 (by decide) (fun c_131 => ?_) (fun c_131 => ?_)
                    · have t_131 := (fa_eq _ _).mp c_131
                      refine lv_iconst (v := 1) hx hb dX9_differs_138 (by decide) ?_
                      refine lv_iadd hx hb dX9_differs_139 ?_
                      refine lv_topi (fun y_70 ey_70 => ?_)
                      refine lv_istore_n (lv' := [(2, .int y_70), (0, .ref h0), (1, .int p1), (3, .int t3), (4, .int l4), (5, .int k5)]) hx hb dX9_differs_140 rfl hl (by decide) rfl (fun ls hl => ?_)
                      obtain ⟨y_71, ey_71⟩ : ∃ y : Int32, y = t3 + 1 := ⟨_, rfl⟩
                      have ty_71 : y_71.toInt = t3.toInt + 1 := by rw [ey_71]; have := fb_addI (x := t3) (y := 1) (by omega) (by omega); omega
                      refine lv_iinc (v := y_71) (lv' := [(3, .int y_71), (2, .int y_70), (0, .ref h0), (1, .int p1), (4, .int l4), (5, .int k5)]) hx hb dX9_differs_141 hl (k := 3) rfl (by rw [ey_71]; rfl) (by decide) rfl (fun ls hl => ?_)
                      refine lv_goto (tgt := 29) hx hb dX9_differs_144 (by decide) ?_
                      exact ih_29 y_70 y_71 (by omega) (by omega) (by omega) ls (lv_sub hl [2, 3, 1, 0] rfl)
                    · have t_131 := mt (fa_eq _ _).mpr c_131
                      refine lv_iconst (v := 0) hx hb dX9_differs_134 (by decide) ?_
                      refine lv_goto (tgt := 139) hx hb dX9_differs_135 (by decide) ?_
                      refine lv_iadd hx hb dX9_differs_139 ?_
                      refine lv_topi (fun y_72 ey_72 => ?_)
                      refine lv_istore_n (lv' := [(2, .int y_72), (0, .ref h0), (1, .int p1), (3, .int t3), (4, .int l4), (5, .int k5)]) hx hb dX9_differs_140 rfl hl (by decide) rfl (fun ls hl => ?_)
                      obtain ⟨y_73, ey_73⟩ : ∃ y : Int32, y = t3 + 1 := ⟨_, rfl⟩
                      have ty_73 : y_73.toInt = t3.toInt + 1 := by rw [ey_73]; have := fb_addI (x := t3) (y := 1) (by omega) (by omega); omega
                      refine lv_iinc (v := y_73) (lv' := [(3, .int y_73), (2, .int y_72), (0, .ref h0), (1, .int p1), (4, .int l4), (5, .int k5)]) hx hb dX9_differs_141 hl (k := 3) rfl (by rw [ey_73]; rfl) (by decide) rfl (fun ls hl => ?_)
                      refine lv_goto (tgt := 29) hx hb dX9_differs_144 (by decide) ?_
                      exact ih_29 y_72 y_73 (by omega) (by omega) (by omega) ls (lv_sub hl [2, 3, 1, 0] rfl)
                  · have t_79 := mt (fa_le _ _).mpr c_79
                    refine lv_iload hx hb dX9_differs_82 (lv_at hl 4 rfl) ?_
                    refine lv_if_eq (tgt := 128) hx hb dX9_differs_84 (by decide) (fun c_84 => ?_) (fun c_84 => ?_)
                    · have t_84 := (fa_eq _ _).mp c_84
                      refine lv_iload_n hx hb dX9_differs_128 rfl (lv_at hl 2 rfl) ?_
                      refine lv_iload hx hb dX9_differs_129 (lv_at hl 4 rfl) ?_
                      refine lv_if_eq (tgt := 138) hx hb dX9_differs_131 (by decide) (fun c_131 => ?_) (fun c_131 => ?_)
                      · have t_131 := (fa_eq _ _).mp c_131
                        refine lv_iconst (v := 1) hx hb dX9_differs_138 (by decide) ?_
                        refine lv_iadd hx hb dX9_differs_139 ?_
                        refine lv_topi (fun y_74 ey_74 => ?_)
                        refine lv_istore_n (lv' := [(2, .int y_74), (0, .ref h0), (1, .int p1), (3, .int t3), (4, .int l4), (5, .int k5)]) hx hb dX9_differs_140 rfl hl (by decide) rfl (fun ls hl => ?_)
                        obtain ⟨y_75, ey_75⟩ : ∃ y : Int32, y = t3 + 1 := ⟨_, rfl⟩
                        have ty_75 : y_75.toInt = t3.toInt + 1 := by rw [ey_75]; have := fb_addI (x := t3) (y := 1) (by omega) (by omega); omega
                        refine lv_iinc (v := y_75) (lv' := [(3, .int y_75), (2, .int y_74), (0, .ref h0), (1, .int p1), (4, .int l4), (5, .int k5)]) hx hb dX9_differs_141 hl (k := 3) rfl (by rw [ey_75]; rfl) (by decide) rfl (fun ls hl => ?_)
                        refine lv_goto (tgt := 29) hx hb dX9_differs_144 (by decide) ?_
                        exact ih_29 y_74 y_75 (by omega) (by omega) (by omega) ls (lv_sub hl [2, 3, 1, 0] rfl)
                      · have t_131 := mt (fa_eq _ _).mpr c_131
                        refine lv_iconst (v := 0) hx hb dX9_differs_134 (by decide) ?_
                        refine lv_goto (tgt := 139) hx hb dX9_differs_135 (by decide) ?_
                        refine lv_iadd hx hb dX9_differs_139 ?_
                        refine lv_topi (fun y_76 ey_76 => ?_)
                        refine lv_istore_n (lv' := [(2, .int y_76), (0, .ref h0), (1, .int p1), (3, .int t3), (4, .int l4), (5, .int k5)]) hx hb dX9_differs_140 rfl hl (by decide) rfl (fun ls hl => ?_)
                        obtain ⟨y_77, ey_77⟩ : ∃ y : Int32, y = t3 + 1 := ⟨_, rfl⟩
                        have ty_77 : y_77.toInt = t3.toInt + 1 := by rw [ey_77]; have := fb_addI (x := t3) (y := 1) (by omega) (by omega); omega
                        refine lv_iinc (v := y_77) (lv' := [(3, .int y_77), (2, .int y_76), (0, .ref h0), (1, .int p1), (4, .int l4), (5, .int k5)]) hx hb dX9_differs_141 hl (k := 3) rfl (by rw [ey_77]; rfl) (by decide) rfl (fun ls hl => ?_)
                        refine lv_goto (tgt := 29) hx hb dX9_differs_144 (by decide) ?_
                        exact ih_29 y_76 y_77 (by omega) (by omega) (by omega) ls (lv_sub hl [2, 3, 1, 0] rfl)
                    · have t_84 := mt (fa_eq _ _).mpr c_84
                      refine lv_aload_n hx hb dX9_differs_87 rfl (lv_at hl 0 rfl) ?_
                      refine va_get (D := (dC, dI)) (ci := 9) (v := .ref a10) (C := RX9) (T := TX9) (N := 22) hx hb hts in_X9_differs_X9 hown hK hP 0 rfl rfl 15 (by decide) (hts (.fieldLink RX9 45 "MeetingsAboveModel" "shelf" "[I") (by decide +kernel)) (fun _ h9 => h9) rfl dX9_differs_88 ?_
                      refine lv_sipush (v := 640) hx hb dX9_differs_91 (by decide) ?_
                      refine lv_iload_n hx hb dX9_differs_94 rfl (lv_at hl 1 rfl) ?_
                      refine lv_imul hx hb dX9_differs_95 ?_
                      refine lv_topi (fun y_78 ey_78 => ?_)
                      have ty_78 : y_78.toInt = 640 * p1.toInt := by rw [ey_78]; exact fm_lI kl_640 (by omega) (by omega)
                      refine lv_bipush (v := 40) hx hb dX9_differs_96 (by decide) ?_
                      refine lv_iload_n hx hb dX9_differs_98 rfl (lv_at hl 3 rfl) ?_
                      refine lv_imul hx hb dX9_differs_99 ?_
                      refine lv_topi (fun y_79 ey_79 => ?_)
                      have ty_79 : y_79.toInt = 40 * t3.toInt := by rw [ey_79]; exact fm_lI kl_40 (by omega) (by omega)
                      refine lv_iadd hx hb dX9_differs_100 ?_
                      refine lv_topi (fun y_80 ey_80 => ?_)
                      have ty_80 : y_80.toInt = y_78.toInt + y_79.toInt := by rw [ey_80]; have := fb_addI (x := y_78) (y := y_79) (by omega) (by omega); omega
                      refine lv_iload hx hb dX9_differs_101 (lv_at hl 5 rfl) ?_
                      refine lv_iadd hx hb dX9_differs_103 ?_
                      refine lv_topi (fun y_81 ey_81 => ?_)
                      have ty_81 : y_81.toInt = y_80.toInt + k5.toInt := by rw [ey_81]; have := fb_addI (x := y_80) (y := k5) (by omega) (by omega); omega
                      refine va_iald hx hb hK hP 7 0 rfl rfl (vp_in_iff.mpr ⟨by omega, by omega⟩) dX9_differs_104 ?_
                      refine lv_topi (fun y_82 ey_82 => ?_)
                      refine lv_aload_n hx hb dX9_differs_105 rfl (lv_at hl 0 rfl) ?_
                      refine lv_iload_n hx hb dX9_differs_106 rfl (lv_at hl 3 rfl) ?_
                      refine lv_iload hx hb dX9_differs_107 (lv_at hl 5 rfl) ?_
                      have hPc := hP.sub (ws' := [(h0, .inr (9, [.int th, .ref a1, .ref a2, .ref a3, .ref a4, .ref a5, .int ne, .int wi, .int dn, .ref a6, .ref a7, .int nn, .ref a8, .int la, .ref a9, .ref a10, .long up, .long lw, .int wh, .long pu, .long pw, .ref a11])), (a1, .inl (cI, 16, .inl Fi)), (a2, .inl (cI, 16, .inl Ma)), (a3, .inl (cI, 16, .inl Db)), (a4, .inl (cZ, 16, .inl Go)), (a5, .inl (cI, 576, .inl Sp))]) [0, 1, 2, 3, 4, 5] rfl
                      have hKc := hK.sub (tys' := [(cI, .int), (cZ, .boolean)]) [0, 1] rfl
                      refine vp_callSi (W.runV (As := [.int t3, .int k5]) (rest := [.int y_82]) ⟨hx, hb, hml, hown, hts⟩ (c_X9_numberOf l dC dI h0 a1 a2 a3 a4 a5 a6 a7 a8 a9 a10 a11 th ne wi dn nn la wh up lw pu pw cI cZ Fi Ma Db Go Sp t3 k5 (by first | assumption | omega) (by first | omega | assumption) (by first | omega | assumption) (by first | omega | assumption) (by first | omega | assumption)) (cwV 2 hts g_X9_differs__X9_numberOf_198 rfl rfl rfl (by decide +kernel) ⟨Nat.le_of_ble_eq_true rfl, Nat.le_of_ble_eq_true rfl⟩) ⟨fun a U g mk q => by obtain ⟨q0, qP, qK⟩ := q; exact ⟨q0, qP, va_K.moved (u := U) (U := U.calling g mk a) (Vm.Alike.refl U.vm) qK⟩, va_recv hKc hPc (ci := 9) (q0 := 0) rfl rfl, fun U hU hW => ⟨rfl, by rw [hU]; exact hPc, va_K.moved hW.alike hKc⟩⟩ rfl rfl hl.1 rfl (lv_room (Nat.le_of_ble_eq_true rfl)) dX9_differs_109 ⟨Nat.le_of_ble_eq_true rfl, Nat.le_of_ble_eq_true rfl⟩) (fun r_83 hr_83 => ?_)
                      try dsimp only at hr_83
                      refine lv_icmp_ne (tgt := 119) hx hb dX9_differs_112 (by decide) (fun c_112 => ?_) (fun c_112 => ?_)
                      · have t_112 := mt (fa_eq _ _).mpr c_112
                        refine lv_iconst (v := 0) hx hb dX9_differs_119 (by decide) ?_
                        refine lv_istore (lv' := [(4, .int 0), (0, .ref h0), (1, .int p1), (2, .int n2), (3, .int t3), (5, .int k5)]) hx hb dX9_differs_120 hl (by decide) rfl (fun ls hl => ?_)
                        obtain ⟨y_84, ey_84⟩ : ∃ y : Int32, y = k5 + 1 := ⟨_, rfl⟩
                        have ty_84 : y_84.toInt = k5.toInt + 1 := by rw [ey_84]; have := fb_addI (x := k5) (y := 1) (by omega) (by omega); omega
                        refine lv_iinc (v := y_84) (lv' := [(5, .int y_84), (4, .int 0), (0, .ref h0), (1, .int p1), (2, .int n2), (3, .int t3)]) hx hb dX9_differs_122 hl (k := 5) rfl (by rw [ey_84]; rfl) (by decide) rfl (fun ls hl => ?_)
                        refine lv_goto (tgt := 75) hx hb dX9_differs_125 (by decide) ?_
                        exact ih_75 0 y_84 (by omega) (by omega) (by omega) (by omega) ls (lv_sub hl [2, 3, 4, 5, 1, 0] rfl)
                      · have t_112 := (fa_eq _ _).mp c_112
                        refine lv_iconst (v := 1) hx hb dX9_differs_115 (by decide) ?_
                        refine lv_goto (tgt := 120) hx hb dX9_differs_116 (by decide) ?_
                        refine lv_istore (lv' := [(4, .int 1), (0, .ref h0), (1, .int p1), (2, .int n2), (3, .int t3), (5, .int k5)]) hx hb dX9_differs_120 hl (by decide) rfl (fun ls hl => ?_)
                        obtain ⟨y_85, ey_85⟩ : ∃ y : Int32, y = k5 + 1 := ⟨_, rfl⟩
                        have ty_85 : y_85.toInt = k5.toInt + 1 := by rw [ey_85]; have := fb_addI (x := k5) (y := 1) (by omega) (by omega); omega
                        refine lv_iinc (v := y_85) (lv' := [(5, .int y_85), (4, .int 1), (0, .ref h0), (1, .int p1), (2, .int n2), (3, .int t3)]) hx hb dX9_differs_122 hl (k := 5) rfl (by rw [ey_85]; rfl) (by decide) rfl (fun ls hl => ?_)
                        refine lv_goto (tgt := 75) hx hb dX9_differs_125 (by decide) ?_
                        exact ih_75 1 y_85 (by omega) (by omega) (by omega) (by omega) ls (lv_sub hl [2, 3, 4, 5, 1, 0] rfl)
              · have t_62 := mt (fa_le _ _).mpr c_62
                refine lv_iconst (v := 1) hx hb dX9_differs_65 (by decide) ?_
                refine lv_goto (tgt := 70) hx hb dX9_differs_66 (by decide) ?_
                refine lv_istore (lv' := [(4, .int 1), (0, .ref h0), (1, .int p1), (2, .int n2), (3, .int t3)]) hx hb dX9_differs_70 hl (by decide) rfl (fun ls hl => ?_)
                refine lv_iconst (v := 0) hx hb dX9_differs_72 (by decide) ?_
                refine lv_istore (lv' := [(5, .int 0), (4, .int 1), (0, .ref h0), (1, .int p1), (2, .int n2), (3, .int t3)]) hx hb dX9_differs_73 hl (by decide) rfl (fun ls hl => ?_)
                refine (show ∀ (k : Nat) (l4 : Int32) (k5 : Int32) (hk0 : 0 ≤ k5.toInt) (hk1 : k5.toInt ≤ 40) (hl4 : l4.toInt ≠ 0 → t3.toInt < th.toInt) (hk_75 : (40 - k5.toInt).toNat < k) (ls : Array Slot) (hl : lv_has ls 6 [(0, .ref h0), (1, .int p1), (2, .int n2), (3, .int t3), (4, .int l4), (5, .int k5)]), W p l e _ s m _ below meth c s.heap [] 0 0 _ (F0 m 75 ls []) from ?_) _ 1 0 (by omega) (by omega) (by omega) (Nat.lt_succ_self _) ls (lv_sub hl [2, 3, 4, 5, 1, 0] rfl)
                intro k
                induction k with
                | zero => intro l4 k5 hk0 hk1 hl4 hk_75; exact absurd hk_75 (Nat.not_lt_zero _)
                | succ k ih_75 =>
                  intro l4 k5 hk0 hk1 hl4 hk_75 ls hl
                  refine lv_iload hx hb dX9_differs_75 (lv_at hl 5 rfl) ?_
                  refine lv_bipush (v := 40) hx hb dX9_differs_77 (by decide) ?_
                  refine lv_icmp_ge (tgt := 128) hx hb dX9_differs_79 (by decide) (fun c_79 => ?_) (fun c_79 => ?_)
                  · have t_79 := (fa_le _ _).mp c_79
                    refine lv_iload_n hx hb dX9_differs_128 rfl (lv_at hl 2 rfl) ?_
                    refine lv_iload hx hb dX9_differs_129 (lv_at hl 4 rfl) ?_
                    refine lv_if_eq (tgt := 138) hx hb dX9_differs_131 (by decide) (fun c_131 => ?_) (fun c_131 => ?_)
                    · have t_131 := (fa_eq _ _).mp c_131
                      refine lv_iconst (v := 1) hx hb dX9_differs_138 (by decide) ?_
                      refine lv_iadd hx hb dX9_differs_139 ?_
                      refine lv_topi (fun y_86 ey_86 => ?_)
                      refine lv_istore_n (lv' := [(2, .int y_86), (0, .ref h0), (1, .int p1), (3, .int t3), (4, .int l4), (5, .int k5)]) hx hb dX9_differs_140 rfl hl (by decide) rfl (fun ls hl => ?_)
                      obtain ⟨y_87, ey_87⟩ : ∃ y : Int32, y = t3 + 1 := ⟨_, rfl⟩
                      have ty_87 : y_87.toInt = t3.toInt + 1 := by rw [ey_87]; have := fb_addI (x := t3) (y := 1) (by omega) (by omega); omega
                      refine lv_iinc (v := y_87) (lv' := [(3, .int y_87), (2, .int y_86), (0, .ref h0), (1, .int p1), (4, .int l4), (5, .int k5)]) hx hb dX9_differs_141 hl (k := 3) rfl (by rw [ey_87]; rfl) (by decide) rfl (fun ls hl => ?_)
                      refine lv_goto (tgt := 29) hx hb dX9_differs_144 (by decide) ?_
                      exact ih_29 y_86 y_87 (by omega) (by omega) (by omega) ls (lv_sub hl [2, 3, 1, 0] rfl)
                    · have t_131 := mt (fa_eq _ _).mpr c_131
                      refine lv_iconst (v := 0) hx hb dX9_differs_134 (by decide) ?_
                      refine lv_goto (tgt := 139) hx hb dX9_differs_135 (by decide) ?_
                      refine lv_iadd hx hb dX9_differs_139 ?_
                      refine lv_topi (fun y_88 ey_88 => ?_)
                      refine lv_istore_n (lv' := [(2, .int y_88), (0, .ref h0), (1, .int p1), (3, .int t3), (4, .int l4), (5, .int k5)]) hx hb dX9_differs_140 rfl hl (by decide) rfl (fun ls hl => ?_)
                      obtain ⟨y_89, ey_89⟩ : ∃ y : Int32, y = t3 + 1 := ⟨_, rfl⟩
                      have ty_89 : y_89.toInt = t3.toInt + 1 := by rw [ey_89]; have := fb_addI (x := t3) (y := 1) (by omega) (by omega); omega
                      refine lv_iinc (v := y_89) (lv' := [(3, .int y_89), (2, .int y_88), (0, .ref h0), (1, .int p1), (4, .int l4), (5, .int k5)]) hx hb dX9_differs_141 hl (k := 3) rfl (by rw [ey_89]; rfl) (by decide) rfl (fun ls hl => ?_)
                      refine lv_goto (tgt := 29) hx hb dX9_differs_144 (by decide) ?_
                      exact ih_29 y_88 y_89 (by omega) (by omega) (by omega) ls (lv_sub hl [2, 3, 1, 0] rfl)
                  · have t_79 := mt (fa_le _ _).mpr c_79
                    refine lv_iload hx hb dX9_differs_82 (lv_at hl 4 rfl) ?_
                    refine lv_if_eq (tgt := 128) hx hb dX9_differs_84 (by decide) (fun c_84 => ?_) (fun c_84 => ?_)
                    · have t_84 := (fa_eq _ _).mp c_84
                      refine lv_iload_n hx hb dX9_differs_128 rfl (lv_at hl 2 rfl) ?_
                      refine lv_iload hx hb dX9_differs_129 (lv_at hl 4 rfl) ?_
                      refine lv_if_eq (tgt := 138) hx hb dX9_differs_131 (by decide) (fun c_131 => ?_) (fun c_131 => ?_)
                      · have t_131 := (fa_eq _ _).mp c_131
                        refine lv_iconst (v := 1) hx hb dX9_differs_138 (by decide) ?_
                        refine lv_iadd hx hb dX9_differs_139 ?_
                        refine lv_topi (fun y_90 ey_90 => ?_)
                        refine lv_istore_n (lv' := [(2, .int y_90), (0, .ref h0), (1, .int p1), (3, .int t3), (4, .int l4), (5, .int k5)]) hx hb dX9_differs_140 rfl hl (by decide) rfl (fun ls hl => ?_)
                        obtain ⟨y_91, ey_91⟩ : ∃ y : Int32, y = t3 + 1 := ⟨_, rfl⟩
                        have ty_91 : y_91.toInt = t3.toInt + 1 := by rw [ey_91]; have := fb_addI (x := t3) (y := 1) (by omega) (by omega); omega
                        refine lv_iinc (v := y_91) (lv' := [(3, .int y_91), (2, .int y_90), (0, .ref h0), (1, .int p1), (4, .int l4), (5, .int k5)]) hx hb dX9_differs_141 hl (k := 3) rfl (by rw [ey_91]; rfl) (by decide) rfl (fun ls hl => ?_)
                        refine lv_goto (tgt := 29) hx hb dX9_differs_144 (by decide) ?_
                        exact ih_29 y_90 y_91 (by omega) (by omega) (by omega) ls (lv_sub hl [2, 3, 1, 0] rfl)
                      · have t_131 := mt (fa_eq _ _).mpr c_131
                        refine lv_iconst (v := 0) hx hb dX9_differs_134 (by decide) ?_
                        refine lv_goto (tgt := 139) hx hb dX9_differs_135 (by decide) ?_
                        refine lv_iadd hx hb dX9_differs_139 ?_
                        refine lv_topi (fun y_92 ey_92 => ?_)
                        refine lv_istore_n (lv' := [(2, .int y_92), (0, .ref h0), (1, .int p1), (3, .int t3), (4, .int l4), (5, .int k5)]) hx hb dX9_differs_140 rfl hl (by decide) rfl (fun ls hl => ?_)
                        obtain ⟨y_93, ey_93⟩ : ∃ y : Int32, y = t3 + 1 := ⟨_, rfl⟩
                        have ty_93 : y_93.toInt = t3.toInt + 1 := by rw [ey_93]; have := fb_addI (x := t3) (y := 1) (by omega) (by omega); omega
                        refine lv_iinc (v := y_93) (lv' := [(3, .int y_93), (2, .int y_92), (0, .ref h0), (1, .int p1), (4, .int l4), (5, .int k5)]) hx hb dX9_differs_141 hl (k := 3) rfl (by rw [ey_93]; rfl) (by decide) rfl (fun ls hl => ?_)
                        refine lv_goto (tgt := 29) hx hb dX9_differs_144 (by decide) ?_
                        exact ih_29 y_92 y_93 (by omega) (by omega) (by omega) ls (lv_sub hl [2, 3, 1, 0] rfl)
                    · have t_84 := mt (fa_eq _ _).mpr c_84
                      refine lv_aload_n hx hb dX9_differs_87 rfl (lv_at hl 0 rfl) ?_
                      refine va_get (D := (dC, dI)) (ci := 9) (v := .ref a10) (C := RX9) (T := TX9) (N := 22) hx hb hts in_X9_differs_X9 hown hK hP 0 rfl rfl 15 (by decide) (hts (.fieldLink RX9 45 "MeetingsAboveModel" "shelf" "[I") (by decide +kernel)) (fun _ h9 => h9) rfl dX9_differs_88 ?_
                      refine lv_sipush (v := 640) hx hb dX9_differs_91 (by decide) ?_
                      refine lv_iload_n hx hb dX9_differs_94 rfl (lv_at hl 1 rfl) ?_
                      refine lv_imul hx hb dX9_differs_95 ?_
                      refine lv_topi (fun y_94 ey_94 => ?_)
                      have ty_94 : y_94.toInt = 640 * p1.toInt := by rw [ey_94]; exact fm_lI kl_640 (by omega) (by omega)
                      refine lv_bipush (v := 40) hx hb dX9_differs_96 (by decide) ?_
                      refine lv_iload_n hx hb dX9_differs_98 rfl (lv_at hl 3 rfl) ?_
                      refine lv_imul hx hb dX9_differs_99 ?_
                      refine lv_topi (fun y_95 ey_95 => ?_)
                      have ty_95 : y_95.toInt = 40 * t3.toInt := by rw [ey_95]; exact fm_lI kl_40 (by omega) (by omega)
                      refine lv_iadd hx hb dX9_differs_100 ?_
                      refine lv_topi (fun y_96 ey_96 => ?_)
                      have ty_96 : y_96.toInt = y_94.toInt + y_95.toInt := by rw [ey_96]; have := fb_addI (x := y_94) (y := y_95) (by omega) (by omega); omega
                      refine lv_iload hx hb dX9_differs_101 (lv_at hl 5 rfl) ?_
                      refine lv_iadd hx hb dX9_differs_103 ?_
                      refine lv_topi (fun y_97 ey_97 => ?_)
                      have ty_97 : y_97.toInt = y_96.toInt + k5.toInt := by rw [ey_97]; have := fb_addI (x := y_96) (y := k5) (by omega) (by omega); omega
                      refine va_iald hx hb hK hP 7 0 rfl rfl (vp_in_iff.mpr ⟨by omega, by omega⟩) dX9_differs_104 ?_
                      refine lv_topi (fun y_98 ey_98 => ?_)
                      refine lv_aload_n hx hb dX9_differs_105 rfl (lv_at hl 0 rfl) ?_
                      refine lv_iload_n hx hb dX9_differs_106 rfl (lv_at hl 3 rfl) ?_
                      refine lv_iload hx hb dX9_differs_107 (lv_at hl 5 rfl) ?_
                      have hPc := hP.sub (ws' := [(h0, .inr (9, [.int th, .ref a1, .ref a2, .ref a3, .ref a4, .ref a5, .int ne, .int wi, .int dn, .ref a6, .ref a7, .int nn, .ref a8, .int la, .ref a9, .ref a10, .long up, .long lw, .int wh, .long pu, .long pw, .ref a11])), (a1, .inl (cI, 16, .inl Fi)), (a2, .inl (cI, 16, .inl Ma)), (a3, .inl (cI, 16, .inl Db)), (a4, .inl (cZ, 16, .inl Go)), (a5, .inl (cI, 576, .inl Sp))]) [0, 1, 2, 3, 4, 5] rfl
                      have hKc := hK.sub (tys' := [(cI, .int), (cZ, .boolean)]) [0, 1] rfl
                      refine vp_callSi (W.runV (As := [.int t3, .int k5]) (rest := [.int y_98]) ⟨hx, hb, hml, hown, hts⟩ (c_X9_numberOf l dC dI h0 a1 a2 a3 a4 a5 a6 a7 a8 a9 a10 a11 th ne wi dn nn la wh up lw pu pw cI cZ Fi Ma Db Go Sp t3 k5 (by first | assumption | omega) (by first | omega | assumption) (by first | omega | assumption) (by first | omega | assumption) (by first | omega | assumption)) (cwV 2 hts g_X9_differs__X9_numberOf_198 rfl rfl rfl (by decide +kernel) ⟨Nat.le_of_ble_eq_true rfl, Nat.le_of_ble_eq_true rfl⟩) ⟨fun a U g mk q => by obtain ⟨q0, qP, qK⟩ := q; exact ⟨q0, qP, va_K.moved (u := U) (U := U.calling g mk a) (Vm.Alike.refl U.vm) qK⟩, va_recv hKc hPc (ci := 9) (q0 := 0) rfl rfl, fun U hU hW => ⟨rfl, by rw [hU]; exact hPc, va_K.moved hW.alike hKc⟩⟩ rfl rfl hl.1 rfl (lv_room (Nat.le_of_ble_eq_true rfl)) dX9_differs_109 ⟨Nat.le_of_ble_eq_true rfl, Nat.le_of_ble_eq_true rfl⟩) (fun r_99 hr_99 => ?_)
                      try dsimp only at hr_99
                      refine lv_icmp_ne (tgt := 119) hx hb dX9_differs_112 (by decide) (fun c_112 => ?_) (fun c_112 => ?_)
                      · have t_112 := mt (fa_eq _ _).mpr c_112
                        refine lv_iconst (v := 0) hx hb dX9_differs_119 (by decide) ?_
                        refine lv_istore (lv' := [(4, .int 0), (0, .ref h0), (1, .int p1), (2, .int n2), (3, .int t3), (5, .int k5)]) hx hb dX9_differs_120 hl (by decide) rfl (fun ls hl => ?_)
                        obtain ⟨y_100, ey_100⟩ : ∃ y : Int32, y = k5 + 1 := ⟨_, rfl⟩
                        have ty_100 : y_100.toInt = k5.toInt + 1 := by rw [ey_100]; have := fb_addI (x := k5) (y := 1) (by omega) (by omega); omega
                        refine lv_iinc (v := y_100) (lv' := [(5, .int y_100), (4, .int 0), (0, .ref h0), (1, .int p1), (2, .int n2), (3, .int t3)]) hx hb dX9_differs_122 hl (k := 5) rfl (by rw [ey_100]; rfl) (by decide) rfl (fun ls hl => ?_)
                        refine lv_goto (tgt := 75) hx hb dX9_differs_125 (by decide) ?_
                        exact ih_75 0 y_100 (by omega) (by omega) (by omega) (by omega) ls (lv_sub hl [2, 3, 4, 5, 1, 0] rfl)
                      · have t_112 := (fa_eq _ _).mp c_112
                        refine lv_iconst (v := 1) hx hb dX9_differs_115 (by decide) ?_
                        refine lv_goto (tgt := 120) hx hb dX9_differs_116 (by decide) ?_
                        refine lv_istore (lv' := [(4, .int 1), (0, .ref h0), (1, .int p1), (2, .int n2), (3, .int t3), (5, .int k5)]) hx hb dX9_differs_120 hl (by decide) rfl (fun ls hl => ?_)
                        obtain ⟨y_101, ey_101⟩ : ∃ y : Int32, y = k5 + 1 := ⟨_, rfl⟩
                        have ty_101 : y_101.toInt = k5.toInt + 1 := by rw [ey_101]; have := fb_addI (x := k5) (y := 1) (by omega) (by omega); omega
                        refine lv_iinc (v := y_101) (lv' := [(5, .int y_101), (4, .int 1), (0, .ref h0), (1, .int p1), (2, .int n2), (3, .int t3)]) hx hb dX9_differs_122 hl (k := 5) rfl (by rw [ey_101]; rfl) (by decide) rfl (fun ls hl => ?_)
                        refine lv_goto (tgt := 75) hx hb dX9_differs_125 (by decide) ?_
                        exact ih_75 1 y_101 (by omega) (by omega) (by omega) (by omega) ls (lv_sub hl [2, 3, 4, 5, 1, 0] rfl)
    · have t_19 := mt (fa_le _ _).mpr c_19
      refine lv_ldc hx hb hown (hts (.constant RX9 85 (-100003)) (by decide +kernel)) dX9_differs_22 ?_
      exact W.iret (v := (-100003)) hx hb hr (fun t ht _ => ⟨_, rfl, trivial, ht⟩) (fun _ h => absurd h List.not_mem_nil) dX9_differs_24
  · simp only [Int32.toInt_toInt64, klL_0, klL_1] at q_4
    refine lv_if_ne (tgt := 13) hx hb dX9_differs_7 (by decide) (fun h9 => absurd h9 (by decide)) (fun _ => ?_)
    refine lv_ldc hx hb hown (hts (.constant RX9 84 (-100001)) (by decide +kernel)) dX9_differs_10 ?_
    exact W.iret (v := (-100001)) hx hb hr (fun t ht _ => ⟨_, rfl, trivial, ht⟩) (fun _ h => absurd h List.not_mem_nil) dX9_differs_12
