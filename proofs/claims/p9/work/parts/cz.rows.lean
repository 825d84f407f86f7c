def wk_X9_countE : List Cond := .code yX9_count cX9_count 5 (some .int) :: (([.fieldLink RX9 59 "MeetingsAboveModel" "things" "I", .fieldLink RX9 109 "MeetingsAboveModel" "dots" "I", .fieldLink RX9 115 "MeetingsAboveModel" "notices" "I", .constant RX9 70 (-100002), .fieldLink RX9 118 "MeetingsAboveModel" "late" "I", .fieldLink RX9 39 "MeetingsAboveModel" "noted" "[I", .fieldLink RX9 19 "MeetingsAboveModel" "isGone" "[Z"] : List Cond) ++ (wsX90 ++ ((wsV RX9 112 RX9 yX9_dotOf wk_X9_dotOfE) ++ ((wsV RX9 106 RX9 yX9_isMeeting wk_X9_isMeetingE) ++ ([])))))
theorem in_X9_countE_X9 : ∀ w ∈ wsX90, w ∈ wk_X9_countE := fun _ h => List.mem_cons_of_mem _ (List.mem_append_right _ (List.mem_append_left _ h))
theorem gw_X9_countE : AG wk_X9_countE := AG_ca (AG_l (by decide +kernel)) (AG_app ag_X9 (AG_app (AG_V gw_X9_dotOfE) (AG_app (AG_V gw_X9_isMeetingE) (AG_nil))))
theorem g_X9_countE__X9_dotOfE_112 : GoodIn wk_X9_countE (wsV RX9 112 RX9 yX9_dotOf wk_X9_dotOfE) := goodIn_m (fun _ h => List.mem_cons_of_mem _ (List.mem_append_right _ (List.mem_append_right _ (List.mem_append_left _ h)))) (AG_V gw_X9_dotOfE)
theorem g_X9_countE__X9_isMeetingE_106 : GoodIn wk_X9_countE (wsV RX9 106 RX9 yX9_isMeeting wk_X9_isMeetingE) := goodIn_m (fun _ h => List.mem_cons_of_mem _ (List.mem_append_right _ (List.mem_append_right _ (List.mem_append_right _ (List.mem_append_left _ h))))) (AG_V gw_X9_isMeetingE)
set_option maxHeartbeats 4000000 in
set_option maxRecDepth 100000 in
theorem c_X9_countE (l : Launch) (dC : Nat → ClassId) (dI : Nat → Nat → Nat) (h0 : Nat) (a1 : Nat) (a2 : Nat) (a3 : Nat) (a4 : Nat) (a5 : Nat) (a6 : Nat) (a7 : Nat) (a8 : Nat) (a9 : Nat) (a10 : Nat) (a11 : Nat) (th : Int32) (ne : Int32) (wi : Int32) (dn : Int32) (nn : Int32) (la : Int32) (wh : Int32) (up : Int64) (lw : Int64) (pu : Int64) (pw : Int64) (cI : ClassId) (cZ : ClassId) (Fi : Nat → Int32) (Ma : Nat → Int32) (Db : Nat → Int32) (Go : Nat → Int32) (Sp : Nat → Int32) (Ds : Nat → Int32) (Dp : Nat → Int32) (No : Nat → Int32) (p1 : Int32) (sz : Nat) (hM : mOK th Fi Ma) (hTk : ∀ k : Nat, (k : Int) < th.toInt → tvOK (mTV Fi Ma Db Go Sp k)) (hDk : ∀ k : Nat, (k : Int) < dn.toInt → okD (Ds k) (Dp (3 * k)) (Dp (3 * k + 1)) (Dp (3 * k + 2))) (hn0 : 0 ≤ nn.toInt) (hn1 : nn.toInt ≤ 40) (hd0 : 0 ≤ dn.toInt) (hd1 : dn.toInt ≤ 40) (hne0 : 0 ≤ ne.toInt) (hne1 : ne.toInt ≤ 3000) : Met l yX9_count wk_X9_countE ({ frames := 4, cells := 0, slots := 0, locals := 104 }) (va_Pc [.ref h0, .int p1] (fun U => U.heap.size = sz ∧ va_P (dC, dI) vwCl [(h0, .inr (9, [.int th, .ref a1, .ref a2, .ref a3, .ref a4, .ref a5, .int ne, .int wi, .int dn, .ref a6, .ref a7, .int nn, .ref a8, .int la, .ref a9, .ref a10, .long up, .long lw, .int wh, .long pu, .long pw, .ref a11])), (a1, .inl (cI, 16, .inl Fi)), (a2, .inl (cI, 16, .inl Ma)), (a3, .inl (cI, 16, .inl Db)), (a4, .inl (cZ, 16, .inl Go)), (a5, .inl (cI, 576, .inl Sp)), (a6, .inl (cI, 40, .inl Ds)), (a7, .inl (cI, 120, .inl Dp)), (a8, .inl (cI, 320, .inl No))] U.heap ∧ va_K (dC, dI) vwCl [(cI, .int), (cZ, .boolean)] U ∧ va_D (fun _ => True) [(h0, .inr (9, [.int th, .ref a1, .ref a2, .ref a3, .ref a4, .ref a5, .int ne, .int wi, .int dn, .ref a6, .ref a7, .int nn, .ref a8, .int la, .ref a9, .ref a10, .long up, .long lw, .int wh, .long pu, .long pw, .ref a11])), (a1, .inl (cI, 16, .inl Fi)), (a2, .inl (cI, 16, .inl Ma)), (a3, .inl (cI, 16, .inl Db)), (a4, .inl (cZ, 16, .inl Go)), (a5, .inl (cI, 576, .inl Sp)), (a6, .inl (cI, 40, .inl Ds)), (a7, .inl (cI, 120, .inl Dp)), (a8, .inl (cI, 320, .inl No))])) (va_Qi (fun (r : Int32) (_ : Unit) => coP th dn nn la (mTV Fi Ma Db Go Sp) (mDV Ds Dp) (mNV No) ne.toInt p1.toInt r.toInt) (fun (_ : Unit) (t : State) => ∃ (up9 : Int64) (lw9 : Int64) (wh9 : Int32) (pu9 : Int64) (pw9 : Int64), va_P (dC, dI) vwCl [(h0, .inr (9, [.int th, .ref a1, .ref a2, .ref a3, .ref a4, .ref a5, .int ne, .int wi, .int dn, .ref a6, .ref a7, .int nn, .ref a8, .int la, .ref a9, .ref a10, .long up9, .long lw9, .int wh9, .long pu9, .long pw9, .ref a11])), (a1, .inl (cI, 16, .inl Fi)), (a2, .inl (cI, 16, .inl Ma)), (a3, .inl (cI, 16, .inl Db)), (a4, .inl (cZ, 16, .inl Go)), (a5, .inl (cI, 576, .inl Sp)), (a6, .inl (cI, 40, .inl Ds)), (a7, .inl (cI, 120, .inl Dp)), (a8, .inl (cI, 320, .inl No))] t.heap ∧ va_K (dC, dI) vwCl [(cI, .int), (cZ, .boolean)] t ∧ va_D (va_A [(h0, .inr (9, [.int th, .ref a1, .ref a2, .ref a3, .ref a4, .ref a5, .int ne, .int wi, .int dn, .ref a6, .ref a7, .int nn, .ref a8, .int la, .ref a9, .ref a10, .long up, .long lw, .int wh, .long pu, .long pw, .ref a11])), (a1, .inl (cI, 16, .inl Fi)), (a2, .inl (cI, 16, .inl Ma)), (a3, .inl (cI, 16, .inl Db)), (a4, .inl (cZ, 16, .inl Go)), (a5, .inl (cI, 576, .inl Sp)), (a6, .inl (cI, 40, .inl Ds)), (a7, .inl (cI, 120, .inl Dp)), (a8, .inl (cI, 320, .inl No))] sz) [(h0, .inr (9, [.int th, .ref a1, .ref a2, .ref a3, .ref a4, .ref a5, .int ne, .int wi, .int dn, .ref a6, .ref a7, .int nn, .ref a8, .int la, .ref a9, .ref a10, .long up9, .long lw9, .int wh9, .long pu9, .long pw9, .ref a11])), (a1, .inl (cI, 16, .inl Fi)), (a2, .inl (cI, 16, .inl Ma)), (a3, .inl (cI, 16, .inl Db)), (a4, .inl (cZ, 16, .inl Go)), (a5, .inl (cI, 576, .inl Sp)), (a6, .inl (cI, 40, .inl Ds)), (a7, .inl (cI, 120, .inl Dp)), (a8, .inl (cI, 320, .inl No))]) (va_A [(h0, .inr (9, [.int th, .ref a1, .ref a2, .ref a3, .ref a4, .ref a5, .int ne, .int wi, .int dn, .ref a6, .ref a7, .int nn, .ref a8, .int la, .ref a9, .ref a10, .long up, .long lw, .int wh, .long pu, .long pw, .ref a11])), (a1, .inl (cI, 16, .inl Fi)), (a2, .inl (cI, 16, .inl Ma)), (a3, .inl (cI, 16, .inl Db)), (a4, .inl (cZ, 16, .inl Go)), (a5, .inl (cI, 576, .inl Sp)), (a6, .inl (cI, 40, .inl Ds)), (a7, .inl (cI, 120, .inl Dp)), (a8, .inl (cI, 320, .inl No))] sz)) 0 0 (va_A [(h0, .inr (9, [.int th, .ref a1, .ref a2, .ref a3, .ref a4, .ref a5, .int ne, .int wi, .int dn, .ref a6, .ref a7, .int nn, .ref a8, .int la, .ref a9, .ref a10, .long up, .long lw, .int wh, .long pu, .long pw, .ref a11])), (a1, .inl (cI, 16, .inl Fi)), (a2, .inl (cI, 16, .inl Ma)), (a3, .inl (cI, 16, .inl Db)), (a4, .inl (cZ, 16, .inl Go)), (a5, .inl (cI, 576, .inl Sp)), (a6, .inl (cI, 40, .inl Ds)), (a7, .inl (cI, 120, .inl Dp)), (a8, .inl (cI, 320, .inl No))] sz) := by
  refine Met.ofW (cc := cX9_count) (maxL := 5) (ret := (some .int)) (by decide) rfl ?_
  intro p e s m args below meth c s₁ B hml hv
  obtain ⟨rfl, hsz, hP, hK, hD0⟩ := hv
  have hx := B.exec
  have hb := B.bytes
  have hr := B.returns
  have hts := atoms_spec (ws := wk_X9_countE) B.pre
  have hown : s.vm.findClass RX9 = some m.cls := findClass_of_methodNamed B.named
  have hlocks := B.notSynchronized
  subst hsz
  have hD := hD0.self (sz := s.heap.size)
  generalize hAe : va_A [(h0, .inr (9, [.int th, .ref a1, .ref a2, .ref a3, .ref a4, .ref a5, .int ne, .int wi, .int dn, .ref a6, .ref a7, .int nn, .ref a8, .int la, .ref a9, .ref a10, .long up, .long lw, .int wh, .long pu, .long pw, .ref a11])), (a1, .inl (cI, 16, .inl Fi)), (a2, .inl (cI, 16, .inl Ma)), (a3, .inl (cI, 16, .inl Db)), (a4, .inl (cZ, 16, .inl Go)), (a5, .inl (cI, 576, .inl Sp)), (a6, .inl (cI, 40, .inl Ds)), (a7, .inl (cI, 120, .inl Dp)), (a8, .inl (cI, 320, .inl No))] s.heap.size = A at hD ⊢
  have hA : ∀ q : Nat, s.heap.size ≤ q → A q := fun q h => by rw [← hAe]; exact Or.inr h
  have hS : va_S A s.heap s.heap [] := va_S.rf
  have hP : va_P (dC, dI) vwCl [(h0, .inr (9, [.int th, .ref a1, .ref a2, .ref a3, .ref a4, .ref a5, .int ne, .int wi, .int dn, .ref a6, .ref a7, .int nn, .ref a8, .int la, .ref a9, .ref a10, .long up, .long lw, .int wh, .long pu, .long pw, .ref a11])), (a1, .inl (cI, 16, .inl Fi)), (a2, .inl (cI, 16, .inl Ma)), (a3, .inl (cI, 16, .inl Db)), (a4, .inl (cZ, 16, .inl Go)), (a5, .inl (cI, 576, .inl Sp)), (a6, .inl (cI, 40, .inl Ds)), (a7, .inl (cI, 120, .inl Dp)), (a8, .inl (cI, 320, .inl No))] s.heap := hP
  have hl := lv_entry ([.ref h0, .int p1]) (n := 5) (Nat.le_of_ble_eq_true rfl)
  rw [lg_entry_eq]
  generalize (lg_sl ([.ref h0, .int p1]) ++ List.replicate (5 - (lg_sl ([.ref h0, .int p1])).length) Slot.unset).toArray = ls at hl ⊢
  have hl : lv_has ls 5 [(0, .ref h0), (1, .int p1)] := hl
  have kl_m100002 : (-100002 : Int32).toInt = -100002 := by decide
  have kl_0 : (0 : Int32).toInt = 0 := by decide
  have kl_1 : (1 : Int32).toInt = 1 := by decide
  have kl_2 : (2 : Int32).toInt = 2 := by decide
  have kl_4 : (4 : Int32).toInt = 4 := by decide
  have kl_5 : (5 : Int32).toInt = 5 := by decide
  have kl_6 : (6 : Int32).toInt = 6 := by decide
  have kl_8 : (8 : Int32).toInt = 8 := by decide
  obtain ⟨hM0, hM1, hM2⟩ := id hM
  refine lv_iconst (v := 0) hx hb dX9_count_0 (by decide) ?_
  refine lv_istore_n (lv' := [(2, .int 0), (0, .ref h0), (1, .int p1)]) hx hb dX9_count_1 rfl hl (by decide) rfl (fun ls hl => ?_)
  refine lv_iconst (v := 0) hx hb dX9_count_2 (by decide) ?_
  refine lv_istore_n (lv' := [(3, .int 0), (2, .int 0), (0, .ref h0), (1, .int p1)]) hx hb dX9_count_3 rfl hl (by decide) rfl (fun ls hl => ?_)
  refine (show ∀ (k : Nat) (n2 : Int32) (t3 : Int32) (uq : Int64) (lq : Int64) (wq : Int32) (pq : Int64) (dq : Int64) (hu0 : 0 ≤ t3.toInt) (hu1 : t3.toInt ≤ th.toInt) (hAc : n2.toInt = caN (mTV Fi Ma Db Go Sp) (mtM (mTV Fi Ma Db Go Sp) ne.toInt) th.toInt.toNat p1.toInt t3.toInt.toNat) (hk_4 : (th.toInt - t3.toInt).toNat < k) (H : Heap) (locs : List Loc) (hP : va_P (dC, dI) vwCl [(h0, .inr (9, [.int th, .ref a1, .ref a2, .ref a3, .ref a4, .ref a5, .int ne, .int wi, .int dn, .ref a6, .ref a7, .int nn, .ref a8, .int la, .ref a9, .ref a10, .long uq, .long lq, .int wq, .long pq, .long dq, .ref a11])), (a1, .inl (cI, 16, .inl Fi)), (a2, .inl (cI, 16, .inl Ma)), (a3, .inl (cI, 16, .inl Db)), (a4, .inl (cZ, 16, .inl Go)), (a5, .inl (cI, 576, .inl Sp)), (a6, .inl (cI, 40, .inl Ds)), (a7, .inl (cI, 120, .inl Dp)), (a8, .inl (cI, 320, .inl No))] H) (hD : va_D A [(h0, .inr (9, [.int th, .ref a1, .ref a2, .ref a3, .ref a4, .ref a5, .int ne, .int wi, .int dn, .ref a6, .ref a7, .int nn, .ref a8, .int la, .ref a9, .ref a10, .long uq, .long lq, .int wq, .long pq, .long dq, .ref a11])), (a1, .inl (cI, 16, .inl Fi)), (a2, .inl (cI, 16, .inl Ma)), (a3, .inl (cI, 16, .inl Db)), (a4, .inl (cZ, 16, .inl Go)), (a5, .inl (cI, 576, .inl Sp)), (a6, .inl (cI, 40, .inl Ds)), (a7, .inl (cI, 120, .inl Dp)), (a8, .inl (cI, 320, .inl No))]) (hS : va_S A s.heap H locs) (ls : Array Slot) (hl : lv_has ls 5 [(0, .ref h0), (1, .int p1), (2, .int n2), (3, .int t3)]), W p l e _ s m _ below meth c H locs 0 0 _ (F0 m 4 ls []) from ?_) _ 0 0 up lw wh pu pw (by omega) (by omega) (by rw [show (0 : Int32).toInt.toNat = 0 by omega]; rw [ca_z]; exact kl_0) (Nat.lt_succ_self _) _ _ hP hD hS ls (lv_sub hl [2, 3, 1, 0] rfl)
  intro k
  induction k with
  | zero => intro n2 t3 uq lq wq pq dq hu0 hu1 hAc hk_4; exact absurd hk_4 (Nat.not_lt_zero _)
  | succ k ih_4 =>
    intro n2 t3 uq lq wq pq dq hu0 hu1 hAc hk_4 H locs hP hD hS ls hl
    refine lv_iload_n hx hb dX9_count_4 rfl (lv_at hl 3 rfl) ?_
    refine lv_aload_n hx hb dX9_count_5 rfl (lv_at hl 0 rfl) ?_
    refine va_get (D := (dC, dI)) (ci := 9) (v := .int th) (C := RX9) (T := TX9) (N := 22) hx hb hts in_X9_countE_X9 hown hK hP 0 rfl rfl 0 (by decide) (hts (.fieldLink RX9 59 "MeetingsAboveModel" "things" "I") (by decide +kernel)) (fun _ h9 => h9) rfl dX9_count_6 ?_
    refine lv_icmp_ge (tgt := 83) hx hb dX9_count_9 (by decide) (fun c_9 => ?_) (fun c_9 => ?_)
    · have t_9 := (fa_le _ _).mp c_9
      have hA8 : n2.toInt = caN (mTV Fi Ma Db Go Sp) (mtM (mTV Fi Ma Db Go Sp) ne.toInt) th.toInt.toNat p1.toInt th.toInt.toNat := by have e9 : t3.toInt.toNat = th.toInt.toNat := (by omega); rw [e9] at hAc; exact hAc
      refine lv_iconst (v := 0) hx hb dX9_count_83 (by decide) ?_
      refine lv_istore_n (lv' := [(3, .int 0), (0, .ref h0), (1, .int p1), (2, .int n2)]) hx hb dX9_count_84 rfl hl (by decide) rfl (fun ls hl => ?_)
      refine (show ∀ (k : Nat) (n5 : Int32) (d3 : Int32) (hw0 : 0 ≤ d3.toInt) (hw1 : d3.toInt ≤ dn.toInt) (hD_ : n5.toInt = ((caN (mTV Fi Ma Db Go Sp) (mtM (mTV Fi Ma Db Go Sp) ne.toInt) th.toInt.toNat p1.toInt th.toInt.toNat + cdN (mTV Fi Ma Db Go Sp) th.toInt.toNat (mDV Ds Dp) p1.toInt d3.toInt.toNat : Nat) : Int)) (hk_85 : (dn.toInt - d3.toInt).toNat < k) (H : Heap) (locs : List Loc) (hP : va_P (dC, dI) vwCl [(h0, .inr (9, [.int th, .ref a1, .ref a2, .ref a3, .ref a4, .ref a5, .int ne, .int wi, .int dn, .ref a6, .ref a7, .int nn, .ref a8, .int la, .ref a9, .ref a10, .long uq, .long lq, .int wq, .long pq, .long dq, .ref a11])), (a1, .inl (cI, 16, .inl Fi)), (a2, .inl (cI, 16, .inl Ma)), (a3, .inl (cI, 16, .inl Db)), (a4, .inl (cZ, 16, .inl Go)), (a5, .inl (cI, 576, .inl Sp)), (a6, .inl (cI, 40, .inl Ds)), (a7, .inl (cI, 120, .inl Dp)), (a8, .inl (cI, 320, .inl No))] H) (hD : va_D A [(h0, .inr (9, [.int th, .ref a1, .ref a2, .ref a3, .ref a4, .ref a5, .int ne, .int wi, .int dn, .ref a6, .ref a7, .int nn, .ref a8, .int la, .ref a9, .ref a10, .long uq, .long lq, .int wq, .long pq, .long dq, .ref a11])), (a1, .inl (cI, 16, .inl Fi)), (a2, .inl (cI, 16, .inl Ma)), (a3, .inl (cI, 16, .inl Db)), (a4, .inl (cZ, 16, .inl Go)), (a5, .inl (cI, 576, .inl Sp)), (a6, .inl (cI, 40, .inl Ds)), (a7, .inl (cI, 120, .inl Dp)), (a8, .inl (cI, 320, .inl No))]) (hS : va_S A s.heap H locs) (ls : Array Slot) (hl : lv_has ls 5 [(0, .ref h0), (1, .int p1), (2, .int n5), (3, .int d3)]), W p l e _ s m _ below meth c H locs 0 0 _ (F0 m 85 ls []) from ?_) _ n2 0 (by omega) (by omega) (by rw [show (0 : Int32).toInt.toNat = 0 by omega]; rw [cd_z]; exact hA8) (Nat.lt_succ_self _) H _ hP hD hS ls (lv_sub hl [1, 2, 3, 0] rfl)
      intro k
      induction k with
      | zero => intro n5 d3 hw0 hw1 hD_ hk_85; exact absurd hk_85 (Nat.not_lt_zero _)
      | succ k ih_85 =>
        intro n5 d3 hw0 hw1 hD_ hk_85 H locs hP hD hS ls hl
        refine lv_iload_n hx hb dX9_count_85 rfl (lv_at hl 3 rfl) ?_
        refine lv_aload_n hx hb dX9_count_86 rfl (lv_at hl 0 rfl) ?_
        refine va_get (D := (dC, dI)) (ci := 9) (v := .int dn) (C := RX9) (T := TX9) (N := 22) hx hb hts in_X9_countE_X9 hown hK hP 0 rfl rfl 8 (by decide) (hts (.fieldLink RX9 109 "MeetingsAboveModel" "dots" "I") (by decide +kernel)) (fun _ h9 => h9) rfl dX9_count_87 ?_
        refine lv_icmp_ge (tgt := 147) hx hb dX9_count_90 (by decide) (fun c_90 => ?_) (fun c_90 => ?_)
        · have t_90 := (fa_le _ _).mp c_90
          have hD8 : n5.toInt = ((caN (mTV Fi Ma Db Go Sp) (mtM (mTV Fi Ma Db Go Sp) ne.toInt) th.toInt.toNat p1.toInt th.toInt.toNat + cdN (mTV Fi Ma Db Go Sp) th.toInt.toNat (mDV Ds Dp) p1.toInt dn.toInt.toNat : Nat) : Int) := by have e9 : d3.toInt.toNat = dn.toInt.toNat := (by omega); rw [e9] at hD_; exact hD_
          refine lv_iconst (v := 0) hx hb dX9_count_147 (by decide) ?_
          refine lv_istore_n (lv' := [(3, .int 0), (0, .ref h0), (1, .int p1), (2, .int n5)]) hx hb dX9_count_148 rfl hl (by decide) rfl (fun ls hl => ?_)
          refine (show ∀ (k : Nat) (n6 : Int32) (k3 : Int32) (hx0 : 0 ≤ k3.toInt) (hx1 : k3.toInt ≤ nn.toInt) (hH : n6.toInt = ((caN (mTV Fi Ma Db Go Sp) (mtM (mTV Fi Ma Db Go Sp) ne.toInt) th.toInt.toNat p1.toInt th.toInt.toNat + cdN (mTV Fi Ma Db Go Sp) th.toInt.toNat (mDV Ds Dp) p1.toInt dn.toInt.toNat + chN (mNV No) p1.toInt k3.toInt.toNat : Nat) : Int)) (hk_149 : (nn.toInt - k3.toInt).toNat < k) (H : Heap) (locs : List Loc) (hP : va_P (dC, dI) vwCl [(h0, .inr (9, [.int th, .ref a1, .ref a2, .ref a3, .ref a4, .ref a5, .int ne, .int wi, .int dn, .ref a6, .ref a7, .int nn, .ref a8, .int la, .ref a9, .ref a10, .long uq, .long lq, .int wq, .long pq, .long dq, .ref a11])), (a1, .inl (cI, 16, .inl Fi)), (a2, .inl (cI, 16, .inl Ma)), (a3, .inl (cI, 16, .inl Db)), (a4, .inl (cZ, 16, .inl Go)), (a5, .inl (cI, 576, .inl Sp)), (a6, .inl (cI, 40, .inl Ds)), (a7, .inl (cI, 120, .inl Dp)), (a8, .inl (cI, 320, .inl No))] H) (hD : va_D A [(h0, .inr (9, [.int th, .ref a1, .ref a2, .ref a3, .ref a4, .ref a5, .int ne, .int wi, .int dn, .ref a6, .ref a7, .int nn, .ref a8, .int la, .ref a9, .ref a10, .long uq, .long lq, .int wq, .long pq, .long dq, .ref a11])), (a1, .inl (cI, 16, .inl Fi)), (a2, .inl (cI, 16, .inl Ma)), (a3, .inl (cI, 16, .inl Db)), (a4, .inl (cZ, 16, .inl Go)), (a5, .inl (cI, 576, .inl Sp)), (a6, .inl (cI, 40, .inl Ds)), (a7, .inl (cI, 120, .inl Dp)), (a8, .inl (cI, 320, .inl No))]) (hS : va_S A s.heap H locs) (ls : Array Slot) (hl : lv_has ls 5 [(0, .ref h0), (1, .int p1), (2, .int n6), (3, .int k3)]), W p l e _ s m _ below meth c H locs 0 0 _ (F0 m 149 ls []) from ?_) _ n5 0 (by omega) (by omega) (by rw [show (0 : Int32).toInt.toNat = 0 by omega]; rw [ch_z]; exact hD8) (Nat.lt_succ_self _) H _ hP hD hS ls (lv_sub hl [1, 2, 3, 0] rfl)
          intro k
          induction k with
          | zero => intro n6 k3 hx0 hx1 hH hk_149; exact absurd hk_149 (Nat.not_lt_zero _)
          | succ k ih_149 =>
            intro n6 k3 hx0 hx1 hH hk_149 H locs hP hD hS ls hl
            refine lv_iload_n hx hb dX9_count_149 rfl (lv_at hl 3 rfl) ?_
            refine lv_aload_n hx hb dX9_count_150 rfl (lv_at hl 0 rfl) ?_
            refine va_get (D := (dC, dI)) (ci := 9) (v := .int nn) (C := RX9) (T := TX9) (N := 22) hx hb hts in_X9_countE_X9 hown hK hP 0 rfl rfl 11 (by decide) (hts (.fieldLink RX9 115 "MeetingsAboveModel" "notices" "I") (by decide +kernel)) (fun _ h9 => h9) rfl dX9_count_151 ?_
            refine lv_icmp_ge (tgt := 192) hx hb dX9_count_154 (by decide) (fun c_154 => ?_) (fun c_154 => ?_)
            · have t_154 := (fa_le _ _).mp c_154
              have hH8 : n6.toInt = ((caN (mTV Fi Ma Db Go Sp) (mtM (mTV Fi Ma Db Go Sp) ne.toInt) th.toInt.toNat p1.toInt th.toInt.toNat + cdN (mTV Fi Ma Db Go Sp) th.toInt.toNat (mDV Ds Dp) p1.toInt dn.toInt.toNat + chN (mNV No) p1.toInt nn.toInt.toNat : Nat) : Int) := by have e9 : k3.toInt.toNat = nn.toInt.toNat := (by omega); rw [e9] at hH; exact hH
              refine lv_iload_n hx hb dX9_count_192 rfl (lv_at hl 1 rfl) ?_
              rcases sw_10 p1 with o_193 | rfl | rfl | rfl | rfl | rfl | rfl | rfl | rfl | rfl | rfl
              · refine lv_tableOut (tgt := 270) hx hb dX9_count_193 o_193 (by decide) ?_
                refine lv_ldc hx hb hown (hts (.constant RX9 70 (-100002)) (by decide +kernel)) dX9_count_270 ?_
                have hP9 := hP.sub (ws' := [(h0, .inr (9, [.int th, .ref a1, .ref a2, .ref a3, .ref a4, .ref a5, .int ne, .int wi, .int dn, .ref a6, .ref a7, .int nn, .ref a8, .int la, .ref a9, .ref a10, .long uq, .long lq, .int wq, .long pq, .long dq, .ref a11])), (a1, .inl (cI, 16, .inl Fi)), (a2, .inl (cI, 16, .inl Ma)), (a3, .inl (cI, 16, .inl Db)), (a4, .inl (cZ, 16, .inl Go)), (a5, .inl (cI, 576, .inl Sp)), (a6, .inl (cI, 40, .inl Ds)), (a7, .inl (cI, 120, .inl Dp)), (a8, .inl (cI, 320, .inl No))]) [0, 1, 2, 3, 4, 5, 6, 7, 8] rfl
                have hD9 := hD.sub (ws' := [(h0, .inr (9, [.int th, .ref a1, .ref a2, .ref a3, .ref a4, .ref a5, .int ne, .int wi, .int dn, .ref a6, .ref a7, .int nn, .ref a8, .int la, .ref a9, .ref a10, .long uq, .long lq, .int wq, .long pq, .long dq, .ref a11])), (a1, .inl (cI, 16, .inl Fi)), (a2, .inl (cI, 16, .inl Ma)), (a3, .inl (cI, 16, .inl Db)), (a4, .inl (cZ, 16, .inl Go)), (a5, .inl (cI, 576, .inl Sp)), (a6, .inl (cI, 40, .inl Ds)), (a7, .inl (cI, 120, .inl Dp)), (a8, .inl (cI, 320, .inl No))]) [0, 1, 2, 3, 4, 5, 6, 7, 8] (by decide) rfl
                have hK9 := hK.sub (tys' := [(cI, .int), (cZ, .boolean)]) [0, 1] rfl
                refine W.widen (k := 0) (n := 0) (by omega) (by omega) ?_
                exact W.iret (v := (-100002)) hx hb hr (fun t ht hW => ⟨⟨_, (), rfl, (Or.inl ⟨by omega, by decide⟩), uq, lq, wq, pq, dq, by rw [ht]; exact hP9, va_K.moved hW.alike hK9, hD9⟩, hS.F ht⟩) hS.2.2 dX9_count_272
              · refine lv_tableIn (tgt := 248) (off := 55) hx hb dX9_count_193 (by decide) (by decide) (by decide) (by decide) ?_
                refine lv_aload_n hx hb dX9_count_248 rfl (lv_at hl 0 rfl) ?_
                refine va_get (D := (dC, dI)) (ci := 9) (v := .int th) (C := RX9) (T := TX9) (N := 22) hx hb hts in_X9_countE_X9 hown hK hP 0 rfl rfl 0 (by decide) (hts (.fieldLink RX9 59 "MeetingsAboveModel" "things" "I") (by decide +kernel)) (fun _ h9 => h9) rfl dX9_count_249 ?_
                have hP9 := hP.sub (ws' := [(h0, .inr (9, [.int th, .ref a1, .ref a2, .ref a3, .ref a4, .ref a5, .int ne, .int wi, .int dn, .ref a6, .ref a7, .int nn, .ref a8, .int la, .ref a9, .ref a10, .long uq, .long lq, .int wq, .long pq, .long dq, .ref a11])), (a1, .inl (cI, 16, .inl Fi)), (a2, .inl (cI, 16, .inl Ma)), (a3, .inl (cI, 16, .inl Db)), (a4, .inl (cZ, 16, .inl Go)), (a5, .inl (cI, 576, .inl Sp)), (a6, .inl (cI, 40, .inl Ds)), (a7, .inl (cI, 120, .inl Dp)), (a8, .inl (cI, 320, .inl No))]) [0, 1, 2, 3, 4, 5, 6, 7, 8] rfl
                have hD9 := hD.sub (ws' := [(h0, .inr (9, [.int th, .ref a1, .ref a2, .ref a3, .ref a4, .ref a5, .int ne, .int wi, .int dn, .ref a6, .ref a7, .int nn, .ref a8, .int la, .ref a9, .ref a10, .long uq, .long lq, .int wq, .long pq, .long dq, .ref a11])), (a1, .inl (cI, 16, .inl Fi)), (a2, .inl (cI, 16, .inl Ma)), (a3, .inl (cI, 16, .inl Db)), (a4, .inl (cZ, 16, .inl Go)), (a5, .inl (cI, 576, .inl Sp)), (a6, .inl (cI, 40, .inl Ds)), (a7, .inl (cI, 120, .inl Dp)), (a8, .inl (cI, 320, .inl No))]) [0, 1, 2, 3, 4, 5, 6, 7, 8] (by decide) rfl
                have hK9 := hK.sub (tys' := [(cI, .int), (cZ, .boolean)]) [0, 1] rfl
                refine W.widen (k := 0) (n := 0) (by omega) (by omega) ?_
                exact W.iret (v := th) hx hb hr (fun t ht hW => ⟨⟨_, (), rfl, (Or.inr (Or.inl ⟨by decide, rfl⟩)), uq, lq, wq, pq, dq, by rw [ht]; exact hP9, va_K.moved hW.alike hK9, hD9⟩, hS.F ht⟩) hS.2.2 dX9_count_252
              · refine lv_tableIn (tgt := 268) (off := 75) hx hb dX9_count_193 (by decide) (by decide) (by decide) (by decide) ?_
                refine lv_iload_n hx hb dX9_count_268 rfl (lv_at hl 2 rfl) ?_
                have hP9 := hP.sub (ws' := [(h0, .inr (9, [.int th, .ref a1, .ref a2, .ref a3, .ref a4, .ref a5, .int ne, .int wi, .int dn, .ref a6, .ref a7, .int nn, .ref a8, .int la, .ref a9, .ref a10, .long uq, .long lq, .int wq, .long pq, .long dq, .ref a11])), (a1, .inl (cI, 16, .inl Fi)), (a2, .inl (cI, 16, .inl Ma)), (a3, .inl (cI, 16, .inl Db)), (a4, .inl (cZ, 16, .inl Go)), (a5, .inl (cI, 576, .inl Sp)), (a6, .inl (cI, 40, .inl Ds)), (a7, .inl (cI, 120, .inl Dp)), (a8, .inl (cI, 320, .inl No))]) [0, 1, 2, 3, 4, 5, 6, 7, 8] rfl
                have hD9 := hD.sub (ws' := [(h0, .inr (9, [.int th, .ref a1, .ref a2, .ref a3, .ref a4, .ref a5, .int ne, .int wi, .int dn, .ref a6, .ref a7, .int nn, .ref a8, .int la, .ref a9, .ref a10, .long uq, .long lq, .int wq, .long pq, .long dq, .ref a11])), (a1, .inl (cI, 16, .inl Fi)), (a2, .inl (cI, 16, .inl Ma)), (a3, .inl (cI, 16, .inl Db)), (a4, .inl (cZ, 16, .inl Go)), (a5, .inl (cI, 576, .inl Sp)), (a6, .inl (cI, 40, .inl Ds)), (a7, .inl (cI, 120, .inl Dp)), (a8, .inl (cI, 320, .inl No))]) [0, 1, 2, 3, 4, 5, 6, 7, 8] (by decide) rfl
                have hK9 := hK.sub (tys' := [(cI, .int), (cZ, .boolean)]) [0, 1] rfl
                refine W.widen (k := 0) (n := 0) (by omega) (by omega) ?_
                exact W.iret (v := n6) hx hb hr (fun t ht hW => ⟨⟨_, (), rfl, (co_m hH8 (by decide)), uq, lq, wq, pq, dq, by rw [ht]; exact hP9, va_K.moved hW.alike hK9, hD9⟩, hS.F ht⟩) hS.2.2 dX9_count_269
              · refine lv_tableIn (tgt := 268) (off := 75) hx hb dX9_count_193 (by decide) (by decide) (by decide) (by decide) ?_
                refine lv_iload_n hx hb dX9_count_268 rfl (lv_at hl 2 rfl) ?_
                have hP9 := hP.sub (ws' := [(h0, .inr (9, [.int th, .ref a1, .ref a2, .ref a3, .ref a4, .ref a5, .int ne, .int wi, .int dn, .ref a6, .ref a7, .int nn, .ref a8, .int la, .ref a9, .ref a10, .long uq, .long lq, .int wq, .long pq, .long dq, .ref a11])), (a1, .inl (cI, 16, .inl Fi)), (a2, .inl (cI, 16, .inl Ma)), (a3, .inl (cI, 16, .inl Db)), (a4, .inl (cZ, 16, .inl Go)), (a5, .inl (cI, 576, .inl Sp)), (a6, .inl (cI, 40, .inl Ds)), (a7, .inl (cI, 120, .inl Dp)), (a8, .inl (cI, 320, .inl No))]) [0, 1, 2, 3, 4, 5, 6, 7, 8] rfl
                have hD9 := hD.sub (ws' := [(h0, .inr (9, [.int th, .ref a1, .ref a2, .ref a3, .ref a4, .ref a5, .int ne, .int wi, .int dn, .ref a6, .ref a7, .int nn, .ref a8, .int la, .ref a9, .ref a10, .long uq, .long lq, .int wq, .long pq, .long dq, .ref a11])), (a1, .inl (cI, 16, .inl Fi)), (a2, .inl (cI, 16, .inl Ma)), (a3, .inl (cI, 16, .inl Db)), (a4, .inl (cZ, 16, .inl Go)), (a5, .inl (cI, 576, .inl Sp)), (a6, .inl (cI, 40, .inl Ds)), (a7, .inl (cI, 120, .inl Dp)), (a8, .inl (cI, 320, .inl No))]) [0, 1, 2, 3, 4, 5, 6, 7, 8] (by decide) rfl
                have hK9 := hK.sub (tys' := [(cI, .int), (cZ, .boolean)]) [0, 1] rfl
                refine W.widen (k := 0) (n := 0) (by omega) (by omega) ?_
                exact W.iret (v := n6) hx hb hr (fun t ht hW => ⟨⟨_, (), rfl, (co_m hH8 (by decide)), uq, lq, wq, pq, dq, by rw [ht]; exact hP9, va_K.moved hW.alike hK9, hD9⟩, hS.F ht⟩) hS.2.2 dX9_count_269
              · refine lv_tableIn (tgt := 253) (off := 60) hx hb dX9_count_193 (by decide) (by decide) (by decide) (by decide) ?_
                refine lv_aload_n hx hb dX9_count_253 rfl (lv_at hl 0 rfl) ?_
                refine va_get (D := (dC, dI)) (ci := 9) (v := .int dn) (C := RX9) (T := TX9) (N := 22) hx hb hts in_X9_countE_X9 hown hK hP 0 rfl rfl 8 (by decide) (hts (.fieldLink RX9 109 "MeetingsAboveModel" "dots" "I") (by decide +kernel)) (fun _ h9 => h9) rfl dX9_count_254 ?_
                have hP9 := hP.sub (ws' := [(h0, .inr (9, [.int th, .ref a1, .ref a2, .ref a3, .ref a4, .ref a5, .int ne, .int wi, .int dn, .ref a6, .ref a7, .int nn, .ref a8, .int la, .ref a9, .ref a10, .long uq, .long lq, .int wq, .long pq, .long dq, .ref a11])), (a1, .inl (cI, 16, .inl Fi)), (a2, .inl (cI, 16, .inl Ma)), (a3, .inl (cI, 16, .inl Db)), (a4, .inl (cZ, 16, .inl Go)), (a5, .inl (cI, 576, .inl Sp)), (a6, .inl (cI, 40, .inl Ds)), (a7, .inl (cI, 120, .inl Dp)), (a8, .inl (cI, 320, .inl No))]) [0, 1, 2, 3, 4, 5, 6, 7, 8] rfl
                have hD9 := hD.sub (ws' := [(h0, .inr (9, [.int th, .ref a1, .ref a2, .ref a3, .ref a4, .ref a5, .int ne, .int wi, .int dn, .ref a6, .ref a7, .int nn, .ref a8, .int la, .ref a9, .ref a10, .long uq, .long lq, .int wq, .long pq, .long dq, .ref a11])), (a1, .inl (cI, 16, .inl Fi)), (a2, .inl (cI, 16, .inl Ma)), (a3, .inl (cI, 16, .inl Db)), (a4, .inl (cZ, 16, .inl Go)), (a5, .inl (cI, 576, .inl Sp)), (a6, .inl (cI, 40, .inl Ds)), (a7, .inl (cI, 120, .inl Dp)), (a8, .inl (cI, 320, .inl No))]) [0, 1, 2, 3, 4, 5, 6, 7, 8] (by decide) rfl
                have hK9 := hK.sub (tys' := [(cI, .int), (cZ, .boolean)]) [0, 1] rfl
                refine W.widen (k := 0) (n := 0) (by omega) (by omega) ?_
                exact W.iret (v := dn) hx hb hr (fun t ht hW => ⟨⟨_, (), rfl, (Or.inr (Or.inr (Or.inr (Or.inr (Or.inl ⟨by decide, rfl⟩))))), uq, lq, wq, pq, dq, by rw [ht]; exact hP9, va_K.moved hW.alike hK9, hD9⟩, hS.F ht⟩) hS.2.2 dX9_count_257
              · refine lv_tableIn (tgt := 268) (off := 75) hx hb dX9_count_193 (by decide) (by decide) (by decide) (by decide) ?_
                refine lv_iload_n hx hb dX9_count_268 rfl (lv_at hl 2 rfl) ?_
                have hP9 := hP.sub (ws' := [(h0, .inr (9, [.int th, .ref a1, .ref a2, .ref a3, .ref a4, .ref a5, .int ne, .int wi, .int dn, .ref a6, .ref a7, .int nn, .ref a8, .int la, .ref a9, .ref a10, .long uq, .long lq, .int wq, .long pq, .long dq, .ref a11])), (a1, .inl (cI, 16, .inl Fi)), (a2, .inl (cI, 16, .inl Ma)), (a3, .inl (cI, 16, .inl Db)), (a4, .inl (cZ, 16, .inl Go)), (a5, .inl (cI, 576, .inl Sp)), (a6, .inl (cI, 40, .inl Ds)), (a7, .inl (cI, 120, .inl Dp)), (a8, .inl (cI, 320, .inl No))]) [0, 1, 2, 3, 4, 5, 6, 7, 8] rfl
                have hD9 := hD.sub (ws' := [(h0, .inr (9, [.int th, .ref a1, .ref a2, .ref a3, .ref a4, .ref a5, .int ne, .int wi, .int dn, .ref a6, .ref a7, .int nn, .ref a8, .int la, .ref a9, .ref a10, .long uq, .long lq, .int wq, .long pq, .long dq, .ref a11])), (a1, .inl (cI, 16, .inl Fi)), (a2, .inl (cI, 16, .inl Ma)), (a3, .inl (cI, 16, .inl Db)), (a4, .inl (cZ, 16, .inl Go)), (a5, .inl (cI, 576, .inl Sp)), (a6, .inl (cI, 40, .inl Ds)), (a7, .inl (cI, 120, .inl Dp)), (a8, .inl (cI, 320, .inl No))]) [0, 1, 2, 3, 4, 5, 6, 7, 8] (by decide) rfl
                have hK9 := hK.sub (tys' := [(cI, .int), (cZ, .boolean)]) [0, 1] rfl
                refine W.widen (k := 0) (n := 0) (by omega) (by omega) ?_
                exact W.iret (v := n6) hx hb hr (fun t ht hW => ⟨⟨_, (), rfl, (co_m hH8 (by decide)), uq, lq, wq, pq, dq, by rw [ht]; exact hP9, va_K.moved hW.alike hK9, hD9⟩, hS.F ht⟩) hS.2.2 dX9_count_269
              · refine lv_tableIn (tgt := 268) (off := 75) hx hb dX9_count_193 (by decide) (by decide) (by decide) (by decide) ?_
                refine lv_iload_n hx hb dX9_count_268 rfl (lv_at hl 2 rfl) ?_
                have hP9 := hP.sub (ws' := [(h0, .inr (9, [.int th, .ref a1, .ref a2, .ref a3, .ref a4, .ref a5, .int ne, .int wi, .int dn, .ref a6, .ref a7, .int nn, .ref a8, .int la, .ref a9, .ref a10, .long uq, .long lq, .int wq, .long pq, .long dq, .ref a11])), (a1, .inl (cI, 16, .inl Fi)), (a2, .inl (cI, 16, .inl Ma)), (a3, .inl (cI, 16, .inl Db)), (a4, .inl (cZ, 16, .inl Go)), (a5, .inl (cI, 576, .inl Sp)), (a6, .inl (cI, 40, .inl Ds)), (a7, .inl (cI, 120, .inl Dp)), (a8, .inl (cI, 320, .inl No))]) [0, 1, 2, 3, 4, 5, 6, 7, 8] rfl
                have hD9 := hD.sub (ws' := [(h0, .inr (9, [.int th, .ref a1, .ref a2, .ref a3, .ref a4, .ref a5, .int ne, .int wi, .int dn, .ref a6, .ref a7, .int nn, .ref a8, .int la, .ref a9, .ref a10, .long uq, .long lq, .int wq, .long pq, .long dq, .ref a11])), (a1, .inl (cI, 16, .inl Fi)), (a2, .inl (cI, 16, .inl Ma)), (a3, .inl (cI, 16, .inl Db)), (a4, .inl (cZ, 16, .inl Go)), (a5, .inl (cI, 576, .inl Sp)), (a6, .inl (cI, 40, .inl Ds)), (a7, .inl (cI, 120, .inl Dp)), (a8, .inl (cI, 320, .inl No))]) [0, 1, 2, 3, 4, 5, 6, 7, 8] (by decide) rfl
                have hK9 := hK.sub (tys' := [(cI, .int), (cZ, .boolean)]) [0, 1] rfl
                refine W.widen (k := 0) (n := 0) (by omega) (by omega) ?_
                exact W.iret (v := n6) hx hb hr (fun t ht hW => ⟨⟨_, (), rfl, (co_m hH8 (by decide)), uq, lq, wq, pq, dq, by rw [ht]; exact hP9, va_K.moved hW.alike hK9, hD9⟩, hS.F ht⟩) hS.2.2 dX9_count_269
              · refine lv_tableIn (tgt := 268) (off := 75) hx hb dX9_count_193 (by decide) (by decide) (by decide) (by decide) ?_
                refine lv_iload_n hx hb dX9_count_268 rfl (lv_at hl 2 rfl) ?_
                have hP9 := hP.sub (ws' := [(h0, .inr (9, [.int th, .ref a1, .ref a2, .ref a3, .ref a4, .ref a5, .int ne, .int wi, .int dn, .ref a6, .ref a7, .int nn, .ref a8, .int la, .ref a9, .ref a10, .long uq, .long lq, .int wq, .long pq, .long dq, .ref a11])), (a1, .inl (cI, 16, .inl Fi)), (a2, .inl (cI, 16, .inl Ma)), (a3, .inl (cI, 16, .inl Db)), (a4, .inl (cZ, 16, .inl Go)), (a5, .inl (cI, 576, .inl Sp)), (a6, .inl (cI, 40, .inl Ds)), (a7, .inl (cI, 120, .inl Dp)), (a8, .inl (cI, 320, .inl No))]) [0, 1, 2, 3, 4, 5, 6, 7, 8] rfl
                have hD9 := hD.sub (ws' := [(h0, .inr (9, [.int th, .ref a1, .ref a2, .ref a3, .ref a4, .ref a5, .int ne, .int wi, .int dn, .ref a6, .ref a7, .int nn, .ref a8, .int la, .ref a9, .ref a10, .long uq, .long lq, .int wq, .long pq, .long dq, .ref a11])), (a1, .inl (cI, 16, .inl Fi)), (a2, .inl (cI, 16, .inl Ma)), (a3, .inl (cI, 16, .inl Db)), (a4, .inl (cZ, 16, .inl Go)), (a5, .inl (cI, 576, .inl Sp)), (a6, .inl (cI, 40, .inl Ds)), (a7, .inl (cI, 120, .inl Dp)), (a8, .inl (cI, 320, .inl No))]) [0, 1, 2, 3, 4, 5, 6, 7, 8] (by decide) rfl
                have hK9 := hK.sub (tys' := [(cI, .int), (cZ, .boolean)]) [0, 1] rfl
                refine W.widen (k := 0) (n := 0) (by omega) (by omega) ?_
                exact W.iret (v := n6) hx hb hr (fun t ht hW => ⟨⟨_, (), rfl, (co_m hH8 (by decide)), uq, lq, wq, pq, dq, by rw [ht]; exact hP9, va_K.moved hW.alike hK9, hD9⟩, hS.F ht⟩) hS.2.2 dX9_count_269
              · refine lv_tableIn (tgt := 258) (off := 65) hx hb dX9_count_193 (by decide) (by decide) (by decide) (by decide) ?_
                refine lv_aload_n hx hb dX9_count_258 rfl (lv_at hl 0 rfl) ?_
                refine va_get (D := (dC, dI)) (ci := 9) (v := .int nn) (C := RX9) (T := TX9) (N := 22) hx hb hts in_X9_countE_X9 hown hK hP 0 rfl rfl 11 (by decide) (hts (.fieldLink RX9 115 "MeetingsAboveModel" "notices" "I") (by decide +kernel)) (fun _ h9 => h9) rfl dX9_count_259 ?_
                have hP9 := hP.sub (ws' := [(h0, .inr (9, [.int th, .ref a1, .ref a2, .ref a3, .ref a4, .ref a5, .int ne, .int wi, .int dn, .ref a6, .ref a7, .int nn, .ref a8, .int la, .ref a9, .ref a10, .long uq, .long lq, .int wq, .long pq, .long dq, .ref a11])), (a1, .inl (cI, 16, .inl Fi)), (a2, .inl (cI, 16, .inl Ma)), (a3, .inl (cI, 16, .inl Db)), (a4, .inl (cZ, 16, .inl Go)), (a5, .inl (cI, 576, .inl Sp)), (a6, .inl (cI, 40, .inl Ds)), (a7, .inl (cI, 120, .inl Dp)), (a8, .inl (cI, 320, .inl No))]) [0, 1, 2, 3, 4, 5, 6, 7, 8] rfl
                have hD9 := hD.sub (ws' := [(h0, .inr (9, [.int th, .ref a1, .ref a2, .ref a3, .ref a4, .ref a5, .int ne, .int wi, .int dn, .ref a6, .ref a7, .int nn, .ref a8, .int la, .ref a9, .ref a10, .long uq, .long lq, .int wq, .long pq, .long dq, .ref a11])), (a1, .inl (cI, 16, .inl Fi)), (a2, .inl (cI, 16, .inl Ma)), (a3, .inl (cI, 16, .inl Db)), (a4, .inl (cZ, 16, .inl Go)), (a5, .inl (cI, 576, .inl Sp)), (a6, .inl (cI, 40, .inl Ds)), (a7, .inl (cI, 120, .inl Dp)), (a8, .inl (cI, 320, .inl No))]) [0, 1, 2, 3, 4, 5, 6, 7, 8] (by decide) rfl
                have hK9 := hK.sub (tys' := [(cI, .int), (cZ, .boolean)]) [0, 1] rfl
                refine W.widen (k := 0) (n := 0) (by omega) (by omega) ?_
                exact W.iret (v := nn) hx hb hr (fun t ht hW => ⟨⟨_, (), rfl, (Or.inr (Or.inr (Or.inr (Or.inr (Or.inr (Or.inr (Or.inr (Or.inr (Or.inl ⟨by decide, rfl⟩))))))))), uq, lq, wq, pq, dq, by rw [ht]; exact hP9, va_K.moved hW.alike hK9, hD9⟩, hS.F ht⟩) hS.2.2 dX9_count_262
              · refine lv_tableIn (tgt := 268) (off := 75) hx hb dX9_count_193 (by decide) (by decide) (by decide) (by decide) ?_
                refine lv_iload_n hx hb dX9_count_268 rfl (lv_at hl 2 rfl) ?_
                have hP9 := hP.sub (ws' := [(h0, .inr (9, [.int th, .ref a1, .ref a2, .ref a3, .ref a4, .ref a5, .int ne, .int wi, .int dn, .ref a6, .ref a7, .int nn, .ref a8, .int la, .ref a9, .ref a10, .long uq, .long lq, .int wq, .long pq, .long dq, .ref a11])), (a1, .inl (cI, 16, .inl Fi)), (a2, .inl (cI, 16, .inl Ma)), (a3, .inl (cI, 16, .inl Db)), (a4, .inl (cZ, 16, .inl Go)), (a5, .inl (cI, 576, .inl Sp)), (a6, .inl (cI, 40, .inl Ds)), (a7, .inl (cI, 120, .inl Dp)), (a8, .inl (cI, 320, .inl No))]) [0, 1, 2, 3, 4, 5, 6, 7, 8] rfl
                have hD9 := hD.sub (ws' := [(h0, .inr (9, [.int th, .ref a1, .ref a2, .ref a3, .ref a4, .ref a5, .int ne, .int wi, .int dn, .ref a6, .ref a7, .int nn, .ref a8, .int la, .ref a9, .ref a10, .long uq, .long lq, .int wq, .long pq, .long dq, .ref a11])), (a1, .inl (cI, 16, .inl Fi)), (a2, .inl (cI, 16, .inl Ma)), (a3, .inl (cI, 16, .inl Db)), (a4, .inl (cZ, 16, .inl Go)), (a5, .inl (cI, 576, .inl Sp)), (a6, .inl (cI, 40, .inl Ds)), (a7, .inl (cI, 120, .inl Dp)), (a8, .inl (cI, 320, .inl No))]) [0, 1, 2, 3, 4, 5, 6, 7, 8] (by decide) rfl
                have hK9 := hK.sub (tys' := [(cI, .int), (cZ, .boolean)]) [0, 1] rfl
                refine W.widen (k := 0) (n := 0) (by omega) (by omega) ?_
                exact W.iret (v := n6) hx hb hr (fun t ht hW => ⟨⟨_, (), rfl, (co_m hH8 (by decide)), uq, lq, wq, pq, dq, by rw [ht]; exact hP9, va_K.moved hW.alike hK9, hD9⟩, hS.F ht⟩) hS.2.2 dX9_count_269
              · refine lv_tableIn (tgt := 263) (off := 70) hx hb dX9_count_193 (by decide) (by decide) (by decide) (by decide) ?_
                refine lv_aload_n hx hb dX9_count_263 rfl (lv_at hl 0 rfl) ?_
                refine va_get (D := (dC, dI)) (ci := 9) (v := .int la) (C := RX9) (T := TX9) (N := 22) hx hb hts in_X9_countE_X9 hown hK hP 0 rfl rfl 13 (by decide) (hts (.fieldLink RX9 118 "MeetingsAboveModel" "late" "I") (by decide +kernel)) (fun _ h9 => h9) rfl dX9_count_264 ?_
                have hP9 := hP.sub (ws' := [(h0, .inr (9, [.int th, .ref a1, .ref a2, .ref a3, .ref a4, .ref a5, .int ne, .int wi, .int dn, .ref a6, .ref a7, .int nn, .ref a8, .int la, .ref a9, .ref a10, .long uq, .long lq, .int wq, .long pq, .long dq, .ref a11])), (a1, .inl (cI, 16, .inl Fi)), (a2, .inl (cI, 16, .inl Ma)), (a3, .inl (cI, 16, .inl Db)), (a4, .inl (cZ, 16, .inl Go)), (a5, .inl (cI, 576, .inl Sp)), (a6, .inl (cI, 40, .inl Ds)), (a7, .inl (cI, 120, .inl Dp)), (a8, .inl (cI, 320, .inl No))]) [0, 1, 2, 3, 4, 5, 6, 7, 8] rfl
                have hD9 := hD.sub (ws' := [(h0, .inr (9, [.int th, .ref a1, .ref a2, .ref a3, .ref a4, .ref a5, .int ne, .int wi, .int dn, .ref a6, .ref a7, .int nn, .ref a8, .int la, .ref a9, .ref a10, .long uq, .long lq, .int wq, .long pq, .long dq, .ref a11])), (a1, .inl (cI, 16, .inl Fi)), (a2, .inl (cI, 16, .inl Ma)), (a3, .inl (cI, 16, .inl Db)), (a4, .inl (cZ, 16, .inl Go)), (a5, .inl (cI, 576, .inl Sp)), (a6, .inl (cI, 40, .inl Ds)), (a7, .inl (cI, 120, .inl Dp)), (a8, .inl (cI, 320, .inl No))]) [0, 1, 2, 3, 4, 5, 6, 7, 8] (by decide) rfl
                have hK9 := hK.sub (tys' := [(cI, .int), (cZ, .boolean)]) [0, 1] rfl
                refine W.widen (k := 0) (n := 0) (by omega) (by omega) ?_
                exact W.iret (v := la) hx hb hr (fun t ht hW => ⟨⟨_, (), rfl, (Or.inr (Or.inr (Or.inr (Or.inr (Or.inr (Or.inr (Or.inr (Or.inr (Or.inr (Or.inr (⟨by decide, rfl⟩))))))))))), uq, lq, wq, pq, dq, by rw [ht]; exact hP9, va_K.moved hW.alike hK9, hD9⟩, hS.F ht⟩) hS.2.2 dX9_count_267
            · have t_154 := mt (fa_le _ _).mpr c_154
              refine lv_iload_n hx hb dX9_count_157 rfl (lv_at hl 2 rfl) ?_
              refine lv_iload_n hx hb dX9_count_158 rfl (lv_at hl 1 rfl) ?_
              refine lv_bipush (v := 8) hx hb dX9_count_159 (by decide) ?_
              refine lv_icmp_ne (tgt := 183) hx hb dX9_count_161 (by decide) (fun c_161 => ?_) (fun c_161 => ?_)
              · have t_161 := mt (fa_eq _ _).mpr c_161
                refine lv_iconst (v := 0) hx hb dX9_count_183 (by decide) ?_
                have b9 := ca_le (v := mTV Fi Ma Db Go Sp) (M := (mtM (mTV Fi Ma Db Go Sp) ne.toInt)) (sz := th.toInt.toNat) (t := th.toInt.toNat) (wh := p1.toInt) (by omega) (by omega)
                have b8 := cd_le (v := mTV Fi Ma Db Go Sp) (sz := th.toInt.toNat) (u := mDV Ds Dp) (wh := p1.toInt) (d := dn.toInt.toNat)
                have b7 := ch_le (w := mNV No) (wh := p1.toInt) (k := k3.toInt.toNat)
                refine lv_iadd hx hb dX9_count_184 ?_
                refine lv_topi (fun y_1 ey_1 => ?_)
                have ty_1 : y_1.toInt = n6.toInt + 0 := by rw [ey_1]; have := fb_addI (x := n6) (y := 0) (by omega) (by omega); omega
                refine lv_istore_n (lv' := [(2, .int y_1), (0, .ref h0), (1, .int p1), (3, .int k3)]) hx hb dX9_count_185 rfl hl (by decide) rfl (fun ls hl => ?_)
                have hN9 : (y_1).toInt = ((caN (mTV Fi Ma Db Go Sp) (mtM (mTV Fi Ma Db Go Sp) ne.toInt) th.toInt.toNat p1.toInt th.toInt.toNat + cdN (mTV Fi Ma Db Go Sp) th.toInt.toNat (mDV Ds Dp) p1.toInt dn.toInt.toNat + chN (mNV No) p1.toInt (k3.toInt.toNat + 1) : Nat) : Int) := by rw [ch_n (w := mNV No) (k := k3.toInt.toNat) (wh := p1.toInt) (fun z9 => by have z1 := z9.1; have z2 : (No (8 * k3.toInt.toNat + 5)).toInt = 1 := z9.2; omega)]; omega
                obtain ⟨y_2, ey_2⟩ : ∃ y : Int32, y = k3 + 1 := ⟨_, rfl⟩
                have ty_2 : y_2.toInt = k3.toInt + 1 := by rw [ey_2]; have := fb_addI (x := k3) (y := 1) (by omega) (by omega); omega
                refine lv_iinc (v := y_2) (lv' := [(3, .int y_2), (2, .int y_1), (0, .ref h0), (1, .int p1)]) hx hb dX9_count_186 hl (k := 3) rfl (by rw [ey_2]; rfl) (by decide) rfl (fun ls hl => ?_)
                refine lv_goto (tgt := 149) hx hb dX9_count_189 (by decide) ?_
                exact ih_149 y_1 y_2 (by omega) (by omega) (by rw [show (y_2).toInt.toNat = k3.toInt.toNat + 1 by omega]; exact hN9) (by omega) H _ (hP.sub [0, 1, 2, 3, 4, 5, 6, 7, 8] rfl) (hD.sub [0, 1, 2, 3, 4, 5, 6, 7, 8] (by decide) rfl) hS ls (lv_sub hl [2, 3, 1, 0] rfl)
              · have t_161 := (fa_eq _ _).mp c_161
                refine lv_aload_n hx hb dX9_count_164 rfl (lv_at hl 0 rfl) ?_
                refine va_get (D := (dC, dI)) (ci := 9) (v := .ref a8) (C := RX9) (T := TX9) (N := 22) hx hb hts in_X9_countE_X9 hown hK hP 0 rfl rfl 12 (by decide) (hts (.fieldLink RX9 39 "MeetingsAboveModel" "noted" "[I") (by decide +kernel)) (fun _ h9 => h9) rfl dX9_count_165 ?_
                refine lv_bipush (v := 8) hx hb dX9_count_168 (by decide) ?_
                refine lv_iload_n hx hb dX9_count_170 rfl (lv_at hl 3 rfl) ?_
                refine lv_imul hx hb dX9_count_171 ?_
                refine lv_topi (fun y_3 ey_3 => ?_)
                have ty_3 : y_3.toInt = 8 * k3.toInt := by rw [ey_3]; exact fm_lI kl_8 (by omega) (by omega)
                refine lv_iconst (v := 5) hx hb dX9_count_172 (by decide) ?_
                refine lv_iadd hx hb dX9_count_173 ?_
                refine lv_topi (fun y_4 ey_4 => ?_)
                have ty_4 : y_4.toInt = y_3.toInt + 5 := by rw [ey_4]; have := fb_addI (x := y_3) (y := 5) (by omega) (by omega); omega
                refine va_iald hx hb hK hP 8 0 rfl rfl (vp_in_iff.mpr ⟨by omega, by omega⟩) dX9_count_174 ?_
                refine lv_topi (fun y_5 ey_5 => ?_)
                have ny_5 : (((y_4 : Int32).toNatClampNeg : Nat) : Int) = (y_4 : Int32).toInt := tc_I (by omega)
                have uy_5 : y_5.toInt = (No (8 * k3.toInt.toNat + 5)).toInt := by rw [ey_5, show (y_4 : Int32).toNatClampNeg = 8 * k3.toInt.toNat + 5 by omega]
                refine lv_iconst (v := 1) hx hb dX9_count_175 (by decide) ?_
                refine lv_icmp_ne (tgt := 183) hx hb dX9_count_176 (by decide) (fun c_176 => ?_) (fun c_176 => ?_)
                · have t_176 := mt (fa_eq _ _).mpr c_176
                  refine lv_iconst (v := 0) hx hb dX9_count_183 (by decide) ?_
                  have b9 := ca_le (v := mTV Fi Ma Db Go Sp) (M := (mtM (mTV Fi Ma Db Go Sp) ne.toInt)) (sz := th.toInt.toNat) (t := th.toInt.toNat) (wh := p1.toInt) (by omega) (by omega)
                  have b8 := cd_le (v := mTV Fi Ma Db Go Sp) (sz := th.toInt.toNat) (u := mDV Ds Dp) (wh := p1.toInt) (d := dn.toInt.toNat)
                  have b7 := ch_le (w := mNV No) (wh := p1.toInt) (k := k3.toInt.toNat)
                  refine lv_iadd hx hb dX9_count_184 ?_
                  refine lv_topi (fun y_6 ey_6 => ?_)
                  have ty_6 : y_6.toInt = n6.toInt + 0 := by rw [ey_6]; have := fb_addI (x := n6) (y := 0) (by omega) (by omega); omega
                  refine lv_istore_n (lv' := [(2, .int y_6), (0, .ref h0), (1, .int p1), (3, .int k3)]) hx hb dX9_count_185 rfl hl (by decide) rfl (fun ls hl => ?_)
                  have hN9 : (y_6).toInt = ((caN (mTV Fi Ma Db Go Sp) (mtM (mTV Fi Ma Db Go Sp) ne.toInt) th.toInt.toNat p1.toInt th.toInt.toNat + cdN (mTV Fi Ma Db Go Sp) th.toInt.toNat (mDV Ds Dp) p1.toInt dn.toInt.toNat + chN (mNV No) p1.toInt (k3.toInt.toNat + 1) : Nat) : Int) := by rw [ch_n (w := mNV No) (k := k3.toInt.toNat) (wh := p1.toInt) (fun z9 => by have z1 := z9.1; have z2 : (No (8 * k3.toInt.toNat + 5)).toInt = 1 := z9.2; omega)]; omega
                  obtain ⟨y_7, ey_7⟩ : ∃ y : Int32, y = k3 + 1 := ⟨_, rfl⟩
                  have ty_7 : y_7.toInt = k3.toInt + 1 := by rw [ey_7]; have := fb_addI (x := k3) (y := 1) (by omega) (by omega); omega
                  refine lv_iinc (v := y_7) (lv' := [(3, .int y_7), (2, .int y_6), (0, .ref h0), (1, .int p1)]) hx hb dX9_count_186 hl (k := 3) rfl (by rw [ey_7]; rfl) (by decide) rfl (fun ls hl => ?_)
                  refine lv_goto (tgt := 149) hx hb dX9_count_189 (by decide) ?_
                  exact ih_149 y_6 y_7 (by omega) (by omega) (by rw [show (y_7).toInt.toNat = k3.toInt.toNat + 1 by omega]; exact hN9) (by omega) H _ (hP.sub [0, 1, 2, 3, 4, 5, 6, 7, 8] rfl) (hD.sub [0, 1, 2, 3, 4, 5, 6, 7, 8] (by decide) rfl) hS ls (lv_sub hl [2, 3, 1, 0] rfl)
                · have t_176 := (fa_eq _ _).mp c_176
                  refine lv_iconst (v := 1) hx hb dX9_count_179 (by decide) ?_
                  refine lv_goto (tgt := 184) hx hb dX9_count_180 (by decide) ?_
                  have b9 := ca_le (v := mTV Fi Ma Db Go Sp) (M := (mtM (mTV Fi Ma Db Go Sp) ne.toInt)) (sz := th.toInt.toNat) (t := th.toInt.toNat) (wh := p1.toInt) (by omega) (by omega)
                  have b8 := cd_le (v := mTV Fi Ma Db Go Sp) (sz := th.toInt.toNat) (u := mDV Ds Dp) (wh := p1.toInt) (d := dn.toInt.toNat)
                  have b7 := ch_le (w := mNV No) (wh := p1.toInt) (k := k3.toInt.toNat)
                  refine lv_iadd hx hb dX9_count_184 ?_
                  refine lv_topi (fun y_8 ey_8 => ?_)
                  have ty_8 : y_8.toInt = n6.toInt + 1 := by rw [ey_8]; have := fb_addI (x := n6) (y := 1) (by omega) (by omega); omega
                  refine lv_istore_n (lv' := [(2, .int y_8), (0, .ref h0), (1, .int p1), (3, .int k3)]) hx hb dX9_count_185 rfl hl (by decide) rfl (fun ls hl => ?_)
                  have hN9 : (y_8).toInt = ((caN (mTV Fi Ma Db Go Sp) (mtM (mTV Fi Ma Db Go Sp) ne.toInt) th.toInt.toNat p1.toInt th.toInt.toNat + cdN (mTV Fi Ma Db Go Sp) th.toInt.toNat (mDV Ds Dp) p1.toInt dn.toInt.toNat + chN (mNV No) p1.toInt (k3.toInt.toNat + 1) : Nat) : Int) := by rw [ch_y (w := mNV No) (k := k3.toInt.toNat) (wh := p1.toInt) (by omega) (by omega : (No (8 * k3.toInt.toNat + 5)).toInt = 1)]; omega
                  obtain ⟨y_9, ey_9⟩ : ∃ y : Int32, y = k3 + 1 := ⟨_, rfl⟩
                  have ty_9 : y_9.toInt = k3.toInt + 1 := by rw [ey_9]; have := fb_addI (x := k3) (y := 1) (by omega) (by omega); omega
                  refine lv_iinc (v := y_9) (lv' := [(3, .int y_9), (2, .int y_8), (0, .ref h0), (1, .int p1)]) hx hb dX9_count_186 hl (k := 3) rfl (by rw [ey_9]; rfl) (by decide) rfl (fun ls hl => ?_)
                  refine lv_goto (tgt := 149) hx hb dX9_count_189 (by decide) ?_
                  exact ih_149 y_8 y_9 (by omega) (by omega) (by rw [show (y_9).toInt.toNat = k3.toInt.toNat + 1 by omega]; exact hN9) (by omega) H _ (hP.sub [0, 1, 2, 3, 4, 5, 6, 7, 8] rfl) (hD.sub [0, 1, 2, 3, 4, 5, 6, 7, 8] (by decide) rfl) hS ls (lv_sub hl [2, 3, 1, 0] rfl)
        · have t_90 := mt (fa_le _ _).mpr c_90
          have nd3 : ((d3.toNatClampNeg : Nat) : Int) = d3.toInt := tc_I (by omega)
          have hdp := dp_all (hDk d3.toNatClampNeg (by omega))
          refine lv_aload_n hx hb dX9_count_93 rfl (lv_at hl 0 rfl) ?_
          refine lv_iload_n hx hb dX9_count_94 rfl (lv_at hl 3 rfl) ?_
          have hPc := hP.sub (ws' := [(h0, .inr (9, [.int th, .ref a1, .ref a2, .ref a3, .ref a4, .ref a5, .int ne, .int wi, .int dn, .ref a6, .ref a7, .int nn, .ref a8, .int la, .ref a9, .ref a10, .long uq, .long lq, .int wq, .long pq, .long dq, .ref a11])), (a1, .inl (cI, 16, .inl Fi)), (a2, .inl (cI, 16, .inl Ma)), (a3, .inl (cI, 16, .inl Db)), (a4, .inl (cZ, 16, .inl Go)), (a5, .inl (cI, 576, .inl Sp)), (a6, .inl (cI, 40, .inl Ds)), (a7, .inl (cI, 120, .inl Dp))]) [0, 1, 2, 3, 4, 5, 6, 7] rfl
          have hKc := hK.sub (tys' := [(cI, .int), (cZ, .boolean)]) [0, 1] rfl
          refine vp_callSi (W.runV (As := [.int d3]) (rest := []) ⟨hx, hb, hml, hown, hts⟩ (c_X9_dotOfE l dC dI h0 a1 a2 a3 a4 a5 a6 a7 a8 a9 a10 a11 th ne wi dn nn la wq uq lq pq dq cI cZ Fi Ma Db Go Sp Ds Dp d3 (by first | assumption | omega) (by first | omega | assumption) (by first | omega | assumption) (by first | assumption | omega) (by first | assumption | omega)) (cwV 1 hts g_X9_countE__X9_dotOfE_112 rfl rfl rfl (by decide +kernel) ⟨Nat.le_of_ble_eq_true rfl, Nat.le_of_ble_eq_true rfl⟩) ⟨fun a U g mk q => by obtain ⟨q0, qP, qK⟩ := q; exact ⟨q0, qP, va_K.moved (u := U) (U := U.calling g mk a) (Vm.Alike.refl U.vm) qK⟩, va_recv hKc hPc (ci := 9) (q0 := 0) rfl rfl, fun U hU hW => ⟨rfl, by rw [hU]; exact hPc, va_K.moved hW.alike hKc⟩⟩ rfl rfl hl.1 rfl (lv_room (Nat.le_of_ble_eq_true rfl)) dX9_count_95 ⟨Nat.le_of_ble_eq_true rfl, Nat.le_of_ble_eq_true rfl⟩) (fun r_10 hr_10 => ?_)
          try dsimp only at hr_10
          have e95 : (r_10).toInt = dtN (mTV Fi Ma Db Go Sp) th.toInt.toNat (mDV Ds Dp d3.toInt.toNat) := hr_10
          refine lv_istore (lv' := [(4, .int r_10), (0, .ref h0), (1, .int p1), (2, .int n5), (3, .int d3)]) hx hb dX9_count_98 hl (by decide) rfl (fun ls hl => ?_)
          refine lv_iload_n hx hb dX9_count_100 rfl (lv_at hl 3 rfl) ?_
          refine lv_iload_n hx hb dX9_count_101 rfl (lv_at hl 2 rfl) ?_
          refine lv_iconst (v := 4) hx hb dX9_count_102 (by decide) ?_
          refine lv_icmp_ne (tgt := 112) hx hb dX9_count_103 (by decide) (fun c_103 => ?_) (fun c_103 => ?_)
          · have t_103 := mt (fa_eq _ _).mpr c_103
            refine lv_iload_n hx hb dX9_count_112 rfl (lv_at hl 2 rfl) ?_
            refine lv_iconst (v := 5) hx hb dX9_count_113 (by decide) ?_
            refine lv_icmp_ne (tgt := 123) hx hb dX9_count_114 (by decide) (fun c_114 => ?_) (fun c_114 => ?_)
            · have t_114 := mt (fa_eq _ _).mpr c_114
              refine lv_iload_n hx hb dX9_count_123 rfl (lv_at hl 2 rfl) ?_
              refine lv_bipush (v := 6) hx hb dX9_count_124 (by decide) ?_
              refine lv_icmp_ne (tgt := 138) hx hb dX9_count_126 (by decide) (fun c_126 => ?_) (fun c_126 => ?_)
              · have t_126 := mt (fa_eq _ _).mpr c_126
                refine lv_iconst (v := 0) hx hb dX9_count_138 (by decide) ?_
                have b9 := ca_le (v := mTV Fi Ma Db Go Sp) (M := (mtM (mTV Fi Ma Db Go Sp) ne.toInt)) (sz := th.toInt.toNat) (t := th.toInt.toNat) (wh := p1.toInt) (by omega) (by omega)
                have b8 := cd_le (v := mTV Fi Ma Db Go Sp) (sz := th.toInt.toNat) (u := mDV Ds Dp) (wh := p1.toInt) (d := d3.toInt.toNat)
                refine lv_iadd hx hb dX9_count_139 ?_
                refine lv_topi (fun y_11 ey_11 => ?_)
                have ty_11 : y_11.toInt = n5.toInt + 0 := by rw [ey_11]; have := fb_addI (x := n5) (y := 0) (by omega) (by omega); omega
                refine lv_istore_n (lv' := [(2, .int y_11), (4, .int r_10), (0, .ref h0), (1, .int p1), (3, .int d3)]) hx hb dX9_count_140 rfl hl (by decide) rfl (fun ls hl => ?_)
                have hN9 : (y_11).toInt = ((caN (mTV Fi Ma Db Go Sp) (mtM (mTV Fi Ma Db Go Sp) ne.toInt) th.toInt.toNat p1.toInt th.toInt.toNat + cdN (mTV Fi Ma Db Go Sp) th.toInt.toNat (mDV Ds Dp) p1.toInt (d3.toInt.toNat + 1) : Nat) : Int) := by rw [cd_n (v := mTV Fi Ma Db Go Sp) (sz := th.toInt.toNat) (u := mDV Ds Dp) (d := d3.toInt.toNat) (wh := p1.toInt) e95 (by omega)]; omega
                obtain ⟨y_12, ey_12⟩ : ∃ y : Int32, y = d3 + 1 := ⟨_, rfl⟩
                have ty_12 : y_12.toInt = d3.toInt + 1 := by rw [ey_12]; have := fb_addI (x := d3) (y := 1) (by omega) (by omega); omega
                refine lv_iinc (v := y_12) (lv' := [(3, .int y_12), (2, .int y_11), (4, .int r_10), (0, .ref h0), (1, .int p1)]) hx hb dX9_count_141 hl (k := 4) rfl (by rw [ey_12]; rfl) (by decide) rfl (fun ls hl => ?_)
                refine lv_goto (tgt := 85) hx hb dX9_count_144 (by decide) ?_
                exact ih_85 y_11 y_12 (by omega) (by omega) (by rw [show (y_12).toInt.toNat = d3.toInt.toNat + 1 by omega]; exact hN9) (by omega) H _ (hP.sub [0, 1, 2, 3, 4, 5, 6, 7, 8] rfl) (hD.sub [0, 1, 2, 3, 4, 5, 6, 7, 8] (by decide) rfl) hS ls (lv_sub hl [3, 4, 1, 0] rfl)
              · have t_126 := (fa_eq _ _).mp c_126
                refine lv_iload hx hb dX9_count_129 (lv_at hl 0 rfl) ?_
                refine lv_if_ne (tgt := 138) hx hb dX9_count_131 (by decide) (fun c_131 => ?_) (fun c_131 => ?_)
                · have t_131 := mt (fa_eq _ _).mpr c_131
                  refine lv_iconst (v := 0) hx hb dX9_count_138 (by decide) ?_
                  have b9 := ca_le (v := mTV Fi Ma Db Go Sp) (M := (mtM (mTV Fi Ma Db Go Sp) ne.toInt)) (sz := th.toInt.toNat) (t := th.toInt.toNat) (wh := p1.toInt) (by omega) (by omega)
                  have b8 := cd_le (v := mTV Fi Ma Db Go Sp) (sz := th.toInt.toNat) (u := mDV Ds Dp) (wh := p1.toInt) (d := d3.toInt.toNat)
                  refine lv_iadd hx hb dX9_count_139 ?_
                  refine lv_topi (fun y_13 ey_13 => ?_)
                  have ty_13 : y_13.toInt = n5.toInt + 0 := by rw [ey_13]; have := fb_addI (x := n5) (y := 0) (by omega) (by omega); omega
                  refine lv_istore_n (lv' := [(2, .int y_13), (4, .int r_10), (0, .ref h0), (1, .int p1), (3, .int d3)]) hx hb dX9_count_140 rfl hl (by decide) rfl (fun ls hl => ?_)
                  have hN9 : (y_13).toInt = ((caN (mTV Fi Ma Db Go Sp) (mtM (mTV Fi Ma Db Go Sp) ne.toInt) th.toInt.toNat p1.toInt th.toInt.toNat + cdN (mTV Fi Ma Db Go Sp) th.toInt.toNat (mDV Ds Dp) p1.toInt (d3.toInt.toNat + 1) : Nat) : Int) := by rw [cd_n (v := mTV Fi Ma Db Go Sp) (sz := th.toInt.toNat) (u := mDV Ds Dp) (d := d3.toInt.toNat) (wh := p1.toInt) e95 (by omega)]; omega
                  obtain ⟨y_14, ey_14⟩ : ∃ y : Int32, y = d3 + 1 := ⟨_, rfl⟩
                  have ty_14 : y_14.toInt = d3.toInt + 1 := by rw [ey_14]; have := fb_addI (x := d3) (y := 1) (by omega) (by omega); omega
                  refine lv_iinc (v := y_14) (lv' := [(3, .int y_14), (2, .int y_13), (4, .int r_10), (0, .ref h0), (1, .int p1)]) hx hb dX9_count_141 hl (k := 4) rfl (by rw [ey_14]; rfl) (by decide) rfl (fun ls hl => ?_)
                  refine lv_goto (tgt := 85) hx hb dX9_count_144 (by decide) ?_
                  exact ih_85 y_13 y_14 (by omega) (by omega) (by rw [show (y_14).toInt.toNat = d3.toInt.toNat + 1 by omega]; exact hN9) (by omega) H _ (hP.sub [0, 1, 2, 3, 4, 5, 6, 7, 8] rfl) (hD.sub [0, 1, 2, 3, 4, 5, 6, 7, 8] (by decide) rfl) hS ls (lv_sub hl [3, 4, 1, 0] rfl)
                · have t_131 := (fa_eq _ _).mp c_131
                  refine lv_iconst (v := 1) hx hb dX9_count_134 (by decide) ?_
                  refine lv_goto (tgt := 139) hx hb dX9_count_135 (by decide) ?_
                  have b9 := ca_le (v := mTV Fi Ma Db Go Sp) (M := (mtM (mTV Fi Ma Db Go Sp) ne.toInt)) (sz := th.toInt.toNat) (t := th.toInt.toNat) (wh := p1.toInt) (by omega) (by omega)
                  have b8 := cd_le (v := mTV Fi Ma Db Go Sp) (sz := th.toInt.toNat) (u := mDV Ds Dp) (wh := p1.toInt) (d := d3.toInt.toNat)
                  refine lv_iadd hx hb dX9_count_139 ?_
                  refine lv_topi (fun y_15 ey_15 => ?_)
                  have ty_15 : y_15.toInt = n5.toInt + 1 := by rw [ey_15]; have := fb_addI (x := n5) (y := 1) (by omega) (by omega); omega
                  refine lv_istore_n (lv' := [(2, .int y_15), (4, .int r_10), (0, .ref h0), (1, .int p1), (3, .int d3)]) hx hb dX9_count_140 rfl hl (by decide) rfl (fun ls hl => ?_)
                  have hN9 : (y_15).toInt = ((caN (mTV Fi Ma Db Go Sp) (mtM (mTV Fi Ma Db Go Sp) ne.toInt) th.toInt.toNat p1.toInt th.toInt.toNat + cdN (mTV Fi Ma Db Go Sp) th.toInt.toNat (mDV Ds Dp) p1.toInt (d3.toInt.toNat + 1) : Nat) : Int) := by rw [cd_y (v := mTV Fi Ma Db Go Sp) (sz := th.toInt.toNat) (u := mDV Ds Dp) (d := d3.toInt.toNat) (wh := p1.toInt) (by omega) e95 (by omega)]; omega
                  obtain ⟨y_16, ey_16⟩ : ∃ y : Int32, y = d3 + 1 := ⟨_, rfl⟩
                  have ty_16 : y_16.toInt = d3.toInt + 1 := by rw [ey_16]; have := fb_addI (x := d3) (y := 1) (by omega) (by omega); omega
                  refine lv_iinc (v := y_16) (lv' := [(3, .int y_16), (2, .int y_15), (4, .int r_10), (0, .ref h0), (1, .int p1)]) hx hb dX9_count_141 hl (k := 4) rfl (by rw [ey_16]; rfl) (by decide) rfl (fun ls hl => ?_)
                  refine lv_goto (tgt := 85) hx hb dX9_count_144 (by decide) ?_
                  exact ih_85 y_15 y_16 (by omega) (by omega) (by rw [show (y_16).toInt.toNat = d3.toInt.toNat + 1 by omega]; exact hN9) (by omega) H _ (hP.sub [0, 1, 2, 3, 4, 5, 6, 7, 8] rfl) (hD.sub [0, 1, 2, 3, 4, 5, 6, 7, 8] (by decide) rfl) hS ls (lv_sub hl [3, 4, 1, 0] rfl)
            · have t_114 := (fa_eq _ _).mp c_114
              refine lv_iload hx hb dX9_count_117 (lv_at hl 0 rfl) ?_
              refine lv_iconst (v := 1) hx hb dX9_count_119 (by decide) ?_
              refine lv_icmp_gt (tgt := 134) hx hb dX9_count_120 (by decide) (fun c_120 => ?_) (fun c_120 => ?_)
              · have t_120 := (fa_lt _ _).mp c_120
                refine lv_iconst (v := 1) hx hb dX9_count_134 (by decide) ?_
                refine lv_goto (tgt := 139) hx hb dX9_count_135 (by decide) ?_
                have b9 := ca_le (v := mTV Fi Ma Db Go Sp) (M := (mtM (mTV Fi Ma Db Go Sp) ne.toInt)) (sz := th.toInt.toNat) (t := th.toInt.toNat) (wh := p1.toInt) (by omega) (by omega)
                have b8 := cd_le (v := mTV Fi Ma Db Go Sp) (sz := th.toInt.toNat) (u := mDV Ds Dp) (wh := p1.toInt) (d := d3.toInt.toNat)
                refine lv_iadd hx hb dX9_count_139 ?_
                refine lv_topi (fun y_17 ey_17 => ?_)
                have ty_17 : y_17.toInt = n5.toInt + 1 := by rw [ey_17]; have := fb_addI (x := n5) (y := 1) (by omega) (by omega); omega
                refine lv_istore_n (lv' := [(2, .int y_17), (4, .int r_10), (0, .ref h0), (1, .int p1), (3, .int d3)]) hx hb dX9_count_140 rfl hl (by decide) rfl (fun ls hl => ?_)
                have hN9 : (y_17).toInt = ((caN (mTV Fi Ma Db Go Sp) (mtM (mTV Fi Ma Db Go Sp) ne.toInt) th.toInt.toNat p1.toInt th.toInt.toNat + cdN (mTV Fi Ma Db Go Sp) th.toInt.toNat (mDV Ds Dp) p1.toInt (d3.toInt.toNat + 1) : Nat) : Int) := by rw [cd_y (v := mTV Fi Ma Db Go Sp) (sz := th.toInt.toNat) (u := mDV Ds Dp) (d := d3.toInt.toNat) (wh := p1.toInt) (by omega) e95 (by omega)]; omega
                obtain ⟨y_18, ey_18⟩ : ∃ y : Int32, y = d3 + 1 := ⟨_, rfl⟩
                have ty_18 : y_18.toInt = d3.toInt + 1 := by rw [ey_18]; have := fb_addI (x := d3) (y := 1) (by omega) (by omega); omega
                refine lv_iinc (v := y_18) (lv' := [(3, .int y_18), (2, .int y_17), (4, .int r_10), (0, .ref h0), (1, .int p1)]) hx hb dX9_count_141 hl (k := 4) rfl (by rw [ey_18]; rfl) (by decide) rfl (fun ls hl => ?_)
                refine lv_goto (tgt := 85) hx hb dX9_count_144 (by decide) ?_
                exact ih_85 y_17 y_18 (by omega) (by omega) (by rw [show (y_18).toInt.toNat = d3.toInt.toNat + 1 by omega]; exact hN9) (by omega) H _ (hP.sub [0, 1, 2, 3, 4, 5, 6, 7, 8] rfl) (hD.sub [0, 1, 2, 3, 4, 5, 6, 7, 8] (by decide) rfl) hS ls (lv_sub hl [3, 4, 1, 0] rfl)
              · have t_120 := mt (fa_lt _ _).mpr c_120
                refine lv_iload_n hx hb dX9_count_123 rfl (lv_at hl 2 rfl) ?_
                refine lv_bipush (v := 6) hx hb dX9_count_124 (by decide) ?_
                refine lv_icmp_ne (tgt := 138) hx hb dX9_count_126 (by decide) (fun c_126 => ?_) (fun c_126 => ?_)
                · have t_126 := mt (fa_eq _ _).mpr c_126
                  refine lv_iconst (v := 0) hx hb dX9_count_138 (by decide) ?_
                  have b9 := ca_le (v := mTV Fi Ma Db Go Sp) (M := (mtM (mTV Fi Ma Db Go Sp) ne.toInt)) (sz := th.toInt.toNat) (t := th.toInt.toNat) (wh := p1.toInt) (by omega) (by omega)
                  have b8 := cd_le (v := mTV Fi Ma Db Go Sp) (sz := th.toInt.toNat) (u := mDV Ds Dp) (wh := p1.toInt) (d := d3.toInt.toNat)
                  refine lv_iadd hx hb dX9_count_139 ?_
                  refine lv_topi (fun y_19 ey_19 => ?_)
                  have ty_19 : y_19.toInt = n5.toInt + 0 := by rw [ey_19]; have := fb_addI (x := n5) (y := 0) (by omega) (by omega); omega
                  refine lv_istore_n (lv' := [(2, .int y_19), (4, .int r_10), (0, .ref h0), (1, .int p1), (3, .int d3)]) hx hb dX9_count_140 rfl hl (by decide) rfl (fun ls hl => ?_)
                  have hN9 : (y_19).toInt = ((caN (mTV Fi Ma Db Go Sp) (mtM (mTV Fi Ma Db Go Sp) ne.toInt) th.toInt.toNat p1.toInt th.toInt.toNat + cdN (mTV Fi Ma Db Go Sp) th.toInt.toNat (mDV Ds Dp) p1.toInt (d3.toInt.toNat + 1) : Nat) : Int) := by rw [cd_n (v := mTV Fi Ma Db Go Sp) (sz := th.toInt.toNat) (u := mDV Ds Dp) (d := d3.toInt.toNat) (wh := p1.toInt) e95 (by omega)]; omega
                  obtain ⟨y_20, ey_20⟩ : ∃ y : Int32, y = d3 + 1 := ⟨_, rfl⟩
                  have ty_20 : y_20.toInt = d3.toInt + 1 := by rw [ey_20]; have := fb_addI (x := d3) (y := 1) (by omega) (by omega); omega
                  refine lv_iinc (v := y_20) (lv' := [(3, .int y_20), (2, .int y_19), (4, .int r_10), (0, .ref h0), (1, .int p1)]) hx hb dX9_count_141 hl (k := 4) rfl (by rw [ey_20]; rfl) (by decide) rfl (fun ls hl => ?_)
                  refine lv_goto (tgt := 85) hx hb dX9_count_144 (by decide) ?_
                  exact ih_85 y_19 y_20 (by omega) (by omega) (by rw [show (y_20).toInt.toNat = d3.toInt.toNat + 1 by omega]; exact hN9) (by omega) H _ (hP.sub [0, 1, 2, 3, 4, 5, 6, 7, 8] rfl) (hD.sub [0, 1, 2, 3, 4, 5, 6, 7, 8] (by decide) rfl) hS ls (lv_sub hl [3, 4, 1, 0] rfl)
                · have t_126 := (fa_eq _ _).mp c_126
                  refine lv_iload hx hb dX9_count_129 (lv_at hl 0 rfl) ?_
                  refine lv_if_ne (tgt := 138) hx hb dX9_count_131 (by decide) (fun c_131 => ?_) (fun c_131 => ?_)
                  · have t_131 := mt (fa_eq _ _).mpr c_131
                    refine lv_iconst (v := 0) hx hb dX9_count_138 (by decide) ?_
                    have b9 := ca_le (v := mTV Fi Ma Db Go Sp) (M := (mtM (mTV Fi Ma Db Go Sp) ne.toInt)) (sz := th.toInt.toNat) (t := th.toInt.toNat) (wh := p1.toInt) (by omega) (by omega)
                    have b8 := cd_le (v := mTV Fi Ma Db Go Sp) (sz := th.toInt.toNat) (u := mDV Ds Dp) (wh := p1.toInt) (d := d3.toInt.toNat)
                    refine lv_iadd hx hb dX9_count_139 ?_
                    refine lv_topi (fun y_21 ey_21 => ?_)
                    have ty_21 : y_21.toInt = n5.toInt + 0 := by rw [ey_21]; have := fb_addI (x := n5) (y := 0) (by omega) (by omega); omega
                    refine lv_istore_n (lv' := [(2, .int y_21), (4, .int r_10), (0, .ref h0), (1, .int p1), (3, .int d3)]) hx hb dX9_count_140 rfl hl (by decide) rfl (fun ls hl => ?_)
                    have hN9 : (y_21).toInt = ((caN (mTV Fi Ma Db Go Sp) (mtM (mTV Fi Ma Db Go Sp) ne.toInt) th.toInt.toNat p1.toInt th.toInt.toNat + cdN (mTV Fi Ma Db Go Sp) th.toInt.toNat (mDV Ds Dp) p1.toInt (d3.toInt.toNat + 1) : Nat) : Int) := by rw [cd_n (v := mTV Fi Ma Db Go Sp) (sz := th.toInt.toNat) (u := mDV Ds Dp) (d := d3.toInt.toNat) (wh := p1.toInt) e95 (by omega)]; omega
                    obtain ⟨y_22, ey_22⟩ : ∃ y : Int32, y = d3 + 1 := ⟨_, rfl⟩
                    have ty_22 : y_22.toInt = d3.toInt + 1 := by rw [ey_22]; have := fb_addI (x := d3) (y := 1) (by omega) (by omega); omega
                    refine lv_iinc (v := y_22) (lv' := [(3, .int y_22), (2, .int y_21), (4, .int r_10), (0, .ref h0), (1, .int p1)]) hx hb dX9_count_141 hl (k := 4) rfl (by rw [ey_22]; rfl) (by decide) rfl (fun ls hl => ?_)
                    refine lv_goto (tgt := 85) hx hb dX9_count_144 (by decide) ?_
                    exact ih_85 y_21 y_22 (by omega) (by omega) (by rw [show (y_22).toInt.toNat = d3.toInt.toNat + 1 by omega]; exact hN9) (by omega) H _ (hP.sub [0, 1, 2, 3, 4, 5, 6, 7, 8] rfl) (hD.sub [0, 1, 2, 3, 4, 5, 6, 7, 8] (by decide) rfl) hS ls (lv_sub hl [3, 4, 1, 0] rfl)
                  · have t_131 := (fa_eq _ _).mp c_131
                    refine lv_iconst (v := 1) hx hb dX9_count_134 (by decide) ?_
                    refine lv_goto (tgt := 139) hx hb dX9_count_135 (by decide) ?_
                    have b9 := ca_le (v := mTV Fi Ma Db Go Sp) (M := (mtM (mTV Fi Ma Db Go Sp) ne.toInt)) (sz := th.toInt.toNat) (t := th.toInt.toNat) (wh := p1.toInt) (by omega) (by omega)
                    have b8 := cd_le (v := mTV Fi Ma Db Go Sp) (sz := th.toInt.toNat) (u := mDV Ds Dp) (wh := p1.toInt) (d := d3.toInt.toNat)
                    refine lv_iadd hx hb dX9_count_139 ?_
                    refine lv_topi (fun y_23 ey_23 => ?_)
                    have ty_23 : y_23.toInt = n5.toInt + 1 := by rw [ey_23]; have := fb_addI (x := n5) (y := 1) (by omega) (by omega); omega
                    refine lv_istore_n (lv' := [(2, .int y_23), (4, .int r_10), (0, .ref h0), (1, .int p1), (3, .int d3)]) hx hb dX9_count_140 rfl hl (by decide) rfl (fun ls hl => ?_)
                    have hN9 : (y_23).toInt = ((caN (mTV Fi Ma Db Go Sp) (mtM (mTV Fi Ma Db Go Sp) ne.toInt) th.toInt.toNat p1.toInt th.toInt.toNat + cdN (mTV Fi Ma Db Go Sp) th.toInt.toNat (mDV Ds Dp) p1.toInt (d3.toInt.toNat + 1) : Nat) : Int) := by rw [cd_y (v := mTV Fi Ma Db Go Sp) (sz := th.toInt.toNat) (u := mDV Ds Dp) (d := d3.toInt.toNat) (wh := p1.toInt) (by omega) e95 (by omega)]; omega
                    obtain ⟨y_24, ey_24⟩ : ∃ y : Int32, y = d3 + 1 := ⟨_, rfl⟩
                    have ty_24 : y_24.toInt = d3.toInt + 1 := by rw [ey_24]; have := fb_addI (x := d3) (y := 1) (by omega) (by omega); omega
                    refine lv_iinc (v := y_24) (lv' := [(3, .int y_24), (2, .int y_23), (4, .int r_10), (0, .ref h0), (1, .int p1)]) hx hb dX9_count_141 hl (k := 4) rfl (by rw [ey_24]; rfl) (by decide) rfl (fun ls hl => ?_)
                    refine lv_goto (tgt := 85) hx hb dX9_count_144 (by decide) ?_
                    exact ih_85 y_23 y_24 (by omega) (by omega) (by rw [show (y_24).toInt.toNat = d3.toInt.toNat + 1 by omega]; exact hN9) (by omega) H _ (hP.sub [0, 1, 2, 3, 4, 5, 6, 7, 8] rfl) (hD.sub [0, 1, 2, 3, 4, 5, 6, 7, 8] (by decide) rfl) hS ls (lv_sub hl [3, 4, 1, 0] rfl)
          · have t_103 := (fa_eq _ _).mp c_103
            refine lv_iload hx hb dX9_count_106 (lv_at hl 0 rfl) ?_
            refine lv_iconst (v := 1) hx hb dX9_count_108 (by decide) ?_
            refine lv_icmp_eq (tgt := 134) hx hb dX9_count_109 (by decide) (fun c_109 => ?_) (fun c_109 => ?_)
            · have t_109 := (fa_eq _ _).mp c_109
              refine lv_iconst (v := 1) hx hb dX9_count_134 (by decide) ?_
              refine lv_goto (tgt := 139) hx hb dX9_count_135 (by decide) ?_
              have b9 := ca_le (v := mTV Fi Ma Db Go Sp) (M := (mtM (mTV Fi Ma Db Go Sp) ne.toInt)) (sz := th.toInt.toNat) (t := th.toInt.toNat) (wh := p1.toInt) (by omega) (by omega)
              have b8 := cd_le (v := mTV Fi Ma Db Go Sp) (sz := th.toInt.toNat) (u := mDV Ds Dp) (wh := p1.toInt) (d := d3.toInt.toNat)
              refine lv_iadd hx hb dX9_count_139 ?_
              refine lv_topi (fun y_25 ey_25 => ?_)
              have ty_25 : y_25.toInt = n5.toInt + 1 := by rw [ey_25]; have := fb_addI (x := n5) (y := 1) (by omega) (by omega); omega
              refine lv_istore_n (lv' := [(2, .int y_25), (4, .int r_10), (0, .ref h0), (1, .int p1), (3, .int d3)]) hx hb dX9_count_140 rfl hl (by decide) rfl (fun ls hl => ?_)
              have hN9 : (y_25).toInt = ((caN (mTV Fi Ma Db Go Sp) (mtM (mTV Fi Ma Db Go Sp) ne.toInt) th.toInt.toNat p1.toInt th.toInt.toNat + cdN (mTV Fi Ma Db Go Sp) th.toInt.toNat (mDV Ds Dp) p1.toInt (d3.toInt.toNat + 1) : Nat) : Int) := by rw [cd_y (v := mTV Fi Ma Db Go Sp) (sz := th.toInt.toNat) (u := mDV Ds Dp) (d := d3.toInt.toNat) (wh := p1.toInt) (by omega) e95 (by omega)]; omega
              obtain ⟨y_26, ey_26⟩ : ∃ y : Int32, y = d3 + 1 := ⟨_, rfl⟩
              have ty_26 : y_26.toInt = d3.toInt + 1 := by rw [ey_26]; have := fb_addI (x := d3) (y := 1) (by omega) (by omega); omega
              refine lv_iinc (v := y_26) (lv' := [(3, .int y_26), (2, .int y_25), (4, .int r_10), (0, .ref h0), (1, .int p1)]) hx hb dX9_count_141 hl (k := 4) rfl (by rw [ey_26]; rfl) (by decide) rfl (fun ls hl => ?_)
              refine lv_goto (tgt := 85) hx hb dX9_count_144 (by decide) ?_
              exact ih_85 y_25 y_26 (by omega) (by omega) (by rw [show (y_26).toInt.toNat = d3.toInt.toNat + 1 by omega]; exact hN9) (by omega) H _ (hP.sub [0, 1, 2, 3, 4, 5, 6, 7, 8] rfl) (hD.sub [0, 1, 2, 3, 4, 5, 6, 7, 8] (by decide) rfl) hS ls (lv_sub hl [3, 4, 1, 0] rfl)
            · have t_109 := mt (fa_eq _ _).mpr c_109
              refine lv_iload_n hx hb dX9_count_112 rfl (lv_at hl 2 rfl) ?_
              refine lv_iconst (v := 5) hx hb dX9_count_113 (by decide) ?_
              refine lv_icmp_ne (tgt := 123) hx hb dX9_count_114 (by decide) (fun c_114 => ?_) (fun c_114 => ?_)
              · have t_114 := mt (fa_eq _ _).mpr c_114
                refine lv_iload_n hx hb dX9_count_123 rfl (lv_at hl 2 rfl) ?_
                refine lv_bipush (v := 6) hx hb dX9_count_124 (by decide) ?_
                refine lv_icmp_ne (tgt := 138) hx hb dX9_count_126 (by decide) (fun c_126 => ?_) (fun c_126 => ?_)
                · have t_126 := mt (fa_eq _ _).mpr c_126
                  refine lv_iconst (v := 0) hx hb dX9_count_138 (by decide) ?_
                  have b9 := ca_le (v := mTV Fi Ma Db Go Sp) (M := (mtM (mTV Fi Ma Db Go Sp) ne.toInt)) (sz := th.toInt.toNat) (t := th.toInt.toNat) (wh := p1.toInt) (by omega) (by omega)
                  have b8 := cd_le (v := mTV Fi Ma Db Go Sp) (sz := th.toInt.toNat) (u := mDV Ds Dp) (wh := p1.toInt) (d := d3.toInt.toNat)
                  refine lv_iadd hx hb dX9_count_139 ?_
                  refine lv_topi (fun y_27 ey_27 => ?_)
                  have ty_27 : y_27.toInt = n5.toInt + 0 := by rw [ey_27]; have := fb_addI (x := n5) (y := 0) (by omega) (by omega); omega
                  refine lv_istore_n (lv' := [(2, .int y_27), (4, .int r_10), (0, .ref h0), (1, .int p1), (3, .int d3)]) hx hb dX9_count_140 rfl hl (by decide) rfl (fun ls hl => ?_)
                  have hN9 : (y_27).toInt = ((caN (mTV Fi Ma Db Go Sp) (mtM (mTV Fi Ma Db Go Sp) ne.toInt) th.toInt.toNat p1.toInt th.toInt.toNat + cdN (mTV Fi Ma Db Go Sp) th.toInt.toNat (mDV Ds Dp) p1.toInt (d3.toInt.toNat + 1) : Nat) : Int) := by rw [cd_n (v := mTV Fi Ma Db Go Sp) (sz := th.toInt.toNat) (u := mDV Ds Dp) (d := d3.toInt.toNat) (wh := p1.toInt) e95 (by omega)]; omega
                  obtain ⟨y_28, ey_28⟩ : ∃ y : Int32, y = d3 + 1 := ⟨_, rfl⟩
                  have ty_28 : y_28.toInt = d3.toInt + 1 := by rw [ey_28]; have := fb_addI (x := d3) (y := 1) (by omega) (by omega); omega
                  refine lv_iinc (v := y_28) (lv' := [(3, .int y_28), (2, .int y_27), (4, .int r_10), (0, .ref h0), (1, .int p1)]) hx hb dX9_count_141 hl (k := 4) rfl (by rw [ey_28]; rfl) (by decide) rfl (fun ls hl => ?_)
                  refine lv_goto (tgt := 85) hx hb dX9_count_144 (by decide) ?_
                  exact ih_85 y_27 y_28 (by omega) (by omega) (by rw [show (y_28).toInt.toNat = d3.toInt.toNat + 1 by omega]; exact hN9) (by omega) H _ (hP.sub [0, 1, 2, 3, 4, 5, 6, 7, 8] rfl) (hD.sub [0, 1, 2, 3, 4, 5, 6, 7, 8] (by decide) rfl) hS ls (lv_sub hl [3, 4, 1, 0] rfl)
                · have t_126 := (fa_eq _ _).mp c_126
                  refine lv_iload hx hb dX9_count_129 (lv_at hl 0 rfl) ?_
                  refine lv_if_ne (tgt := 138) hx hb dX9_count_131 (by decide) (fun c_131 => ?_) (fun c_131 => ?_)
                  · have t_131 := mt (fa_eq _ _).mpr c_131
                    refine lv_iconst (v := 0) hx hb dX9_count_138 (by decide) ?_
                    have b9 := ca_le (v := mTV Fi Ma Db Go Sp) (M := (mtM (mTV Fi Ma Db Go Sp) ne.toInt)) (sz := th.toInt.toNat) (t := th.toInt.toNat) (wh := p1.toInt) (by omega) (by omega)
                    have b8 := cd_le (v := mTV Fi Ma Db Go Sp) (sz := th.toInt.toNat) (u := mDV Ds Dp) (wh := p1.toInt) (d := d3.toInt.toNat)
                    refine lv_iadd hx hb dX9_count_139 ?_
                    refine lv_topi (fun y_29 ey_29 => ?_)
                    have ty_29 : y_29.toInt = n5.toInt + 0 := by rw [ey_29]; have := fb_addI (x := n5) (y := 0) (by omega) (by omega); omega
                    refine lv_istore_n (lv' := [(2, .int y_29), (4, .int r_10), (0, .ref h0), (1, .int p1), (3, .int d3)]) hx hb dX9_count_140 rfl hl (by decide) rfl (fun ls hl => ?_)
                    have hN9 : (y_29).toInt = ((caN (mTV Fi Ma Db Go Sp) (mtM (mTV Fi Ma Db Go Sp) ne.toInt) th.toInt.toNat p1.toInt th.toInt.toNat + cdN (mTV Fi Ma Db Go Sp) th.toInt.toNat (mDV Ds Dp) p1.toInt (d3.toInt.toNat + 1) : Nat) : Int) := by rw [cd_n (v := mTV Fi Ma Db Go Sp) (sz := th.toInt.toNat) (u := mDV Ds Dp) (d := d3.toInt.toNat) (wh := p1.toInt) e95 (by omega)]; omega
                    obtain ⟨y_30, ey_30⟩ : ∃ y : Int32, y = d3 + 1 := ⟨_, rfl⟩
                    have ty_30 : y_30.toInt = d3.toInt + 1 := by rw [ey_30]; have := fb_addI (x := d3) (y := 1) (by omega) (by omega); omega
                    refine lv_iinc (v := y_30) (lv' := [(3, .int y_30), (2, .int y_29), (4, .int r_10), (0, .ref h0), (1, .int p1)]) hx hb dX9_count_141 hl (k := 4) rfl (by rw [ey_30]; rfl) (by decide) rfl (fun ls hl => ?_)
                    refine lv_goto (tgt := 85) hx hb dX9_count_144 (by decide) ?_
                    exact ih_85 y_29 y_30 (by omega) (by omega) (by rw [show (y_30).toInt.toNat = d3.toInt.toNat + 1 by omega]; exact hN9) (by omega) H _ (hP.sub [0, 1, 2, 3, 4, 5, 6, 7, 8] rfl) (hD.sub [0, 1, 2, 3, 4, 5, 6, 7, 8] (by decide) rfl) hS ls (lv_sub hl [3, 4, 1, 0] rfl)
                  · have t_131 := (fa_eq _ _).mp c_131
                    refine lv_iconst (v := 1) hx hb dX9_count_134 (by decide) ?_
                    refine lv_goto (tgt := 139) hx hb dX9_count_135 (by decide) ?_
                    have b9 := ca_le (v := mTV Fi Ma Db Go Sp) (M := (mtM (mTV Fi Ma Db Go Sp) ne.toInt)) (sz := th.toInt.toNat) (t := th.toInt.toNat) (wh := p1.toInt) (by omega) (by omega)
                    have b8 := cd_le (v := mTV Fi Ma Db Go Sp) (sz := th.toInt.toNat) (u := mDV Ds Dp) (wh := p1.toInt) (d := d3.toInt.toNat)
                    refine lv_iadd hx hb dX9_count_139 ?_
                    refine lv_topi (fun y_31 ey_31 => ?_)
                    have ty_31 : y_31.toInt = n5.toInt + 1 := by rw [ey_31]; have := fb_addI (x := n5) (y := 1) (by omega) (by omega); omega
                    refine lv_istore_n (lv' := [(2, .int y_31), (4, .int r_10), (0, .ref h0), (1, .int p1), (3, .int d3)]) hx hb dX9_count_140 rfl hl (by decide) rfl (fun ls hl => ?_)
                    have hN9 : (y_31).toInt = ((caN (mTV Fi Ma Db Go Sp) (mtM (mTV Fi Ma Db Go Sp) ne.toInt) th.toInt.toNat p1.toInt th.toInt.toNat + cdN (mTV Fi Ma Db Go Sp) th.toInt.toNat (mDV Ds Dp) p1.toInt (d3.toInt.toNat + 1) : Nat) : Int) := by rw [cd_y (v := mTV Fi Ma Db Go Sp) (sz := th.toInt.toNat) (u := mDV Ds Dp) (d := d3.toInt.toNat) (wh := p1.toInt) (by omega) e95 (by omega)]; omega
                    obtain ⟨y_32, ey_32⟩ : ∃ y : Int32, y = d3 + 1 := ⟨_, rfl⟩
                    have ty_32 : y_32.toInt = d3.toInt + 1 := by rw [ey_32]; have := fb_addI (x := d3) (y := 1) (by omega) (by omega); omega
                    refine lv_iinc (v := y_32) (lv' := [(3, .int y_32), (2, .int y_31), (4, .int r_10), (0, .ref h0), (1, .int p1)]) hx hb dX9_count_141 hl (k := 4) rfl (by rw [ey_32]; rfl) (by decide) rfl (fun ls hl => ?_)
                    refine lv_goto (tgt := 85) hx hb dX9_count_144 (by decide) ?_
                    exact ih_85 y_31 y_32 (by omega) (by omega) (by rw [show (y_32).toInt.toNat = d3.toInt.toNat + 1 by omega]; exact hN9) (by omega) H _ (hP.sub [0, 1, 2, 3, 4, 5, 6, 7, 8] rfl) (hD.sub [0, 1, 2, 3, 4, 5, 6, 7, 8] (by decide) rfl) hS ls (lv_sub hl [3, 4, 1, 0] rfl)
              · have t_114 := (fa_eq _ _).mp c_114
                refine lv_iload hx hb dX9_count_117 (lv_at hl 0 rfl) ?_
                refine lv_iconst (v := 1) hx hb dX9_count_119 (by decide) ?_
                refine lv_icmp_gt (tgt := 134) hx hb dX9_count_120 (by decide) (fun c_120 => ?_) (fun c_120 => ?_)
                · have t_120 := (fa_lt _ _).mp c_120
                  refine lv_iconst (v := 1) hx hb dX9_count_134 (by decide) ?_
                  refine lv_goto (tgt := 139) hx hb dX9_count_135 (by decide) ?_
                  have b9 := ca_le (v := mTV Fi Ma Db Go Sp) (M := (mtM (mTV Fi Ma Db Go Sp) ne.toInt)) (sz := th.toInt.toNat) (t := th.toInt.toNat) (wh := p1.toInt) (by omega) (by omega)
                  have b8 := cd_le (v := mTV Fi Ma Db Go Sp) (sz := th.toInt.toNat) (u := mDV Ds Dp) (wh := p1.toInt) (d := d3.toInt.toNat)
                  refine lv_iadd hx hb dX9_count_139 ?_
                  refine lv_topi (fun y_33 ey_33 => ?_)
                  have ty_33 : y_33.toInt = n5.toInt + 1 := by rw [ey_33]; have := fb_addI (x := n5) (y := 1) (by omega) (by omega); omega
                  refine lv_istore_n (lv' := [(2, .int y_33), (4, .int r_10), (0, .ref h0), (1, .int p1), (3, .int d3)]) hx hb dX9_count_140 rfl hl (by decide) rfl (fun ls hl => ?_)
                  have hN9 : (y_33).toInt = ((caN (mTV Fi Ma Db Go Sp) (mtM (mTV Fi Ma Db Go Sp) ne.toInt) th.toInt.toNat p1.toInt th.toInt.toNat + cdN (mTV Fi Ma Db Go Sp) th.toInt.toNat (mDV Ds Dp) p1.toInt (d3.toInt.toNat + 1) : Nat) : Int) := by rw [cd_y (v := mTV Fi Ma Db Go Sp) (sz := th.toInt.toNat) (u := mDV Ds Dp) (d := d3.toInt.toNat) (wh := p1.toInt) (by omega) e95 (by omega)]; omega
                  obtain ⟨y_34, ey_34⟩ : ∃ y : Int32, y = d3 + 1 := ⟨_, rfl⟩
                  have ty_34 : y_34.toInt = d3.toInt + 1 := by rw [ey_34]; have := fb_addI (x := d3) (y := 1) (by omega) (by omega); omega
                  refine lv_iinc (v := y_34) (lv' := [(3, .int y_34), (2, .int y_33), (4, .int r_10), (0, .ref h0), (1, .int p1)]) hx hb dX9_count_141 hl (k := 4) rfl (by rw [ey_34]; rfl) (by decide) rfl (fun ls hl => ?_)
                  refine lv_goto (tgt := 85) hx hb dX9_count_144 (by decide) ?_
                  exact ih_85 y_33 y_34 (by omega) (by omega) (by rw [show (y_34).toInt.toNat = d3.toInt.toNat + 1 by omega]; exact hN9) (by omega) H _ (hP.sub [0, 1, 2, 3, 4, 5, 6, 7, 8] rfl) (hD.sub [0, 1, 2, 3, 4, 5, 6, 7, 8] (by decide) rfl) hS ls (lv_sub hl [3, 4, 1, 0] rfl)
                · have t_120 := mt (fa_lt _ _).mpr c_120
                  refine lv_iload_n hx hb dX9_count_123 rfl (lv_at hl 2 rfl) ?_
                  refine lv_bipush (v := 6) hx hb dX9_count_124 (by decide) ?_
                  refine lv_icmp_ne (tgt := 138) hx hb dX9_count_126 (by decide) (fun c_126 => ?_) (fun c_126 => ?_)
                  · have t_126 := mt (fa_eq _ _).mpr c_126
                    refine lv_iconst (v := 0) hx hb dX9_count_138 (by decide) ?_
                    have b9 := ca_le (v := mTV Fi Ma Db Go Sp) (M := (mtM (mTV Fi Ma Db Go Sp) ne.toInt)) (sz := th.toInt.toNat) (t := th.toInt.toNat) (wh := p1.toInt) (by omega) (by omega)
                    have b8 := cd_le (v := mTV Fi Ma Db Go Sp) (sz := th.toInt.toNat) (u := mDV Ds Dp) (wh := p1.toInt) (d := d3.toInt.toNat)
                    refine lv_iadd hx hb dX9_count_139 ?_
                    refine lv_topi (fun y_35 ey_35 => ?_)
                    have ty_35 : y_35.toInt = n5.toInt + 0 := by rw [ey_35]; have := fb_addI (x := n5) (y := 0) (by omega) (by omega); omega
                    refine lv_istore_n (lv' := [(2, .int y_35), (4, .int r_10), (0, .ref h0), (1, .int p1), (3, .int d3)]) hx hb dX9_count_140 rfl hl (by decide) rfl (fun ls hl => ?_)
                    have hN9 : (y_35).toInt = ((caN (mTV Fi Ma Db Go Sp) (mtM (mTV Fi Ma Db Go Sp) ne.toInt) th.toInt.toNat p1.toInt th.toInt.toNat + cdN (mTV Fi Ma Db Go Sp) th.toInt.toNat (mDV Ds Dp) p1.toInt (d3.toInt.toNat + 1) : Nat) : Int) := by rw [cd_n (v := mTV Fi Ma Db Go Sp) (sz := th.toInt.toNat) (u := mDV Ds Dp) (d := d3.toInt.toNat) (wh := p1.toInt) e95 (by omega)]; omega
                    obtain ⟨y_36, ey_36⟩ : ∃ y : Int32, y = d3 + 1 := ⟨_, rfl⟩
                    have ty_36 : y_36.toInt = d3.toInt + 1 := by rw [ey_36]; have := fb_addI (x := d3) (y := 1) (by omega) (by omega); omega
                    refine lv_iinc (v := y_36) (lv' := [(3, .int y_36), (2, .int y_35), (4, .int r_10), (0, .ref h0), (1, .int p1)]) hx hb dX9_count_141 hl (k := 4) rfl (by rw [ey_36]; rfl) (by decide) rfl (fun ls hl => ?_)
                    refine lv_goto (tgt := 85) hx hb dX9_count_144 (by decide) ?_
                    exact ih_85 y_35 y_36 (by omega) (by omega) (by rw [show (y_36).toInt.toNat = d3.toInt.toNat + 1 by omega]; exact hN9) (by omega) H _ (hP.sub [0, 1, 2, 3, 4, 5, 6, 7, 8] rfl) (hD.sub [0, 1, 2, 3, 4, 5, 6, 7, 8] (by decide) rfl) hS ls (lv_sub hl [3, 4, 1, 0] rfl)
                  · have t_126 := (fa_eq _ _).mp c_126
                    refine lv_iload hx hb dX9_count_129 (lv_at hl 0 rfl) ?_
                    refine lv_if_ne (tgt := 138) hx hb dX9_count_131 (by decide) (fun c_131 => ?_) (fun c_131 => ?_)
                    · have t_131 := mt (fa_eq _ _).mpr c_131
                      refine lv_iconst (v := 0) hx hb dX9_count_138 (by decide) ?_
                      have b9 := ca_le (v := mTV Fi Ma Db Go Sp) (M := (mtM (mTV Fi Ma Db Go Sp) ne.toInt)) (sz := th.toInt.toNat) (t := th.toInt.toNat) (wh := p1.toInt) (by omega) (by omega)
                      have b8 := cd_le (v := mTV Fi Ma Db Go Sp) (sz := th.toInt.toNat) (u := mDV Ds Dp) (wh := p1.toInt) (d := d3.toInt.toNat)
                      refine lv_iadd hx hb dX9_count_139 ?_
                      refine lv_topi (fun y_37 ey_37 => ?_)
                      have ty_37 : y_37.toInt = n5.toInt + 0 := by rw [ey_37]; have := fb_addI (x := n5) (y := 0) (by omega) (by omega); omega
                      refine lv_istore_n (lv' := [(2, .int y_37), (4, .int r_10), (0, .ref h0), (1, .int p1), (3, .int d3)]) hx hb dX9_count_140 rfl hl (by decide) rfl (fun ls hl => ?_)
                      have hN9 : (y_37).toInt = ((caN (mTV Fi Ma Db Go Sp) (mtM (mTV Fi Ma Db Go Sp) ne.toInt) th.toInt.toNat p1.toInt th.toInt.toNat + cdN (mTV Fi Ma Db Go Sp) th.toInt.toNat (mDV Ds Dp) p1.toInt (d3.toInt.toNat + 1) : Nat) : Int) := by rw [cd_n (v := mTV Fi Ma Db Go Sp) (sz := th.toInt.toNat) (u := mDV Ds Dp) (d := d3.toInt.toNat) (wh := p1.toInt) e95 (by omega)]; omega
                      obtain ⟨y_38, ey_38⟩ : ∃ y : Int32, y = d3 + 1 := ⟨_, rfl⟩
                      have ty_38 : y_38.toInt = d3.toInt + 1 := by rw [ey_38]; have := fb_addI (x := d3) (y := 1) (by omega) (by omega); omega
                      refine lv_iinc (v := y_38) (lv' := [(3, .int y_38), (2, .int y_37), (4, .int r_10), (0, .ref h0), (1, .int p1)]) hx hb dX9_count_141 hl (k := 4) rfl (by rw [ey_38]; rfl) (by decide) rfl (fun ls hl => ?_)
                      refine lv_goto (tgt := 85) hx hb dX9_count_144 (by decide) ?_
                      exact ih_85 y_37 y_38 (by omega) (by omega) (by rw [show (y_38).toInt.toNat = d3.toInt.toNat + 1 by omega]; exact hN9) (by omega) H _ (hP.sub [0, 1, 2, 3, 4, 5, 6, 7, 8] rfl) (hD.sub [0, 1, 2, 3, 4, 5, 6, 7, 8] (by decide) rfl) hS ls (lv_sub hl [3, 4, 1, 0] rfl)
                    · have t_131 := (fa_eq _ _).mp c_131
                      refine lv_iconst (v := 1) hx hb dX9_count_134 (by decide) ?_
                      refine lv_goto (tgt := 139) hx hb dX9_count_135 (by decide) ?_
                      have b9 := ca_le (v := mTV Fi Ma Db Go Sp) (M := (mtM (mTV Fi Ma Db Go Sp) ne.toInt)) (sz := th.toInt.toNat) (t := th.toInt.toNat) (wh := p1.toInt) (by omega) (by omega)
                      have b8 := cd_le (v := mTV Fi Ma Db Go Sp) (sz := th.toInt.toNat) (u := mDV Ds Dp) (wh := p1.toInt) (d := d3.toInt.toNat)
                      refine lv_iadd hx hb dX9_count_139 ?_
                      refine lv_topi (fun y_39 ey_39 => ?_)
                      have ty_39 : y_39.toInt = n5.toInt + 1 := by rw [ey_39]; have := fb_addI (x := n5) (y := 1) (by omega) (by omega); omega
                      refine lv_istore_n (lv' := [(2, .int y_39), (4, .int r_10), (0, .ref h0), (1, .int p1), (3, .int d3)]) hx hb dX9_count_140 rfl hl (by decide) rfl (fun ls hl => ?_)
                      have hN9 : (y_39).toInt = ((caN (mTV Fi Ma Db Go Sp) (mtM (mTV Fi Ma Db Go Sp) ne.toInt) th.toInt.toNat p1.toInt th.toInt.toNat + cdN (mTV Fi Ma Db Go Sp) th.toInt.toNat (mDV Ds Dp) p1.toInt (d3.toInt.toNat + 1) : Nat) : Int) := by rw [cd_y (v := mTV Fi Ma Db Go Sp) (sz := th.toInt.toNat) (u := mDV Ds Dp) (d := d3.toInt.toNat) (wh := p1.toInt) (by omega) e95 (by omega)]; omega
                      obtain ⟨y_40, ey_40⟩ : ∃ y : Int32, y = d3 + 1 := ⟨_, rfl⟩
                      have ty_40 : y_40.toInt = d3.toInt + 1 := by rw [ey_40]; have := fb_addI (x := d3) (y := 1) (by omega) (by omega); omega
                      refine lv_iinc (v := y_40) (lv' := [(3, .int y_40), (2, .int y_39), (4, .int r_10), (0, .ref h0), (1, .int p1)]) hx hb dX9_count_141 hl (k := 4) rfl (by rw [ey_40]; rfl) (by decide) rfl (fun ls hl => ?_)
                      refine lv_goto (tgt := 85) hx hb dX9_count_144 (by decide) ?_
                      exact ih_85 y_39 y_40 (by omega) (by omega) (by rw [show (y_40).toInt.toNat = d3.toInt.toNat + 1 by omega]; exact hN9) (by omega) H _ (hP.sub [0, 1, 2, 3, 4, 5, 6, 7, 8] rfl) (hD.sub [0, 1, 2, 3, 4, 5, 6, 7, 8] (by decide) rfl) hS ls (lv_sub hl [3, 4, 1, 0] rfl)
    · have t_9 := mt (fa_le _ _).mpr c_9
      refine lv_iload_n hx hb dX9_count_12 rfl (lv_at hl 2 rfl) ?_
      refine lv_iload_n hx hb dX9_count_13 rfl (lv_at hl 1 rfl) ?_
      refine lv_iconst (v := 1) hx hb dX9_count_14 (by decide) ?_
      refine lv_icmp_ne (tgt := 31) hx hb dX9_count_15 (by decide) (fun c_15 => ?_) (fun c_15 => ?_)
      · have t_15 := mt (fa_eq _ _).mpr c_15
        refine lv_iconst (v := 0) hx hb dX9_count_31 (by decide) ?_
        have hg9 : (p1.toInt = 1 ∧ (mTV Fi Ma Db Go Sp t3.toInt.toNat).2.2.2.1.toInt = 0 ∧ (0 : Nat) = 1) ∨ (¬ (p1.toInt = 1 ∧ (mTV Fi Ma Db Go Sp t3.toInt.toNat).2.2.2.1.toInt = 0) ∧ (0 : Nat) = 0) := Or.inr ⟨fun z9 => by have z1 := z9.1; have z2 : (Go t3.toNatClampNeg).toInt = 0 := z9.2; omega, rfl⟩
        have b9 := ca_le (v := mTV Fi Ma Db Go Sp) (M := (mtM (mTV Fi Ma Db Go Sp) ne.toInt)) (sz := th.toInt.toNat) (t := t3.toInt.toNat) (wh := p1.toInt) (by omega) (by omega)
        refine lv_iadd hx hb dX9_count_32 ?_
        refine lv_topi (fun y_41 ey_41 => ?_)
        have ty_41 : y_41.toInt = n2.toInt + 0 := by rw [ey_41]; have := fb_addI (x := n2) (y := 0) (by omega) (by omega); omega
        refine lv_istore_n (lv' := [(2, .int y_41), (0, .ref h0), (1, .int p1), (3, .int t3)]) hx hb dX9_count_33 rfl hl (by decide) rfl (fun ls hl => ?_)
        refine lv_iload_n hx hb dX9_count_34 rfl (lv_at hl 3 rfl) ?_
        refine lv_iconst (v := 1) hx hb dX9_count_35 (by decide) ?_
        refine lv_iadd hx hb dX9_count_36 ?_
        refine lv_topi (fun y_42 ey_42 => ?_)
        have ty_42 : y_42.toInt = t3.toInt + 1 := by rw [ey_42]; have := fb_addI (x := t3) (y := 1) (by omega) (by omega); omega
        refine lv_istore (lv' := [(4, .int y_42), (2, .int y_41), (0, .ref h0), (1, .int p1), (3, .int t3)]) hx hb dX9_count_37 hl (by decide) rfl (fun ls hl => ?_)
        refine (show ∀ (k : Nat) (n4 : Int32) (u4 : Int32) (uqx : Int64) (lqx : Int64) (wqx : Int32) (pqx : Int64) (dqx : Int64) (hv0 : t3.toInt < u4.toInt) (hv1 : u4.toInt ≤ th.toInt) (hr4 : (p1.toInt = 2 ∧ n4.toInt = (y_41).toInt + ((rowN (mtM (mTV Fi Ma Db Go Sp) ne.toInt) t3.toInt.toNat u4.toInt.toNat : Nat) : Int)) ∨ (p1.toInt ≠ 2 ∧ n4.toInt = (y_41).toInt)) (hk_39 : (th.toInt - u4.toInt).toNat < k) (H : Heap) (locs : List Loc) (hP : va_P (dC, dI) vwCl [(h0, .inr (9, [.int th, .ref a1, .ref a2, .ref a3, .ref a4, .ref a5, .int ne, .int wi, .int dn, .ref a6, .ref a7, .int nn, .ref a8, .int la, .ref a9, .ref a10, .long uqx, .long lqx, .int wqx, .long pqx, .long dqx, .ref a11])), (a1, .inl (cI, 16, .inl Fi)), (a2, .inl (cI, 16, .inl Ma)), (a3, .inl (cI, 16, .inl Db)), (a4, .inl (cZ, 16, .inl Go)), (a5, .inl (cI, 576, .inl Sp)), (a6, .inl (cI, 40, .inl Ds)), (a7, .inl (cI, 120, .inl Dp)), (a8, .inl (cI, 320, .inl No))] H) (hD : va_D A [(h0, .inr (9, [.int th, .ref a1, .ref a2, .ref a3, .ref a4, .ref a5, .int ne, .int wi, .int dn, .ref a6, .ref a7, .int nn, .ref a8, .int la, .ref a9, .ref a10, .long uqx, .long lqx, .int wqx, .long pqx, .long dqx, .ref a11])), (a1, .inl (cI, 16, .inl Fi)), (a2, .inl (cI, 16, .inl Ma)), (a3, .inl (cI, 16, .inl Db)), (a4, .inl (cZ, 16, .inl Go)), (a5, .inl (cI, 576, .inl Sp)), (a6, .inl (cI, 40, .inl Ds)), (a7, .inl (cI, 120, .inl Dp)), (a8, .inl (cI, 320, .inl No))]) (hS : va_S A s.heap H locs) (ls : Array Slot) (hl : lv_has ls 5 [(0, .ref h0), (1, .int p1), (2, .int n4), (3, .int t3), (4, .int u4)]), W p l e _ s m _ below meth c H locs 0 0 _ (F0 m 39 ls []) from ?_) _ y_41 y_42 uq lq wq pq dq (by omega) (by omega) (by rw [rowN_z (by omega)]; omega) (Nat.lt_succ_self _) H _ hP hD hS ls (lv_sub hl [2, 3, 1, 4, 0] rfl)
        intro k
        induction k with
        | zero => intro n4 u4 uqx lqx wqx pqx dqx hv0 hv1 hr4 hk_39; exact absurd hk_39 (Nat.not_lt_zero _)
        | succ k ih_39 =>
          intro n4 u4 uqx lqx wqx pqx dqx hv0 hv1 hr4 hk_39 H locs hP hD hS ls hl
          refine lv_iload hx hb dX9_count_39 (lv_at hl 4 rfl) ?_
          refine lv_aload_n hx hb dX9_count_41 rfl (lv_at hl 0 rfl) ?_
          refine va_get (D := (dC, dI)) (ci := 9) (v := .int th) (C := RX9) (T := TX9) (N := 22) hx hb hts in_X9_countE_X9 hown hK hP 0 rfl rfl 0 (by decide) (hts (.fieldLink RX9 59 "MeetingsAboveModel" "things" "I") (by decide +kernel)) (fun _ h9 => h9) rfl dX9_count_42 ?_
          refine lv_icmp_ge (tgt := 77) hx hb dX9_count_45 (by decide) (fun c_45 => ?_) (fun c_45 => ?_)
          · have t_45 := (fa_le _ _).mp c_45
            have q9 := ca_s (v := mTV Fi Ma Db Go Sp) (M := (mtM (mTV Fi Ma Db Go Sp) ne.toInt)) (sz := th.toInt.toNat) (t := t3.toInt.toNat) (wh := p1.toInt) (r := if p1.toInt = 2 then rowN (mtM (mTV Fi Ma Db Go Sp) ne.toInt) t3.toInt.toNat th.toInt.toNat else 0) hg9 ((Decidable.em (p1.toInt = 2)).elim (fun h2 => Or.inl ⟨h2, if_pos h2⟩) (fun h2 => Or.inr ⟨h2, if_neg h2⟩))
            have hA9 : (n4).toInt = caN (mTV Fi Ma Db Go Sp) (mtM (mTV Fi Ma Db Go Sp) ne.toInt) th.toInt.toNat p1.toInt (t3.toInt.toNat + 1) := by rw [q9]; rcases hr4 with ⟨h2, e2⟩ | ⟨h2, e2⟩; all_goals first | (exfalso; omega) | (rw [if_pos h2]; have hu : u4.toInt.toNat = th.toInt.toNat := (by omega); rw [hu] at e2; omega) | (rw [if_neg h2]; omega)
            obtain ⟨y_43, ey_43⟩ : ∃ y : Int32, y = t3 + 1 := ⟨_, rfl⟩
            have ty_43 : y_43.toInt = t3.toInt + 1 := by rw [ey_43]; have := fb_addI (x := t3) (y := 1) (by omega) (by omega); omega
            refine lv_iinc (v := y_43) (lv' := [(3, .int y_43), (0, .ref h0), (1, .int p1), (2, .int n4), (4, .int u4)]) hx hb dX9_count_77 hl (k := 3) rfl (by rw [ey_43]; rfl) (by decide) rfl (fun ls hl => ?_)
            refine lv_goto (tgt := 4) hx hb dX9_count_80 (by decide) ?_
            exact ih_4 n4 y_43 uqx lqx wqx pqx dqx (by omega) (by omega) (by rw [show (y_43).toInt.toNat = t3.toInt.toNat + 1 by omega]; exact hA9) (by omega) H _ (hP.sub [0, 1, 2, 3, 4, 5, 6, 7, 8] rfl) (hD.sub [0, 1, 2, 3, 4, 5, 6, 7, 8] (by decide) rfl) hS ls (lv_sub hl [1, 2, 3, 0] rfl)
          · have t_45 := mt (fa_le _ _).mpr c_45
            refine lv_iload_n hx hb dX9_count_48 rfl (lv_at hl 1 rfl) ?_
            refine lv_iconst (v := 2) hx hb dX9_count_49 (by decide) ?_
            refine lv_icmp_ne (tgt := 77) hx hb dX9_count_50 (by decide) (fun c_50 => ?_) (fun c_50 => ?_)
            · have t_50 := mt (fa_eq _ _).mpr c_50
              have q9 := ca_s (v := mTV Fi Ma Db Go Sp) (M := (mtM (mTV Fi Ma Db Go Sp) ne.toInt)) (sz := th.toInt.toNat) (t := t3.toInt.toNat) (wh := p1.toInt) (r := if p1.toInt = 2 then rowN (mtM (mTV Fi Ma Db Go Sp) ne.toInt) t3.toInt.toNat th.toInt.toNat else 0) hg9 ((Decidable.em (p1.toInt = 2)).elim (fun h2 => Or.inl ⟨h2, if_pos h2⟩) (fun h2 => Or.inr ⟨h2, if_neg h2⟩))
              have hA9 : (n4).toInt = caN (mTV Fi Ma Db Go Sp) (mtM (mTV Fi Ma Db Go Sp) ne.toInt) th.toInt.toNat p1.toInt (t3.toInt.toNat + 1) := by rw [q9]; rcases hr4 with ⟨h2, e2⟩ | ⟨h2, e2⟩; all_goals first | (exfalso; omega) | (rw [if_pos h2]; have hu : u4.toInt.toNat = th.toInt.toNat := (by omega); rw [hu] at e2; omega) | (rw [if_neg h2]; omega)
              obtain ⟨y_44, ey_44⟩ : ∃ y : Int32, y = t3 + 1 := ⟨_, rfl⟩
              have ty_44 : y_44.toInt = t3.toInt + 1 := by rw [ey_44]; have := fb_addI (x := t3) (y := 1) (by omega) (by omega); omega
              refine lv_iinc (v := y_44) (lv' := [(3, .int y_44), (0, .ref h0), (1, .int p1), (2, .int n4), (4, .int u4)]) hx hb dX9_count_77 hl (k := 3) rfl (by rw [ey_44]; rfl) (by decide) rfl (fun ls hl => ?_)
              refine lv_goto (tgt := 4) hx hb dX9_count_80 (by decide) ?_
              exact ih_4 n4 y_44 uqx lqx wqx pqx dqx (by omega) (by omega) (by rw [show (y_44).toInt.toNat = t3.toInt.toNat + 1 by omega]; exact hA9) (by omega) H _ (hP.sub [0, 1, 2, 3, 4, 5, 6, 7, 8] rfl) (hD.sub [0, 1, 2, 3, 4, 5, 6, 7, 8] (by decide) rfl) hS ls (lv_sub hl [1, 2, 3, 0] rfl)
            · have t_50 := (fa_eq _ _).mp c_50
              refine lv_iload_n hx hb dX9_count_53 rfl (lv_at hl 2 rfl) ?_
              refine lv_aload_n hx hb dX9_count_54 rfl (lv_at hl 0 rfl) ?_
              refine lv_iload_n hx hb dX9_count_55 rfl (lv_at hl 3 rfl) ?_
              refine lv_iload hx hb dX9_count_56 (lv_at hl 4 rfl) ?_
              have hPc := hP.sub (ws' := [(h0, .inr (9, [.int th, .ref a1, .ref a2, .ref a3, .ref a4, .ref a5, .int ne, .int wi, .int dn, .ref a6, .ref a7, .int nn, .ref a8, .int la, .ref a9, .ref a10, .long uqx, .long lqx, .int wqx, .long pqx, .long dqx, .ref a11])), (a1, .inl (cI, 16, .inl Fi)), (a2, .inl (cI, 16, .inl Ma)), (a4, .inl (cZ, 16, .inl Go)), (a5, .inl (cI, 576, .inl Sp))]) [0, 1, 2, 4, 5] rfl
              have hKc := hK.sub (tys' := [(cI, .int), (cZ, .boolean)]) [0, 1] rfl
              have hDc := hD.sub (ws' := [(h0, .inr (9, [.int th, .ref a1, .ref a2, .ref a3, .ref a4, .ref a5, .int ne, .int wi, .int dn, .ref a6, .ref a7, .int nn, .ref a8, .int la, .ref a9, .ref a10, .long uqx, .long lqx, .int wqx, .long pqx, .long dqx, .ref a11])), (a1, .inl (cI, 16, .inl Fi)), (a2, .inl (cI, 16, .inl Ma)), (a4, .inl (cZ, 16, .inl Go)), (a5, .inl (cI, 576, .inl Sp))]) [0, 1, 2, 4, 5] (by decide) rfl
              have hFc := va_free (wc := [(h0, .inr (9, [.int th, .ref a1, .ref a2, .ref a3, .ref a4, .ref a5, .int ne, .int wi, .int dn, .ref a6, .ref a7, .int nn, .ref a8, .int la, .ref a9, .ref a10, .long uqx, .long lqx, .int wqx, .long pqx, .long dqx, .ref a11])), (a1, .inl (cI, 16, .inl Fi)), (a2, .inl (cI, 16, .inl Ma)), (a4, .inl (cZ, 16, .inl Go)), (a5, .inl (cI, 576, .inl Sp))]) hD hS hA [0, 1, 2, 4, 5] rfl
              refine va_calli (va_runV (As := [.int t3, .int u4]) (rest := [.int n4]) ⟨hx, hb, hml, hown, hts⟩ (c_X9_isMeetingE l dC dI Db h0 a1 a2 a3 a4 a5 a6 a7 a8 a9 a10 a11 th ne wi dn nn la wqx uqx lqx pqx dqx cI cZ Fi Ma Go Sp t3 u4 H.size (by first | assumption | omega) (by first | assumption | omega) (by first | omega | assumption) (by first | omega | assumption) (by first | omega | assumption) (by first | omega | assumption) (by first | omega | assumption) (by first | omega | assumption)) (cwV 2 hts g_X9_countE__X9_isMeetingE_106 rfl rfl rfl (by decide +kernel) ⟨Nat.le_of_ble_eq_true rfl, Nat.le_of_ble_eq_true rfl⟩) ⟨fun a U g mk q => by obtain ⟨q0, q1, qP, qK, qD⟩ := q; exact ⟨q0, q1, qP, va_K.moved (u := U) (U := U.calling g mk a) (Vm.Alike.refl U.vm) qK, qD⟩, va_recv hKc hPc (ci := 9) (q0 := 0) rfl rfl, fun U hU hW => ⟨rfl, by rw [hU], by rw [hU]; exact hPc, va_K.moved hW.alike hKc, hDc.weaken (fun _ _ _ _ => trivial)⟩⟩ rfl rfl hl.1 rfl (lv_room (Nat.le_of_ble_eq_true rfl)) dX9_count_58 ⟨Nat.le_of_ble_eq_true rfl, Nat.le_of_ble_eq_true rfl⟩) hS (fun q _ h => hFc q h) hFc (fun r_46 u_45 t H1 locs ht hvm hw_46 hB hz1 hk1 hS => ?_)
              obtain ⟨up9_47, lw9_48, wh9_49, pu9_50, pw9_51, hP1, hK1, hD1, hms_52, hbd_53⟩ := hB
              rw [ht] at hP1
              have hK1 := va_K.moved hvm.symm hK1
              obtain ⟨hP, hD⟩ := va_join (wr := [(a3, .inl (cI, 16, .inl Db)), (a6, .inl (cI, 40, .inl Ds)), (a7, .inl (cI, 120, .inl Dp)), (a8, .inl (cI, 320, .inl No))]) (w1 := [(h0, .inr (9, [.int th, .ref a1, .ref a2, .ref a3, .ref a4, .ref a5, .int ne, .int wi, .int dn, .ref a6, .ref a7, .int nn, .ref a8, .int la, .ref a9, .ref a10, .long up9_47, .long lw9_48, .int wh9_49, .long pu9_50, .long pw9_51, .ref a11])), (a1, .inl (cI, 16, .inl Fi)), (a2, .inl (cI, 16, .inl Ma)), (a4, .inl (cZ, 16, .inl Go)), (a5, .inl (cI, 576, .inl Sp))]) hP hD [0, 1, 2, 4, 5] [3, 6, 7, 8] rfl rfl (by decide) (by decide) hk1 hFc hP1 hD1
              have hK := (hK.sub (tys' := [(cI, .int), (cZ, .boolean)]) [0, 1] rfl).app hK1
              generalize H1 = H at hP hS ⊢
              have hP : va_P (dC, dI) vwCl [(a3, .inl (cI, 16, .inl Db)), (a6, .inl (cI, 40, .inl Ds)), (a7, .inl (cI, 120, .inl Dp)), (a8, .inl (cI, 320, .inl No)), (h0, .inr (9, [.int th, .ref a1, .ref a2, .ref a3, .ref a4, .ref a5, .int ne, .int wi, .int dn, .ref a6, .ref a7, .int nn, .ref a8, .int la, .ref a9, .ref a10, .long up9_47, .long lw9_48, .int wh9_49, .long pu9_50, .long pw9_51, .ref a11])), (a1, .inl (cI, 16, .inl Fi)), (a2, .inl (cI, 16, .inl Ma)), (a4, .inl (cZ, 16, .inl Go)), (a5, .inl (cI, 576, .inl Sp))] H := hP
              have hD : va_D A [(a3, .inl (cI, 16, .inl Db)), (a6, .inl (cI, 40, .inl Ds)), (a7, .inl (cI, 120, .inl Dp)), (a8, .inl (cI, 320, .inl No)), (h0, .inr (9, [.int th, .ref a1, .ref a2, .ref a3, .ref a4, .ref a5, .int ne, .int wi, .int dn, .ref a6, .ref a7, .int nn, .ref a8, .int la, .ref a9, .ref a10, .long up9_47, .long lw9_48, .int wh9_49, .long pu9_50, .long pw9_51, .ref a11])), (a1, .inl (cI, 16, .inl Fi)), (a2, .inl (cI, 16, .inl Ma)), (a4, .inl (cZ, 16, .inl Go)), (a5, .inl (cI, 576, .inl Sp))] := hD
              have hK : va_K (dC, dI) vwCl [(cI, .int), (cZ, .boolean), (cI, .int), (cZ, .boolean)] s := hK
              refine W.widen (k := 0) (n := 0) (by omega) (by omega) ?_
              try dsimp only at hw_46
              refine lv_if_eq (tgt := 68) hx hb dX9_count_61 (by decide) (fun c_61 => ?_) (fun c_61 => ?_)
              · have t_61 := (fa_eq _ _).mp c_61
                refine lv_iconst (v := 0) hx hb dX9_count_68 (by decide) ?_
                have b8 := rowN_le (mtM (mTV Fi Ma Db Go Sp) ne.toInt) t3.toInt.toNat u4.toInt.toNat
                refine lv_iadd hx hb dX9_count_69 ?_
                refine lv_topi (fun y_54 ey_54 => ?_)
                have ty_54 : y_54.toInt = n4.toInt + 0 := by rw [ey_54]; have := fb_addI (x := n4) (y := 0) (by omega) (by omega); omega
                refine lv_istore_n (lv' := [(2, .int y_54), (0, .ref h0), (1, .int p1), (3, .int t3), (4, .int u4)]) hx hb dX9_count_70 rfl hl (by decide) rfl (fun ls hl => ?_)
                have hN9 : (y_54).toInt = (y_41).toInt + ((rowN (mtM (mTV Fi Ma Db Go Sp) ne.toInt) t3.toInt.toNat (u4.toInt.toNat + 1) : Nat) : Int) := by have e2 := hr4.elim (fun z => z.2) (fun z => absurd (show p1.toInt = 2 by omega) z.1); rw [rowN_0 (M := (mtM (mTV Fi Ma Db Go Sp) ne.toInt)) (t := t3.toInt.toNat) (n := u4.toInt.toNat) (fun h => tv_0 hw_46 c_61 ⟨by omega, h⟩)]; omega
                obtain ⟨y_55, ey_55⟩ : ∃ y : Int32, y = u4 + 1 := ⟨_, rfl⟩
                have ty_55 : y_55.toInt = u4.toInt + 1 := by rw [ey_55]; have := fb_addI (x := u4) (y := 1) (by omega) (by omega); omega
                refine lv_iinc (v := y_55) (lv' := [(4, .int y_55), (2, .int y_54), (0, .ref h0), (1, .int p1), (3, .int t3)]) hx hb dX9_count_71 hl (k := 4) rfl (by rw [ey_55]; rfl) (by decide) rfl (fun ls hl => ?_)
                refine lv_goto (tgt := 39) hx hb dX9_count_74 (by decide) ?_
                exact ih_39 y_54 y_55 up9_47 lw9_48 wh9_49 pu9_50 pw9_51 (by omega) (by omega) (by refine Or.inl ⟨by omega, ?_⟩; rw [show (y_55).toInt.toNat = u4.toInt.toNat + 1 by omega]; exact hN9) (by omega) H _ (hP.sub [4, 5, 6, 0, 7, 8, 1, 2, 3] rfl) (hD.sub [4, 5, 6, 0, 7, 8, 1, 2, 3] (by decide) rfl) hS ls (lv_sub hl [2, 3, 1, 4, 0] rfl)
              · have t_61 := mt (fa_eq _ _).mpr c_61
                refine lv_iconst (v := 1) hx hb dX9_count_64 (by decide) ?_
                refine lv_goto (tgt := 69) hx hb dX9_count_65 (by decide) ?_
                have b8 := rowN_le (mtM (mTV Fi Ma Db Go Sp) ne.toInt) t3.toInt.toNat u4.toInt.toNat
                refine lv_iadd hx hb dX9_count_69 ?_
                refine lv_topi (fun y_56 ey_56 => ?_)
                have ty_56 : y_56.toInt = n4.toInt + 1 := by rw [ey_56]; have := fb_addI (x := n4) (y := 1) (by omega) (by omega); omega
                refine lv_istore_n (lv' := [(2, .int y_56), (0, .ref h0), (1, .int p1), (3, .int t3), (4, .int u4)]) hx hb dX9_count_70 rfl hl (by decide) rfl (fun ls hl => ?_)
                have hN9 : (y_56).toInt = (y_41).toInt + ((rowN (mtM (mTV Fi Ma Db Go Sp) ne.toInt) t3.toInt.toNat (u4.toInt.toNat + 1) : Nat) : Int) := by have e2 := hr4.elim (fun z => z.2) (fun z => absurd (show p1.toInt = 2 by omega) z.1); rw [rowN_1 (M := (mtM (mTV Fi Ma Db Go Sp) ne.toInt)) (t := t3.toInt.toNat) (n := u4.toInt.toNat) (by omega) (tv_1 hw_46 c_61).2]; omega
                obtain ⟨y_57, ey_57⟩ : ∃ y : Int32, y = u4 + 1 := ⟨_, rfl⟩
                have ty_57 : y_57.toInt = u4.toInt + 1 := by rw [ey_57]; have := fb_addI (x := u4) (y := 1) (by omega) (by omega); omega
                refine lv_iinc (v := y_57) (lv' := [(4, .int y_57), (2, .int y_56), (0, .ref h0), (1, .int p1), (3, .int t3)]) hx hb dX9_count_71 hl (k := 4) rfl (by rw [ey_57]; rfl) (by decide) rfl (fun ls hl => ?_)
                refine lv_goto (tgt := 39) hx hb dX9_count_74 (by decide) ?_
                exact ih_39 y_56 y_57 up9_47 lw9_48 wh9_49 pu9_50 pw9_51 (by omega) (by omega) (by refine Or.inl ⟨by omega, ?_⟩; rw [show (y_57).toInt.toNat = u4.toInt.toNat + 1 by omega]; exact hN9) (by omega) H _ (hP.sub [4, 5, 6, 0, 7, 8, 1, 2, 3] rfl) (hD.sub [4, 5, 6, 0, 7, 8, 1, 2, 3] (by decide) rfl) hS ls (lv_sub hl [2, 3, 1, 4, 0] rfl)
      · have t_15 := (fa_eq _ _).mp c_15
        refine lv_aload_n hx hb dX9_count_18 rfl (lv_at hl 0 rfl) ?_
        refine va_get (D := (dC, dI)) (ci := 9) (v := .ref a4) (C := RX9) (T := TX9) (N := 22) hx hb hts in_X9_countE_X9 hown hK hP 0 rfl rfl 4 (by decide) (hts (.fieldLink RX9 19 "MeetingsAboveModel" "isGone" "[Z") (by decide +kernel)) (fun _ h9 => h9) rfl dX9_count_19 ?_
        refine lv_iload_n hx hb dX9_count_22 rfl (lv_at hl 3 rfl) ?_
        refine va_zald hx hb hK hP 4 1 rfl rfl (vp_in_iff.mpr ⟨by omega, by omega⟩) dX9_count_23 ?_
        refine lv_topi (fun y_58 ey_58 => ?_)
        have uy_58 : y_58.toInt = (Go (t3 : Int32).toNatClampNeg).toInt := by rw [ey_58]
        refine lv_if_ne (tgt := 31) hx hb dX9_count_24 (by decide) (fun c_24 => ?_) (fun c_24 => ?_)
        · have t_24 := mt (fa_eq _ _).mpr c_24
          refine lv_iconst (v := 0) hx hb dX9_count_31 (by decide) ?_
          have hg9 : (p1.toInt = 1 ∧ (mTV Fi Ma Db Go Sp t3.toInt.toNat).2.2.2.1.toInt = 0 ∧ (0 : Nat) = 1) ∨ (¬ (p1.toInt = 1 ∧ (mTV Fi Ma Db Go Sp t3.toInt.toNat).2.2.2.1.toInt = 0) ∧ (0 : Nat) = 0) := Or.inr ⟨fun z9 => by have z1 := z9.1; have z2 : (Go t3.toNatClampNeg).toInt = 0 := z9.2; omega, rfl⟩
          have b9 := ca_le (v := mTV Fi Ma Db Go Sp) (M := (mtM (mTV Fi Ma Db Go Sp) ne.toInt)) (sz := th.toInt.toNat) (t := t3.toInt.toNat) (wh := p1.toInt) (by omega) (by omega)
          refine lv_iadd hx hb dX9_count_32 ?_
          refine lv_topi (fun y_59 ey_59 => ?_)
          have ty_59 : y_59.toInt = n2.toInt + 0 := by rw [ey_59]; have := fb_addI (x := n2) (y := 0) (by omega) (by omega); omega
          refine lv_istore_n (lv' := [(2, .int y_59), (0, .ref h0), (1, .int p1), (3, .int t3)]) hx hb dX9_count_33 rfl hl (by decide) rfl (fun ls hl => ?_)
          refine lv_iload_n hx hb dX9_count_34 rfl (lv_at hl 3 rfl) ?_
          refine lv_iconst (v := 1) hx hb dX9_count_35 (by decide) ?_
          refine lv_iadd hx hb dX9_count_36 ?_
          refine lv_topi (fun y_60 ey_60 => ?_)
          have ty_60 : y_60.toInt = t3.toInt + 1 := by rw [ey_60]; have := fb_addI (x := t3) (y := 1) (by omega) (by omega); omega
          refine lv_istore (lv' := [(4, .int y_60), (2, .int y_59), (0, .ref h0), (1, .int p1), (3, .int t3)]) hx hb dX9_count_37 hl (by decide) rfl (fun ls hl => ?_)
          refine (show ∀ (k : Nat) (n4 : Int32) (u4 : Int32) (uqx : Int64) (lqx : Int64) (wqx : Int32) (pqx : Int64) (dqx : Int64) (hv0 : t3.toInt < u4.toInt) (hv1 : u4.toInt ≤ th.toInt) (hr4 : (p1.toInt = 2 ∧ n4.toInt = (y_59).toInt + ((rowN (mtM (mTV Fi Ma Db Go Sp) ne.toInt) t3.toInt.toNat u4.toInt.toNat : Nat) : Int)) ∨ (p1.toInt ≠ 2 ∧ n4.toInt = (y_59).toInt)) (hk_39 : (th.toInt - u4.toInt).toNat < k) (H : Heap) (locs : List Loc) (hP : va_P (dC, dI) vwCl [(h0, .inr (9, [.int th, .ref a1, .ref a2, .ref a3, .ref a4, .ref a5, .int ne, .int wi, .int dn, .ref a6, .ref a7, .int nn, .ref a8, .int la, .ref a9, .ref a10, .long uqx, .long lqx, .int wqx, .long pqx, .long dqx, .ref a11])), (a1, .inl (cI, 16, .inl Fi)), (a2, .inl (cI, 16, .inl Ma)), (a3, .inl (cI, 16, .inl Db)), (a4, .inl (cZ, 16, .inl Go)), (a5, .inl (cI, 576, .inl Sp)), (a6, .inl (cI, 40, .inl Ds)), (a7, .inl (cI, 120, .inl Dp)), (a8, .inl (cI, 320, .inl No))] H) (hD : va_D A [(h0, .inr (9, [.int th, .ref a1, .ref a2, .ref a3, .ref a4, .ref a5, .int ne, .int wi, .int dn, .ref a6, .ref a7, .int nn, .ref a8, .int la, .ref a9, .ref a10, .long uqx, .long lqx, .int wqx, .long pqx, .long dqx, .ref a11])), (a1, .inl (cI, 16, .inl Fi)), (a2, .inl (cI, 16, .inl Ma)), (a3, .inl (cI, 16, .inl Db)), (a4, .inl (cZ, 16, .inl Go)), (a5, .inl (cI, 576, .inl Sp)), (a6, .inl (cI, 40, .inl Ds)), (a7, .inl (cI, 120, .inl Dp)), (a8, .inl (cI, 320, .inl No))]) (hS : va_S A s.heap H locs) (ls : Array Slot) (hl : lv_has ls 5 [(0, .ref h0), (1, .int p1), (2, .int n4), (3, .int t3), (4, .int u4)]), W p l e _ s m _ below meth c H locs 0 0 _ (F0 m 39 ls []) from ?_) _ y_59 y_60 uq lq wq pq dq (by omega) (by omega) (by rw [rowN_z (by omega)]; omega) (Nat.lt_succ_self _) H _ hP hD hS ls (lv_sub hl [2, 3, 1, 4, 0] rfl)
          intro k
          induction k with
          | zero => intro n4 u4 uqx lqx wqx pqx dqx hv0 hv1 hr4 hk_39; exact absurd hk_39 (Nat.not_lt_zero _)
          | succ k ih_39 =>
            intro n4 u4 uqx lqx wqx pqx dqx hv0 hv1 hr4 hk_39 H locs hP hD hS ls hl
            refine lv_iload hx hb dX9_count_39 (lv_at hl 4 rfl) ?_
            refine lv_aload_n hx hb dX9_count_41 rfl (lv_at hl 0 rfl) ?_
            refine va_get (D := (dC, dI)) (ci := 9) (v := .int th) (C := RX9) (T := TX9) (N := 22) hx hb hts in_X9_countE_X9 hown hK hP 0 rfl rfl 0 (by decide) (hts (.fieldLink RX9 59 "MeetingsAboveModel" "things" "I") (by decide +kernel)) (fun _ h9 => h9) rfl dX9_count_42 ?_
            refine lv_icmp_ge (tgt := 77) hx hb dX9_count_45 (by decide) (fun c_45 => ?_) (fun c_45 => ?_)
            · have t_45 := (fa_le _ _).mp c_45
              have q9 := ca_s (v := mTV Fi Ma Db Go Sp) (M := (mtM (mTV Fi Ma Db Go Sp) ne.toInt)) (sz := th.toInt.toNat) (t := t3.toInt.toNat) (wh := p1.toInt) (r := if p1.toInt = 2 then rowN (mtM (mTV Fi Ma Db Go Sp) ne.toInt) t3.toInt.toNat th.toInt.toNat else 0) hg9 ((Decidable.em (p1.toInt = 2)).elim (fun h2 => Or.inl ⟨h2, if_pos h2⟩) (fun h2 => Or.inr ⟨h2, if_neg h2⟩))
              have hA9 : (n4).toInt = caN (mTV Fi Ma Db Go Sp) (mtM (mTV Fi Ma Db Go Sp) ne.toInt) th.toInt.toNat p1.toInt (t3.toInt.toNat + 1) := by rw [q9]; rcases hr4 with ⟨h2, e2⟩ | ⟨h2, e2⟩; all_goals first | (exfalso; omega) | (rw [if_pos h2]; have hu : u4.toInt.toNat = th.toInt.toNat := (by omega); rw [hu] at e2; omega) | (rw [if_neg h2]; omega)
              obtain ⟨y_61, ey_61⟩ : ∃ y : Int32, y = t3 + 1 := ⟨_, rfl⟩
              have ty_61 : y_61.toInt = t3.toInt + 1 := by rw [ey_61]; have := fb_addI (x := t3) (y := 1) (by omega) (by omega); omega
              refine lv_iinc (v := y_61) (lv' := [(3, .int y_61), (0, .ref h0), (1, .int p1), (2, .int n4), (4, .int u4)]) hx hb dX9_count_77 hl (k := 3) rfl (by rw [ey_61]; rfl) (by decide) rfl (fun ls hl => ?_)
              refine lv_goto (tgt := 4) hx hb dX9_count_80 (by decide) ?_
              exact ih_4 n4 y_61 uqx lqx wqx pqx dqx (by omega) (by omega) (by rw [show (y_61).toInt.toNat = t3.toInt.toNat + 1 by omega]; exact hA9) (by omega) H _ (hP.sub [0, 1, 2, 3, 4, 5, 6, 7, 8] rfl) (hD.sub [0, 1, 2, 3, 4, 5, 6, 7, 8] (by decide) rfl) hS ls (lv_sub hl [1, 2, 3, 0] rfl)
            · have t_45 := mt (fa_le _ _).mpr c_45
              refine lv_iload_n hx hb dX9_count_48 rfl (lv_at hl 1 rfl) ?_
              refine lv_iconst (v := 2) hx hb dX9_count_49 (by decide) ?_
              refine lv_icmp_ne (tgt := 77) hx hb dX9_count_50 (by decide) (fun c_50 => ?_) (fun c_50 => ?_)
              · have t_50 := mt (fa_eq _ _).mpr c_50
                have q9 := ca_s (v := mTV Fi Ma Db Go Sp) (M := (mtM (mTV Fi Ma Db Go Sp) ne.toInt)) (sz := th.toInt.toNat) (t := t3.toInt.toNat) (wh := p1.toInt) (r := if p1.toInt = 2 then rowN (mtM (mTV Fi Ma Db Go Sp) ne.toInt) t3.toInt.toNat th.toInt.toNat else 0) hg9 ((Decidable.em (p1.toInt = 2)).elim (fun h2 => Or.inl ⟨h2, if_pos h2⟩) (fun h2 => Or.inr ⟨h2, if_neg h2⟩))
                have hA9 : (n4).toInt = caN (mTV Fi Ma Db Go Sp) (mtM (mTV Fi Ma Db Go Sp) ne.toInt) th.toInt.toNat p1.toInt (t3.toInt.toNat + 1) := by rw [q9]; rcases hr4 with ⟨h2, e2⟩ | ⟨h2, e2⟩; all_goals first | (exfalso; omega) | (rw [if_pos h2]; have hu : u4.toInt.toNat = th.toInt.toNat := (by omega); rw [hu] at e2; omega) | (rw [if_neg h2]; omega)
                obtain ⟨y_62, ey_62⟩ : ∃ y : Int32, y = t3 + 1 := ⟨_, rfl⟩
                have ty_62 : y_62.toInt = t3.toInt + 1 := by rw [ey_62]; have := fb_addI (x := t3) (y := 1) (by omega) (by omega); omega
                refine lv_iinc (v := y_62) (lv' := [(3, .int y_62), (0, .ref h0), (1, .int p1), (2, .int n4), (4, .int u4)]) hx hb dX9_count_77 hl (k := 3) rfl (by rw [ey_62]; rfl) (by decide) rfl (fun ls hl => ?_)
                refine lv_goto (tgt := 4) hx hb dX9_count_80 (by decide) ?_
                exact ih_4 n4 y_62 uqx lqx wqx pqx dqx (by omega) (by omega) (by rw [show (y_62).toInt.toNat = t3.toInt.toNat + 1 by omega]; exact hA9) (by omega) H _ (hP.sub [0, 1, 2, 3, 4, 5, 6, 7, 8] rfl) (hD.sub [0, 1, 2, 3, 4, 5, 6, 7, 8] (by decide) rfl) hS ls (lv_sub hl [1, 2, 3, 0] rfl)
              · have t_50 := (fa_eq _ _).mp c_50
                refine lv_iload_n hx hb dX9_count_53 rfl (lv_at hl 2 rfl) ?_
                refine lv_aload_n hx hb dX9_count_54 rfl (lv_at hl 0 rfl) ?_
                refine lv_iload_n hx hb dX9_count_55 rfl (lv_at hl 3 rfl) ?_
                refine lv_iload hx hb dX9_count_56 (lv_at hl 4 rfl) ?_
                have hPc := hP.sub (ws' := [(h0, .inr (9, [.int th, .ref a1, .ref a2, .ref a3, .ref a4, .ref a5, .int ne, .int wi, .int dn, .ref a6, .ref a7, .int nn, .ref a8, .int la, .ref a9, .ref a10, .long uqx, .long lqx, .int wqx, .long pqx, .long dqx, .ref a11])), (a1, .inl (cI, 16, .inl Fi)), (a2, .inl (cI, 16, .inl Ma)), (a4, .inl (cZ, 16, .inl Go)), (a5, .inl (cI, 576, .inl Sp))]) [0, 1, 2, 4, 5] rfl
                have hKc := hK.sub (tys' := [(cI, .int), (cZ, .boolean)]) [0, 1] rfl
                have hDc := hD.sub (ws' := [(h0, .inr (9, [.int th, .ref a1, .ref a2, .ref a3, .ref a4, .ref a5, .int ne, .int wi, .int dn, .ref a6, .ref a7, .int nn, .ref a8, .int la, .ref a9, .ref a10, .long uqx, .long lqx, .int wqx, .long pqx, .long dqx, .ref a11])), (a1, .inl (cI, 16, .inl Fi)), (a2, .inl (cI, 16, .inl Ma)), (a4, .inl (cZ, 16, .inl Go)), (a5, .inl (cI, 576, .inl Sp))]) [0, 1, 2, 4, 5] (by decide) rfl
                have hFc := va_free (wc := [(h0, .inr (9, [.int th, .ref a1, .ref a2, .ref a3, .ref a4, .ref a5, .int ne, .int wi, .int dn, .ref a6, .ref a7, .int nn, .ref a8, .int la, .ref a9, .ref a10, .long uqx, .long lqx, .int wqx, .long pqx, .long dqx, .ref a11])), (a1, .inl (cI, 16, .inl Fi)), (a2, .inl (cI, 16, .inl Ma)), (a4, .inl (cZ, 16, .inl Go)), (a5, .inl (cI, 576, .inl Sp))]) hD hS hA [0, 1, 2, 4, 5] rfl
                refine va_calli (va_runV (As := [.int t3, .int u4]) (rest := [.int n4]) ⟨hx, hb, hml, hown, hts⟩ (c_X9_isMeetingE l dC dI Db h0 a1 a2 a3 a4 a5 a6 a7 a8 a9 a10 a11 th ne wi dn nn la wqx uqx lqx pqx dqx cI cZ Fi Ma Go Sp t3 u4 H.size (by first | assumption | omega) (by first | assumption | omega) (by first | omega | assumption) (by first | omega | assumption) (by first | omega | assumption) (by first | omega | assumption) (by first | omega | assumption) (by first | omega | assumption)) (cwV 2 hts g_X9_countE__X9_isMeetingE_106 rfl rfl rfl (by decide +kernel) ⟨Nat.le_of_ble_eq_true rfl, Nat.le_of_ble_eq_true rfl⟩) ⟨fun a U g mk q => by obtain ⟨q0, q1, qP, qK, qD⟩ := q; exact ⟨q0, q1, qP, va_K.moved (u := U) (U := U.calling g mk a) (Vm.Alike.refl U.vm) qK, qD⟩, va_recv hKc hPc (ci := 9) (q0 := 0) rfl rfl, fun U hU hW => ⟨rfl, by rw [hU], by rw [hU]; exact hPc, va_K.moved hW.alike hKc, hDc.weaken (fun _ _ _ _ => trivial)⟩⟩ rfl rfl hl.1 rfl (lv_room (Nat.le_of_ble_eq_true rfl)) dX9_count_58 ⟨Nat.le_of_ble_eq_true rfl, Nat.le_of_ble_eq_true rfl⟩) hS (fun q _ h => hFc q h) hFc (fun r_64 u_63 t H1 locs ht hvm hw_64 hB hz1 hk1 hS => ?_)
                obtain ⟨up9_65, lw9_66, wh9_67, pu9_68, pw9_69, hP1, hK1, hD1, hms_70, hbd_71⟩ := hB
                rw [ht] at hP1
                have hK1 := va_K.moved hvm.symm hK1
                obtain ⟨hP, hD⟩ := va_join (wr := [(a3, .inl (cI, 16, .inl Db)), (a6, .inl (cI, 40, .inl Ds)), (a7, .inl (cI, 120, .inl Dp)), (a8, .inl (cI, 320, .inl No))]) (w1 := [(h0, .inr (9, [.int th, .ref a1, .ref a2, .ref a3, .ref a4, .ref a5, .int ne, .int wi, .int dn, .ref a6, .ref a7, .int nn, .ref a8, .int la, .ref a9, .ref a10, .long up9_65, .long lw9_66, .int wh9_67, .long pu9_68, .long pw9_69, .ref a11])), (a1, .inl (cI, 16, .inl Fi)), (a2, .inl (cI, 16, .inl Ma)), (a4, .inl (cZ, 16, .inl Go)), (a5, .inl (cI, 576, .inl Sp))]) hP hD [0, 1, 2, 4, 5] [3, 6, 7, 8] rfl rfl (by decide) (by decide) hk1 hFc hP1 hD1
                have hK := (hK.sub (tys' := [(cI, .int), (cZ, .boolean)]) [0, 1] rfl).app hK1
                generalize H1 = H at hP hS ⊢
                have hP : va_P (dC, dI) vwCl [(a3, .inl (cI, 16, .inl Db)), (a6, .inl (cI, 40, .inl Ds)), (a7, .inl (cI, 120, .inl Dp)), (a8, .inl (cI, 320, .inl No)), (h0, .inr (9, [.int th, .ref a1, .ref a2, .ref a3, .ref a4, .ref a5, .int ne, .int wi, .int dn, .ref a6, .ref a7, .int nn, .ref a8, .int la, .ref a9, .ref a10, .long up9_65, .long lw9_66, .int wh9_67, .long pu9_68, .long pw9_69, .ref a11])), (a1, .inl (cI, 16, .inl Fi)), (a2, .inl (cI, 16, .inl Ma)), (a4, .inl (cZ, 16, .inl Go)), (a5, .inl (cI, 576, .inl Sp))] H := hP
                have hD : va_D A [(a3, .inl (cI, 16, .inl Db)), (a6, .inl (cI, 40, .inl Ds)), (a7, .inl (cI, 120, .inl Dp)), (a8, .inl (cI, 320, .inl No)), (h0, .inr (9, [.int th, .ref a1, .ref a2, .ref a3, .ref a4, .ref a5, .int ne, .int wi, .int dn, .ref a6, .ref a7, .int nn, .ref a8, .int la, .ref a9, .ref a10, .long up9_65, .long lw9_66, .int wh9_67, .long pu9_68, .long pw9_69, .ref a11])), (a1, .inl (cI, 16, .inl Fi)), (a2, .inl (cI, 16, .inl Ma)), (a4, .inl (cZ, 16, .inl Go)), (a5, .inl (cI, 576, .inl Sp))] := hD
                have hK : va_K (dC, dI) vwCl [(cI, .int), (cZ, .boolean), (cI, .int), (cZ, .boolean)] s := hK
                refine W.widen (k := 0) (n := 0) (by omega) (by omega) ?_
                try dsimp only at hw_64
                refine lv_if_eq (tgt := 68) hx hb dX9_count_61 (by decide) (fun c_61 => ?_) (fun c_61 => ?_)
                · have t_61 := (fa_eq _ _).mp c_61
                  refine lv_iconst (v := 0) hx hb dX9_count_68 (by decide) ?_
                  have b8 := rowN_le (mtM (mTV Fi Ma Db Go Sp) ne.toInt) t3.toInt.toNat u4.toInt.toNat
                  refine lv_iadd hx hb dX9_count_69 ?_
                  refine lv_topi (fun y_72 ey_72 => ?_)
                  have ty_72 : y_72.toInt = n4.toInt + 0 := by rw [ey_72]; have := fb_addI (x := n4) (y := 0) (by omega) (by omega); omega
                  refine lv_istore_n (lv' := [(2, .int y_72), (0, .ref h0), (1, .int p1), (3, .int t3), (4, .int u4)]) hx hb dX9_count_70 rfl hl (by decide) rfl (fun ls hl => ?_)
                  have hN9 : (y_72).toInt = (y_59).toInt + ((rowN (mtM (mTV Fi Ma Db Go Sp) ne.toInt) t3.toInt.toNat (u4.toInt.toNat + 1) : Nat) : Int) := by have e2 := hr4.elim (fun z => z.2) (fun z => absurd (show p1.toInt = 2 by omega) z.1); rw [rowN_0 (M := (mtM (mTV Fi Ma Db Go Sp) ne.toInt)) (t := t3.toInt.toNat) (n := u4.toInt.toNat) (fun h => tv_0 hw_64 c_61 ⟨by omega, h⟩)]; omega
                  obtain ⟨y_73, ey_73⟩ : ∃ y : Int32, y = u4 + 1 := ⟨_, rfl⟩
                  have ty_73 : y_73.toInt = u4.toInt + 1 := by rw [ey_73]; have := fb_addI (x := u4) (y := 1) (by omega) (by omega); omega
                  refine lv_iinc (v := y_73) (lv' := [(4, .int y_73), (2, .int y_72), (0, .ref h0), (1, .int p1), (3, .int t3)]) hx hb dX9_count_71 hl (k := 4) rfl (by rw [ey_73]; rfl) (by decide) rfl (fun ls hl => ?_)
                  refine lv_goto (tgt := 39) hx hb dX9_count_74 (by decide) ?_
                  exact ih_39 y_72 y_73 up9_65 lw9_66 wh9_67 pu9_68 pw9_69 (by omega) (by omega) (by refine Or.inl ⟨by omega, ?_⟩; rw [show (y_73).toInt.toNat = u4.toInt.toNat + 1 by omega]; exact hN9) (by omega) H _ (hP.sub [4, 5, 6, 0, 7, 8, 1, 2, 3] rfl) (hD.sub [4, 5, 6, 0, 7, 8, 1, 2, 3] (by decide) rfl) hS ls (lv_sub hl [2, 3, 1, 4, 0] rfl)
                · have t_61 := mt (fa_eq _ _).mpr c_61
                  refine lv_iconst (v := 1) hx hb dX9_count_64 (by decide) ?_
                  refine lv_goto (tgt := 69) hx hb dX9_count_65 (by decide) ?_
                  have b8 := rowN_le (mtM (mTV Fi Ma Db Go Sp) ne.toInt) t3.toInt.toNat u4.toInt.toNat
                  refine lv_iadd hx hb dX9_count_69 ?_
                  refine lv_topi (fun y_74 ey_74 => ?_)
                  have ty_74 : y_74.toInt = n4.toInt + 1 := by rw [ey_74]; have := fb_addI (x := n4) (y := 1) (by omega) (by omega); omega
                  refine lv_istore_n (lv' := [(2, .int y_74), (0, .ref h0), (1, .int p1), (3, .int t3), (4, .int u4)]) hx hb dX9_count_70 rfl hl (by decide) rfl (fun ls hl => ?_)
                  have hN9 : (y_74).toInt = (y_59).toInt + ((rowN (mtM (mTV Fi Ma Db Go Sp) ne.toInt) t3.toInt.toNat (u4.toInt.toNat + 1) : Nat) : Int) := by have e2 := hr4.elim (fun z => z.2) (fun z => absurd (show p1.toInt = 2 by omega) z.1); rw [rowN_1 (M := (mtM (mTV Fi Ma Db Go Sp) ne.toInt)) (t := t3.toInt.toNat) (n := u4.toInt.toNat) (by omega) (tv_1 hw_64 c_61).2]; omega
                  obtain ⟨y_75, ey_75⟩ : ∃ y : Int32, y = u4 + 1 := ⟨_, rfl⟩
                  have ty_75 : y_75.toInt = u4.toInt + 1 := by rw [ey_75]; have := fb_addI (x := u4) (y := 1) (by omega) (by omega); omega
                  refine lv_iinc (v := y_75) (lv' := [(4, .int y_75), (2, .int y_74), (0, .ref h0), (1, .int p1), (3, .int t3)]) hx hb dX9_count_71 hl (k := 4) rfl (by rw [ey_75]; rfl) (by decide) rfl (fun ls hl => ?_)
                  refine lv_goto (tgt := 39) hx hb dX9_count_74 (by decide) ?_
                  exact ih_39 y_74 y_75 up9_65 lw9_66 wh9_67 pu9_68 pw9_69 (by omega) (by omega) (by refine Or.inl ⟨by omega, ?_⟩; rw [show (y_75).toInt.toNat = u4.toInt.toNat + 1 by omega]; exact hN9) (by omega) H _ (hP.sub [4, 5, 6, 0, 7, 8, 1, 2, 3] rfl) (hD.sub [4, 5, 6, 0, 7, 8, 1, 2, 3] (by decide) rfl) hS ls (lv_sub hl [2, 3, 1, 4, 0] rfl)
        · have t_24 := (fa_eq _ _).mp c_24
          refine lv_iconst (v := 1) hx hb dX9_count_27 (by decide) ?_
          refine lv_goto (tgt := 32) hx hb dX9_count_28 (by decide) ?_
          have hg9 : (p1.toInt = 1 ∧ (mTV Fi Ma Db Go Sp t3.toInt.toNat).2.2.2.1.toInt = 0 ∧ (1 : Nat) = 1) ∨ (¬ (p1.toInt = 1 ∧ (mTV Fi Ma Db Go Sp t3.toInt.toNat).2.2.2.1.toInt = 0) ∧ (1 : Nat) = 0) := Or.inl ⟨by omega, (by omega : (Go t3.toNatClampNeg).toInt = 0), rfl⟩
          have b9 := ca_le (v := mTV Fi Ma Db Go Sp) (M := (mtM (mTV Fi Ma Db Go Sp) ne.toInt)) (sz := th.toInt.toNat) (t := t3.toInt.toNat) (wh := p1.toInt) (by omega) (by omega)
          refine lv_iadd hx hb dX9_count_32 ?_
          refine lv_topi (fun y_76 ey_76 => ?_)
          have ty_76 : y_76.toInt = n2.toInt + 1 := by rw [ey_76]; have := fb_addI (x := n2) (y := 1) (by omega) (by omega); omega
          refine lv_istore_n (lv' := [(2, .int y_76), (0, .ref h0), (1, .int p1), (3, .int t3)]) hx hb dX9_count_33 rfl hl (by decide) rfl (fun ls hl => ?_)
          refine lv_iload_n hx hb dX9_count_34 rfl (lv_at hl 3 rfl) ?_
          refine lv_iconst (v := 1) hx hb dX9_count_35 (by decide) ?_
          refine lv_iadd hx hb dX9_count_36 ?_
          refine lv_topi (fun y_77 ey_77 => ?_)
          have ty_77 : y_77.toInt = t3.toInt + 1 := by rw [ey_77]; have := fb_addI (x := t3) (y := 1) (by omega) (by omega); omega
          refine lv_istore (lv' := [(4, .int y_77), (2, .int y_76), (0, .ref h0), (1, .int p1), (3, .int t3)]) hx hb dX9_count_37 hl (by decide) rfl (fun ls hl => ?_)
          refine (show ∀ (k : Nat) (n4 : Int32) (u4 : Int32) (uqx : Int64) (lqx : Int64) (wqx : Int32) (pqx : Int64) (dqx : Int64) (hv0 : t3.toInt < u4.toInt) (hv1 : u4.toInt ≤ th.toInt) (hr4 : (p1.toInt = 2 ∧ n4.toInt = (y_76).toInt + ((rowN (mtM (mTV Fi Ma Db Go Sp) ne.toInt) t3.toInt.toNat u4.toInt.toNat : Nat) : Int)) ∨ (p1.toInt ≠ 2 ∧ n4.toInt = (y_76).toInt)) (hk_39 : (th.toInt - u4.toInt).toNat < k) (H : Heap) (locs : List Loc) (hP : va_P (dC, dI) vwCl [(h0, .inr (9, [.int th, .ref a1, .ref a2, .ref a3, .ref a4, .ref a5, .int ne, .int wi, .int dn, .ref a6, .ref a7, .int nn, .ref a8, .int la, .ref a9, .ref a10, .long uqx, .long lqx, .int wqx, .long pqx, .long dqx, .ref a11])), (a1, .inl (cI, 16, .inl Fi)), (a2, .inl (cI, 16, .inl Ma)), (a3, .inl (cI, 16, .inl Db)), (a4, .inl (cZ, 16, .inl Go)), (a5, .inl (cI, 576, .inl Sp)), (a6, .inl (cI, 40, .inl Ds)), (a7, .inl (cI, 120, .inl Dp)), (a8, .inl (cI, 320, .inl No))] H) (hD : va_D A [(h0, .inr (9, [.int th, .ref a1, .ref a2, .ref a3, .ref a4, .ref a5, .int ne, .int wi, .int dn, .ref a6, .ref a7, .int nn, .ref a8, .int la, .ref a9, .ref a10, .long uqx, .long lqx, .int wqx, .long pqx, .long dqx, .ref a11])), (a1, .inl (cI, 16, .inl Fi)), (a2, .inl (cI, 16, .inl Ma)), (a3, .inl (cI, 16, .inl Db)), (a4, .inl (cZ, 16, .inl Go)), (a5, .inl (cI, 576, .inl Sp)), (a6, .inl (cI, 40, .inl Ds)), (a7, .inl (cI, 120, .inl Dp)), (a8, .inl (cI, 320, .inl No))]) (hS : va_S A s.heap H locs) (ls : Array Slot) (hl : lv_has ls 5 [(0, .ref h0), (1, .int p1), (2, .int n4), (3, .int t3), (4, .int u4)]), W p l e _ s m _ below meth c H locs 0 0 _ (F0 m 39 ls []) from ?_) _ y_76 y_77 uq lq wq pq dq (by omega) (by omega) (by rw [rowN_z (by omega)]; omega) (Nat.lt_succ_self _) H _ hP hD hS ls (lv_sub hl [2, 3, 1, 4, 0] rfl)
          intro k
          induction k with
          | zero => intro n4 u4 uqx lqx wqx pqx dqx hv0 hv1 hr4 hk_39; exact absurd hk_39 (Nat.not_lt_zero _)
          | succ k ih_39 =>
            intro n4 u4 uqx lqx wqx pqx dqx hv0 hv1 hr4 hk_39 H locs hP hD hS ls hl
            refine lv_iload hx hb dX9_count_39 (lv_at hl 4 rfl) ?_
            refine lv_aload_n hx hb dX9_count_41 rfl (lv_at hl 0 rfl) ?_
            refine va_get (D := (dC, dI)) (ci := 9) (v := .int th) (C := RX9) (T := TX9) (N := 22) hx hb hts in_X9_countE_X9 hown hK hP 0 rfl rfl 0 (by decide) (hts (.fieldLink RX9 59 "MeetingsAboveModel" "things" "I") (by decide +kernel)) (fun _ h9 => h9) rfl dX9_count_42 ?_
            refine lv_icmp_ge (tgt := 77) hx hb dX9_count_45 (by decide) (fun c_45 => ?_) (fun c_45 => ?_)
            · have t_45 := (fa_le _ _).mp c_45
              have q9 := ca_s (v := mTV Fi Ma Db Go Sp) (M := (mtM (mTV Fi Ma Db Go Sp) ne.toInt)) (sz := th.toInt.toNat) (t := t3.toInt.toNat) (wh := p1.toInt) (r := if p1.toInt = 2 then rowN (mtM (mTV Fi Ma Db Go Sp) ne.toInt) t3.toInt.toNat th.toInt.toNat else 0) hg9 ((Decidable.em (p1.toInt = 2)).elim (fun h2 => Or.inl ⟨h2, if_pos h2⟩) (fun h2 => Or.inr ⟨h2, if_neg h2⟩))
              have hA9 : (n4).toInt = caN (mTV Fi Ma Db Go Sp) (mtM (mTV Fi Ma Db Go Sp) ne.toInt) th.toInt.toNat p1.toInt (t3.toInt.toNat + 1) := by rw [q9]; rcases hr4 with ⟨h2, e2⟩ | ⟨h2, e2⟩; all_goals first | (exfalso; omega) | (rw [if_pos h2]; have hu : u4.toInt.toNat = th.toInt.toNat := (by omega); rw [hu] at e2; omega) | (rw [if_neg h2]; omega)
              obtain ⟨y_78, ey_78⟩ : ∃ y : Int32, y = t3 + 1 := ⟨_, rfl⟩
              have ty_78 : y_78.toInt = t3.toInt + 1 := by rw [ey_78]; have := fb_addI (x := t3) (y := 1) (by omega) (by omega); omega
              refine lv_iinc (v := y_78) (lv' := [(3, .int y_78), (0, .ref h0), (1, .int p1), (2, .int n4), (4, .int u4)]) hx hb dX9_count_77 hl (k := 3) rfl (by rw [ey_78]; rfl) (by decide) rfl (fun ls hl => ?_)
              refine lv_goto (tgt := 4) hx hb dX9_count_80 (by decide) ?_
              exact ih_4 n4 y_78 uqx lqx wqx pqx dqx (by omega) (by omega) (by rw [show (y_78).toInt.toNat = t3.toInt.toNat + 1 by omega]; exact hA9) (by omega) H _ (hP.sub [0, 1, 2, 3, 4, 5, 6, 7, 8] rfl) (hD.sub [0, 1, 2, 3, 4, 5, 6, 7, 8] (by decide) rfl) hS ls (lv_sub hl [1, 2, 3, 0] rfl)
            · have t_45 := mt (fa_le _ _).mpr c_45
              refine lv_iload_n hx hb dX9_count_48 rfl (lv_at hl 1 rfl) ?_
              refine lv_iconst (v := 2) hx hb dX9_count_49 (by decide) ?_
              refine lv_icmp_ne (tgt := 77) hx hb dX9_count_50 (by decide) (fun c_50 => ?_) (fun c_50 => ?_)
              · have t_50 := mt (fa_eq _ _).mpr c_50
                have q9 := ca_s (v := mTV Fi Ma Db Go Sp) (M := (mtM (mTV Fi Ma Db Go Sp) ne.toInt)) (sz := th.toInt.toNat) (t := t3.toInt.toNat) (wh := p1.toInt) (r := if p1.toInt = 2 then rowN (mtM (mTV Fi Ma Db Go Sp) ne.toInt) t3.toInt.toNat th.toInt.toNat else 0) hg9 ((Decidable.em (p1.toInt = 2)).elim (fun h2 => Or.inl ⟨h2, if_pos h2⟩) (fun h2 => Or.inr ⟨h2, if_neg h2⟩))
                have hA9 : (n4).toInt = caN (mTV Fi Ma Db Go Sp) (mtM (mTV Fi Ma Db Go Sp) ne.toInt) th.toInt.toNat p1.toInt (t3.toInt.toNat + 1) := by rw [q9]; rcases hr4 with ⟨h2, e2⟩ | ⟨h2, e2⟩; all_goals first | (exfalso; omega) | (rw [if_pos h2]; have hu : u4.toInt.toNat = th.toInt.toNat := (by omega); rw [hu] at e2; omega) | (rw [if_neg h2]; omega)
                obtain ⟨y_79, ey_79⟩ : ∃ y : Int32, y = t3 + 1 := ⟨_, rfl⟩
                have ty_79 : y_79.toInt = t3.toInt + 1 := by rw [ey_79]; have := fb_addI (x := t3) (y := 1) (by omega) (by omega); omega
                refine lv_iinc (v := y_79) (lv' := [(3, .int y_79), (0, .ref h0), (1, .int p1), (2, .int n4), (4, .int u4)]) hx hb dX9_count_77 hl (k := 3) rfl (by rw [ey_79]; rfl) (by decide) rfl (fun ls hl => ?_)
                refine lv_goto (tgt := 4) hx hb dX9_count_80 (by decide) ?_
                exact ih_4 n4 y_79 uqx lqx wqx pqx dqx (by omega) (by omega) (by rw [show (y_79).toInt.toNat = t3.toInt.toNat + 1 by omega]; exact hA9) (by omega) H _ (hP.sub [0, 1, 2, 3, 4, 5, 6, 7, 8] rfl) (hD.sub [0, 1, 2, 3, 4, 5, 6, 7, 8] (by decide) rfl) hS ls (lv_sub hl [1, 2, 3, 0] rfl)
              · have t_50 := (fa_eq _ _).mp c_50
                refine lv_iload_n hx hb dX9_count_53 rfl (lv_at hl 2 rfl) ?_
                refine lv_aload_n hx hb dX9_count_54 rfl (lv_at hl 0 rfl) ?_
                refine lv_iload_n hx hb dX9_count_55 rfl (lv_at hl 3 rfl) ?_
                refine lv_iload hx hb dX9_count_56 (lv_at hl 4 rfl) ?_
                have hPc := hP.sub (ws' := [(h0, .inr (9, [.int th, .ref a1, .ref a2, .ref a3, .ref a4, .ref a5, .int ne, .int wi, .int dn, .ref a6, .ref a7, .int nn, .ref a8, .int la, .ref a9, .ref a10, .long uqx, .long lqx, .int wqx, .long pqx, .long dqx, .ref a11])), (a1, .inl (cI, 16, .inl Fi)), (a2, .inl (cI, 16, .inl Ma)), (a4, .inl (cZ, 16, .inl Go)), (a5, .inl (cI, 576, .inl Sp))]) [0, 1, 2, 4, 5] rfl
                have hKc := hK.sub (tys' := [(cI, .int), (cZ, .boolean)]) [0, 1] rfl
                have hDc := hD.sub (ws' := [(h0, .inr (9, [.int th, .ref a1, .ref a2, .ref a3, .ref a4, .ref a5, .int ne, .int wi, .int dn, .ref a6, .ref a7, .int nn, .ref a8, .int la, .ref a9, .ref a10, .long uqx, .long lqx, .int wqx, .long pqx, .long dqx, .ref a11])), (a1, .inl (cI, 16, .inl Fi)), (a2, .inl (cI, 16, .inl Ma)), (a4, .inl (cZ, 16, .inl Go)), (a5, .inl (cI, 576, .inl Sp))]) [0, 1, 2, 4, 5] (by decide) rfl
                have hFc := va_free (wc := [(h0, .inr (9, [.int th, .ref a1, .ref a2, .ref a3, .ref a4, .ref a5, .int ne, .int wi, .int dn, .ref a6, .ref a7, .int nn, .ref a8, .int la, .ref a9, .ref a10, .long uqx, .long lqx, .int wqx, .long pqx, .long dqx, .ref a11])), (a1, .inl (cI, 16, .inl Fi)), (a2, .inl (cI, 16, .inl Ma)), (a4, .inl (cZ, 16, .inl Go)), (a5, .inl (cI, 576, .inl Sp))]) hD hS hA [0, 1, 2, 4, 5] rfl
                refine va_calli (va_runV (As := [.int t3, .int u4]) (rest := [.int n4]) ⟨hx, hb, hml, hown, hts⟩ (c_X9_isMeetingE l dC dI Db h0 a1 a2 a3 a4 a5 a6 a7 a8 a9 a10 a11 th ne wi dn nn la wqx uqx lqx pqx dqx cI cZ Fi Ma Go Sp t3 u4 H.size (by first | assumption | omega) (by first | assumption | omega) (by first | omega | assumption) (by first | omega | assumption) (by first | omega | assumption) (by first | omega | assumption) (by first | omega | assumption) (by first | omega | assumption)) (cwV 2 hts g_X9_countE__X9_isMeetingE_106 rfl rfl rfl (by decide +kernel) ⟨Nat.le_of_ble_eq_true rfl, Nat.le_of_ble_eq_true rfl⟩) ⟨fun a U g mk q => by obtain ⟨q0, q1, qP, qK, qD⟩ := q; exact ⟨q0, q1, qP, va_K.moved (u := U) (U := U.calling g mk a) (Vm.Alike.refl U.vm) qK, qD⟩, va_recv hKc hPc (ci := 9) (q0 := 0) rfl rfl, fun U hU hW => ⟨rfl, by rw [hU], by rw [hU]; exact hPc, va_K.moved hW.alike hKc, hDc.weaken (fun _ _ _ _ => trivial)⟩⟩ rfl rfl hl.1 rfl (lv_room (Nat.le_of_ble_eq_true rfl)) dX9_count_58 ⟨Nat.le_of_ble_eq_true rfl, Nat.le_of_ble_eq_true rfl⟩) hS (fun q _ h => hFc q h) hFc (fun r_81 u_80 t H1 locs ht hvm hw_81 hB hz1 hk1 hS => ?_)
                obtain ⟨up9_82, lw9_83, wh9_84, pu9_85, pw9_86, hP1, hK1, hD1, hms_87, hbd_88⟩ := hB
                rw [ht] at hP1
                have hK1 := va_K.moved hvm.symm hK1
                obtain ⟨hP, hD⟩ := va_join (wr := [(a3, .inl (cI, 16, .inl Db)), (a6, .inl (cI, 40, .inl Ds)), (a7, .inl (cI, 120, .inl Dp)), (a8, .inl (cI, 320, .inl No))]) (w1 := [(h0, .inr (9, [.int th, .ref a1, .ref a2, .ref a3, .ref a4, .ref a5, .int ne, .int wi, .int dn, .ref a6, .ref a7, .int nn, .ref a8, .int la, .ref a9, .ref a10, .long up9_82, .long lw9_83, .int wh9_84, .long pu9_85, .long pw9_86, .ref a11])), (a1, .inl (cI, 16, .inl Fi)), (a2, .inl (cI, 16, .inl Ma)), (a4, .inl (cZ, 16, .inl Go)), (a5, .inl (cI, 576, .inl Sp))]) hP hD [0, 1, 2, 4, 5] [3, 6, 7, 8] rfl rfl (by decide) (by decide) hk1 hFc hP1 hD1
                have hK := (hK.sub (tys' := [(cI, .int), (cZ, .boolean)]) [0, 1] rfl).app hK1
                generalize H1 = H at hP hS ⊢
                have hP : va_P (dC, dI) vwCl [(a3, .inl (cI, 16, .inl Db)), (a6, .inl (cI, 40, .inl Ds)), (a7, .inl (cI, 120, .inl Dp)), (a8, .inl (cI, 320, .inl No)), (h0, .inr (9, [.int th, .ref a1, .ref a2, .ref a3, .ref a4, .ref a5, .int ne, .int wi, .int dn, .ref a6, .ref a7, .int nn, .ref a8, .int la, .ref a9, .ref a10, .long up9_82, .long lw9_83, .int wh9_84, .long pu9_85, .long pw9_86, .ref a11])), (a1, .inl (cI, 16, .inl Fi)), (a2, .inl (cI, 16, .inl Ma)), (a4, .inl (cZ, 16, .inl Go)), (a5, .inl (cI, 576, .inl Sp))] H := hP
                have hD : va_D A [(a3, .inl (cI, 16, .inl Db)), (a6, .inl (cI, 40, .inl Ds)), (a7, .inl (cI, 120, .inl Dp)), (a8, .inl (cI, 320, .inl No)), (h0, .inr (9, [.int th, .ref a1, .ref a2, .ref a3, .ref a4, .ref a5, .int ne, .int wi, .int dn, .ref a6, .ref a7, .int nn, .ref a8, .int la, .ref a9, .ref a10, .long up9_82, .long lw9_83, .int wh9_84, .long pu9_85, .long pw9_86, .ref a11])), (a1, .inl (cI, 16, .inl Fi)), (a2, .inl (cI, 16, .inl Ma)), (a4, .inl (cZ, 16, .inl Go)), (a5, .inl (cI, 576, .inl Sp))] := hD
                have hK : va_K (dC, dI) vwCl [(cI, .int), (cZ, .boolean), (cI, .int), (cZ, .boolean)] s := hK
                refine W.widen (k := 0) (n := 0) (by omega) (by omega) ?_
                try dsimp only at hw_81
                refine lv_if_eq (tgt := 68) hx hb dX9_count_61 (by decide) (fun c_61 => ?_) (fun c_61 => ?_)
                · have t_61 := (fa_eq _ _).mp c_61
                  refine lv_iconst (v := 0) hx hb dX9_count_68 (by decide) ?_
                  have b8 := rowN_le (mtM (mTV Fi Ma Db Go Sp) ne.toInt) t3.toInt.toNat u4.toInt.toNat
                  refine lv_iadd hx hb dX9_count_69 ?_
                  refine lv_topi (fun y_89 ey_89 => ?_)
                  have ty_89 : y_89.toInt = n4.toInt + 0 := by rw [ey_89]; have := fb_addI (x := n4) (y := 0) (by omega) (by omega); omega
                  refine lv_istore_n (lv' := [(2, .int y_89), (0, .ref h0), (1, .int p1), (3, .int t3), (4, .int u4)]) hx hb dX9_count_70 rfl hl (by decide) rfl (fun ls hl => ?_)
                  have hN9 : (y_89).toInt = (y_76).toInt + ((rowN (mtM (mTV Fi Ma Db Go Sp) ne.toInt) t3.toInt.toNat (u4.toInt.toNat + 1) : Nat) : Int) := by have e2 := hr4.elim (fun z => z.2) (fun z => absurd (show p1.toInt = 2 by omega) z.1); rw [rowN_0 (M := (mtM (mTV Fi Ma Db Go Sp) ne.toInt)) (t := t3.toInt.toNat) (n := u4.toInt.toNat) (fun h => tv_0 hw_81 c_61 ⟨by omega, h⟩)]; omega
                  obtain ⟨y_90, ey_90⟩ : ∃ y : Int32, y = u4 + 1 := ⟨_, rfl⟩
                  have ty_90 : y_90.toInt = u4.toInt + 1 := by rw [ey_90]; have := fb_addI (x := u4) (y := 1) (by omega) (by omega); omega
                  refine lv_iinc (v := y_90) (lv' := [(4, .int y_90), (2, .int y_89), (0, .ref h0), (1, .int p1), (3, .int t3)]) hx hb dX9_count_71 hl (k := 4) rfl (by rw [ey_90]; rfl) (by decide) rfl (fun ls hl => ?_)
                  refine lv_goto (tgt := 39) hx hb dX9_count_74 (by decide) ?_
                  exact ih_39 y_89 y_90 up9_82 lw9_83 wh9_84 pu9_85 pw9_86 (by omega) (by omega) (by refine Or.inl ⟨by omega, ?_⟩; rw [show (y_90).toInt.toNat = u4.toInt.toNat + 1 by omega]; exact hN9) (by omega) H _ (hP.sub [4, 5, 6, 0, 7, 8, 1, 2, 3] rfl) (hD.sub [4, 5, 6, 0, 7, 8, 1, 2, 3] (by decide) rfl) hS ls (lv_sub hl [2, 3, 1, 4, 0] rfl)
                · have t_61 := mt (fa_eq _ _).mpr c_61
                  refine lv_iconst (v := 1) hx hb dX9_count_64 (by decide) ?_
                  refine lv_goto (tgt := 69) hx hb dX9_count_65 (by decide) ?_
                  have b8 := rowN_le (mtM (mTV Fi Ma Db Go Sp) ne.toInt) t3.toInt.toNat u4.toInt.toNat
                  refine lv_iadd hx hb dX9_count_69 ?_
                  refine lv_topi (fun y_91 ey_91 => ?_)
                  have ty_91 : y_91.toInt = n4.toInt + 1 := by rw [ey_91]; have := fb_addI (x := n4) (y := 1) (by omega) (by omega); omega
                  refine lv_istore_n (lv' := [(2, .int y_91), (0, .ref h0), (1, .int p1), (3, .int t3), (4, .int u4)]) hx hb dX9_count_70 rfl hl (by decide) rfl (fun ls hl => ?_)
                  have hN9 : (y_91).toInt = (y_76).toInt + ((rowN (mtM (mTV Fi Ma Db Go Sp) ne.toInt) t3.toInt.toNat (u4.toInt.toNat + 1) : Nat) : Int) := by have e2 := hr4.elim (fun z => z.2) (fun z => absurd (show p1.toInt = 2 by omega) z.1); rw [rowN_1 (M := (mtM (mTV Fi Ma Db Go Sp) ne.toInt)) (t := t3.toInt.toNat) (n := u4.toInt.toNat) (by omega) (tv_1 hw_81 c_61).2]; omega
                  obtain ⟨y_92, ey_92⟩ : ∃ y : Int32, y = u4 + 1 := ⟨_, rfl⟩
                  have ty_92 : y_92.toInt = u4.toInt + 1 := by rw [ey_92]; have := fb_addI (x := u4) (y := 1) (by omega) (by omega); omega
                  refine lv_iinc (v := y_92) (lv' := [(4, .int y_92), (2, .int y_91), (0, .ref h0), (1, .int p1), (3, .int t3)]) hx hb dX9_count_71 hl (k := 4) rfl (by rw [ey_92]; rfl) (by decide) rfl (fun ls hl => ?_)
                  refine lv_goto (tgt := 39) hx hb dX9_count_74 (by decide) ?_
                  exact ih_39 y_91 y_92 up9_82 lw9_83 wh9_84 pu9_85 pw9_86 (by omega) (by omega) (by refine Or.inl ⟨by omega, ?_⟩; rw [show (y_92).toInt.toNat = u4.toInt.toNat + 1 by omega]; exact hN9) (by omega) H _ (hP.sub [4, 5, 6, 0, 7, 8, 1, 2, 3] rfl) (hD.sub [4, 5, 6, 0, 7, 8, 1, 2, 3] (by decide) rfl) hS ls (lv_sub hl [2, 3, 1, 4, 0] rfl)
