def wk_X6_copyFromP : List Cond := .code yX6_copyFrom cX6_copyFrom 4 none :: (([.fieldLink RX6 22 "MeetingsAbove$Thing" "doubt" "I", .fieldLink RX6 25 "MeetingsAbove$Thing" "gone" "Z"] : List Cond) ++ (wsX60 ++ ((wsV RX6 75 RX6 yX6_begin wk_X6_begin) ++ ((wsV RX6 29 RX6 yX6_lastStep wk_X6_lastStep) ++ ((wsV RX6 33 RX6 yX6_coord wk_X6_coord) ++ ((wsV RX6 79 RX6 yX6_append wk_X6_append) ++ ([])))))))
theorem in_X6_copyFromP_X6 : ∀ w ∈ wsX60, w ∈ wk_X6_copyFromP := fun _ h => List.mem_cons_of_mem _ (List.mem_append_right _ (List.mem_append_left _ h))
theorem gw_X6_copyFromP : AG wk_X6_copyFromP := AG_ca (AG_l (by decide +kernel)) (AG_app ag_X6 (AG_app (AG_V gw_X6_begin) (AG_app (AG_V gw_X6_lastStep) (AG_app (AG_V gw_X6_coord) (AG_app (AG_V gw_X6_append) (AG_nil))))))
theorem g_X6_copyFromP__X6_begin_75 : GoodIn wk_X6_copyFromP (wsV RX6 75 RX6 yX6_begin wk_X6_begin) := goodIn_m (fun _ h => List.mem_cons_of_mem _ (List.mem_append_right _ (List.mem_append_right _ (List.mem_append_left _ h)))) (AG_V gw_X6_begin)
theorem g_X6_copyFromP__X6_lastStep_29 : GoodIn wk_X6_copyFromP (wsV RX6 29 RX6 yX6_lastStep wk_X6_lastStep) := goodIn_m (fun _ h => List.mem_cons_of_mem _ (List.mem_append_right _ (List.mem_append_right _ (List.mem_append_right _ (List.mem_append_left _ h))))) (AG_V gw_X6_lastStep)
theorem g_X6_copyFromP__X6_coord_33 : GoodIn wk_X6_copyFromP (wsV RX6 33 RX6 yX6_coord wk_X6_coord) := goodIn_m (fun _ h => List.mem_cons_of_mem _ (List.mem_append_right _ (List.mem_append_right _ (List.mem_append_right _ (List.mem_append_right _ (List.mem_append_left _ h)))))) (AG_V gw_X6_coord)
theorem g_X6_copyFromP__X6_append_79 : GoodIn wk_X6_copyFromP (wsV RX6 79 RX6 yX6_append wk_X6_append) := goodIn_m (fun _ h => List.mem_cons_of_mem _ (List.mem_append_right _ (List.mem_append_right _ (List.mem_append_right _ (List.mem_append_right _ (List.mem_append_right _ (List.mem_append_left _ h))))))) (AG_V gw_X6_append)
set_option maxHeartbeats 4000000 in
set_option maxRecDepth 100000 in
theorem c_X6_copyFromP (l : Launch) (dC : Nat → ClassId) (dI : Nat → Nat → Nat) (h0 : Nat) (x0 : Nat) (fi : Int32) (pl : Int32) (db : Int32) (go : Int32) (g : Nat → Int32) (h1 : Nat) (x1 : Nat) (fi1 : Int32) (pl1 : Int32) (db1 : Int32) (go1 : Int32) (g1 : Nat → Int32) (cI : ClassId) (L : List Nat) (f : Nat → va_E) (p1 : Int32) (sz : Nat) (hL1 : h1 ∈ L) (hX1 : x1 ∈ L) (hf1 : f h1 = .inr (6, [.ref x1, .int fi1, .int pl1, .int db1, .int go1])) (hg1 : f x1 = .inl (cI, 36, .inl g1)) (ht1 : tOK fi1 pl1) (hs0 : fi1.toInt ≤ p1.toInt) (hs1 : p1.toInt ≤ fi1.toInt + pl1.toInt) (hs2 : p1.toInt ≤ 39) (hgo : go1 = 0 ∨ go1 = 1) : Met l yX6_copyFrom wk_X6_copyFromP ({ frames := 1, cells := 0, slots := 0, locals := 24 }) (va_Pc [.ref h0, .ref h1, .int p1] (fun U => U.heap.size = sz ∧ va_P (dC, dI) vwCl (([(h0, .inr (6, [.ref x0, .int fi, .int pl, .int db, .int go])), (x0, .inl (cI, 36, .inl g))] : va_W) ++ va_pl L f) U.heap ∧ va_K (dC, dI) vwCl [(cI, .int)] U ∧ va_D (fun _ => True) (([(h0, .inr (6, [.ref x0, .int fi, .int pl, .int db, .int go])), (x0, .inl (cI, 36, .inl g))] : va_W) ++ va_pl L f))) (va_Qv (fun (_ : Unit) => True) (fun (_ : Unit) (t : State) => ∃ (pl9 : Int32) (g9 : Nat → Int32), va_P (dC, dI) vwCl (([(h0, .inr (6, [.ref x0, .int p1, .int pl9, .int db1, .int go1])), (x0, .inl (cI, 36, .inl g9))] : va_W) ++ va_pl L f) t.heap ∧ va_K (dC, dI) vwCl [(cI, .int)] t ∧ va_D (va_A (([(h0, .inr (6, [.ref x0, .int fi, .int pl, .int db, .int go])), (x0, .inl (cI, 36, .inl g))] : va_W) ++ va_pl L f) sz) (([(h0, .inr (6, [.ref x0, .int p1, .int pl9, .int db1, .int go1])), (x0, .inl (cI, 36, .inl g9))] : va_W) ++ va_pl L f) ∧ pl9.toInt = fi1.toInt + pl1.toInt - p1.toInt ∧ g9 = cpK g g1 (3 * (p1.toInt - fi1.toInt)).toNat (fi1.toInt + pl1.toInt - p1.toInt).toNat) (va_A (([(h0, .inr (6, [.ref x0, .int fi, .int pl, .int db, .int go])), (x0, .inl (cI, 36, .inl g))] : va_W) ++ va_pl L f) sz)) 0 0 (va_A (([(h0, .inr (6, [.ref x0, .int fi, .int pl, .int db, .int go])), (x0, .inl (cI, 36, .inl g))] : va_W) ++ va_pl L f) sz) := by
  refine Met.ofW (cc := cX6_copyFrom) (maxL := 4) (ret := none) (by decide) rfl ?_
  intro p e s m args below meth c s₁ B hml hv
  obtain ⟨rfl, hsz, hP, hK, hD0⟩ := hv
  have hx := B.exec
  have hb := B.bytes
  have hr := B.returns
  have hts := atoms_spec (ws := wk_X6_copyFromP) B.pre
  have hown : s.vm.findClass RX6 = some m.cls := findClass_of_methodNamed B.named
  have hlocks := B.notSynchronized
  subst hsz
  have hD := hD0.self (sz := s.heap.size)
  generalize hAe : va_A (([(h0, .inr (6, [.ref x0, .int fi, .int pl, .int db, .int go])), (x0, .inl (cI, 36, .inl g))] : va_W) ++ va_pl L f) s.heap.size = A at hD ⊢
  have hA : ∀ q : Nat, s.heap.size ≤ q → A q := fun q h => by rw [← hAe]; exact Or.inr h
  have hS : va_S A s.heap s.heap [] := va_S.rf
  have hP : va_P (dC, dI) vwCl (([(h0, .inr (6, [.ref x0, .int fi, .int pl, .int db, .int go])), (x0, .inl (cI, 36, .inl g))] : va_W) ++ va_pl L f) s.heap := hP
  have hl := lv_entry ([.ref h0, .ref h1, .int p1]) (n := 4) (Nat.le_of_ble_eq_true rfl)
  rw [lg_entry_eq]
  generalize (lg_sl ([.ref h0, .ref h1, .int p1]) ++ List.replicate (4 - (lg_sl ([.ref h0, .ref h1, .int p1])).length) Slot.unset).toArray = ls at hl ⊢
  have hl : lv_has ls 4 [(0, .ref h0), (1, .ref h1), (2, .int p1)] := hl
  have kl_0 : (0 : Int32).toInt = 0 := by decide
  have kl_1 : (1 : Int32).toInt = 1 := by decide
  have kl_2 : (2 : Int32).toInt = 2 := by decide
  obtain ⟨qa1, qb1, qc1, qd1⟩ := id ht1
  refine lv_aload_n hx hb dX6_copyFrom_0 rfl (lv_at hl 0 rfl) ?_
  refine lv_iload_n hx hb dX6_copyFrom_1 rfl (lv_at hl 2 rfl) ?_
  refine lv_aload_n hx hb dX6_copyFrom_2 rfl (lv_at hl 1 rfl) ?_
  obtain ⟨k_1, hk_1⟩ := pl_ix (X := [(h0, .inr (6, [.ref x0, .int fi, .int pl, .int db, .int go])), (x0, .inl (cI, 36, .inl g))]) hL1 hf1
  refine va_get (D := (dC, dI)) (ci := 6) (v := .int db1) (C := RX6) (T := TX6) (N := 5) hx hb hts in_X6_copyFromP_X6 hown hK hP k_1 hk_1 rfl 3 (by decide) (hts (.fieldLink RX6 22 "MeetingsAbove$Thing" "doubt" "I") (by decide +kernel)) (fun _ h9 => h9) rfl dX6_copyFrom_3 ?_
  have hPc := hP.sub (ws' := [(h0, .inr (6, [.ref x0, .int fi, .int pl, .int db, .int go]))]) [0] rfl
  have hKc := hK.sub (tys' := []) [] rfl
  have hDc := hD.sub (ws' := [(h0, .inr (6, [.ref x0, .int fi, .int pl, .int db, .int go]))]) [0] (by decide) rfl
  have hFc := va_free (wc := [(h0, .inr (6, [.ref x0, .int fi, .int pl, .int db, .int go]))]) hD hS hA [0] rfl
  refine va_callv (va_runV (As := [.int p1, .int db1]) (rest := []) ⟨hx, hb, hml, hown, hts⟩ (c_X6_begin l dC dI h0 x0 fi pl db go p1 db1 s.heap.size) (cwV 2 hts g_X6_copyFromP__X6_begin_75 rfl rfl rfl (by decide +kernel) ⟨Nat.le_of_ble_eq_true rfl, Nat.le_of_ble_eq_true rfl⟩) ⟨fun a U g mk q => by obtain ⟨q0, q1, qP, qK, qD⟩ := q; exact ⟨q0, q1, qP, va_K.moved (u := U) (U := U.calling g mk a) (Vm.Alike.refl U.vm) qK, qD⟩, va_recv hKc hPc (ci := 6) (q0 := 0) rfl rfl, fun U hU hW => ⟨rfl, by rw [hU], by rw [hU]; exact hPc, va_K.moved hW.alike hKc, hDc.weaken (fun _ _ _ _ => trivial)⟩⟩ rfl rfl hl.1 rfl (lv_room (Nat.le_of_ble_eq_true rfl)) dX6_copyFrom_6 ⟨Nat.le_of_ble_eq_true rfl, Nat.le_of_ble_eq_true rfl⟩) hS (fun q _ h => hFc q h) hFc (fun u_2 t H1 locs ht hvm hw_3 hB hz1 hk1 hS => ?_)
  obtain ⟨hP1, hK1, hD1⟩ := hB
  rw [ht] at hP1
  have hK1 := va_K.moved hvm.symm hK1
  obtain ⟨hP, hD⟩ := va_joinQ (wr := [(x0, .inl (cI, 36, .inl g))]) (w1 := [(h0, .inr (6, [.ref x0, .int p1, .int 0, .int db1, .int 0]))]) hP hD [0] [1] rfl rfl (by decide) (by decide) hk1 hFc hP1 hD1
  have hK := (hK.sub (tys' := [(cI, .int)]) [0] rfl).app hK1
  generalize H1 = H at hP hS ⊢
  have hP : va_P (dC, dI) vwCl (([(x0, .inl (cI, 36, .inl g)), (h0, .inr (6, [.ref x0, .int p1, .int 0, .int db1, .int 0]))] : va_W) ++ va_pl L f) H := hP
  have hD : va_D A (([(x0, .inl (cI, 36, .inl g)), (h0, .inr (6, [.ref x0, .int p1, .int 0, .int db1, .int 0]))] : va_W) ++ va_pl L f) := hD
  have hK : va_K (dC, dI) vwCl [(cI, .int)] s := hK
  refine W.widen (k := 0) (n := 0) (by omega) (by omega) ?_
  refine lv_aload_n hx hb dX6_copyFrom_9 rfl (lv_at hl 0 rfl) ?_
  refine lv_aload_n hx hb dX6_copyFrom_10 rfl (lv_at hl 1 rfl) ?_
  obtain ⟨k_4, hk_4⟩ := pl_ix (X := [(x0, .inl (cI, 36, .inl g)), (h0, .inr (6, [.ref x0, .int p1, .int 0, .int db1, .int 0]))]) hL1 hf1
  refine va_get (D := (dC, dI)) (ci := 6) (v := .int go1) (C := RX6) (T := TX6) (N := 5) hx hb hts in_X6_copyFromP_X6 hown hK hP k_4 hk_4 rfl 4 (by decide) (hts (.fieldLink RX6 25 "MeetingsAbove$Thing" "gone" "Z") (by decide +kernel)) (fun _ h9 => h9) rfl dX6_copyFrom_11 ?_
  refine va_put (D := (dC, dI)) (ci := 6) (v := .int go1) (ty := .boolean) (C := RX6) (T := TX6) (N := 5) hx hb hts in_X6_copyFromP_X6 tyX6 tyX6_ok nmX6 hown hK hP hD hS 1 rfl rfl 4 (by decide) (hts (.fieldLink RX6 25 "MeetingsAbove$Thing" "gone" "Z") (by decide +kernel)) (fun _ h9 => h9) rfl (by decide +kernel) (by rcases hgo with h | h <;> rw [h] <;> rfl) (by rcases hgo with h | h <;> rw [h] <;> rfl) (Nat.le_of_ble_eq_true rfl) dX6_copyFrom_14 (fun H locs hP hD hS => ?_)
  have hP : va_P (dC, dI) vwCl (([(x0, .inl (cI, 36, .inl g)), (h0, .inr (6, [.ref x0, .int p1, .int 0, .int db1, .int go1]))] : va_W) ++ va_pl L f) H := hP
  have hD : va_D A (([(x0, .inl (cI, 36, .inl g)), (h0, .inr (6, [.ref x0, .int p1, .int 0, .int db1, .int go1]))] : va_W) ++ va_pl L f) := hD
  refine lv_iload_n hx hb dX6_copyFrom_17 rfl (lv_at hl 2 rfl) ?_
  refine lv_istore_n (lv' := [(3, .int p1), (0, .ref h0), (1, .ref h1), (2, .int p1)]) hx hb dX6_copyFrom_18 rfl hl (by decide) rfl (fun ls hl => ?_)
  refine (show ∀ (k : Nat) (k3 : Int32) (p7 : Int32) (S7 : Nat → Int32) (hk0 : p1.toInt ≤ k3.toInt) (hk1 : k3.toInt ≤ fi1.toInt + pl1.toInt) (hp7 : p7.toInt = k3.toInt - p1.toInt) (hS7 : S7 = cpK g g1 (3 * (p1.toInt - fi1.toInt)).toNat (k3.toInt - p1.toInt).toNat) (hk_19 : (fi1.toInt + pl1.toInt - k3.toInt).toNat < k) (H : Heap) (locs : List Loc) (hP : va_P (dC, dI) vwCl (([(x0, .inl (cI, 36, .inl S7)), (h0, .inr (6, [.ref x0, .int p1, .int p7, .int db1, .int go1]))] : va_W) ++ va_pl L f) H) (hD : va_D A (([(x0, .inl (cI, 36, .inl S7)), (h0, .inr (6, [.ref x0, .int p1, .int p7, .int db1, .int go1]))] : va_W) ++ va_pl L f)) (hS : va_S A s.heap H locs) (ls : Array Slot) (hl : lv_has ls 4 [(0, .ref h0), (1, .ref h1), (2, .int p1), (3, .int k3)]), W p l e _ s m _ below meth c H locs 0 0 _ (F0 m 19 ls []) from ?_) _ p1 0 g (by omega) (by omega) (by omega) (by rw [show (p1.toInt - p1.toInt).toNat = 0 by omega]; rfl) (Nat.lt_succ_self _) H _ hP hD hS ls (lv_sub hl [1, 2, 3, 0] rfl)
  intro k
  induction k with
  | zero => intro k3 p7 S7 hk0 hk1 hp7 hS7 hk_19; exact absurd hk_19 (Nat.not_lt_zero _)
  | succ k ih_19 =>
    intro k3 p7 S7 hk0 hk1 hp7 hS7 hk_19 H locs hP hD hS ls hl
    refine lv_iload_n hx hb dX6_copyFrom_19 rfl (lv_at hl 3 rfl) ?_
    refine lv_aload_n hx hb dX6_copyFrom_20 rfl (lv_at hl 1 rfl) ?_
    have hPc : va_P (dC, dI) vwCl [(h1, .inr (6, [.ref x1, .int fi1, .int pl1, .int db1, .int go1]))] H := P_cons (pl_at (X := [(x0, .inl (cI, 36, .inl S7)), (h0, .inr (6, [.ref x0, .int p1, .int p7, .int db1, .int go1]))]) hP hL1 hf1) (P_nil)
    have hKc := hK.sub (tys' := []) [] rfl
    refine vp_callSi (W.runV (As := []) (rest := [.int k3]) ⟨hx, hb, hml, hown, hts⟩ (c_X6_lastStep l dC dI h1 x1 fi1 pl1 db1 go1 (by first | assumption | omega)) (cwV 0 hts g_X6_copyFromP__X6_lastStep_29 rfl rfl rfl (by decide +kernel) ⟨Nat.le_of_ble_eq_true rfl, Nat.le_of_ble_eq_true rfl⟩) ⟨fun a U g mk q => by obtain ⟨q0, qP, qK⟩ := q; exact ⟨q0, qP, va_K.moved (u := U) (U := U.calling g mk a) (Vm.Alike.refl U.vm) qK⟩, va_recv hKc hPc (ci := 6) (q0 := 0) rfl rfl, fun U hU hW => ⟨rfl, by rw [hU]; exact hPc, va_K.moved hW.alike hKc⟩⟩ rfl rfl hl.1 rfl (lv_room (Nat.le_of_ble_eq_true rfl)) dX6_copyFrom_21 ⟨Nat.le_of_ble_eq_true rfl, Nat.le_of_ble_eq_true rfl⟩) (fun r_5 hr_5 => ?_)
    try dsimp only at hr_5
    refine lv_icmp_gt (tgt := 56) hx hb dX6_copyFrom_24 (by decide) (fun c_24 => ?_) (fun c_24 => ?_)
    · have t_24 := (fa_lt _ _).mp c_24
      have hP9 := hP.part (cx := [(h0, .inr (6, [.ref x0, .int p1, .int p7, .int db1, .int go1])), (x0, .inl (cI, 36, .inl S7))]) [1, 0] rfl
      have hD9 := hD.part (cx := [(h0, .inr (6, [.ref x0, .int p1, .int p7, .int db1, .int go1])), (x0, .inl (cI, 36, .inl S7))]) [1, 0] (by decide) rfl
      have hK9 := hK.sub (tys' := [(cI, .int)]) [0] rfl
      refine W.widen (k := 0) (n := 0) (by omega) (by omega) ?_
      exact W.vret hx hb hr (fun t ht hW => ⟨⟨(), rfl, trivial, p7, S7, by rw [ht]; exact hP9, va_K.moved hW.alike hK9, hD9, (by omega), (by rw [show (fi1.toInt + pl1.toInt - p1.toInt).toNat = (k3.toInt - p1.toInt).toNat by omega]; exact hS7)⟩, hS.F ht⟩) hS.2.2 dX6_copyFrom_56
    · have t_24 := mt (fa_lt _ _).mpr c_24
      refine lv_aload_n hx hb dX6_copyFrom_27 rfl (lv_at hl 0 rfl) ?_
      refine lv_aload_n hx hb dX6_copyFrom_28 rfl (lv_at hl 1 rfl) ?_
      refine lv_iload_n hx hb dX6_copyFrom_29 rfl (lv_at hl 3 rfl) ?_
      refine lv_iconst (v := 0) hx hb dX6_copyFrom_30 (by decide) ?_
      have hPc : va_P (dC, dI) vwCl [(h1, .inr (6, [.ref x1, .int fi1, .int pl1, .int db1, .int go1])), (x1, .inl (cI, 36, .inl g1))] H := P_cons (pl_at (X := [(x0, .inl (cI, 36, .inl S7)), (h0, .inr (6, [.ref x0, .int p1, .int p7, .int db1, .int go1]))]) hP hL1 hf1) (P_cons (pl_at (X := [(x0, .inl (cI, 36, .inl S7)), (h0, .inr (6, [.ref x0, .int p1, .int p7, .int db1, .int go1]))]) hP hX1 hg1) (P_nil))
      have hKc := hK.sub (tys' := [(cI, .int)]) [0] rfl
      refine vp_callSi (W.runV (As := [.int k3, .int 0]) (rest := [.ref h0]) ⟨hx, hb, hml, hown, hts⟩ (c_X6_coord l dC dI h1 x1 fi1 pl1 db1 go1 g1 cI k3 0 (by first | omega | assumption) (by first | omega | assumption) (by first | omega | assumption) (by first | omega | assumption) (by first | omega | assumption) (by first | omega | assumption)) (cwV 2 hts g_X6_copyFromP__X6_coord_33 rfl rfl rfl (by decide +kernel) ⟨Nat.le_of_ble_eq_true rfl, Nat.le_of_ble_eq_true rfl⟩) ⟨fun a U g mk q => by obtain ⟨q0, qP, qK⟩ := q; exact ⟨q0, qP, va_K.moved (u := U) (U := U.calling g mk a) (Vm.Alike.refl U.vm) qK⟩, va_recv hKc hPc (ci := 6) (q0 := 0) rfl rfl, fun U hU hW => ⟨rfl, by rw [hU]; exact hPc, va_K.moved hW.alike hKc⟩⟩ rfl rfl hl.1 rfl (lv_room (Nat.le_of_ble_eq_true rfl)) dX6_copyFrom_31 ⟨Nat.le_of_ble_eq_true rfl, Nat.le_of_ble_eq_true rfl⟩) (fun r_6 hr_6 => ?_)
      try dsimp only at hr_6
      refine lv_aload_n hx hb dX6_copyFrom_34 rfl (lv_at hl 1 rfl) ?_
      refine lv_iload_n hx hb dX6_copyFrom_35 rfl (lv_at hl 3 rfl) ?_
      refine lv_iconst (v := 1) hx hb dX6_copyFrom_36 (by decide) ?_
      have hPc : va_P (dC, dI) vwCl [(h1, .inr (6, [.ref x1, .int fi1, .int pl1, .int db1, .int go1])), (x1, .inl (cI, 36, .inl g1))] H := P_cons (pl_at (X := [(x0, .inl (cI, 36, .inl S7)), (h0, .inr (6, [.ref x0, .int p1, .int p7, .int db1, .int go1]))]) hP hL1 hf1) (P_cons (pl_at (X := [(x0, .inl (cI, 36, .inl S7)), (h0, .inr (6, [.ref x0, .int p1, .int p7, .int db1, .int go1]))]) hP hX1 hg1) (P_nil))
      have hKc := hK.sub (tys' := [(cI, .int)]) [0] rfl
      refine vp_callSi (W.runV (As := [.int k3, .int 1]) (rest := [.int r_6, .ref h0]) ⟨hx, hb, hml, hown, hts⟩ (c_X6_coord l dC dI h1 x1 fi1 pl1 db1 go1 g1 cI k3 1 (by first | omega | assumption) (by first | omega | assumption) (by first | omega | assumption) (by first | omega | assumption) (by first | omega | assumption) (by first | omega | assumption)) (cwV 2 hts g_X6_copyFromP__X6_coord_33 rfl rfl rfl (by decide +kernel) ⟨Nat.le_of_ble_eq_true rfl, Nat.le_of_ble_eq_true rfl⟩) ⟨fun a U g mk q => by obtain ⟨q0, qP, qK⟩ := q; exact ⟨q0, qP, va_K.moved (u := U) (U := U.calling g mk a) (Vm.Alike.refl U.vm) qK⟩, va_recv hKc hPc (ci := 6) (q0 := 0) rfl rfl, fun U hU hW => ⟨rfl, by rw [hU]; exact hPc, va_K.moved hW.alike hKc⟩⟩ rfl rfl hl.1 rfl (lv_room (Nat.le_of_ble_eq_true rfl)) dX6_copyFrom_37 ⟨Nat.le_of_ble_eq_true rfl, Nat.le_of_ble_eq_true rfl⟩) (fun r_7 hr_7 => ?_)
      try dsimp only at hr_7
      refine lv_aload_n hx hb dX6_copyFrom_40 rfl (lv_at hl 1 rfl) ?_
      refine lv_iload_n hx hb dX6_copyFrom_41 rfl (lv_at hl 3 rfl) ?_
      refine lv_iconst (v := 2) hx hb dX6_copyFrom_42 (by decide) ?_
      have hPc : va_P (dC, dI) vwCl [(h1, .inr (6, [.ref x1, .int fi1, .int pl1, .int db1, .int go1])), (x1, .inl (cI, 36, .inl g1))] H := P_cons (pl_at (X := [(x0, .inl (cI, 36, .inl S7)), (h0, .inr (6, [.ref x0, .int p1, .int p7, .int db1, .int go1]))]) hP hL1 hf1) (P_cons (pl_at (X := [(x0, .inl (cI, 36, .inl S7)), (h0, .inr (6, [.ref x0, .int p1, .int p7, .int db1, .int go1]))]) hP hX1 hg1) (P_nil))
      have hKc := hK.sub (tys' := [(cI, .int)]) [0] rfl
      refine vp_callSi (W.runV (As := [.int k3, .int 2]) (rest := [.int r_7, .int r_6, .ref h0]) ⟨hx, hb, hml, hown, hts⟩ (c_X6_coord l dC dI h1 x1 fi1 pl1 db1 go1 g1 cI k3 2 (by first | omega | assumption) (by first | omega | assumption) (by first | omega | assumption) (by first | omega | assumption) (by first | omega | assumption) (by first | omega | assumption)) (cwV 2 hts g_X6_copyFromP__X6_coord_33 rfl rfl rfl (by decide +kernel) ⟨Nat.le_of_ble_eq_true rfl, Nat.le_of_ble_eq_true rfl⟩) ⟨fun a U g mk q => by obtain ⟨q0, qP, qK⟩ := q; exact ⟨q0, qP, va_K.moved (u := U) (U := U.calling g mk a) (Vm.Alike.refl U.vm) qK⟩, va_recv hKc hPc (ci := 6) (q0 := 0) rfl rfl, fun U hU hW => ⟨rfl, by rw [hU]; exact hPc, va_K.moved hW.alike hKc⟩⟩ rfl rfl hl.1 rfl (lv_room (Nat.le_of_ble_eq_true rfl)) dX6_copyFrom_43 ⟨Nat.le_of_ble_eq_true rfl, Nat.le_of_ble_eq_true rfl⟩) (fun r_8 hr_8 => ?_)
      try dsimp only at hr_8
      have hPc := hP.sub (ws' := [(h0, .inr (6, [.ref x0, .int p1, .int p7, .int db1, .int go1])), (x0, .inl (cI, 36, .inl S7))]) [1, 0] rfl
      have hKc := hK.sub (tys' := [(cI, .int)]) [0] rfl
      have hDc := hD.sub (ws' := [(h0, .inr (6, [.ref x0, .int p1, .int p7, .int db1, .int go1])), (x0, .inl (cI, 36, .inl S7))]) [1, 0] (by decide) rfl
      have hFc := va_free (wc := [(h0, .inr (6, [.ref x0, .int p1, .int p7, .int db1, .int go1])), (x0, .inl (cI, 36, .inl S7))]) hD hS hA [1, 0] rfl
      refine va_calli (va_runV (As := [.int r_6, .int r_7, .int r_8]) (rest := []) ⟨hx, hb, hml, hown, hts⟩ (c_X6_append l dC dI h0 x0 p1 p7 db1 go1 S7 cI r_6 r_7 r_8 H.size (by first | omega | assumption) (by first | omega | assumption)) (cwV 3 hts g_X6_copyFromP__X6_append_79 rfl rfl rfl (by decide +kernel) ⟨Nat.le_of_ble_eq_true rfl, Nat.le_of_ble_eq_true rfl⟩) ⟨fun a U g mk q => by obtain ⟨q0, q1, qP, qK, qD⟩ := q; exact ⟨q0, q1, qP, va_K.moved (u := U) (U := U.calling g mk a) (Vm.Alike.refl U.vm) qK, qD⟩, va_recv hKc hPc (ci := 6) (q0 := 0) rfl rfl, fun U hU hW => ⟨rfl, by rw [hU], by rw [hU]; exact hPc, va_K.moved hW.alike hKc, hDc.weaken (fun _ _ _ _ => trivial)⟩⟩ rfl rfl hl.1 rfl (lv_room (Nat.le_of_ble_eq_true rfl)) dX6_copyFrom_46 ⟨Nat.le_of_ble_eq_true rfl, Nat.le_of_ble_eq_true rfl⟩) hS (fun q _ h => hFc q h) hFc (fun r_10 u_9 t H1 locs ht hvm hw_10 hB hz1 hk1 hS => ?_)
      obtain ⟨pl9_11, g9_12, hP1, hK1, hD1, hap_13⟩ := hB
      rw [ht] at hP1
      have hK1 := va_K.moved hvm.symm hK1
      obtain ⟨hP, hD⟩ := va_joinQ (wr := []) (w1 := [(h0, .inr (6, [.ref x0, .int p1, .int pl9_11, .int db1, .int go1])), (x0, .inl (cI, 36, .inl g9_12))]) hP hD [1, 0] [] rfl rfl (by decide) (by decide) hk1 hFc hP1 hD1
      have hK := (hK.sub (tys' := [(cI, .int)]) [0] rfl).app hK1
      generalize H1 = H at hP hS ⊢
      have hP : va_P (dC, dI) vwCl (([(h0, .inr (6, [.ref x0, .int p1, .int pl9_11, .int db1, .int go1])), (x0, .inl (cI, 36, .inl g9_12))] : va_W) ++ va_pl L f) H := hP
      have hD : va_D A (([(h0, .inr (6, [.ref x0, .int p1, .int pl9_11, .int db1, .int go1])), (x0, .inl (cI, 36, .inl g9_12))] : va_W) ++ va_pl L f) := hD
      have hK : va_K (dC, dI) vwCl [(cI, .int), (cI, .int)] s := hK
      refine W.widen (k := 0) (n := 0) (by omega) (by omega) ?_
      try dsimp only at hw_10
      refine lv_pop hx hb dX6_copyFrom_49 rfl ?_
      obtain ⟨n, hn⟩ : ∃ n : Nat, (k3.toInt - p1.toInt).toNat = n := ⟨_, rfl⟩
      obtain ⟨q, hq⟩ : ∃ q : Nat, (3 * (p1.toInt - fi1.toInt)).toNat = q := ⟨_, rfl⟩
      rw [hn, hq] at hS7
      obtain ⟨-, hp8, hS8⟩ : S7 = S7 ∧ pl9_11.toInt = p7.toInt + 1 ∧ g9_12 = st3 S7 (3 * p7.toInt).toNat r_6 r_7 r_8 := hap_13.elim (fun h => ⟨rfl, h.2⟩) (fun h => absurd h.1 (by omega))
      have hS9 := cp_step hS7 hS8 hr_6 hr_7 hr_8 (by omega) (by unfold ixc; omega) (by unfold ixc; omega) (by unfold ixc; omega)
      obtain ⟨y_14, ey_14⟩ : ∃ y : Int32, y = k3 + 1 := ⟨_, rfl⟩
      have ty_14 : y_14.toInt = k3.toInt + 1 := by rw [ey_14]; have := fb_addI (x := k3) (y := 1) (by omega) (by omega); omega
      refine lv_iinc (v := y_14) (lv' := [(3, .int y_14), (0, .ref h0), (1, .ref h1), (2, .int p1)]) hx hb dX6_copyFrom_50 hl (k := 3) rfl (by rw [ey_14]; rfl) (by decide) rfl (fun ls hl => ?_)
      refine lv_goto (tgt := 19) hx hb dX6_copyFrom_53 (by decide) ?_
      exact ih_19 y_14 pl9_11 g9_12 (by omega) (by omega) (by omega) (by rw [show (y_14.toInt - p1.toInt).toNat = n + 1 by omega, hq]; exact hS9) (by omega) H _ (hP.part [1, 0] rfl) (hD.part [1, 0] (by decide) rfl) hS ls (lv_sub hl [1, 2, 3, 0] rfl)
