def wk_X7_lookTE : List Cond := .code yX7_look cX7_look 16 none :: (([.fieldLink RX7 15 "MeetingsAbove$Way" "upper" "J", .fieldLink RX7 21 "MeetingsAbove$Way" "lower" "J", .fieldLink RX7 24 "MeetingsAbove$Way" "partUpper" "J"] : List Cond) ++ (wsX70 ++ ((wsV RX7 9 RX6 yX6_coord wk_X6_coord) ++ ([]))))
theorem in_X7_lookTE_X7 : ∀ w ∈ wsX70, w ∈ wk_X7_lookTE := fun _ h => List.mem_cons_of_mem _ (List.mem_append_right _ (List.mem_append_left _ h))
theorem gw_X7_lookTE : AG wk_X7_lookTE := AG_ca (AG_l (by decide +kernel)) (AG_app ag_X7 (AG_app (AG_V gw_X6_coord) (AG_nil)))
theorem g_X7_lookTE__X6_coord_9 : GoodIn wk_X7_lookTE (wsV RX7 9 RX6 yX6_coord wk_X6_coord) := goodIn_m (fun _ h => List.mem_cons_of_mem _ (List.mem_append_right _ (List.mem_append_right _ (List.mem_append_left _ h)))) (AG_V gw_X6_coord)
set_option maxHeartbeats 4000000 in
set_option maxRecDepth 100000 in
theorem c_X7_lookTE (l : Launch) (dC : Nat → ClassId) (dI : Nat → Nat → Nat) (h0 : Nat) (wu : Int64) (wl : Int64) (wp : Int64) (h1 : Nat) (x1 : Nat) (fi1 : Int32) (pl1 : Int32) (db1 : Int32) (go1 : Int32) (g1 : Nat → Int32) (h2 : Nat) (x2 : Nat) (fi2 : Int32) (pl2 : Int32) (db2 : Int32) (go2 : Int32) (g2 : Nat → Int32) (cI : ClassId) (L : List Nat) (f : Nat → va_E) (p1 : Int32) (p2 : Int32) (sz : Nat) (hL2 : h2 ∈ L) (hX2 : x2 ∈ L) (hf2 : f h2 = .inr (6, [.ref x2, .int fi2, .int pl2, .int db2, .int go2])) (hg2 : f x2 = .inl (cI, 36, .inl g2)) (ht1 : tOK fi1 pl1) (ht2 : tOK fi2 pl2) (hco1 : cOK pl1 g1) (hco2 : cOK pl2 g2) (hl1 : fi1.toInt ≤ p1.toInt) (hl2 : p1.toInt < fi1.toInt + pl1.toInt) (hl3 : fi2.toInt ≤ p1.toInt) (hl4 : p1.toInt < fi2.toInt + pl2.toInt) (hl5 : p2.toInt ≠ 0 → p1.toInt + 1 < fi1.toInt + pl1.toInt ∧ p1.toInt + 1 < fi2.toInt + pl2.toInt) : Met l yX7_look wk_X7_lookTE ({ frames := 1, cells := 0, slots := 0, locals := 23 }) (va_Pc [.ref h0, .ref h1, .ref h2, .int p1, .int p2] (fun U => U.heap.size = sz ∧ va_P (dC, dI) vwCl (([(h0, .inr (7, [.long wu, .long wl, .long wp])), (h1, .inr (6, [.ref x1, .int fi1, .int pl1, .int db1, .int go1])), (x1, .inl (cI, 36, .inl g1))] : va_W) ++ va_pl L f) U.heap ∧ va_K (dC, dI) vwCl [(cI, .int)] U ∧ va_D (fun _ => True) (([(h0, .inr (7, [.long wu, .long wl, .long wp])), (h1, .inr (6, [.ref x1, .int fi1, .int pl1, .int db1, .int go1])), (x1, .inl (cI, 36, .inl g1))] : va_W) ++ va_pl L f))) (va_Qv (fun (_ : Unit) => True) (fun (_ : Unit) (t : State) => ∃ (u9 : Int64) (l9 : Int64) (p9 : Int64), va_P (dC, dI) vwCl (([(h0, .inr (7, [.long u9, .long l9, .long p9])), (h1, .inr (6, [.ref x1, .int fi1, .int pl1, .int db1, .int go1])), (x1, .inl (cI, 36, .inl g1))] : va_W) ++ va_pl L f) t.heap ∧ va_K (dC, dI) vwCl [(cI, .int)] t ∧ va_D (va_A (([(h0, .inr (7, [.long wu, .long wl, .long wp])), (h1, .inr (6, [.ref x1, .int fi1, .int pl1, .int db1, .int go1])), (x1, .inl (cI, 36, .inl g1))] : va_W) ++ va_pl L f) sz) (([(h0, .inr (7, [.long u9, .long l9, .long p9])), (h1, .inr (6, [.ref x1, .int fi1, .int pl1, .int db1, .int go1])), (x1, .inl (cI, 36, .inl g1))] : va_W) ++ va_pl L f) ∧ u9.toInt = wU (gA fi1 g1 fi2 g2 p1.toInt) (gB fi1 g1 fi2 g2 p1.toInt (p2.toInt ≠ 0)) ∧ l9.toInt = wL (gA fi1 g1 fi2 g2 p1.toInt) (gB fi1 g1 fi2 g2 p1.toInt (p2.toInt ≠ 0)) ∧ p9.toInt = wP (gA fi1 g1 fi2 g2 p1.toInt) (gB fi1 g1 fi2 g2 p1.toInt (p2.toInt ≠ 0))) (va_A (([(h0, .inr (7, [.long wu, .long wl, .long wp])), (h1, .inr (6, [.ref x1, .int fi1, .int pl1, .int db1, .int go1])), (x1, .inl (cI, 36, .inl g1))] : va_W) ++ va_pl L f) sz)) 0 0 (va_A (([(h0, .inr (7, [.long wu, .long wl, .long wp])), (h1, .inr (6, [.ref x1, .int fi1, .int pl1, .int db1, .int go1])), (x1, .inl (cI, 36, .inl g1))] : va_W) ++ va_pl L f) sz) := by
  refine Met.ofW (cc := cX7_look) (maxL := 16) (ret := none) (by decide) rfl ?_
  intro p e s m args below meth c s₁ B hml hv
  obtain ⟨rfl, hsz, hP, hK, hD0⟩ := hv
  have hx := B.exec
  have hb := B.bytes
  have hr := B.returns
  have hts := atoms_spec (ws := wk_X7_lookTE) B.pre
  have hown : s.vm.findClass RX7 = some m.cls := findClass_of_methodNamed B.named
  have hlocks := B.notSynchronized
  subst hsz
  have hD := hD0.self (sz := s.heap.size)
  generalize hAe : va_A (([(h0, .inr (7, [.long wu, .long wl, .long wp])), (h1, .inr (6, [.ref x1, .int fi1, .int pl1, .int db1, .int go1])), (x1, .inl (cI, 36, .inl g1))] : va_W) ++ va_pl L f) s.heap.size = A at hD ⊢
  have hA : ∀ q : Nat, s.heap.size ≤ q → A q := fun q h => by rw [← hAe]; exact Or.inr h
  have hS : va_S A s.heap s.heap [] := va_S.rf
  have hP : va_P (dC, dI) vwCl (([(h0, .inr (7, [.long wu, .long wl, .long wp])), (h1, .inr (6, [.ref x1, .int fi1, .int pl1, .int db1, .int go1])), (x1, .inl (cI, 36, .inl g1))] : va_W) ++ va_pl L f) s.heap := hP
  have hl := lv_entry ([.ref h0, .ref h1, .ref h2, .int p1, .int p2]) (n := 16) (Nat.le_of_ble_eq_true rfl)
  rw [lg_entry_eq]
  generalize (lg_sl ([.ref h0, .ref h1, .ref h2, .int p1, .int p2]) ++ List.replicate (16 - (lg_sl ([.ref h0, .ref h1, .ref h2, .int p1, .int p2])).length) Slot.unset).toArray = ls at hl ⊢
  have hl : lv_has ls 16 [(0, .ref h0), (1, .ref h1), (2, .ref h2), (3, .int p1), (4, .int p2)] := hl
  have kl_0 : (0 : Int32).toInt = 0 := by decide
  have kl_1 : (1 : Int32).toInt = 1 := by decide
  have kl_3 : (3 : Int32).toInt = 3 := by decide
  have klL_0 : (0 : Int64).toInt = 0 := by decide
  have klL_1 : (1 : Int64).toInt = 1 := by decide
  obtain ⟨qa1, qb1, qc1, qd1⟩ := id ht1
  obtain ⟨qa2, qb2, qc2, qd2⟩ := id ht2
  have hOK := gw_ok (go := p2.toInt ≠ 0) hco1 hco2 hl1 hl2 hl3 hl4 hl5
  refine lv_lconst (v := 0) hx hb dX7_look_0 (by decide) ?_
  refine lv_lstore (lv' := [(5, .long 0), (0, .ref h0), (1, .ref h1), (2, .ref h2), (3, .int p1), (4, .int p2)]) hx hb dX7_look_1 hl (by decide) rfl (fun ls hl => ?_)
  refine lv_lconst (v := 0) hx hb dX7_look_3 (by decide) ?_
  refine lv_lstore (lv' := [(7, .long 0), (5, .long 0), (0, .ref h0), (1, .ref h1), (2, .ref h2), (3, .int p1), (4, .int p2)]) hx hb dX7_look_4 hl (by decide) rfl (fun ls hl => ?_)
  refine lv_lconst (v := 0) hx hb dX7_look_6 (by decide) ?_
  refine lv_lstore (lv' := [(9, .long 0), (7, .long 0), (5, .long 0), (0, .ref h0), (1, .ref h1), (2, .ref h2), (3, .int p1), (4, .int p2)]) hx hb dX7_look_7 hl (by decide) rfl (fun ls hl => ?_)
  refine lv_iconst (v := 0) hx hb dX7_look_9 (by decide) ?_
  refine lv_istore (lv' := [(11, .int 0), (9, .long 0), (7, .long 0), (5, .long 0), (0, .ref h0), (1, .ref h1), (2, .ref h2), (3, .int p1), (4, .int p2)]) hx hb dX7_look_10 hl (by decide) rfl (fun ls hl => ?_)
  refine (show ∀ (k : Nat) (z5 : Int64) (z7 : Int64) (z9 : Int64) (ax : Int32) (ha0 : 0 ≤ ax.toInt) (ha1 : ax.toInt ≤ 3) (hz5 : z5.toInt = acc (fun j => gA fi1 g1 fi2 g2 p1.toInt j * gA fi1 g1 fi2 g2 p1.toInt j) ax.toInt.toNat) (hz7 : z7.toInt = acc (fun j => gA fi1 g1 fi2 g2 p1.toInt j * (gB fi1 g1 fi2 g2 p1.toInt (p2.toInt ≠ 0)) j) ax.toInt.toNat) (hz9 : z9.toInt = acc (fun j => (gB fi1 g1 fi2 g2 p1.toInt (p2.toInt ≠ 0)) j * (gB fi1 g1 fi2 g2 p1.toInt (p2.toInt ≠ 0)) j) ax.toInt.toNat) (hk_12 : (3 - ax.toInt).toNat < k) (H : Heap) (locs : List Loc) (hP : va_P (dC, dI) vwCl (([(h0, .inr (7, [.long wu, .long wl, .long wp])), (h1, .inr (6, [.ref x1, .int fi1, .int pl1, .int db1, .int go1])), (x1, .inl (cI, 36, .inl g1))] : va_W) ++ va_pl L f) H) (hD : va_D A (([(h0, .inr (7, [.long wu, .long wl, .long wp])), (h1, .inr (6, [.ref x1, .int fi1, .int pl1, .int db1, .int go1])), (x1, .inl (cI, 36, .inl g1))] : va_W) ++ va_pl L f)) (hS : va_S A s.heap H locs) (ls : Array Slot) (hl : lv_has ls 16 [(0, .ref h0), (1, .ref h1), (2, .ref h2), (3, .int p1), (4, .int p2), (5, .long z5), (7, .long z7), (9, .long z9), (11, .int ax)]), W p l e _ s m _ below meth c H locs 0 0 _ (F0 m 12 ls []) from ?_) _ 0 0 0 0 (by omega) (by omega) (by rw [show (0 : Int32).toInt.toNat = 0 by omega]; exact klL_0) (by rw [show (0 : Int32).toInt.toNat = 0 by omega]; exact klL_0) (by rw [show (0 : Int32).toInt.toNat = 0 by omega]; exact klL_0) (Nat.lt_succ_self _) _ _ hP hD hS ls (lv_sub hl [4, 5, 6, 7, 8, 3, 2, 1, 0] rfl)
  intro k
  induction k with
  | zero => intro z5 z7 z9 ax ha0 ha1 hz5 hz7 hz9 hk_12; exact absurd hk_12 (Nat.not_lt_zero _)
  | succ k ih_12 =>
    intro z5 z7 z9 ax ha0 ha1 hz5 hz7 hz9 hk_12 H locs hP hD hS ls hl
    refine lv_iload hx hb dX7_look_12 (lv_at hl 8 rfl) ?_
    refine lv_iconst (v := 3) hx hb dX7_look_14 (by decide) ?_
    refine lv_icmp_ge (tgt := 106) hx hb dX7_look_15 (by decide) (fun c_15 => ?_) (fun c_15 => ?_)
    · have t_15 := (fa_le _ _).mp c_15
      have ax3 : ax.toInt.toNat = 3 := (by omega)
      rw [ax3] at hz5 hz7 hz9
      have bS := wS_bd hOK
      have bT := wT_bd hOK
      have bC := wC_bd hOK
      have eS : z5.toInt = wD (gA fi1 g1 fi2 g2 p1.toInt) (gA fi1 g1 fi2 g2 p1.toInt) := hz5
      have eT : z7.toInt = wD (gA fi1 g1 fi2 g2 p1.toInt) (gB fi1 g1 fi2 g2 p1.toInt (p2.toInt ≠ 0)) := hz7
      have eC : z9.toInt = wD (gB fi1 g1 fi2 g2 p1.toInt (p2.toInt ≠ 0)) (gB fi1 g1 fi2 g2 p1.toInt (p2.toInt ≠ 0)) := hz9
      refine lv_lload hx hb dX7_look_106 (lv_at hl 6 rfl) ?_
      refine lv_lconst (v := 0) hx hb dX7_look_108 (by decide) ?_
      refine W.lcmp hx hb dX7_look_109 ?_
      refine lv_if_ge (tgt := 127) hx hb dX7_look_110 (by decide) (fun c_110 => ?_) (fun c_110 => ?_)
      · have t_110 := (fa_le64 _ _).mp ((lg_cmp_ge _ _).mp c_110)
        refine lv_iconst (v := 0) hx hb dX7_look_127 (by decide) ?_
        refine lv_istore (lv' := [(11, .int 0), (0, .ref h0), (1, .ref h1), (2, .ref h2), (3, .int p1), (4, .int p2), (5, .long z5), (7, .long z7), (9, .long z9)]) hx hb dX7_look_128 hl (by decide) rfl (fun ls hl => ?_)
        refine lv_aload_n hx hb dX7_look_130 rfl (lv_at hl 1 rfl) ?_
        refine lv_iload hx hb dX7_look_131 (lv_at hl 0 rfl) ?_
        refine lv_if_eq (tgt := 150) hx hb dX7_look_133 (by decide) (fun _ => ?_) (fun h9 => absurd h9 (by decide))
        refine lv_lload hx hb dX7_look_150 (lv_at hl 6 rfl) ?_
        refine va_put (D := (dC, dI)) (ci := 7) (v := .long z5) (ty := .long) (C := RX7) (T := TX7) (N := 3) hx hb hts in_X7_lookTE_X7 tyX7 tyX7_ok nmX7 hown hK hP hD hS 0 rfl rfl 0 (by decide) (hts (.fieldLink RX7 15 "MeetingsAbove$Way" "upper" "J") (by decide +kernel)) (fun _ h9 => h9) rfl (by decide +kernel) rfl rfl (Nat.le_of_ble_eq_true rfl) dX7_look_152 (fun H locs hP hD hS => ?_)
        have hP : va_P (dC, dI) vwCl (([(h0, .inr (7, [.long z5, .long wl, .long wp])), (h1, .inr (6, [.ref x1, .int fi1, .int pl1, .int db1, .int go1])), (x1, .inl (cI, 36, .inl g1))] : va_W) ++ va_pl L f) H := hP
        have hD : va_D A (([(h0, .inr (7, [.long z5, .long wl, .long wp])), (h1, .inr (6, [.ref x1, .int fi1, .int pl1, .int db1, .int go1])), (x1, .inl (cI, 36, .inl g1))] : va_W) ++ va_pl L f) := hD
        refine lv_aload_n hx hb dX7_look_155 rfl (lv_at hl 1 rfl) ?_
        refine lv_iload hx hb dX7_look_156 (lv_at hl 0 rfl) ?_
        refine lv_if_eq (tgt := 166) hx hb dX7_look_158 (by decide) (fun _ => ?_) (fun h9 => absurd h9 (by decide))
        refine lv_lconst (v := 1) hx hb dX7_look_166 (by decide) ?_
        refine va_put (D := (dC, dI)) (ci := 7) (v := .long 1) (ty := .long) (C := RX7) (T := TX7) (N := 3) hx hb hts in_X7_lookTE_X7 tyX7 tyX7_ok nmX7 hown hK hP hD hS 0 rfl rfl 1 (by decide) (hts (.fieldLink RX7 21 "MeetingsAbove$Way" "lower" "J") (by decide +kernel)) (fun _ h9 => h9) rfl (by decide +kernel) rfl rfl (Nat.le_of_ble_eq_true rfl) dX7_look_167 (fun H locs hP hD hS => ?_)
        have hP : va_P (dC, dI) vwCl (([(h0, .inr (7, [.long z5, .long 1, .long wp])), (h1, .inr (6, [.ref x1, .int fi1, .int pl1, .int db1, .int go1])), (x1, .inl (cI, 36, .inl g1))] : va_W) ++ va_pl L f) H := hP
        have hD : va_D A (([(h0, .inr (7, [.long z5, .long 1, .long wp])), (h1, .inr (6, [.ref x1, .int fi1, .int pl1, .int db1, .int go1])), (x1, .inl (cI, 36, .inl g1))] : va_W) ++ va_pl L f) := hD
        refine lv_aload_n hx hb dX7_look_170 rfl (lv_at hl 1 rfl) ?_
        refine lv_iload hx hb dX7_look_171 (lv_at hl 0 rfl) ?_
        refine lv_if_eq (tgt := 182) hx hb dX7_look_173 (by decide) (fun _ => ?_) (fun h9 => absurd h9 (by decide))
        refine lv_lconst (v := 0) hx hb dX7_look_182 (by decide) ?_
        refine va_put (D := (dC, dI)) (ci := 7) (v := .long 0) (ty := .long) (C := RX7) (T := TX7) (N := 3) hx hb hts in_X7_lookTE_X7 tyX7 tyX7_ok nmX7 hown hK hP hD hS 0 rfl rfl 2 (by decide) (hts (.fieldLink RX7 24 "MeetingsAbove$Way" "partUpper" "J") (by decide +kernel)) (fun _ h9 => h9) rfl (by decide +kernel) rfl rfl (Nat.le_of_ble_eq_true rfl) dX7_look_183 (fun H locs hP hD hS => ?_)
        have hP : va_P (dC, dI) vwCl (([(h0, .inr (7, [.long z5, .long 1, .long 0])), (h1, .inr (6, [.ref x1, .int fi1, .int pl1, .int db1, .int go1])), (x1, .inl (cI, 36, .inl g1))] : va_W) ++ va_pl L f) H := hP
        have hD : va_D A (([(h0, .inr (7, [.long z5, .long 1, .long 0])), (h1, .inr (6, [.ref x1, .int fi1, .int pl1, .int db1, .int go1])), (x1, .inl (cI, 36, .inl g1))] : va_W) ++ va_pl L f) := hD
        have hP9 := hP.part (cx := [(h0, .inr (7, [.long z5, .long 1, .long 0])), (h1, .inr (6, [.ref x1, .int fi1, .int pl1, .int db1, .int go1])), (x1, .inl (cI, 36, .inl g1))]) [0, 1, 2] rfl
        have hD9 := hD.part (cx := [(h0, .inr (7, [.long z5, .long 1, .long 0])), (h1, .inr (6, [.ref x1, .int fi1, .int pl1, .int db1, .int go1])), (x1, .inl (cI, 36, .inl g1))]) [0, 1, 2] (by decide) rfl
        have hK9 := hK.sub (tys' := [(cI, .int)]) [0] rfl
        refine W.widen (k := 0) (n := 0) (by omega) (by omega) ?_
        exact W.vret hx hb hr (fun t ht hW => ⟨⟨(), rfl, trivial, z5, 1, 0, by rw [ht]; exact hP9, va_K.moved hW.alike hK9, hD9, (by first | (have hI9 : wIn (gA fi1 g1 fi2 g2 p1.toInt) (gB fi1 g1 fi2 g2 p1.toInt (p2.toInt ≠ 0)) := ⟨by omega, by omega⟩; unfold wU; rw [if_pos hI9, tzz_none, m4, m5, eS, eT, eC]) | (have hI9 : ¬ wIn (gA fi1 g1 fi2 g2 p1.toInt) (gB fi1 g1 fi2 g2 p1.toInt (p2.toInt ≠ 0)) := (fun z9 => by have z1 := z9.1; have z2 := z9.2; omega); unfold wU; rw [if_neg hI9, eS])), (by first | (have hI9 : wIn (gA fi1 g1 fi2 g2 p1.toInt) (gB fi1 g1 fi2 g2 p1.toInt (p2.toInt ≠ 0)) := ⟨by omega, by omega⟩; unfold wL; rw [if_pos hI9, eC]) | (have hI9 : ¬ wIn (gA fi1 g1 fi2 g2 p1.toInt) (gB fi1 g1 fi2 g2 p1.toInt (p2.toInt ≠ 0)) := (fun z9 => by have z1 := z9.1; have z2 := z9.2; omega); unfold wL; rw [if_neg hI9]; exact klL_1)), (by first | (have hI9 : wIn (gA fi1 g1 fi2 g2 p1.toInt) (gB fi1 g1 fi2 g2 p1.toInt (p2.toInt ≠ 0)) := ⟨by omega, by omega⟩; unfold wP; rw [if_pos hI9, ezz_none, neg_L (by omega), eT]) | (have hI9 : ¬ wIn (gA fi1 g1 fi2 g2 p1.toInt) (gB fi1 g1 fi2 g2 p1.toInt (p2.toInt ≠ 0)) := (fun z9 => by have z1 := z9.1; have z2 := z9.2; omega); unfold wP; rw [if_neg hI9]; exact klL_0))⟩, hS.F ht⟩) hS.2.2 dX7_look_186
      · have t_110 := mt (fa_le64 _ _).mpr (mt (lg_cmp_ge _ _).mpr c_110)
        refine lv_lload hx hb dX7_look_113 (lv_at hl 6 rfl) ?_
        refine lv_lload hx hb dX7_look_115 (lv_at hl 7 rfl) ?_
        refine lv_ladd hx hb dX7_look_117 ?_
        refine lv_topl (fun y_1 ey_1 => ?_)
        have ty_1 : y_1.toInt = z7.toInt + z9.toInt := by rw [ey_1]; have := fb_addL (x := z7) (y := z9) (by omega) (by omega); omega
        refine lv_lconst (v := 0) hx hb dX7_look_118 (by decide) ?_
        refine W.lcmp hx hb dX7_look_119 ?_
        refine lv_if_le (tgt := 127) hx hb dX7_look_120 (by decide) (fun c_120 => ?_) (fun c_120 => ?_)
        · have t_120 := (fa_le64 _ _).mp ((lg_cmp_le _ _).mp c_120)
          refine lv_iconst (v := 0) hx hb dX7_look_127 (by decide) ?_
          refine lv_istore (lv' := [(11, .int 0), (0, .ref h0), (1, .ref h1), (2, .ref h2), (3, .int p1), (4, .int p2), (5, .long z5), (7, .long z7), (9, .long z9)]) hx hb dX7_look_128 hl (by decide) rfl (fun ls hl => ?_)
          refine lv_aload_n hx hb dX7_look_130 rfl (lv_at hl 1 rfl) ?_
          refine lv_iload hx hb dX7_look_131 (lv_at hl 0 rfl) ?_
          refine lv_if_eq (tgt := 150) hx hb dX7_look_133 (by decide) (fun _ => ?_) (fun h9 => absurd h9 (by decide))
          refine lv_lload hx hb dX7_look_150 (lv_at hl 6 rfl) ?_
          refine va_put (D := (dC, dI)) (ci := 7) (v := .long z5) (ty := .long) (C := RX7) (T := TX7) (N := 3) hx hb hts in_X7_lookTE_X7 tyX7 tyX7_ok nmX7 hown hK hP hD hS 0 rfl rfl 0 (by decide) (hts (.fieldLink RX7 15 "MeetingsAbove$Way" "upper" "J") (by decide +kernel)) (fun _ h9 => h9) rfl (by decide +kernel) rfl rfl (Nat.le_of_ble_eq_true rfl) dX7_look_152 (fun H locs hP hD hS => ?_)
          have hP : va_P (dC, dI) vwCl (([(h0, .inr (7, [.long z5, .long wl, .long wp])), (h1, .inr (6, [.ref x1, .int fi1, .int pl1, .int db1, .int go1])), (x1, .inl (cI, 36, .inl g1))] : va_W) ++ va_pl L f) H := hP
          have hD : va_D A (([(h0, .inr (7, [.long z5, .long wl, .long wp])), (h1, .inr (6, [.ref x1, .int fi1, .int pl1, .int db1, .int go1])), (x1, .inl (cI, 36, .inl g1))] : va_W) ++ va_pl L f) := hD
          refine lv_aload_n hx hb dX7_look_155 rfl (lv_at hl 1 rfl) ?_
          refine lv_iload hx hb dX7_look_156 (lv_at hl 0 rfl) ?_
          refine lv_if_eq (tgt := 166) hx hb dX7_look_158 (by decide) (fun _ => ?_) (fun h9 => absurd h9 (by decide))
          refine lv_lconst (v := 1) hx hb dX7_look_166 (by decide) ?_
          refine va_put (D := (dC, dI)) (ci := 7) (v := .long 1) (ty := .long) (C := RX7) (T := TX7) (N := 3) hx hb hts in_X7_lookTE_X7 tyX7 tyX7_ok nmX7 hown hK hP hD hS 0 rfl rfl 1 (by decide) (hts (.fieldLink RX7 21 "MeetingsAbove$Way" "lower" "J") (by decide +kernel)) (fun _ h9 => h9) rfl (by decide +kernel) rfl rfl (Nat.le_of_ble_eq_true rfl) dX7_look_167 (fun H locs hP hD hS => ?_)
          have hP : va_P (dC, dI) vwCl (([(h0, .inr (7, [.long z5, .long 1, .long wp])), (h1, .inr (6, [.ref x1, .int fi1, .int pl1, .int db1, .int go1])), (x1, .inl (cI, 36, .inl g1))] : va_W) ++ va_pl L f) H := hP
          have hD : va_D A (([(h0, .inr (7, [.long z5, .long 1, .long wp])), (h1, .inr (6, [.ref x1, .int fi1, .int pl1, .int db1, .int go1])), (x1, .inl (cI, 36, .inl g1))] : va_W) ++ va_pl L f) := hD
          refine lv_aload_n hx hb dX7_look_170 rfl (lv_at hl 1 rfl) ?_
          refine lv_iload hx hb dX7_look_171 (lv_at hl 0 rfl) ?_
          refine lv_if_eq (tgt := 182) hx hb dX7_look_173 (by decide) (fun _ => ?_) (fun h9 => absurd h9 (by decide))
          refine lv_lconst (v := 0) hx hb dX7_look_182 (by decide) ?_
          refine va_put (D := (dC, dI)) (ci := 7) (v := .long 0) (ty := .long) (C := RX7) (T := TX7) (N := 3) hx hb hts in_X7_lookTE_X7 tyX7 tyX7_ok nmX7 hown hK hP hD hS 0 rfl rfl 2 (by decide) (hts (.fieldLink RX7 24 "MeetingsAbove$Way" "partUpper" "J") (by decide +kernel)) (fun _ h9 => h9) rfl (by decide +kernel) rfl rfl (Nat.le_of_ble_eq_true rfl) dX7_look_183 (fun H locs hP hD hS => ?_)
          have hP : va_P (dC, dI) vwCl (([(h0, .inr (7, [.long z5, .long 1, .long 0])), (h1, .inr (6, [.ref x1, .int fi1, .int pl1, .int db1, .int go1])), (x1, .inl (cI, 36, .inl g1))] : va_W) ++ va_pl L f) H := hP
          have hD : va_D A (([(h0, .inr (7, [.long z5, .long 1, .long 0])), (h1, .inr (6, [.ref x1, .int fi1, .int pl1, .int db1, .int go1])), (x1, .inl (cI, 36, .inl g1))] : va_W) ++ va_pl L f) := hD
          have hP9 := hP.part (cx := [(h0, .inr (7, [.long z5, .long 1, .long 0])), (h1, .inr (6, [.ref x1, .int fi1, .int pl1, .int db1, .int go1])), (x1, .inl (cI, 36, .inl g1))]) [0, 1, 2] rfl
          have hD9 := hD.part (cx := [(h0, .inr (7, [.long z5, .long 1, .long 0])), (h1, .inr (6, [.ref x1, .int fi1, .int pl1, .int db1, .int go1])), (x1, .inl (cI, 36, .inl g1))]) [0, 1, 2] (by decide) rfl
          have hK9 := hK.sub (tys' := [(cI, .int)]) [0] rfl
          refine W.widen (k := 0) (n := 0) (by omega) (by omega) ?_
          exact W.vret hx hb hr (fun t ht hW => ⟨⟨(), rfl, trivial, z5, 1, 0, by rw [ht]; exact hP9, va_K.moved hW.alike hK9, hD9, (by first | (have hI9 : wIn (gA fi1 g1 fi2 g2 p1.toInt) (gB fi1 g1 fi2 g2 p1.toInt (p2.toInt ≠ 0)) := ⟨by omega, by omega⟩; unfold wU; rw [if_pos hI9, tzz_none, m4, m5, eS, eT, eC]) | (have hI9 : ¬ wIn (gA fi1 g1 fi2 g2 p1.toInt) (gB fi1 g1 fi2 g2 p1.toInt (p2.toInt ≠ 0)) := (fun z9 => by have z1 := z9.1; have z2 := z9.2; omega); unfold wU; rw [if_neg hI9, eS])), (by first | (have hI9 : wIn (gA fi1 g1 fi2 g2 p1.toInt) (gB fi1 g1 fi2 g2 p1.toInt (p2.toInt ≠ 0)) := ⟨by omega, by omega⟩; unfold wL; rw [if_pos hI9, eC]) | (have hI9 : ¬ wIn (gA fi1 g1 fi2 g2 p1.toInt) (gB fi1 g1 fi2 g2 p1.toInt (p2.toInt ≠ 0)) := (fun z9 => by have z1 := z9.1; have z2 := z9.2; omega); unfold wL; rw [if_neg hI9]; exact klL_1)), (by first | (have hI9 : wIn (gA fi1 g1 fi2 g2 p1.toInt) (gB fi1 g1 fi2 g2 p1.toInt (p2.toInt ≠ 0)) := ⟨by omega, by omega⟩; unfold wP; rw [if_pos hI9, ezz_none, neg_L (by omega), eT]) | (have hI9 : ¬ wIn (gA fi1 g1 fi2 g2 p1.toInt) (gB fi1 g1 fi2 g2 p1.toInt (p2.toInt ≠ 0)) := (fun z9 => by have z1 := z9.1; have z2 := z9.2; omega); unfold wP; rw [if_neg hI9]; exact klL_0))⟩, hS.F ht⟩) hS.2.2 dX7_look_186
        · have t_120 := mt (fa_le64 _ _).mpr (mt (lg_cmp_le _ _).mpr c_120)
          refine lv_iconst (v := 1) hx hb dX7_look_123 (by decide) ?_
          refine lv_goto (tgt := 128) hx hb dX7_look_124 (by decide) ?_
          refine lv_istore (lv' := [(11, .int 1), (0, .ref h0), (1, .ref h1), (2, .ref h2), (3, .int p1), (4, .int p2), (5, .long z5), (7, .long z7), (9, .long z9)]) hx hb dX7_look_128 hl (by decide) rfl (fun ls hl => ?_)
          refine lv_aload_n hx hb dX7_look_130 rfl (lv_at hl 1 rfl) ?_
          refine lv_iload hx hb dX7_look_131 (lv_at hl 0 rfl) ?_
          refine lv_if_eq (tgt := 150) hx hb dX7_look_133 (by decide) (fun h9 => absurd h9 (by decide)) (fun _ => ?_)
          refine lv_lload hx hb dX7_look_136 (lv_at hl 6 rfl) ?_
          refine lv_lload hx hb dX7_look_138 (lv_at hl 8 rfl) ?_
          refine lv_lmul hx hb dX7_look_140 ?_
          refine lv_topl (fun y_2 ey_2 => ?_)
          refine lv_lload hx hb dX7_look_141 (lv_at hl 7 rfl) ?_
          refine lv_lload hx hb dX7_look_143 (lv_at hl 7 rfl) ?_
          refine lv_lmul hx hb dX7_look_145 ?_
          refine lv_topl (fun y_3 ey_3 => ?_)
          have m4 := lm_ab 300000000 1200000000 ey_2 (by omega) (by omega) (by omega) (by omega) (by decide)
          have m5 := lm_ab 600000000 600000000 ey_3 (by omega) (by omega) (by omega) (by omega) (by decide)
          have m4b := mul_bd (x := z5.toInt) (y := z9.toInt) (a := 300000000) (b := 1200000000) (by omega) (by omega) (by omega) (by omega)
          have m5b := mul_bd (x := z7.toInt) (y := z7.toInt) (a := 600000000) (b := 600000000) (by omega) (by omega) (by omega) (by omega)
          refine lv_lsub hx hb dX7_look_146 ?_
          refine lv_topl (fun y_4 ey_4 => ?_)
          have ty_4 : y_4.toInt = y_2.toInt - y_3.toInt := by rw [ey_4]; have := fb_subL (x := y_2) (y := y_3) (by omega) (by omega); omega
          refine lv_goto (tgt := 152) hx hb dX7_look_147 (by decide) ?_
          refine va_put (D := (dC, dI)) (ci := 7) (v := .long y_4) (ty := .long) (C := RX7) (T := TX7) (N := 3) hx hb hts in_X7_lookTE_X7 tyX7 tyX7_ok nmX7 hown hK hP hD hS 0 rfl rfl 0 (by decide) (hts (.fieldLink RX7 15 "MeetingsAbove$Way" "upper" "J") (by decide +kernel)) (fun _ h9 => h9) rfl (by decide +kernel) rfl rfl (Nat.le_of_ble_eq_true rfl) dX7_look_152 (fun H locs hP hD hS => ?_)
          have hP : va_P (dC, dI) vwCl (([(h0, .inr (7, [.long y_4, .long wl, .long wp])), (h1, .inr (6, [.ref x1, .int fi1, .int pl1, .int db1, .int go1])), (x1, .inl (cI, 36, .inl g1))] : va_W) ++ va_pl L f) H := hP
          have hD : va_D A (([(h0, .inr (7, [.long y_4, .long wl, .long wp])), (h1, .inr (6, [.ref x1, .int fi1, .int pl1, .int db1, .int go1])), (x1, .inl (cI, 36, .inl g1))] : va_W) ++ va_pl L f) := hD
          refine lv_aload_n hx hb dX7_look_155 rfl (lv_at hl 1 rfl) ?_
          refine lv_iload hx hb dX7_look_156 (lv_at hl 0 rfl) ?_
          refine lv_if_eq (tgt := 166) hx hb dX7_look_158 (by decide) (fun h9 => absurd h9 (by decide)) (fun _ => ?_)
          refine lv_lload hx hb dX7_look_161 (lv_at hl 8 rfl) ?_
          refine lv_goto (tgt := 167) hx hb dX7_look_163 (by decide) ?_
          refine va_put (D := (dC, dI)) (ci := 7) (v := .long z9) (ty := .long) (C := RX7) (T := TX7) (N := 3) hx hb hts in_X7_lookTE_X7 tyX7 tyX7_ok nmX7 hown hK hP hD hS 0 rfl rfl 1 (by decide) (hts (.fieldLink RX7 21 "MeetingsAbove$Way" "lower" "J") (by decide +kernel)) (fun _ h9 => h9) rfl (by decide +kernel) rfl rfl (Nat.le_of_ble_eq_true rfl) dX7_look_167 (fun H locs hP hD hS => ?_)
          have hP : va_P (dC, dI) vwCl (([(h0, .inr (7, [.long y_4, .long z9, .long wp])), (h1, .inr (6, [.ref x1, .int fi1, .int pl1, .int db1, .int go1])), (x1, .inl (cI, 36, .inl g1))] : va_W) ++ va_pl L f) H := hP
          have hD : va_D A (([(h0, .inr (7, [.long y_4, .long z9, .long wp])), (h1, .inr (6, [.ref x1, .int fi1, .int pl1, .int db1, .int go1])), (x1, .inl (cI, 36, .inl g1))] : va_W) ++ va_pl L f) := hD
          refine lv_aload_n hx hb dX7_look_170 rfl (lv_at hl 1 rfl) ?_
          refine lv_iload hx hb dX7_look_171 (lv_at hl 0 rfl) ?_
          refine lv_if_eq (tgt := 182) hx hb dX7_look_173 (by decide) (fun h9 => absurd h9 (by decide)) (fun _ => ?_)
          refine lv_lload hx hb dX7_look_176 (lv_at hl 7 rfl) ?_
          refine lv_lneg hx hb dX7_look_178 ?_
          refine lv_topl (fun y_5 ey_5 => ?_)
          refine lv_goto (tgt := 183) hx hb dX7_look_179 (by decide) ?_
          refine va_put (D := (dC, dI)) (ci := 7) (v := .long y_5) (ty := .long) (C := RX7) (T := TX7) (N := 3) hx hb hts in_X7_lookTE_X7 tyX7 tyX7_ok nmX7 hown hK hP hD hS 0 rfl rfl 2 (by decide) (hts (.fieldLink RX7 24 "MeetingsAbove$Way" "partUpper" "J") (by decide +kernel)) (fun _ h9 => h9) rfl (by decide +kernel) rfl rfl (Nat.le_of_ble_eq_true rfl) dX7_look_183 (fun H locs hP hD hS => ?_)
          have hP : va_P (dC, dI) vwCl (([(h0, .inr (7, [.long y_4, .long z9, .long y_5])), (h1, .inr (6, [.ref x1, .int fi1, .int pl1, .int db1, .int go1])), (x1, .inl (cI, 36, .inl g1))] : va_W) ++ va_pl L f) H := hP
          have hD : va_D A (([(h0, .inr (7, [.long y_4, .long z9, .long y_5])), (h1, .inr (6, [.ref x1, .int fi1, .int pl1, .int db1, .int go1])), (x1, .inl (cI, 36, .inl g1))] : va_W) ++ va_pl L f) := hD
          have hP9 := hP.part (cx := [(h0, .inr (7, [.long y_4, .long z9, .long y_5])), (h1, .inr (6, [.ref x1, .int fi1, .int pl1, .int db1, .int go1])), (x1, .inl (cI, 36, .inl g1))]) [0, 1, 2] rfl
          have hD9 := hD.part (cx := [(h0, .inr (7, [.long y_4, .long z9, .long y_5])), (h1, .inr (6, [.ref x1, .int fi1, .int pl1, .int db1, .int go1])), (x1, .inl (cI, 36, .inl g1))]) [0, 1, 2] (by decide) rfl
          have hK9 := hK.sub (tys' := [(cI, .int)]) [0] rfl
          refine W.widen (k := 0) (n := 0) (by omega) (by omega) ?_
          exact W.vret hx hb hr (fun t ht hW => ⟨⟨(), rfl, trivial, y_4, z9, y_5, by rw [ht]; exact hP9, va_K.moved hW.alike hK9, hD9, (by first | (have hI9 : wIn (gA fi1 g1 fi2 g2 p1.toInt) (gB fi1 g1 fi2 g2 p1.toInt (p2.toInt ≠ 0)) := ⟨by omega, by omega⟩; unfold wU; rw [if_pos hI9, ty_4, m4, m5, eS, eT, eC]) | (have hI9 : ¬ wIn (gA fi1 g1 fi2 g2 p1.toInt) (gB fi1 g1 fi2 g2 p1.toInt (p2.toInt ≠ 0)) := (fun z9 => by have z1 := z9.1; have z2 := z9.2; omega); unfold wU; rw [if_neg hI9, eS])), (by first | (have hI9 : wIn (gA fi1 g1 fi2 g2 p1.toInt) (gB fi1 g1 fi2 g2 p1.toInt (p2.toInt ≠ 0)) := ⟨by omega, by omega⟩; unfold wL; rw [if_pos hI9, eC]) | (have hI9 : ¬ wIn (gA fi1 g1 fi2 g2 p1.toInt) (gB fi1 g1 fi2 g2 p1.toInt (p2.toInt ≠ 0)) := (fun z9 => by have z1 := z9.1; have z2 := z9.2; omega); unfold wL; rw [if_neg hI9]; exact klL_1)), (by first | (have hI9 : wIn (gA fi1 g1 fi2 g2 p1.toInt) (gB fi1 g1 fi2 g2 p1.toInt (p2.toInt ≠ 0)) := ⟨by omega, by omega⟩; unfold wP; rw [if_pos hI9, ey_5, neg_L (by omega), eT]) | (have hI9 : ¬ wIn (gA fi1 g1 fi2 g2 p1.toInt) (gB fi1 g1 fi2 g2 p1.toInt (p2.toInt ≠ 0)) := (fun z9 => by have z1 := z9.1; have z2 := z9.2; omega); unfold wP; rw [if_neg hI9]; exact klL_0))⟩, hS.F ht⟩) hS.2.2 dX7_look_186
    · have t_15 := mt (fa_le _ _).mpr c_15
      have hax : ((ax.toInt.toNat : Nat) : Int) = ax.toInt := (by omega)
      obtain ⟨⟨ga1, ga2⟩, gb1, gb2⟩ := hOK ax.toInt (by omega) (by omega)
      have c1 := xg_bd (fi := fi1) hco1 hl1 hl2 (ax := ax.toInt) (by omega) (by omega)
      have c2 := xg_bd (fi := fi2) hco2 hl3 hl4 (ax := ax.toInt) (by omega) (by omega)
      refine lv_aload_n hx hb dX7_look_18 rfl (lv_at hl 1 rfl) ?_
      refine lv_iload_n hx hb dX7_look_19 rfl (lv_at hl 3 rfl) ?_
      refine lv_iload hx hb dX7_look_20 (lv_at hl 8 rfl) ?_
      have hPc := hP.sub (ws' := [(h1, .inr (6, [.ref x1, .int fi1, .int pl1, .int db1, .int go1])), (x1, .inl (cI, 36, .inl g1))]) [1, 2] rfl
      have hKc := hK.sub (tys' := [(cI, .int)]) [0] rfl
      refine vp_callSi (W.runV (As := [.int p1, .int ax]) (rest := []) ⟨hx, hb, hml, hown, hts⟩ (c_X6_coord l dC dI h1 x1 fi1 pl1 db1 go1 g1 cI p1 ax (by first | omega | assumption) (by first | omega | assumption) (by first | omega | assumption) (by first | omega | assumption) (by first | omega | assumption) (by first | omega | assumption)) (cwV 2 hts g_X7_lookTE__X6_coord_9 rfl rfl rfl (by decide +kernel) ⟨Nat.le_of_ble_eq_true rfl, Nat.le_of_ble_eq_true rfl⟩) ⟨fun a U g mk q => by obtain ⟨q0, qP, qK⟩ := q; exact ⟨q0, qP, va_K.moved (u := U) (U := U.calling g mk a) (Vm.Alike.refl U.vm) qK⟩, va_recv hKc hPc (ci := 6) (q0 := 0) rfl rfl, fun U hU hW => ⟨rfl, by rw [hU]; exact hPc, va_K.moved hW.alike hKc⟩⟩ rfl rfl hl.1 rfl (lv_room (Nat.le_of_ble_eq_true rfl)) dX7_look_22 ⟨Nat.le_of_ble_eq_true rfl, Nat.le_of_ble_eq_true rfl⟩) (fun r_6 hr_6 => ?_)
      try dsimp only at hr_6
      have hxc1 : r_6.toInt = xg fi1 g1 p1.toInt ax.toInt := by rw [hr_6]; rfl
      refine lv_aload_n hx hb dX7_look_25 rfl (lv_at hl 2 rfl) ?_
      refine lv_iload_n hx hb dX7_look_26 rfl (lv_at hl 3 rfl) ?_
      refine lv_iload hx hb dX7_look_27 (lv_at hl 8 rfl) ?_
      have hPc : va_P (dC, dI) vwCl [(h2, .inr (6, [.ref x2, .int fi2, .int pl2, .int db2, .int go2])), (x2, .inl (cI, 36, .inl g2))] H := P_cons (pl_at (X := [(h0, .inr (7, [.long wu, .long wl, .long wp])), (h1, .inr (6, [.ref x1, .int fi1, .int pl1, .int db1, .int go1])), (x1, .inl (cI, 36, .inl g1))]) hP hL2 hf2) (P_cons (pl_at (X := [(h0, .inr (7, [.long wu, .long wl, .long wp])), (h1, .inr (6, [.ref x1, .int fi1, .int pl1, .int db1, .int go1])), (x1, .inl (cI, 36, .inl g1))]) hP hX2 hg2) (P_nil))
      have hKc := hK.sub (tys' := [(cI, .int)]) [0] rfl
      refine vp_callSi (W.runV (As := [.int p1, .int ax]) (rest := [.int r_6]) ⟨hx, hb, hml, hown, hts⟩ (c_X6_coord l dC dI h2 x2 fi2 pl2 db2 go2 g2 cI p1 ax (by first | omega | assumption) (by first | omega | assumption) (by first | omega | assumption) (by first | omega | assumption) (by first | omega | assumption) (by first | omega | assumption)) (cwV 2 hts g_X7_lookTE__X6_coord_9 rfl rfl rfl (by decide +kernel) ⟨Nat.le_of_ble_eq_true rfl, Nat.le_of_ble_eq_true rfl⟩) ⟨fun a U g mk q => by obtain ⟨q0, qP, qK⟩ := q; exact ⟨q0, qP, va_K.moved (u := U) (U := U.calling g mk a) (Vm.Alike.refl U.vm) qK⟩, va_recv hKc hPc (ci := 6) (q0 := 0) rfl rfl, fun U hU hW => ⟨rfl, by rw [hU]; exact hPc, va_K.moved hW.alike hKc⟩⟩ rfl rfl hl.1 rfl (lv_room (Nat.le_of_ble_eq_true rfl)) dX7_look_29 ⟨Nat.le_of_ble_eq_true rfl, Nat.le_of_ble_eq_true rfl⟩) (fun r_7 hr_7 => ?_)
      try dsimp only at hr_7
      have hxc2 : r_7.toInt = xg fi2 g2 p1.toInt ax.toInt := by rw [hr_7]; rfl
      refine lv_isub hx hb dX7_look_32 ?_
      refine lv_topi (fun y_8 ey_8 => ?_)
      have ty_8 : y_8.toInt = r_6.toInt - r_7.toInt := by rw [ey_8]; have := fb_subI (x := r_6) (y := r_7) (by omega) (by omega); omega
      refine lv_i2l hx hb dX7_look_33 rfl ?_
      have ti_33 : (y_8.toInt64).toInt = y_8.toInt := Int32.toInt_toInt64 _
      refine lv_lstore (lv' := [(12, .long y_8.toInt64), (0, .ref h0), (1, .ref h1), (2, .ref h2), (3, .int p1), (4, .int p2), (5, .long z5), (7, .long z7), (9, .long z9), (11, .int ax)]) hx hb dX7_look_34 hl (by decide) rfl (fun ls hl => ?_)
      have hgp : (y_8.toInt64).toInt = gA fi1 g1 fi2 g2 p1.toInt ax.toInt := by rw [ti_33, ty_8]; show _ = xg _ _ _ _ - xg _ _ _ _; omega
      refine lv_iload hx hb dX7_look_36 (lv_at hl 5 rfl) ?_
      refine lv_if_eq (tgt := 67) hx hb dX7_look_38 (by decide) (fun c_38 => ?_) (fun c_38 => ?_)
      · have t_38 := (fa_eq _ _).mp c_38
        refine lv_lconst (v := 0) hx hb dX7_look_67 (by decide) ?_
        have hsh : (0 : Int64).toInt = (gB fi1 g1 fi2 g2 p1.toInt (p2.toInt ≠ 0)) ax.toInt := by rw [klL_0]; show _ = (if p2.toInt ≠ 0 then _ else (0 : Int)); rw [if_neg (by omega)]
        refine lv_lstore (lv' := [(14, .long 0), (12, .long y_8.toInt64), (0, .ref h0), (1, .ref h1), (2, .ref h2), (3, .int p1), (4, .int p2), (5, .long z5), (7, .long z7), (9, .long z9), (11, .int ax)]) hx hb dX7_look_68 hl (by decide) rfl (fun ls hl => ?_)
        refine lv_lload hx hb dX7_look_70 (lv_at hl 7 rfl) ?_
        refine lv_lload hx hb dX7_look_72 (lv_at hl 1 rfl) ?_
        refine lv_lload hx hb dX7_look_74 (lv_at hl 1 rfl) ?_
        refine lv_lmul hx hb dX7_look_76 ?_
        refine lv_topl (fun y_9 ey_9 => ?_)
        have m1 := lm_ab 10000 10000 ey_9 (by omega) (by omega) (by omega) (by omega) (by decide)
        have m1b := mul_bd (x := (y_8.toInt64).toInt) (y := (y_8.toInt64).toInt) (a := 10000) (b := 10000) (by omega) (by omega) (by omega) (by omega)
        obtain ⟨n1, n2⟩ := acc_bd (F := fun j => gA fi1 g1 fi2 g2 p1.toInt j * gA fi1 g1 fi2 g2 p1.toInt j) (B := 100000000) (fun j j0 j3 => by have z := (hOK j j0 j3).1; have z9 := mul_bd z.1 z.2 z.1 z.2; exact ⟨by omega, by omega⟩) ax.toInt.toNat (by omega)
        refine lv_ladd hx hb dX7_look_77 ?_
        refine lv_topl (fun y_10 ey_10 => ?_)
        have ty_10 : y_10.toInt = z5.toInt + y_9.toInt := by rw [ey_10]; have := fb_addL (x := z5) (y := y_9) (by omega) (by omega); omega
        refine lv_lstore (lv' := [(5, .long y_10), (14, .long 0), (12, .long y_8.toInt64), (0, .ref h0), (1, .ref h1), (2, .ref h2), (3, .int p1), (4, .int p2), (7, .long z7), (9, .long z9), (11, .int ax)]) hx hb dX7_look_78 hl (by decide) rfl (fun ls hl => ?_)
        refine lv_lload hx hb dX7_look_80 (lv_at hl 8 rfl) ?_
        refine lv_lload hx hb dX7_look_82 (lv_at hl 2 rfl) ?_
        refine lv_lload hx hb dX7_look_84 (lv_at hl 1 rfl) ?_
        refine lv_lmul hx hb dX7_look_86 ?_
        refine lv_topl (fun y_11 ey_11 => ?_)
        have m2 := lm_ab 10000 20000 ey_11 (by omega) (by omega) (by omega) (by omega) (by decide)
        have m2b := mul_bd (x := (y_8.toInt64).toInt) (y := (0 : Int64).toInt) (a := 10000) (b := 20000) (by omega) (by omega) (by omega) (by omega)
        obtain ⟨n3, n4⟩ := acc_bd (F := fun j => gA fi1 g1 fi2 g2 p1.toInt j * (gB fi1 g1 fi2 g2 p1.toInt (p2.toInt ≠ 0)) j) (B := 200000000) (fun j j0 j3 => by have z := hOK j j0 j3; have z9 := mul_bd z.1.1 z.1.2 z.2.1 z.2.2; exact ⟨by omega, by omega⟩) ax.toInt.toNat (by omega)
        refine lv_ladd hx hb dX7_look_87 ?_
        refine lv_topl (fun y_12 ey_12 => ?_)
        have ty_12 : y_12.toInt = z7.toInt + y_11.toInt := by rw [ey_12]; have := fb_addL (x := z7) (y := y_11) (by omega) (by omega); omega
        refine lv_lstore (lv' := [(7, .long y_12), (5, .long y_10), (14, .long 0), (12, .long y_8.toInt64), (0, .ref h0), (1, .ref h1), (2, .ref h2), (3, .int p1), (4, .int p2), (9, .long z9), (11, .int ax)]) hx hb dX7_look_88 hl (by decide) rfl (fun ls hl => ?_)
        refine lv_lload hx hb dX7_look_90 (lv_at hl 9 rfl) ?_
        refine lv_lload hx hb dX7_look_92 (lv_at hl 2 rfl) ?_
        refine lv_lload hx hb dX7_look_94 (lv_at hl 2 rfl) ?_
        refine lv_lmul hx hb dX7_look_96 ?_
        refine lv_topl (fun y_13 ey_13 => ?_)
        obtain rfl : y_13 = 0 := ey_13.trans (by decide)
        obtain ⟨n5, n6⟩ := acc_bd (F := fun j => (gB fi1 g1 fi2 g2 p1.toInt (p2.toInt ≠ 0)) j * (gB fi1 g1 fi2 g2 p1.toInt (p2.toInt ≠ 0)) j) (B := 400000000) (fun j j0 j3 => by have z := (hOK j j0 j3).2; have z9 := mul_bd z.1 z.2 z.1 z.2; exact ⟨by omega, by omega⟩) ax.toInt.toNat (by omega)
        refine lv_ladd hx hb dX7_look_97 ?_
        refine lv_topl (fun y_14 ey_14 => ?_)
        have ty_14 : y_14.toInt = z9.toInt + 0 := by rw [ey_14]; have := fb_addL (x := z9) (y := 0) (by omega) (by omega); omega
        refine lv_lstore (lv' := [(9, .long y_14), (7, .long y_12), (5, .long y_10), (14, .long 0), (12, .long y_8.toInt64), (0, .ref h0), (1, .ref h1), (2, .ref h2), (3, .int p1), (4, .int p2), (11, .int ax)]) hx hb dX7_look_98 hl (by decide) rfl (fun ls hl => ?_)
        obtain ⟨y_15, ey_15⟩ : ∃ y : Int32, y = ax + 1 := ⟨_, rfl⟩
        have ty_15 : y_15.toInt = ax.toInt + 1 := by rw [ey_15]; have := fb_addI (x := ax) (y := 1) (by omega) (by omega); omega
        refine lv_iinc (v := y_15) (lv' := [(11, .int y_15), (9, .long y_14), (7, .long y_12), (5, .long y_10), (14, .long 0), (12, .long y_8.toInt64), (0, .ref h0), (1, .ref h1), (2, .ref h2), (3, .int p1), (4, .int p2)]) hx hb dX7_look_100 hl (k := 10) rfl (by rw [ey_15]; rfl) (by decide) rfl (fun ls hl => ?_)
        refine lv_goto (tgt := 12) hx hb dX7_look_103 (by decide) ?_
        exact ih_12 y_10 y_12 y_14 y_15 (by omega) (by omega) (by rw [show (y_15).toInt.toNat = ax.toInt.toNat + 1 by omega, acc_1, ← hz5, hax, ty_10, m1, hgp]) (by rw [show (y_15).toInt.toNat = ax.toInt.toNat + 1 by omega, acc_1, ← hz7, hax, ty_12, m2, hgp, hsh]) (by rw [show (y_15).toInt.toNat = ax.toInt.toNat + 1 by omega, acc_1, ← hz9, hax, ty_14]; first | rw [m3, hsh] | (rw [← hsh, klL_0]; omega)) (by omega) H _ (hP.part [0, 1, 2] rfl) (hD.part [0, 1, 2] (by decide) rfl) hS ls (lv_sub hl [6, 7, 8, 9, 10, 3, 2, 1, 0] rfl)
      · have t_38 := mt (fa_eq _ _).mpr c_38
        have hgo := hl5 (by omega)
        have c3 := xg_bd (fi := fi1) (s := p1.toInt + 1) hco1 (by omega) hgo.1 (ax := ax.toInt) (by omega) (by omega)
        have c4 := xg_bd (fi := fi2) (s := p1.toInt + 1) hco2 (by omega) hgo.2 (ax := ax.toInt) (by omega) (by omega)
        refine lv_aload_n hx hb dX7_look_41 rfl (lv_at hl 2 rfl) ?_
        refine lv_iload_n hx hb dX7_look_42 rfl (lv_at hl 4 rfl) ?_
        refine lv_iconst (v := 1) hx hb dX7_look_43 (by decide) ?_
        refine lv_iadd hx hb dX7_look_44 ?_
        refine lv_topi (fun y_16 ey_16 => ?_)
        have ty_16 : y_16.toInt = p1.toInt + 1 := by rw [ey_16]; have := fb_addI (x := p1) (y := 1) (by omega) (by omega); omega
        refine lv_iload hx hb dX7_look_45 (lv_at hl 9 rfl) ?_
        have hPc := hP.sub (ws' := [(h1, .inr (6, [.ref x1, .int fi1, .int pl1, .int db1, .int go1])), (x1, .inl (cI, 36, .inl g1))]) [1, 2] rfl
        have hKc := hK.sub (tys' := [(cI, .int)]) [0] rfl
        refine vp_callSi (W.runV (As := [.int y_16, .int ax]) (rest := []) ⟨hx, hb, hml, hown, hts⟩ (c_X6_coord l dC dI h1 x1 fi1 pl1 db1 go1 g1 cI y_16 ax (by first | omega | assumption) (by first | omega | assumption) (by first | omega | assumption) (by first | omega | assumption) (by first | omega | assumption) (by first | omega | assumption)) (cwV 2 hts g_X7_lookTE__X6_coord_9 rfl rfl rfl (by decide +kernel) ⟨Nat.le_of_ble_eq_true rfl, Nat.le_of_ble_eq_true rfl⟩) ⟨fun a U g mk q => by obtain ⟨q0, qP, qK⟩ := q; exact ⟨q0, qP, va_K.moved (u := U) (U := U.calling g mk a) (Vm.Alike.refl U.vm) qK⟩, va_recv hKc hPc (ci := 6) (q0 := 0) rfl rfl, fun U hU hW => ⟨rfl, by rw [hU]; exact hPc, va_K.moved hW.alike hKc⟩⟩ rfl rfl hl.1 rfl (lv_room (Nat.le_of_ble_eq_true rfl)) dX7_look_47 ⟨Nat.le_of_ble_eq_true rfl, Nat.le_of_ble_eq_true rfl⟩) (fun r_17 hr_17 => ?_)
        try dsimp only at hr_17
        have hxc3 : r_17.toInt = xg fi1 g1 (p1.toInt + 1) ax.toInt := by rw [hr_17]; show (g1 (ixi fi1.toInt (y_16).toInt ax.toInt)).toInt = _; rw [ty_16]; rfl
        refine lv_aload_n hx hb dX7_look_50 rfl (lv_at hl 3 rfl) ?_
        refine lv_iload_n hx hb dX7_look_51 rfl (lv_at hl 4 rfl) ?_
        refine lv_iconst (v := 1) hx hb dX7_look_52 (by decide) ?_
        refine lv_iadd hx hb dX7_look_53 ?_
        refine lv_topi (fun y_18 ey_18 => ?_)
        have ty_18 : y_18.toInt = p1.toInt + 1 := by rw [ey_18]; have := fb_addI (x := p1) (y := 1) (by omega) (by omega); omega
        refine lv_iload hx hb dX7_look_54 (lv_at hl 9 rfl) ?_
        have hPc : va_P (dC, dI) vwCl [(h2, .inr (6, [.ref x2, .int fi2, .int pl2, .int db2, .int go2])), (x2, .inl (cI, 36, .inl g2))] H := P_cons (pl_at (X := [(h0, .inr (7, [.long wu, .long wl, .long wp])), (h1, .inr (6, [.ref x1, .int fi1, .int pl1, .int db1, .int go1])), (x1, .inl (cI, 36, .inl g1))]) hP hL2 hf2) (P_cons (pl_at (X := [(h0, .inr (7, [.long wu, .long wl, .long wp])), (h1, .inr (6, [.ref x1, .int fi1, .int pl1, .int db1, .int go1])), (x1, .inl (cI, 36, .inl g1))]) hP hX2 hg2) (P_nil))
        have hKc := hK.sub (tys' := [(cI, .int)]) [0] rfl
        refine vp_callSi (W.runV (As := [.int y_18, .int ax]) (rest := [.int r_17]) ⟨hx, hb, hml, hown, hts⟩ (c_X6_coord l dC dI h2 x2 fi2 pl2 db2 go2 g2 cI y_18 ax (by first | omega | assumption) (by first | omega | assumption) (by first | omega | assumption) (by first | omega | assumption) (by first | omega | assumption) (by first | omega | assumption)) (cwV 2 hts g_X7_lookTE__X6_coord_9 rfl rfl rfl (by decide +kernel) ⟨Nat.le_of_ble_eq_true rfl, Nat.le_of_ble_eq_true rfl⟩) ⟨fun a U g mk q => by obtain ⟨q0, qP, qK⟩ := q; exact ⟨q0, qP, va_K.moved (u := U) (U := U.calling g mk a) (Vm.Alike.refl U.vm) qK⟩, va_recv hKc hPc (ci := 6) (q0 := 0) rfl rfl, fun U hU hW => ⟨rfl, by rw [hU]; exact hPc, va_K.moved hW.alike hKc⟩⟩ rfl rfl hl.1 rfl (lv_room (Nat.le_of_ble_eq_true rfl)) dX7_look_56 ⟨Nat.le_of_ble_eq_true rfl, Nat.le_of_ble_eq_true rfl⟩) (fun r_19 hr_19 => ?_)
        try dsimp only at hr_19
        have hxc4 : r_19.toInt = xg fi2 g2 (p1.toInt + 1) ax.toInt := by rw [hr_19]; show (g2 (ixi fi2.toInt (y_18).toInt ax.toInt)).toInt = _; rw [ty_18]; rfl
        refine lv_isub hx hb dX7_look_59 ?_
        refine lv_topi (fun y_20 ey_20 => ?_)
        have ty_20 : y_20.toInt = r_17.toInt - r_19.toInt := by rw [ey_20]; have := fb_subI (x := r_17) (y := r_19) (by omega) (by omega); omega
        refine lv_i2l hx hb dX7_look_60 rfl ?_
        have ti_60 : (y_20.toInt64).toInt = y_20.toInt := Int32.toInt_toInt64 _
        refine lv_lload hx hb dX7_look_61 (lv_at hl 0 rfl) ?_
        refine lv_lsub hx hb dX7_look_63 ?_
        refine lv_topl (fun y_21 ey_21 => ?_)
        have ty_21 : y_21.toInt = y_20.toInt64.toInt - y_8.toInt64.toInt := by rw [ey_21]; have := fb_subL (x := y_20.toInt64) (y := y_8.toInt64) (by omega) (by omega); omega
        have hsh : y_21.toInt = (gB fi1 g1 fi2 g2 p1.toInt (p2.toInt ≠ 0)) ax.toInt := by rw [ty_21, ti_60]; show _ = (if p2.toInt ≠ 0 then gA _ _ _ _ _ _ - gA _ _ _ _ _ _ else 0); rw [if_pos (by omega)]; show _ = (xg _ _ _ _ - xg _ _ _ _) - _; rw [← hgp]; omega
        refine lv_goto (tgt := 68) hx hb dX7_look_64 (by decide) ?_
        refine lv_lstore (lv' := [(14, .long y_21), (12, .long y_8.toInt64), (0, .ref h0), (1, .ref h1), (2, .ref h2), (3, .int p1), (4, .int p2), (5, .long z5), (7, .long z7), (9, .long z9), (11, .int ax)]) hx hb dX7_look_68 hl (by decide) rfl (fun ls hl => ?_)
        refine lv_lload hx hb dX7_look_70 (lv_at hl 7 rfl) ?_
        refine lv_lload hx hb dX7_look_72 (lv_at hl 1 rfl) ?_
        refine lv_lload hx hb dX7_look_74 (lv_at hl 1 rfl) ?_
        refine lv_lmul hx hb dX7_look_76 ?_
        refine lv_topl (fun y_22 ey_22 => ?_)
        have m1 := lm_ab 10000 10000 ey_22 (by omega) (by omega) (by omega) (by omega) (by decide)
        have m1b := mul_bd (x := (y_8.toInt64).toInt) (y := (y_8.toInt64).toInt) (a := 10000) (b := 10000) (by omega) (by omega) (by omega) (by omega)
        obtain ⟨n1, n2⟩ := acc_bd (F := fun j => gA fi1 g1 fi2 g2 p1.toInt j * gA fi1 g1 fi2 g2 p1.toInt j) (B := 100000000) (fun j j0 j3 => by have z := (hOK j j0 j3).1; have z9 := mul_bd z.1 z.2 z.1 z.2; exact ⟨by omega, by omega⟩) ax.toInt.toNat (by omega)
        refine lv_ladd hx hb dX7_look_77 ?_
        refine lv_topl (fun y_23 ey_23 => ?_)
        have ty_23 : y_23.toInt = z5.toInt + y_22.toInt := by rw [ey_23]; have := fb_addL (x := z5) (y := y_22) (by omega) (by omega); omega
        refine lv_lstore (lv' := [(5, .long y_23), (14, .long y_21), (12, .long y_8.toInt64), (0, .ref h0), (1, .ref h1), (2, .ref h2), (3, .int p1), (4, .int p2), (7, .long z7), (9, .long z9), (11, .int ax)]) hx hb dX7_look_78 hl (by decide) rfl (fun ls hl => ?_)
        refine lv_lload hx hb dX7_look_80 (lv_at hl 8 rfl) ?_
        refine lv_lload hx hb dX7_look_82 (lv_at hl 2 rfl) ?_
        refine lv_lload hx hb dX7_look_84 (lv_at hl 1 rfl) ?_
        refine lv_lmul hx hb dX7_look_86 ?_
        refine lv_topl (fun y_24 ey_24 => ?_)
        have m2 := lm_ab 10000 20000 ey_24 (by omega) (by omega) (by omega) (by omega) (by decide)
        have m2b := mul_bd (x := (y_8.toInt64).toInt) (y := y_21.toInt) (a := 10000) (b := 20000) (by omega) (by omega) (by omega) (by omega)
        obtain ⟨n3, n4⟩ := acc_bd (F := fun j => gA fi1 g1 fi2 g2 p1.toInt j * (gB fi1 g1 fi2 g2 p1.toInt (p2.toInt ≠ 0)) j) (B := 200000000) (fun j j0 j3 => by have z := hOK j j0 j3; have z9 := mul_bd z.1.1 z.1.2 z.2.1 z.2.2; exact ⟨by omega, by omega⟩) ax.toInt.toNat (by omega)
        refine lv_ladd hx hb dX7_look_87 ?_
        refine lv_topl (fun y_25 ey_25 => ?_)
        have ty_25 : y_25.toInt = z7.toInt + y_24.toInt := by rw [ey_25]; have := fb_addL (x := z7) (y := y_24) (by omega) (by omega); omega
        refine lv_lstore (lv' := [(7, .long y_25), (5, .long y_23), (14, .long y_21), (12, .long y_8.toInt64), (0, .ref h0), (1, .ref h1), (2, .ref h2), (3, .int p1), (4, .int p2), (9, .long z9), (11, .int ax)]) hx hb dX7_look_88 hl (by decide) rfl (fun ls hl => ?_)
        refine lv_lload hx hb dX7_look_90 (lv_at hl 9 rfl) ?_
        refine lv_lload hx hb dX7_look_92 (lv_at hl 2 rfl) ?_
        refine lv_lload hx hb dX7_look_94 (lv_at hl 2 rfl) ?_
        refine lv_lmul hx hb dX7_look_96 ?_
        refine lv_topl (fun y_26 ey_26 => ?_)
        have m3 := lm_ab 20000 20000 ey_26 (by omega) (by omega) (by omega) (by omega) (by decide)
        have m3b := mul_bd (x := y_21.toInt) (y := y_21.toInt) (a := 20000) (b := 20000) (by omega) (by omega) (by omega) (by omega)
        obtain ⟨n5, n6⟩ := acc_bd (F := fun j => (gB fi1 g1 fi2 g2 p1.toInt (p2.toInt ≠ 0)) j * (gB fi1 g1 fi2 g2 p1.toInt (p2.toInt ≠ 0)) j) (B := 400000000) (fun j j0 j3 => by have z := (hOK j j0 j3).2; have z9 := mul_bd z.1 z.2 z.1 z.2; exact ⟨by omega, by omega⟩) ax.toInt.toNat (by omega)
        refine lv_ladd hx hb dX7_look_97 ?_
        refine lv_topl (fun y_27 ey_27 => ?_)
        have ty_27 : y_27.toInt = z9.toInt + y_26.toInt := by rw [ey_27]; have := fb_addL (x := z9) (y := y_26) (by omega) (by omega); omega
        refine lv_lstore (lv' := [(9, .long y_27), (7, .long y_25), (5, .long y_23), (14, .long y_21), (12, .long y_8.toInt64), (0, .ref h0), (1, .ref h1), (2, .ref h2), (3, .int p1), (4, .int p2), (11, .int ax)]) hx hb dX7_look_98 hl (by decide) rfl (fun ls hl => ?_)
        obtain ⟨y_28, ey_28⟩ : ∃ y : Int32, y = ax + 1 := ⟨_, rfl⟩
        have ty_28 : y_28.toInt = ax.toInt + 1 := by rw [ey_28]; have := fb_addI (x := ax) (y := 1) (by omega) (by omega); omega
        refine lv_iinc (v := y_28) (lv' := [(11, .int y_28), (9, .long y_27), (7, .long y_25), (5, .long y_23), (14, .long y_21), (12, .long y_8.toInt64), (0, .ref h0), (1, .ref h1), (2, .ref h2), (3, .int p1), (4, .int p2)]) hx hb dX7_look_100 hl (k := 10) rfl (by rw [ey_28]; rfl) (by decide) rfl (fun ls hl => ?_)
        refine lv_goto (tgt := 12) hx hb dX7_look_103 (by decide) ?_
        exact ih_12 y_23 y_25 y_27 y_28 (by omega) (by omega) (by rw [show (y_28).toInt.toNat = ax.toInt.toNat + 1 by omega, acc_1, ← hz5, hax, ty_23, m1, hgp]) (by rw [show (y_28).toInt.toNat = ax.toInt.toNat + 1 by omega, acc_1, ← hz7, hax, ty_25, m2, hgp, hsh]) (by rw [show (y_28).toInt.toNat = ax.toInt.toNat + 1 by omega, acc_1, ← hz9, hax, ty_27]; first | rw [m3, hsh] | (rw [← hsh, klL_0]; omega)) (by omega) H _ (hP.part [0, 1, 2] rfl) (hD.part [0, 1, 2] (by decide) rfl) hS ls (lv_sub hl [6, 7, 8, 9, 10, 3, 2, 1, 0] rfl)
def wk_X8_comeNearTE : List Cond := .code yX8_comeNear cX8_comeNear 10 (some .boolean) :: (([.fieldLink RX8 34 "MeetingsAbove" "near" "I", .methodLink RX8 274 Lib.Math.max.name, .static Lib.Math.max.name, .initialized "java/lang/Math", .code Lib.Math.max.name Lib.Math.max.code 2 (some .int), .methodLink RX8 269 Lib.Math.min.name, .static Lib.Math.min.name, .code Lib.Math.min.name Lib.Math.min.code 2 (some .int), .fieldLink RX8 44 "MeetingsAbove" "way" "LMeetingsAbove$Way;", .fieldLink RX8 337 "MeetingsAbove$Way" "upper" "J", .fieldLink RX8 338 "MeetingsAbove$Way" "lower" "J"] : List Cond) ++ (wsX80 ++ (wsX70 ++ ((va_wsS RX8 173 yX8_firstTogether wk_X8_firstTogether) ++ ((va_wsS RX8 177 yX8_lastTogether wk_X8_lastTogether) ++ ((wsV RX8 333 RX7 yX7_look wk_X7_lookTE) ++ ([])))))))
theorem in_X8_comeNearTE_X7 : ∀ w ∈ wsX70, w ∈ wk_X8_comeNearTE := fun _ h => List.mem_cons_of_mem _ (List.mem_append_right _ (List.mem_append_right _ (List.mem_append_left _ h)))
theorem in_X8_comeNearTE_X8 : ∀ w ∈ wsX80, w ∈ wk_X8_comeNearTE := fun _ h => List.mem_cons_of_mem _ (List.mem_append_right _ (List.mem_append_left _ h))
theorem gw_X8_comeNearTE : AG wk_X8_comeNearTE := AG_ca (AG_l (by decide +kernel)) (AG_app ag_X8 (AG_app ag_X7 (AG_app (AG_S gw_X8_firstTogether) (AG_app (AG_S gw_X8_lastTogether) (AG_app (AG_V gw_X7_lookTE) (AG_nil))))))
theorem g_X8_comeNearTE__X8_firstTogether_173 : GoodIn wk_X8_comeNearTE (va_wsS RX8 173 yX8_firstTogether wk_X8_firstTogether) := goodIn_m (fun _ h => List.mem_cons_of_mem _ (List.mem_append_right _ (List.mem_append_right _ (List.mem_append_right _ (List.mem_append_left _ h))))) (AG_S gw_X8_firstTogether)
theorem g_X8_comeNearTE__X8_lastTogether_177 : GoodIn wk_X8_comeNearTE (va_wsS RX8 177 yX8_lastTogether wk_X8_lastTogether) := goodIn_m (fun _ h => List.mem_cons_of_mem _ (List.mem_append_right _ (List.mem_append_right _ (List.mem_append_right _ (List.mem_append_right _ (List.mem_append_left _ h)))))) (AG_S gw_X8_lastTogether)
theorem g_X8_comeNearTE__X7_lookTE_333 : GoodIn wk_X8_comeNearTE (wsV RX8 333 RX7 yX7_look wk_X7_lookTE) := goodIn_m (fun _ h => List.mem_cons_of_mem _ (List.mem_append_right _ (List.mem_append_right _ (List.mem_append_right _ (List.mem_append_right _ (List.mem_append_right _ (List.mem_append_left _ h))))))) (AG_V gw_X7_lookTE)
set_option maxHeartbeats 4000000 in
set_option maxRecDepth 100000 in
theorem c_X8_comeNearTE (l : Launch) (dC : Nat → ClassId) (dI : Nat → Nat → Nat) (h0 : Nat) (n0 : Nat) (s0 : Nat) (s1 : Nat) (d0 : Nat) (o0 : Nat) (w0 : Nat) (e0 : Nat) (f0 : Nat) (t0 : Nat) (b0 : Nat) (dn : Int32) (nn : Int32) (la : Int32) (ne : Int32) (wi : Int32) (lm : Int32) (wu : Int64) (wl : Int64) (wp : Int64) (h1 : Nat) (x1 : Nat) (fi1 : Int32) (pl1 : Int32) (db1 : Int32) (go1 : Int32) (g1 : Nat → Int32) (h2 : Nat) (x2 : Nat) (fi2 : Int32) (pl2 : Int32) (db2 : Int32) (go2 : Int32) (g2 : Nat → Int32) (cI : ClassId) (L : List Nat) (f : Nat → va_E) (p1 : Int32) (p2 : Int32) (sz : Nat) (hL2 : h2 ∈ L) (hX2 : x2 ∈ L) (hf2 : f h2 = .inr (6, [.ref x2, .int fi2, .int pl2, .int db2, .int go2])) (hg2 : f x2 = .inl (cI, 36, .inl g2)) (ht1 : tOK fi1 pl1) (ht2 : tOK fi2 pl2) (hco1 : cOK pl1 g1) (hco2 : cOK pl2 g2) (hne0 : 0 ≤ ne.toInt) (hne1 : ne.toInt ≤ 3000) : Met l yX8_comeNear wk_X8_comeNearTE ({ frames := 2, cells := 0, slots := 0, locals := 58 }) (va_Pc [.ref h0, .ref h1, .ref h2, .int p1, .int p2] (fun U => U.heap.size = sz ∧ va_P (dC, dI) vwCl (([(h0, .inr (8, [.ref n0, .ref s0, .ref s1, .ref d0, .ref o0, .int dn, .int nn, .int la, .int ne, .int wi, .ref w0, .ref e0, .ref f0, .ref t0, .ref b0, .int lm])), (w0, .inr (7, [.long wu, .long wl, .long wp])), (h1, .inr (6, [.ref x1, .int fi1, .int pl1, .int db1, .int go1])), (x1, .inl (cI, 36, .inl g1))] : va_W) ++ va_pl L f) U.heap ∧ va_K (dC, dI) vwCl [(cI, .int)] U ∧ va_D (fun _ => True) (([(h0, .inr (8, [.ref n0, .ref s0, .ref s1, .ref d0, .ref o0, .int dn, .int nn, .int la, .int ne, .int wi, .ref w0, .ref e0, .ref f0, .ref t0, .ref b0, .int lm])), (w0, .inr (7, [.long wu, .long wl, .long wp])), (h1, .inr (6, [.ref x1, .int fi1, .int pl1, .int db1, .int go1])), (x1, .inl (cI, 36, .inl g1))] : va_W) ++ va_pl L f))) (va_Qi (fun (r : Int32) (_ : Unit) => (r = 1 ∧ meP (fi1, pl1, db1, go1, g1) (fi2, pl2, db2, go2, g2) p1.toInt p2.toInt ne.toInt) ∨ (r = 0 ∧ ¬ meP (fi1, pl1, db1, go1, g1) (fi2, pl2, db2, go2, g2) p1.toInt p2.toInt ne.toInt)) (fun (_ : Unit) (t : State) => ∃ (wu9 : Int64) (wl9 : Int64) (wp9 : Int64), va_P (dC, dI) vwCl (([(h0, .inr (8, [.ref n0, .ref s0, .ref s1, .ref d0, .ref o0, .int dn, .int nn, .int la, .int ne, .int wi, .ref w0, .ref e0, .ref f0, .ref t0, .ref b0, .int lm])), (w0, .inr (7, [.long wu9, .long wl9, .long wp9])), (h1, .inr (6, [.ref x1, .int fi1, .int pl1, .int db1, .int go1])), (x1, .inl (cI, 36, .inl g1))] : va_W) ++ va_pl L f) t.heap ∧ va_K (dC, dI) vwCl [(cI, .int)] t ∧ va_D (va_A (([(h0, .inr (8, [.ref n0, .ref s0, .ref s1, .ref d0, .ref o0, .int dn, .int nn, .int la, .int ne, .int wi, .ref w0, .ref e0, .ref f0, .ref t0, .ref b0, .int lm])), (w0, .inr (7, [.long wu, .long wl, .long wp])), (h1, .inr (6, [.ref x1, .int fi1, .int pl1, .int db1, .int go1])), (x1, .inl (cI, 36, .inl g1))] : va_W) ++ va_pl L f) sz) (([(h0, .inr (8, [.ref n0, .ref s0, .ref s1, .ref d0, .ref o0, .int dn, .int nn, .int la, .int ne, .int wi, .ref w0, .ref e0, .ref f0, .ref t0, .ref b0, .int lm])), (w0, .inr (7, [.long wu9, .long wl9, .long wp9])), (h1, .inr (6, [.ref x1, .int fi1, .int pl1, .int db1, .int go1])), (x1, .inl (cI, 36, .inl g1))] : va_W) ++ va_pl L f)) (va_A (([(h0, .inr (8, [.ref n0, .ref s0, .ref s1, .ref d0, .ref o0, .int dn, .int nn, .int la, .int ne, .int wi, .ref w0, .ref e0, .ref f0, .ref t0, .ref b0, .int lm])), (w0, .inr (7, [.long wu, .long wl, .long wp])), (h1, .inr (6, [.ref x1, .int fi1, .int pl1, .int db1, .int go1])), (x1, .inl (cI, 36, .inl g1))] : va_W) ++ va_pl L f) sz)) 0 0 (va_A (([(h0, .inr (8, [.ref n0, .ref s0, .ref s1, .ref d0, .ref o0, .int dn, .int nn, .int la, .int ne, .int wi, .ref w0, .ref e0, .ref f0, .ref t0, .ref b0, .int lm])), (w0, .inr (7, [.long wu, .long wl, .long wp])), (h1, .inr (6, [.ref x1, .int fi1, .int pl1, .int db1, .int go1])), (x1, .inl (cI, 36, .inl g1))] : va_W) ++ va_pl L f) sz) := by
  refine Met.ofW (cc := cX8_comeNear) (maxL := 10) (ret := (some .boolean)) (by decide) rfl ?_
  intro p e s m args below meth c s₁ B hml hv
  obtain ⟨rfl, hsz, hP, hK, hD0⟩ := hv
  have hx := B.exec
  have hb := B.bytes
  have hr := B.returns
  have hts := atoms_spec (ws := wk_X8_comeNearTE) B.pre
  have hown : s.vm.findClass RX8 = some m.cls := findClass_of_methodNamed B.named
  have hlocks := B.notSynchronized
  subst hsz
  have hD := hD0.self (sz := s.heap.size)
  generalize hAe : va_A (([(h0, .inr (8, [.ref n0, .ref s0, .ref s1, .ref d0, .ref o0, .int dn, .int nn, .int la, .int ne, .int wi, .ref w0, .ref e0, .ref f0, .ref t0, .ref b0, .int lm])), (w0, .inr (7, [.long wu, .long wl, .long wp])), (h1, .inr (6, [.ref x1, .int fi1, .int pl1, .int db1, .int go1])), (x1, .inl (cI, 36, .inl g1))] : va_W) ++ va_pl L f) s.heap.size = A at hD ⊢
  have hA : ∀ q : Nat, s.heap.size ≤ q → A q := fun q h => by rw [← hAe]; exact Or.inr h
  have hS : va_S A s.heap s.heap [] := va_S.rf
  have hP : va_P (dC, dI) vwCl (([(h0, .inr (8, [.ref n0, .ref s0, .ref s1, .ref d0, .ref o0, .int dn, .int nn, .int la, .int ne, .int wi, .ref w0, .ref e0, .ref f0, .ref t0, .ref b0, .int lm])), (w0, .inr (7, [.long wu, .long wl, .long wp])), (h1, .inr (6, [.ref x1, .int fi1, .int pl1, .int db1, .int go1])), (x1, .inl (cI, 36, .inl g1))] : va_W) ++ va_pl L f) s.heap := hP
  have hl := lv_entry ([.ref h0, .ref h1, .ref h2, .int p1, .int p2]) (n := 10) (Nat.le_of_ble_eq_true rfl)
  rw [lg_entry_eq]
  generalize (lg_sl ([.ref h0, .ref h1, .ref h2, .int p1, .int p2]) ++ List.replicate (10 - (lg_sl ([.ref h0, .ref h1, .ref h2, .int p1, .int p2])).length) Slot.unset).toArray = ls at hl ⊢
  have hl : lv_has ls 10 [(0, .ref h0), (1, .ref h1), (2, .ref h2), (3, .int p1), (4, .int p2)] := hl
  have kl_0 : (0 : Int32).toInt = 0 := by decide
  have kl_1 : (1 : Int32).toInt = 1 := by decide
  obtain ⟨qa1, qb1, qc1, qd1⟩ := id ht1
  obtain ⟨qa2, qb2, qc2, qd2⟩ := id ht2
  refine lv_aload_n hx hb dX8_comeNear_0 rfl (lv_at hl 0 rfl) ?_
  refine va_get (D := (dC, dI)) (ci := 8) (v := .int ne) (C := RX8) (T := TX8) (N := 16) hx hb hts in_X8_comeNearTE_X8 hown hK hP 0 rfl rfl 8 (by decide) (hts (.fieldLink RX8 34 "MeetingsAbove" "near" "I") (by decide +kernel)) (fun _ h9 => h9) rfl dX8_comeNear_1 ?_
  refine lv_i2l hx hb dX8_comeNear_4 rfl ?_
  have ti_4 : (ne.toInt64).toInt = ne.toInt := Int32.toInt_toInt64 _
  refine lv_aload_n hx hb dX8_comeNear_5 rfl (lv_at hl 0 rfl) ?_
  refine va_get (D := (dC, dI)) (ci := 8) (v := .int ne) (C := RX8) (T := TX8) (N := 16) hx hb hts in_X8_comeNearTE_X8 hown hK hP 0 rfl rfl 8 (by decide) (hts (.fieldLink RX8 34 "MeetingsAbove" "near" "I") (by decide +kernel)) (fun _ h9 => h9) rfl dX8_comeNear_6 ?_
  refine lv_i2l hx hb dX8_comeNear_9 rfl ?_
  have ti_9 : (ne.toInt64).toInt = ne.toInt := Int32.toInt_toInt64 _
  refine lv_lmul hx hb dX8_comeNear_10 ?_
  refine lv_topl (fun y_1 ey_1 => ?_)
  have m1 := lm_ab 3000 3000 ey_1 (by omega) (by omega) (by omega) (by omega) (by decide)
  rw [ti_4] at m1
  have m1b := mul_bd (x := ne.toInt) (y := ne.toInt) (a := 3000) (b := 3000) (by omega) (by omega) (by omega) (by omega)
  refine lv_lstore (lv' := [(5, .long y_1), (0, .ref h0), (1, .ref h1), (2, .ref h2), (3, .int p1), (4, .int p2)]) hx hb dX8_comeNear_11 hl (by decide) rfl (fun ls hl => ?_)
  refine lv_iload_n hx hb dX8_comeNear_13 rfl (lv_at hl 4 rfl) ?_
  refine lv_aload_n hx hb dX8_comeNear_14 rfl (lv_at hl 2 rfl) ?_
  refine lv_aload_n hx hb dX8_comeNear_15 rfl (lv_at hl 3 rfl) ?_
  have hPc : va_P (dC, dI) vwCl [(h1, .inr (6, [.ref x1, .int fi1, .int pl1, .int db1, .int go1])), (h2, .inr (6, [.ref x2, .int fi2, .int pl2, .int db2, .int go2]))] s.heap := P_cons (hP.sub (ws' := [(h1, .inr (6, [.ref x1, .int fi1, .int pl1, .int db1, .int go1]))]) [2] rfl) (P_cons (pl_at (X := [(h0, .inr (8, [.ref n0, .ref s0, .ref s1, .ref d0, .ref o0, .int dn, .int nn, .int la, .int ne, .int wi, .ref w0, .ref e0, .ref f0, .ref t0, .ref b0, .int lm])), (w0, .inr (7, [.long wu, .long wl, .long wp])), (h1, .inr (6, [.ref x1, .int fi1, .int pl1, .int db1, .int go1])), (x1, .inl (cI, 36, .inl g1))]) hP hL2 hf2) (P_nil))
  have hKc := hK.sub (tys' := []) [] rfl
  refine vp_callSi (W.runS (As := [.ref h1, .ref h2]) (rest := [.int p1]) ⟨hx, hb, hml, hown, hts⟩ (c_X8_firstTogether l dC dI h1 x1 fi1 pl1 db1 go1 h2 x2 fi2 pl2 db2 go2) (va_cwS 2 hts g_X8_comeNearTE__X8_firstTogether_173 rfl rfl rfl (by decide +kernel) ⟨Nat.le_of_ble_eq_true rfl, Nat.le_of_ble_eq_true rfl⟩) ⟨fun a U g mk q => by obtain ⟨q0, qP, qK⟩ := q; exact ⟨q0, qP, va_K.moved (u := U) (U := U.calling g mk a) (Vm.Alike.refl U.vm) qK⟩, fun U hU hW => ⟨rfl, by rw [hU]; exact hPc, va_K.moved hW.alike hKc⟩⟩ rfl rfl hl.1 rfl (lv_room (Nat.le_of_ble_eq_true rfl)) dX8_comeNear_16 ⟨Nat.le_of_ble_eq_true rfl, Nat.le_of_ble_eq_true rfl⟩) (fun r_2 hr_2 => ?_)
  try dsimp only at hr_2
  refine va_mmax hx hb (by rw [hml]; exact hl.1.symm) hown (hts (.methodLink RX8 274 Lib.Math.max.name) (by decide +kernel)) (hts (.static Lib.Math.max.name) (by decide +kernel)) (hts (.initialized "java/lang/Math") (by decide +kernel)) (hts _ (List.mem_of_getElem? (i := 5) rfl)) (Nat.le_of_ble_eq_true rfl) (Nat.le_of_ble_eq_true rfl) (Nat.le_of_ble_eq_true rfl) (Nat.le_of_ble_eq_true rfl) dX8_comeNear_19 ?_
  refine lv_topi (fun y_3 ey_3 => ?_)
  have ty_3 := max_I ey_3
  refine lv_istore (lv' := [(7, .int y_3), (5, .long y_1), (0, .ref h0), (1, .ref h1), (2, .ref h2), (3, .int p1), (4, .int p2)]) hx hb dX8_comeNear_22 hl (by decide) rfl (fun ls hl => ?_)
  refine lv_iload hx hb dX8_comeNear_24 (lv_at hl 6 rfl) ?_
  refine lv_aload_n hx hb dX8_comeNear_26 rfl (lv_at hl 3 rfl) ?_
  refine lv_aload_n hx hb dX8_comeNear_27 rfl (lv_at hl 4 rfl) ?_
  have hPc : va_P (dC, dI) vwCl [(h1, .inr (6, [.ref x1, .int fi1, .int pl1, .int db1, .int go1])), (h2, .inr (6, [.ref x2, .int fi2, .int pl2, .int db2, .int go2]))] s.heap := P_cons (hP.sub (ws' := [(h1, .inr (6, [.ref x1, .int fi1, .int pl1, .int db1, .int go1]))]) [2] rfl) (P_cons (pl_at (X := [(h0, .inr (8, [.ref n0, .ref s0, .ref s1, .ref d0, .ref o0, .int dn, .int nn, .int la, .int ne, .int wi, .ref w0, .ref e0, .ref f0, .ref t0, .ref b0, .int lm])), (w0, .inr (7, [.long wu, .long wl, .long wp])), (h1, .inr (6, [.ref x1, .int fi1, .int pl1, .int db1, .int go1])), (x1, .inl (cI, 36, .inl g1))]) hP hL2 hf2) (P_nil))
  have hKc := hK.sub (tys' := []) [] rfl
  refine vp_callSi (W.runS (As := [.ref h1, .ref h2]) (rest := [.int p2]) ⟨hx, hb, hml, hown, hts⟩ (c_X8_lastTogether l dC dI h1 x1 fi1 pl1 db1 go1 h2 x2 fi2 pl2 db2 go2 (by first | assumption | omega) (by first | assumption | omega)) (va_cwS 2 hts g_X8_comeNearTE__X8_lastTogether_177 rfl rfl rfl (by decide +kernel) ⟨Nat.le_of_ble_eq_true rfl, Nat.le_of_ble_eq_true rfl⟩) ⟨fun a U g mk q => by obtain ⟨q0, qP, qK⟩ := q; exact ⟨q0, qP, va_K.moved (u := U) (U := U.calling g mk a) (Vm.Alike.refl U.vm) qK⟩, fun U hU hW => ⟨rfl, by rw [hU]; exact hPc, va_K.moved hW.alike hKc⟩⟩ rfl rfl hl.1 rfl (lv_room (Nat.le_of_ble_eq_true rfl)) dX8_comeNear_28 ⟨Nat.le_of_ble_eq_true rfl, Nat.le_of_ble_eq_true rfl⟩) (fun r_4 hr_4 => ?_)
  try dsimp only at hr_4
  refine va_mmin hx hb (by rw [hml]; exact hl.1.symm) hown (hts (.methodLink RX8 269 Lib.Math.min.name) (by decide +kernel)) (hts (.static Lib.Math.min.name) (by decide +kernel)) (hts (.initialized "java/lang/Math") (by decide +kernel)) (hts _ (List.mem_of_getElem? (i := 8) rfl)) (Nat.le_of_ble_eq_true rfl) (Nat.le_of_ble_eq_true rfl) (Nat.le_of_ble_eq_true rfl) (Nat.le_of_ble_eq_true rfl) dX8_comeNear_31 ?_
  refine lv_topi (fun y_5 ey_5 => ?_)
  have ty_5 := min_I ey_5
  refine lv_istore (lv' := [(8, .int y_5), (7, .int y_3), (5, .long y_1), (0, .ref h0), (1, .ref h1), (2, .ref h2), (3, .int p1), (4, .int p2)]) hx hb dX8_comeNear_34 hl (by decide) rfl (fun ls hl => ?_)
  have hA9 : y_3.toInt = max p1.toInt (max fi1.toInt fi2.toInt) := (by omega)
  have hB9 : y_5.toInt = min p2.toInt (min (fi1.toInt + pl1.toInt - 1) (fi2.toInt + pl2.toInt - 1)) := (by omega)
  refine lv_iload hx hb dX8_comeNear_36 (lv_at hl 1 rfl) ?_
  refine lv_istore (lv' := [(9, .int y_3), (8, .int y_5), (7, .int y_3), (5, .long y_1), (0, .ref h0), (1, .ref h1), (2, .ref h2), (3, .int p1), (4, .int p2)]) hx hb dX8_comeNear_38 hl (by decide) rfl (fun ls hl => ?_)
  refine (show ∀ (k : Nat) (k9 : Int32) (vu : Int64) (vl : Int64) (vp : Int64) (hk0 : y_3.toInt ≤ k9.toInt) (hk1 : k9.toInt ≤ y_5.toInt + 1 ∨ k9.toInt = y_3.toInt) (hNO : ∀ k : Int, y_3.toInt ≤ k → k < k9.toInt → ¬ uK fi1 g1 fi2 g2 y_5.toInt k < ne.toInt * ne.toInt * lK fi1 g1 fi2 g2 y_5.toInt k) (hk_40 : (y_5.toInt + 1 - k9.toInt).toNat < k) (H : Heap) (locs : List Loc) (hP : va_P (dC, dI) vwCl (([(h0, .inr (8, [.ref n0, .ref s0, .ref s1, .ref d0, .ref o0, .int dn, .int nn, .int la, .int ne, .int wi, .ref w0, .ref e0, .ref f0, .ref t0, .ref b0, .int lm])), (w0, .inr (7, [.long vu, .long vl, .long vp])), (h1, .inr (6, [.ref x1, .int fi1, .int pl1, .int db1, .int go1])), (x1, .inl (cI, 36, .inl g1))] : va_W) ++ va_pl L f) H) (hD : va_D A (([(h0, .inr (8, [.ref n0, .ref s0, .ref s1, .ref d0, .ref o0, .int dn, .int nn, .int la, .int ne, .int wi, .ref w0, .ref e0, .ref f0, .ref t0, .ref b0, .int lm])), (w0, .inr (7, [.long vu, .long vl, .long vp])), (h1, .inr (6, [.ref x1, .int fi1, .int pl1, .int db1, .int go1])), (x1, .inl (cI, 36, .inl g1))] : va_W) ++ va_pl L f)) (hS : va_S A s.heap H locs) (ls : Array Slot) (hl : lv_has ls 10 [(0, .ref h0), (1, .ref h1), (2, .ref h2), (3, .int p1), (4, .int p2), (5, .long y_1), (7, .int y_3), (8, .int y_5), (9, .int k9)]), W p l e _ s m _ below meth c H locs 0 0 _ (F0 m 40 ls []) from ?_) _ y_3 wu wl wp (by omega) (by omega) (by exact fun k a9 b9 => absurd b9 (by omega)) (Nat.lt_succ_self _) _ _ hP hD hS ls (lv_sub hl [4, 5, 6, 7, 8, 3, 2, 1, 0] rfl)
  intro k
  induction k with
  | zero => intro k9 vu vl vp hk0 hk1 hNO hk_40; exact absurd hk_40 (Nat.not_lt_zero _)
  | succ k ih_40 =>
    intro k9 vu vl vp hk0 hk1 hNO hk_40 H locs hP hD hS ls hl
    refine lv_iload hx hb dX8_comeNear_40 (lv_at hl 8 rfl) ?_
    refine lv_iload hx hb dX8_comeNear_42 (lv_at hl 7 rfl) ?_
    refine lv_icmp_gt (tgt := 99) hx hb dX8_comeNear_44 (by decide) (fun c_44 => ?_) (fun c_44 => ?_)
    · have t_44 := (fa_lt _ _).mp c_44
      refine lv_iconst (v := 0) hx hb dX8_comeNear_99 (by decide) ?_
      have hP9 := hP.part (cx := [(h0, .inr (8, [.ref n0, .ref s0, .ref s1, .ref d0, .ref o0, .int dn, .int nn, .int la, .int ne, .int wi, .ref w0, .ref e0, .ref f0, .ref t0, .ref b0, .int lm])), (w0, .inr (7, [.long vu, .long vl, .long vp])), (h1, .inr (6, [.ref x1, .int fi1, .int pl1, .int db1, .int go1])), (x1, .inl (cI, 36, .inl g1))]) [0, 1, 2, 3] rfl
      have hD9 := hD.part (cx := [(h0, .inr (8, [.ref n0, .ref s0, .ref s1, .ref d0, .ref o0, .int dn, .int nn, .int la, .int ne, .int wi, .ref w0, .ref e0, .ref f0, .ref t0, .ref b0, .int lm])), (w0, .inr (7, [.long vu, .long vl, .long vp])), (h1, .inr (6, [.ref x1, .int fi1, .int pl1, .int db1, .int go1])), (x1, .inl (cI, 36, .inl g1))]) [0, 1, 2, 3] (by decide) rfl
      have hK9 := hK.sub (tys' := [(cI, .int)]) [0] rfl
      refine W.widen (k := 0) (n := 0) (by omega) (by omega) ?_
      exact W.zret (v := 0) hx hb hr rfl (fun t ht hW => ⟨⟨_, (), rfl, (Or.inr ⟨rfl, me_no hA9 hB9 hNO (by omega)⟩), vu, vl, vp, by rw [ht]; exact hP9, va_K.moved hW.alike hK9, hD9⟩, hS.F ht⟩) hS.2.2 dX8_comeNear_100
    · have t_44 := mt (fa_lt _ _).mpr c_44
      refine lv_aload_n hx hb dX8_comeNear_47 rfl (lv_at hl 0 rfl) ?_
      refine va_get (D := (dC, dI)) (ci := 8) (v := .ref w0) (C := RX8) (T := TX8) (N := 16) hx hb hts in_X8_comeNearTE_X8 hown hK hP 0 rfl rfl 10 (by decide) (hts (.fieldLink RX8 44 "MeetingsAbove" "way" "LMeetingsAbove$Way;") (by decide +kernel)) (fun _ h9 => h9) rfl dX8_comeNear_48 ?_
      refine lv_aload_n hx hb dX8_comeNear_51 rfl (lv_at hl 1 rfl) ?_
      refine lv_aload_n hx hb dX8_comeNear_52 rfl (lv_at hl 2 rfl) ?_
      refine lv_iload hx hb dX8_comeNear_53 (lv_at hl 8 rfl) ?_
      refine lv_iload hx hb dX8_comeNear_55 (lv_at hl 8 rfl) ?_
      refine lv_iload hx hb dX8_comeNear_57 (lv_at hl 7 rfl) ?_
      refine lv_icmp_ge (tgt := 66) hx hb dX8_comeNear_59 (by decide) (fun c_59 => ?_) (fun c_59 => ?_)
      · have t_59 := (fa_le _ _).mp c_59
        refine lv_iconst (v := 0) hx hb dX8_comeNear_66 (by decide) ?_
        have hPc := hP.part (cx := [(w0, .inr (7, [.long vu, .long vl, .long vp])), (h1, .inr (6, [.ref x1, .int fi1, .int pl1, .int db1, .int go1])), (x1, .inl (cI, 36, .inl g1))]) [1, 2, 3] rfl
        have hKc := hK.sub (tys' := [(cI, .int)]) [0] rfl
        have hDc := hD.part (cx := [(w0, .inr (7, [.long vu, .long vl, .long vp])), (h1, .inr (6, [.ref x1, .int fi1, .int pl1, .int db1, .int go1])), (x1, .inl (cI, 36, .inl g1))]) [1, 2, 3] (by decide) rfl
        have hFc := va_freeP (cx := [(w0, .inr (7, [.long vu, .long vl, .long vp])), (h1, .inr (6, [.ref x1, .int fi1, .int pl1, .int db1, .int go1])), (x1, .inl (cI, 36, .inl g1))]) hD hS hA [1, 2, 3] rfl
        refine va_callv (va_runV (As := [.ref h1, .ref h2, .int k9, .int 0]) (rest := []) ⟨hx, hb, hml, hown, hts⟩ (c_X7_lookTE l dC dI w0 vu vl vp h1 x1 fi1 pl1 db1 go1 g1 h2 x2 fi2 pl2 db2 go2 g2 cI L f k9 0 H.size (by first | assumption | omega) (by first | assumption | omega) (by first | assumption | omega) (by first | assumption | omega) (by first | assumption | omega) (by first | assumption | omega) (by first | assumption | omega) (by first | assumption | omega) (by first | omega | assumption) (by first | omega | assumption) (by first | omega | assumption) (by first | omega | assumption) (by first | assumption | omega)) (cwV 4 hts g_X8_comeNearTE__X7_lookTE_333 rfl rfl rfl (by decide +kernel) ⟨Nat.le_of_ble_eq_true rfl, Nat.le_of_ble_eq_true rfl⟩) ⟨fun a U g mk q => by obtain ⟨q0, q1, qP, qK, qD⟩ := q; exact ⟨q0, q1, qP, va_K.moved (u := U) (U := U.calling g mk a) (Vm.Alike.refl U.vm) qK, qD⟩, va_recv hKc hPc (ci := 7) (q0 := 0) rfl rfl, fun U hU hW => ⟨rfl, by rw [hU], by rw [hU]; exact hPc, va_K.moved hW.alike hKc, hDc.weaken (fun _ _ _ _ => trivial)⟩⟩ rfl rfl hl.1 rfl (lv_room (Nat.le_of_ble_eq_true rfl)) dX8_comeNear_67 ⟨Nat.le_of_ble_eq_true rfl, Nat.le_of_ble_eq_true rfl⟩) hS (fun q _ h => hFc q h) hFc (fun u_6 t H1 locs ht hvm hw_7 hB hz1 hk1 hS => ?_)
        obtain ⟨u9_8, l9_9, p9_10, hP1, hK1, hD1, hu9_11, hl9_12, hp9_13⟩ := hB
        rw [ht] at hP1
        have hK1 := va_K.moved hvm.symm hK1
        obtain ⟨hP, hD⟩ := va_joinP (wr := [(h0, .inr (8, [.ref n0, .ref s0, .ref s1, .ref d0, .ref o0, .int dn, .int nn, .int la, .int ne, .int wi, .ref w0, .ref e0, .ref f0, .ref t0, .ref b0, .int lm]))]) (rx := [(w0, .inr (7, [.long u9_8, .long l9_9, .long p9_10])), (h1, .inr (6, [.ref x1, .int fi1, .int pl1, .int db1, .int go1])), (x1, .inl (cI, 36, .inl g1))]) hP hD [1, 2, 3] [0] rfl rfl (by decide) (by decide) hk1 hFc hP1 hD1
        have hK := (hK.sub (tys' := [(cI, .int)]) [0] rfl).app hK1
        generalize H1 = H at hP hS ⊢
        have hP : va_P (dC, dI) vwCl (([(h0, .inr (8, [.ref n0, .ref s0, .ref s1, .ref d0, .ref o0, .int dn, .int nn, .int la, .int ne, .int wi, .ref w0, .ref e0, .ref f0, .ref t0, .ref b0, .int lm])), (w0, .inr (7, [.long u9_8, .long l9_9, .long p9_10])), (h1, .inr (6, [.ref x1, .int fi1, .int pl1, .int db1, .int go1])), (x1, .inl (cI, 36, .inl g1))] : va_W) ++ va_pl L f) H := hP
        have hD : va_D A (([(h0, .inr (8, [.ref n0, .ref s0, .ref s1, .ref d0, .ref o0, .int dn, .int nn, .int la, .int ne, .int wi, .ref w0, .ref e0, .ref f0, .ref t0, .ref b0, .int lm])), (w0, .inr (7, [.long u9_8, .long l9_9, .long p9_10])), (h1, .inr (6, [.ref x1, .int fi1, .int pl1, .int db1, .int go1])), (x1, .inl (cI, 36, .inl g1))] : va_W) ++ va_pl L f) := hD
        have hK : va_K (dC, dI) vwCl [(cI, .int), (cI, .int)] s := hK
        refine W.widen (k := 0) (n := 0) (by omega) (by omega) ?_
        have eU : (u9_8).toInt = uK fi1 g1 fi2 g2 y_5.toInt k9.toInt := by show _ = wU _ (gB fi1 g1 fi2 g2 k9.toInt (k9.toInt < y_5.toInt)); rw [hu9_11, gB_eq (q := k9.toInt < y_5.toInt) ⟨fun z9 => by omega, fun z9 => by omega⟩]
        have eL : (l9_9).toInt = lK fi1 g1 fi2 g2 y_5.toInt k9.toInt := by show _ = wL _ (gB fi1 g1 fi2 g2 k9.toInt (k9.toInt < y_5.toInt)); rw [hl9_12, gB_eq (q := k9.toInt < y_5.toInt) ⟨fun z9 => by omega, fun z9 => by omega⟩]
        obtain ⟨⟨u1, u2⟩, ⟨l1, l2⟩, -⟩ := K_bd (f1 := fi1) (f2 := fi2) (k := k9.toInt) (b := y_5.toInt) hco1 hco2 (by omega) (by omega) (by omega) (by omega) (by omega)
        refine lv_aload_n hx hb dX8_comeNear_70 rfl (lv_at hl 0 rfl) ?_
        refine va_get (D := (dC, dI)) (ci := 8) (v := .ref w0) (C := RX8) (T := TX8) (N := 16) hx hb hts in_X8_comeNearTE_X8 hown hK hP 0 rfl rfl 10 (by decide) (hts (.fieldLink RX8 44 "MeetingsAbove" "way" "LMeetingsAbove$Way;") (by decide +kernel)) (fun _ h9 => h9) rfl dX8_comeNear_71 ?_
        refine va_get (D := (dC, dI)) (ci := 7) (v := .long u9_8) (C := RX7) (T := TX7) (N := 3) hx hb hts in_X8_comeNearTE_X7 hown hK hP 1 rfl rfl 0 (by decide) (hts (.fieldLink RX8 337 "MeetingsAbove$Way" "upper" "J") (by decide +kernel)) (fun _ h9 => h9) rfl dX8_comeNear_74 ?_
        refine lv_lload hx hb dX8_comeNear_77 (lv_at hl 5 rfl) ?_
        refine lv_aload_n hx hb dX8_comeNear_79 rfl (lv_at hl 0 rfl) ?_
        refine va_get (D := (dC, dI)) (ci := 8) (v := .ref w0) (C := RX8) (T := TX8) (N := 16) hx hb hts in_X8_comeNearTE_X8 hown hK hP 0 rfl rfl 10 (by decide) (hts (.fieldLink RX8 44 "MeetingsAbove" "way" "LMeetingsAbove$Way;") (by decide +kernel)) (fun _ h9 => h9) rfl dX8_comeNear_80 ?_
        refine va_get (D := (dC, dI)) (ci := 7) (v := .long l9_9) (C := RX7) (T := TX7) (N := 3) hx hb hts in_X8_comeNearTE_X7 hown hK hP 1 rfl rfl 1 (by decide) (hts (.fieldLink RX8 338 "MeetingsAbove$Way" "lower" "J") (by decide +kernel)) (fun _ h9 => h9) rfl dX8_comeNear_83 ?_
        refine lv_lmul hx hb dX8_comeNear_86 ?_
        refine lv_topl (fun y_14 ey_14 => ?_)
        have m2 := lm_ab 9000000 1200000000 ey_14 (by omega) (by omega) (by omega) (by omega) (by decide)
        have m3 : y_14.toInt = ne.toInt * ne.toInt * lK fi1 g1 fi2 g2 y_5.toInt k9.toInt := by rw [m2, m1, eL]
        refine W.lcmp hx hb dX8_comeNear_87 ?_
        refine lv_if_ge (tgt := 93) hx hb dX8_comeNear_88 (by decide) (fun c_88 => ?_) (fun c_88 => ?_)
        · have t_88 := (fa_le64 _ _).mp ((lg_cmp_ge _ _).mp c_88)
          obtain ⟨y_15, ey_15⟩ : ∃ y : Int32, y = k9 + 1 := ⟨_, rfl⟩
          have ty_15 : y_15.toInt = k9.toInt + 1 := by rw [ey_15]; have := fb_addI (x := k9) (y := 1) (by omega) (by omega); omega
          refine lv_iinc (v := y_15) (lv' := [(9, .int y_15), (0, .ref h0), (1, .ref h1), (2, .ref h2), (3, .int p1), (4, .int p2), (5, .long y_1), (7, .int y_3), (8, .int y_5)]) hx hb dX8_comeNear_93 hl (k := 8) rfl (by rw [ey_15]; rfl) (by decide) rfl (fun ls hl => ?_)
          refine lv_goto (tgt := 40) hx hb dX8_comeNear_96 (by decide) ?_
          exact ih_40 y_15 u9_8 l9_9 p9_10 (by omega) (by omega) (by intro k a9 b9; rcases (show k < k9.toInt ∨ k = k9.toInt by omega) with z | z <;> first | exact hNO k a9 z | (rw [z, ← eU, ← m3]; omega)) (by omega) H _ (hP.part [0, 1, 2, 3] rfl) (hD.part [0, 1, 2, 3] (by decide) rfl) hS ls (lv_sub hl [1, 2, 3, 4, 5, 6, 7, 8, 0] rfl)
        · have t_88 := mt (fa_le64 _ _).mpr (mt (lg_cmp_ge _ _).mpr c_88)
          refine lv_iconst (v := 1) hx hb dX8_comeNear_91 (by decide) ?_
          have hP9 := hP.part (cx := [(h0, .inr (8, [.ref n0, .ref s0, .ref s1, .ref d0, .ref o0, .int dn, .int nn, .int la, .int ne, .int wi, .ref w0, .ref e0, .ref f0, .ref t0, .ref b0, .int lm])), (w0, .inr (7, [.long u9_8, .long l9_9, .long p9_10])), (h1, .inr (6, [.ref x1, .int fi1, .int pl1, .int db1, .int go1])), (x1, .inl (cI, 36, .inl g1))]) [0, 1, 2, 3] rfl
          have hD9 := hD.part (cx := [(h0, .inr (8, [.ref n0, .ref s0, .ref s1, .ref d0, .ref o0, .int dn, .int nn, .int la, .int ne, .int wi, .ref w0, .ref e0, .ref f0, .ref t0, .ref b0, .int lm])), (w0, .inr (7, [.long u9_8, .long l9_9, .long p9_10])), (h1, .inr (6, [.ref x1, .int fi1, .int pl1, .int db1, .int go1])), (x1, .inl (cI, 36, .inl g1))]) [0, 1, 2, 3] (by decide) rfl
          have hK9 := hK.sub (tys' := [(cI, .int)]) [0] rfl
          refine W.widen (k := 0) (n := 0) (by omega) (by omega) ?_
          exact W.zret (v := 1) hx hb hr rfl (fun t ht hW => ⟨⟨_, (), rfl, (Or.inl ⟨rfl, me_mk hA9 hB9 (k := k9.toInt) (by omega) (by omega) (by rw [← eU, ← m3]; omega)⟩), u9_8, l9_9, p9_10, by rw [ht]; exact hP9, va_K.moved hW.alike hK9, hD9⟩, hS.F ht⟩) hS.2.2 dX8_comeNear_92
      · have t_59 := mt (fa_le _ _).mpr c_59
        refine lv_iconst (v := 1) hx hb dX8_comeNear_62 (by decide) ?_
        refine lv_goto (tgt := 67) hx hb dX8_comeNear_63 (by decide) ?_
        have hPc := hP.part (cx := [(w0, .inr (7, [.long vu, .long vl, .long vp])), (h1, .inr (6, [.ref x1, .int fi1, .int pl1, .int db1, .int go1])), (x1, .inl (cI, 36, .inl g1))]) [1, 2, 3] rfl
        have hKc := hK.sub (tys' := [(cI, .int)]) [0] rfl
        have hDc := hD.part (cx := [(w0, .inr (7, [.long vu, .long vl, .long vp])), (h1, .inr (6, [.ref x1, .int fi1, .int pl1, .int db1, .int go1])), (x1, .inl (cI, 36, .inl g1))]) [1, 2, 3] (by decide) rfl
        have hFc := va_freeP (cx := [(w0, .inr (7, [.long vu, .long vl, .long vp])), (h1, .inr (6, [.ref x1, .int fi1, .int pl1, .int db1, .int go1])), (x1, .inl (cI, 36, .inl g1))]) hD hS hA [1, 2, 3] rfl
        refine va_callv (va_runV (As := [.ref h1, .ref h2, .int k9, .int 1]) (rest := []) ⟨hx, hb, hml, hown, hts⟩ (c_X7_lookTE l dC dI w0 vu vl vp h1 x1 fi1 pl1 db1 go1 g1 h2 x2 fi2 pl2 db2 go2 g2 cI L f k9 1 H.size (by first | assumption | omega) (by first | assumption | omega) (by first | assumption | omega) (by first | assumption | omega) (by first | assumption | omega) (by first | assumption | omega) (by first | assumption | omega) (by first | assumption | omega) (by first | omega | assumption) (by first | omega | assumption) (by first | omega | assumption) (by first | omega | assumption) (by first | assumption | omega)) (cwV 4 hts g_X8_comeNearTE__X7_lookTE_333 rfl rfl rfl (by decide +kernel) ⟨Nat.le_of_ble_eq_true rfl, Nat.le_of_ble_eq_true rfl⟩) ⟨fun a U g mk q => by obtain ⟨q0, q1, qP, qK, qD⟩ := q; exact ⟨q0, q1, qP, va_K.moved (u := U) (U := U.calling g mk a) (Vm.Alike.refl U.vm) qK, qD⟩, va_recv hKc hPc (ci := 7) (q0 := 0) rfl rfl, fun U hU hW => ⟨rfl, by rw [hU], by rw [hU]; exact hPc, va_K.moved hW.alike hKc, hDc.weaken (fun _ _ _ _ => trivial)⟩⟩ rfl rfl hl.1 rfl (lv_room (Nat.le_of_ble_eq_true rfl)) dX8_comeNear_67 ⟨Nat.le_of_ble_eq_true rfl, Nat.le_of_ble_eq_true rfl⟩) hS (fun q _ h => hFc q h) hFc (fun u_16 t H1 locs ht hvm hw_17 hB hz1 hk1 hS => ?_)
        obtain ⟨u9_18, l9_19, p9_20, hP1, hK1, hD1, hu9_21, hl9_22, hp9_23⟩ := hB
        rw [ht] at hP1
        have hK1 := va_K.moved hvm.symm hK1
        obtain ⟨hP, hD⟩ := va_joinP (wr := [(h0, .inr (8, [.ref n0, .ref s0, .ref s1, .ref d0, .ref o0, .int dn, .int nn, .int la, .int ne, .int wi, .ref w0, .ref e0, .ref f0, .ref t0, .ref b0, .int lm]))]) (rx := [(w0, .inr (7, [.long u9_18, .long l9_19, .long p9_20])), (h1, .inr (6, [.ref x1, .int fi1, .int pl1, .int db1, .int go1])), (x1, .inl (cI, 36, .inl g1))]) hP hD [1, 2, 3] [0] rfl rfl (by decide) (by decide) hk1 hFc hP1 hD1
        have hK := (hK.sub (tys' := [(cI, .int)]) [0] rfl).app hK1
        generalize H1 = H at hP hS ⊢
        have hP : va_P (dC, dI) vwCl (([(h0, .inr (8, [.ref n0, .ref s0, .ref s1, .ref d0, .ref o0, .int dn, .int nn, .int la, .int ne, .int wi, .ref w0, .ref e0, .ref f0, .ref t0, .ref b0, .int lm])), (w0, .inr (7, [.long u9_18, .long l9_19, .long p9_20])), (h1, .inr (6, [.ref x1, .int fi1, .int pl1, .int db1, .int go1])), (x1, .inl (cI, 36, .inl g1))] : va_W) ++ va_pl L f) H := hP
        have hD : va_D A (([(h0, .inr (8, [.ref n0, .ref s0, .ref s1, .ref d0, .ref o0, .int dn, .int nn, .int la, .int ne, .int wi, .ref w0, .ref e0, .ref f0, .ref t0, .ref b0, .int lm])), (w0, .inr (7, [.long u9_18, .long l9_19, .long p9_20])), (h1, .inr (6, [.ref x1, .int fi1, .int pl1, .int db1, .int go1])), (x1, .inl (cI, 36, .inl g1))] : va_W) ++ va_pl L f) := hD
        have hK : va_K (dC, dI) vwCl [(cI, .int), (cI, .int)] s := hK
        refine W.widen (k := 0) (n := 0) (by omega) (by omega) ?_
        have eU : (u9_18).toInt = uK fi1 g1 fi2 g2 y_5.toInt k9.toInt := by show _ = wU _ (gB fi1 g1 fi2 g2 k9.toInt (k9.toInt < y_5.toInt)); rw [hu9_21, gB_eq (q := k9.toInt < y_5.toInt) ⟨fun z9 => by omega, fun z9 => by omega⟩]
        have eL : (l9_19).toInt = lK fi1 g1 fi2 g2 y_5.toInt k9.toInt := by show _ = wL _ (gB fi1 g1 fi2 g2 k9.toInt (k9.toInt < y_5.toInt)); rw [hl9_22, gB_eq (q := k9.toInt < y_5.toInt) ⟨fun z9 => by omega, fun z9 => by omega⟩]
        obtain ⟨⟨u1, u2⟩, ⟨l1, l2⟩, -⟩ := K_bd (f1 := fi1) (f2 := fi2) (k := k9.toInt) (b := y_5.toInt) hco1 hco2 (by omega) (by omega) (by omega) (by omega) (by omega)
        refine lv_aload_n hx hb dX8_comeNear_70 rfl (lv_at hl 0 rfl) ?_
        refine va_get (D := (dC, dI)) (ci := 8) (v := .ref w0) (C := RX8) (T := TX8) (N := 16) hx hb hts in_X8_comeNearTE_X8 hown hK hP 0 rfl rfl 10 (by decide) (hts (.fieldLink RX8 44 "MeetingsAbove" "way" "LMeetingsAbove$Way;") (by decide +kernel)) (fun _ h9 => h9) rfl dX8_comeNear_71 ?_
        refine va_get (D := (dC, dI)) (ci := 7) (v := .long u9_18) (C := RX7) (T := TX7) (N := 3) hx hb hts in_X8_comeNearTE_X7 hown hK hP 1 rfl rfl 0 (by decide) (hts (.fieldLink RX8 337 "MeetingsAbove$Way" "upper" "J") (by decide +kernel)) (fun _ h9 => h9) rfl dX8_comeNear_74 ?_
        refine lv_lload hx hb dX8_comeNear_77 (lv_at hl 5 rfl) ?_
        refine lv_aload_n hx hb dX8_comeNear_79 rfl (lv_at hl 0 rfl) ?_
        refine va_get (D := (dC, dI)) (ci := 8) (v := .ref w0) (C := RX8) (T := TX8) (N := 16) hx hb hts in_X8_comeNearTE_X8 hown hK hP 0 rfl rfl 10 (by decide) (hts (.fieldLink RX8 44 "MeetingsAbove" "way" "LMeetingsAbove$Way;") (by decide +kernel)) (fun _ h9 => h9) rfl dX8_comeNear_80 ?_
        refine va_get (D := (dC, dI)) (ci := 7) (v := .long l9_19) (C := RX7) (T := TX7) (N := 3) hx hb hts in_X8_comeNearTE_X7 hown hK hP 1 rfl rfl 1 (by decide) (hts (.fieldLink RX8 338 "MeetingsAbove$Way" "lower" "J") (by decide +kernel)) (fun _ h9 => h9) rfl dX8_comeNear_83 ?_
        refine lv_lmul hx hb dX8_comeNear_86 ?_
        refine lv_topl (fun y_24 ey_24 => ?_)
        have m2 := lm_ab 9000000 1200000000 ey_24 (by omega) (by omega) (by omega) (by omega) (by decide)
        have m3 : y_24.toInt = ne.toInt * ne.toInt * lK fi1 g1 fi2 g2 y_5.toInt k9.toInt := by rw [m2, m1, eL]
        refine W.lcmp hx hb dX8_comeNear_87 ?_
        refine lv_if_ge (tgt := 93) hx hb dX8_comeNear_88 (by decide) (fun c_88 => ?_) (fun c_88 => ?_)
        · have t_88 := (fa_le64 _ _).mp ((lg_cmp_ge _ _).mp c_88)
          obtain ⟨y_25, ey_25⟩ : ∃ y : Int32, y = k9 + 1 := ⟨_, rfl⟩
          have ty_25 : y_25.toInt = k9.toInt + 1 := by rw [ey_25]; have := fb_addI (x := k9) (y := 1) (by omega) (by omega); omega
          refine lv_iinc (v := y_25) (lv' := [(9, .int y_25), (0, .ref h0), (1, .ref h1), (2, .ref h2), (3, .int p1), (4, .int p2), (5, .long y_1), (7, .int y_3), (8, .int y_5)]) hx hb dX8_comeNear_93 hl (k := 8) rfl (by rw [ey_25]; rfl) (by decide) rfl (fun ls hl => ?_)
          refine lv_goto (tgt := 40) hx hb dX8_comeNear_96 (by decide) ?_
          exact ih_40 y_25 u9_18 l9_19 p9_20 (by omega) (by omega) (by intro k a9 b9; rcases (show k < k9.toInt ∨ k = k9.toInt by omega) with z | z <;> first | exact hNO k a9 z | (rw [z, ← eU, ← m3]; omega)) (by omega) H _ (hP.part [0, 1, 2, 3] rfl) (hD.part [0, 1, 2, 3] (by decide) rfl) hS ls (lv_sub hl [1, 2, 3, 4, 5, 6, 7, 8, 0] rfl)
        · have t_88 := mt (fa_le64 _ _).mpr (mt (lg_cmp_ge _ _).mpr c_88)
          refine lv_iconst (v := 1) hx hb dX8_comeNear_91 (by decide) ?_
          have hP9 := hP.part (cx := [(h0, .inr (8, [.ref n0, .ref s0, .ref s1, .ref d0, .ref o0, .int dn, .int nn, .int la, .int ne, .int wi, .ref w0, .ref e0, .ref f0, .ref t0, .ref b0, .int lm])), (w0, .inr (7, [.long u9_18, .long l9_19, .long p9_20])), (h1, .inr (6, [.ref x1, .int fi1, .int pl1, .int db1, .int go1])), (x1, .inl (cI, 36, .inl g1))]) [0, 1, 2, 3] rfl
          have hD9 := hD.part (cx := [(h0, .inr (8, [.ref n0, .ref s0, .ref s1, .ref d0, .ref o0, .int dn, .int nn, .int la, .int ne, .int wi, .ref w0, .ref e0, .ref f0, .ref t0, .ref b0, .int lm])), (w0, .inr (7, [.long u9_18, .long l9_19, .long p9_20])), (h1, .inr (6, [.ref x1, .int fi1, .int pl1, .int db1, .int go1])), (x1, .inl (cI, 36, .inl g1))]) [0, 1, 2, 3] (by decide) rfl
          have hK9 := hK.sub (tys' := [(cI, .int)]) [0] rfl
          refine W.widen (k := 0) (n := 0) (by omega) (by omega) ?_
          exact W.zret (v := 1) hx hb hr rfl (fun t ht hW => ⟨⟨_, (), rfl, (Or.inl ⟨rfl, me_mk hA9 hB9 (k := k9.toInt) (by omega) (by omega) (by rw [← eU, ← m3]; omega)⟩), u9_18, l9_19, p9_20, by rw [ht]; exact hP9, va_K.moved hW.alike hK9, hD9⟩, hS.F ht⟩) hS.2.2 dX8_comeNear_92
def wk_X8_meetsAnyPE : List Cond := .code yX8_meetsAny cX8_meetsAny 8 (some .boolean) :: (([.fieldLink RX8 12 "MeetingsAbove" "now" "LMeetingsAbove$Catalogue;", .fieldLink RX8 88 "MeetingsAbove$Catalogue" "size" "I", .fieldLink RX8 373 "MeetingsAbove" "lastMet" "I"] : List Cond) ++ (wsX80 ++ (wsX10 ++ ((wsV RX8 103 RX1 yX1_find wk_X1_find) ++ ((va_wsS RX8 350 yX8_isOtherThere wk_X8_isOtherThere_n) ++ ((va_wsS RX8 350 yX8_isOtherThere wk_X8_isOtherThere_r) ++ ((wsV RX8 347 RX8 yX8_comeNear wk_X8_comeNearPE) ++ ([]))))))))
theorem in_X8_meetsAnyPE_X1 : ∀ w ∈ wsX10, w ∈ wk_X8_meetsAnyPE := fun _ h => List.mem_cons_of_mem _ (List.mem_append_right _ (List.mem_append_right _ (List.mem_append_left _ h)))
theorem in_X8_meetsAnyPE_X8 : ∀ w ∈ wsX80, w ∈ wk_X8_meetsAnyPE := fun _ h => List.mem_cons_of_mem _ (List.mem_append_right _ (List.mem_append_left _ h))
theorem gw_X8_meetsAnyPE : AG wk_X8_meetsAnyPE := AG_ca (AG_l (by decide +kernel)) (AG_app ag_X8 (AG_app ag_X1 (AG_app (AG_V gw_X1_find) (AG_app (AG_S gw_X8_isOtherThere_n) (AG_app (AG_S gw_X8_isOtherThere_r) (AG_app (AG_V gw_X8_comeNearPE) (AG_nil)))))))
theorem g_X8_meetsAnyPE__X1_find_103 : GoodIn wk_X8_meetsAnyPE (wsV RX8 103 RX1 yX1_find wk_X1_find) := goodIn_m (fun _ h => List.mem_cons_of_mem _ (List.mem_append_right _ (List.mem_append_right _ (List.mem_append_right _ (List.mem_append_left _ h))))) (AG_V gw_X1_find)
theorem g_X8_meetsAnyPE__X8_isOtherThere_n_350 : GoodIn wk_X8_meetsAnyPE (va_wsS RX8 350 yX8_isOtherThere wk_X8_isOtherThere_n) := goodIn_m (fun _ h => List.mem_cons_of_mem _ (List.mem_append_right _ (List.mem_append_right _ (List.mem_append_right _ (List.mem_append_right _ (List.mem_append_left _ h)))))) (AG_S gw_X8_isOtherThere_n)
theorem g_X8_meetsAnyPE__X8_isOtherThere_r_350 : GoodIn wk_X8_meetsAnyPE (va_wsS RX8 350 yX8_isOtherThere wk_X8_isOtherThere_r) := goodIn_m (fun _ h => List.mem_cons_of_mem _ (List.mem_append_right _ (List.mem_append_right _ (List.mem_append_right _ (List.mem_append_right _ (List.mem_append_right _ (List.mem_append_left _ h))))))) (AG_S gw_X8_isOtherThere_r)
theorem g_X8_meetsAnyPE__X8_comeNearPE_347 : GoodIn wk_X8_meetsAnyPE (wsV RX8 347 RX8 yX8_comeNear wk_X8_comeNearPE) := goodIn_m (fun _ h => List.mem_cons_of_mem _ (List.mem_append_right _ (List.mem_append_right _ (List.mem_append_right _ (List.mem_append_right _ (List.mem_append_right _ (List.mem_append_right _ (List.mem_append_left _ h)))))))) (AG_V gw_X8_comeNearPE)
set_option maxHeartbeats 4000000 in
set_option maxRecDepth 100000 in
theorem c_X8_meetsAnyPE (l : Launch) (dC : Nat → ClassId) (dI : Nat → Nat → Nat) (h0 : Nat) (n0 : Nat) (s0 : Nat) (s1 : Nat) (d0 : Nat) (o0 : Nat) (w0 : Nat) (e0 : Nat) (f0 : Nat) (t0 : Nat) (b0 : Nat) (dn : Int32) (nn : Int32) (la : Int32) (ne : Int32) (wi : Int32) (lm : Int32) (na : Nat) (cT : ClassId) (sz9 : Int32) (ga : Nat → Option Nat) (cI : ClassId) (L : List Nat) (f : Nat → va_E) (ow : Nat → Nat) (v : Nat → TV) (wu : Int64) (wl : Int64) (wp : Int64) (h1 : Nat) (x1 : Nat) (fi1 : Int32) (pl1 : Int32) (db1 : Int32) (go1 : Int32) (g1 : Nat → Int32) (p1 : Int32) (p3 : Int32) (p4 : Int32) (sz : Nat) (hV : nowV L f cI ow sz9 ga v) (hL1 : h1 ∈ L) (hX1 : x1 ∈ L) (hf1 : f h1 = .inr (6, [.ref x1, .int fi1, .int pl1, .int db1, .int go1])) (hg1 : f x1 = .inl (cI, 36, .inl g1)) (ht1 : tOK fi1 pl1) (hco1 : cOK pl1 g1) (hne0 : 0 ≤ ne.toInt) (hne1 : ne.toInt ≤ 3000) : Met l yX8_meetsAny wk_X8_meetsAnyPE ({ frames := 3, cells := 0, slots := 0, locals := 87 }) (va_Pc [.ref h0, .int p1, .ref h1, .int p3, .int p4] (fun U => U.heap.size = sz ∧ va_P (dC, dI) vwCl (([(h0, .inr (8, [.ref n0, .ref s0, .ref s1, .ref d0, .ref o0, .int dn, .int nn, .int la, .int ne, .int wi, .ref w0, .ref e0, .ref f0, .ref t0, .ref b0, .int lm])), (n0, .inr (1, [.ref na, .int sz9])), (na, .inl (cT, 16, .inr (.inr (.inr (.inr ga))))), (w0, .inr (7, [.long wu, .long wl, .long wp]))] : va_W) ++ va_pl L f) U.heap ∧ va_K (dC, dI) vwCl [(cT, .object "MeetingsAbove$Thing"), (cI, .int)] U ∧ va_D (fun _ => True) (([(h0, .inr (8, [.ref n0, .ref s0, .ref s1, .ref d0, .ref o0, .int dn, .int nn, .int la, .int ne, .int wi, .ref w0, .ref e0, .ref f0, .ref t0, .ref b0, .int lm])), (n0, .inr (1, [.ref na, .int sz9])), (na, .inl (cT, 16, .inr (.inr (.inr (.inr ga))))), (w0, .inr (7, [.long wu, .long wl, .long wp]))] : va_W) ++ va_pl L f))) (va_Qi (fun (r : Int32) (_ : Unit) => (r = 1 ∧ anyM (fi1, pl1, db1, go1, g1) v sz9.toInt.toNat p1.toInt p3.toInt p4.toInt ne.toInt) ∨ (r = 0 ∧ ¬ anyM (fi1, pl1, db1, go1, g1) v sz9.toInt.toNat p1.toInt p3.toInt p4.toInt ne.toInt)) (fun (_ : Unit) (t : State) => ∃ (wu9 : Int64) (wl9 : Int64) (wp9 : Int64) (lm9 : Int32), va_P (dC, dI) vwCl (([(h0, .inr (8, [.ref n0, .ref s0, .ref s1, .ref d0, .ref o0, .int dn, .int nn, .int la, .int ne, .int wi, .ref w0, .ref e0, .ref f0, .ref t0, .ref b0, .int lm9])), (n0, .inr (1, [.ref na, .int sz9])), (na, .inl (cT, 16, .inr (.inr (.inr (.inr ga))))), (w0, .inr (7, [.long wu9, .long wl9, .long wp9]))] : va_W) ++ va_pl L f) t.heap ∧ va_K (dC, dI) vwCl [(cT, .object "MeetingsAbove$Thing"), (cI, .int)] t ∧ va_D (va_A (([(h0, .inr (8, [.ref n0, .ref s0, .ref s1, .ref d0, .ref o0, .int dn, .int nn, .int la, .int ne, .int wi, .ref w0, .ref e0, .ref f0, .ref t0, .ref b0, .int lm])), (n0, .inr (1, [.ref na, .int sz9])), (na, .inl (cT, 16, .inr (.inr (.inr (.inr ga))))), (w0, .inr (7, [.long wu, .long wl, .long wp]))] : va_W) ++ va_pl L f) sz) (([(h0, .inr (8, [.ref n0, .ref s0, .ref s1, .ref d0, .ref o0, .int dn, .int nn, .int la, .int ne, .int wi, .ref w0, .ref e0, .ref f0, .ref t0, .ref b0, .int lm9])), (n0, .inr (1, [.ref na, .int sz9])), (na, .inl (cT, 16, .inr (.inr (.inr (.inr ga))))), (w0, .inr (7, [.long wu9, .long wl9, .long wp9]))] : va_W) ++ va_pl L f)) (va_A (([(h0, .inr (8, [.ref n0, .ref s0, .ref s1, .ref d0, .ref o0, .int dn, .int nn, .int la, .int ne, .int wi, .ref w0, .ref e0, .ref f0, .ref t0, .ref b0, .int lm])), (n0, .inr (1, [.ref na, .int sz9])), (na, .inl (cT, 16, .inr (.inr (.inr (.inr ga))))), (w0, .inr (7, [.long wu, .long wl, .long wp]))] : va_W) ++ va_pl L f) sz)) 0 0 (va_A (([(h0, .inr (8, [.ref n0, .ref s0, .ref s1, .ref d0, .ref o0, .int dn, .int nn, .int la, .int ne, .int wi, .ref w0, .ref e0, .ref f0, .ref t0, .ref b0, .int lm])), (n0, .inr (1, [.ref na, .int sz9])), (na, .inl (cT, 16, .inr (.inr (.inr (.inr ga))))), (w0, .inr (7, [.long wu, .long wl, .long wp]))] : va_W) ++ va_pl L f) sz) := by
  refine Met.ofW (cc := cX8_meetsAny) (maxL := 8) (ret := (some .boolean)) (by decide) rfl ?_
  intro p e s m args below meth c s₁ B hml hv
  obtain ⟨rfl, hsz, hP, hK, hD0⟩ := hv
  have hx := B.exec
  have hb := B.bytes
  have hr := B.returns
  have hts := atoms_spec (ws := wk_X8_meetsAnyPE) B.pre
  have hown : s.vm.findClass RX8 = some m.cls := findClass_of_methodNamed B.named
  have hlocks := B.notSynchronized
  subst hsz
  have hD := hD0.self (sz := s.heap.size)
  generalize hAe : va_A (([(h0, .inr (8, [.ref n0, .ref s0, .ref s1, .ref d0, .ref o0, .int dn, .int nn, .int la, .int ne, .int wi, .ref w0, .ref e0, .ref f0, .ref t0, .ref b0, .int lm])), (n0, .inr (1, [.ref na, .int sz9])), (na, .inl (cT, 16, .inr (.inr (.inr (.inr ga))))), (w0, .inr (7, [.long wu, .long wl, .long wp]))] : va_W) ++ va_pl L f) s.heap.size = A at hD ⊢
  have hA : ∀ q : Nat, s.heap.size ≤ q → A q := fun q h => by rw [← hAe]; exact Or.inr h
  have hS : va_S A s.heap s.heap [] := va_S.rf
  have hP : va_P (dC, dI) vwCl (([(h0, .inr (8, [.ref n0, .ref s0, .ref s1, .ref d0, .ref o0, .int dn, .int nn, .int la, .int ne, .int wi, .ref w0, .ref e0, .ref f0, .ref t0, .ref b0, .int lm])), (n0, .inr (1, [.ref na, .int sz9])), (na, .inl (cT, 16, .inr (.inr (.inr (.inr ga))))), (w0, .inr (7, [.long wu, .long wl, .long wp]))] : va_W) ++ va_pl L f) s.heap := hP
  have hl := lv_entry ([.ref h0, .int p1, .ref h1, .int p3, .int p4]) (n := 8) (Nat.le_of_ble_eq_true rfl)
  rw [lg_entry_eq]
  generalize (lg_sl ([.ref h0, .int p1, .ref h1, .int p3, .int p4]) ++ List.replicate (8 - (lg_sl ([.ref h0, .int p1, .ref h1, .int p3, .int p4])).length) Slot.unset).toArray = ls at hl ⊢
  have hl : lv_has ls 8 [(0, .ref h0), (1, .int p1), (2, .ref h1), (3, .int p3), (4, .int p4)] := hl
  have kl_m1 : (-1 : Int32).toInt = -1 := by decide
  have kl_0 : (0 : Int32).toInt = 0 := by decide
  have kl_1 : (1 : Int32).toInt = 1 := by decide
  have hC := nowV_cat hV
  obtain ⟨hC0, hC1, hC2⟩ := id hC
  obtain ⟨qa1, qb1, qc1, qd1⟩ := id ht1
  refine lv_iconst (v := (-1)) hx hb dX8_meetsAny_0 (by decide) ?_
  refine lv_istore (lv' := [(5, .int (-1)), (0, .ref h0), (1, .int p1), (2, .ref h1), (3, .int p3), (4, .int p4)]) hx hb dX8_meetsAny_1 hl (by decide) rfl (fun ls hl => ?_)
  refine (show ∀ (k : Nat) (i5 : Int32) (vu : Int64) (vl : Int64) (vp : Int64) (hk0 : -1 ≤ i5.toInt) (hk1 : i5.toInt ≤ sz9.toInt) (hno : ∀ u : Nat, (u : Int) < i5.toInt → ¬ (p1.toInt ≠ ((u : Nat) : Int) ∧ (v u).2.2.2.1.toInt = 0 ∧ meP (fi1, pl1, db1, go1, g1) (v u) p3.toInt p4.toInt ne.toInt)) (hk_3 : (sz9.toInt - i5.toInt).toNat < k) (H : Heap) (locs : List Loc) (hP : va_P (dC, dI) vwCl (([(h0, .inr (8, [.ref n0, .ref s0, .ref s1, .ref d0, .ref o0, .int dn, .int nn, .int la, .int ne, .int wi, .ref w0, .ref e0, .ref f0, .ref t0, .ref b0, .int lm])), (n0, .inr (1, [.ref na, .int sz9])), (na, .inl (cT, 16, .inr (.inr (.inr (.inr ga))))), (w0, .inr (7, [.long vu, .long vl, .long vp]))] : va_W) ++ va_pl L f) H) (hD : va_D A (([(h0, .inr (8, [.ref n0, .ref s0, .ref s1, .ref d0, .ref o0, .int dn, .int nn, .int la, .int ne, .int wi, .ref w0, .ref e0, .ref f0, .ref t0, .ref b0, .int lm])), (n0, .inr (1, [.ref na, .int sz9])), (na, .inl (cT, 16, .inr (.inr (.inr (.inr ga))))), (w0, .inr (7, [.long vu, .long vl, .long vp]))] : va_W) ++ va_pl L f)) (hS : va_S A s.heap H locs) (ls : Array Slot) (hl : lv_has ls 8 [(0, .ref h0), (1, .int p1), (2, .ref h1), (3, .int p3), (4, .int p4), (5, .int i5)]), W p l e _ s m _ below meth c H locs 0 0 _ (F0 m 3 ls []) from ?_) _ (-1) wu wl wp (by omega) (by omega) (by exact fun u hu => absurd hu (by omega)) (Nat.lt_succ_self _) _ _ hP hD hS ls (lv_sub hl [1, 2, 3, 4, 5, 0] rfl)
  intro k
  induction k with
  | zero => intro i5 vu vl vp hk0 hk1 hno hk_3; exact absurd hk_3 (Nat.not_lt_zero _)
  | succ k ih_3 =>
    intro i5 vu vl vp hk0 hk1 hno hk_3 H locs hP hD hS ls hl
    refine lv_iload hx hb dX8_meetsAny_3 (lv_at hl 5 rfl) ?_
    refine lv_aload_n hx hb dX8_meetsAny_5 rfl (lv_at hl 0 rfl) ?_
    refine va_get (D := (dC, dI)) (ci := 8) (v := .ref n0) (C := RX8) (T := TX8) (N := 16) hx hb hts in_X8_meetsAnyPE_X8 hown hK hP 0 rfl rfl 0 (by decide) (hts (.fieldLink RX8 12 "MeetingsAbove" "now" "LMeetingsAbove$Catalogue;") (by decide +kernel)) (fun _ h9 => h9) rfl dX8_meetsAny_6 ?_
    refine va_get (D := (dC, dI)) (ci := 1) (v := .int sz9) (C := RX1) (T := TX1) (N := 2) hx hb hts in_X8_meetsAnyPE_X1 hown hK hP 1 rfl rfl 1 (by decide) (hts (.fieldLink RX8 88 "MeetingsAbove$Catalogue" "size" "I") (by decide +kernel)) (fun _ h9 => h9) rfl dX8_meetsAny_9 ?_
    refine lv_icmp_ge (tgt := 80) hx hb dX8_meetsAny_12 (by decide) (fun c_12 => ?_) (fun c_12 => ?_)
    · have t_12 := (fa_le _ _).mp c_12
      refine lv_iconst (v := 0) hx hb dX8_meetsAny_80 (by decide) ?_
      have hP9 := hP.part (cx := [(h0, .inr (8, [.ref n0, .ref s0, .ref s1, .ref d0, .ref o0, .int dn, .int nn, .int la, .int ne, .int wi, .ref w0, .ref e0, .ref f0, .ref t0, .ref b0, .int lm])), (n0, .inr (1, [.ref na, .int sz9])), (na, .inl (cT, 16, .inr (.inr (.inr (.inr ga))))), (w0, .inr (7, [.long vu, .long vl, .long vp]))]) [0, 1, 2, 3] rfl
      have hD9 := hD.part (cx := [(h0, .inr (8, [.ref n0, .ref s0, .ref s1, .ref d0, .ref o0, .int dn, .int nn, .int la, .int ne, .int wi, .ref w0, .ref e0, .ref f0, .ref t0, .ref b0, .int lm])), (n0, .inr (1, [.ref na, .int sz9])), (na, .inl (cT, 16, .inr (.inr (.inr (.inr ga))))), (w0, .inr (7, [.long vu, .long vl, .long vp]))]) [0, 1, 2, 3] (by decide) rfl
      have hK9 := hK.sub (tys' := [(cT, .object "MeetingsAbove$Thing"), (cI, .int)]) [0, 1] rfl
      refine W.widen (k := 0) (n := 0) (by omega) (by omega) ?_
      exact W.zret (v := 0) hx hb hr rfl (fun t ht hW => ⟨⟨_, (), rfl, (Or.inr ⟨rfl, fun z8 => by obtain ⟨u, h1, h2, h3, h4⟩ := z8; exact hno u (by omega) ⟨h2, h3, h4⟩⟩), vu, vl, vp, lm, by rw [ht]; exact hP9, va_K.moved hW.alike hK9, hD9⟩, hS.F ht⟩) hS.2.2 dX8_meetsAny_81
    · have t_12 := mt (fa_le _ _).mpr c_12
      refine lv_iload hx hb dX8_meetsAny_15 (lv_at hl 5 rfl) ?_
      refine lv_if_ge (tgt := 27) hx hb dX8_meetsAny_17 (by decide) (fun c_17 => ?_) (fun c_17 => ?_)
      · have t_17 := (fa_le _ _).mp c_17
        refine lv_iload hx hb dX8_meetsAny_27 (lv_at hl 5 rfl) ?_
        refine lv_istore (lv' := [(6, .int i5), (0, .ref h0), (1, .int p1), (2, .ref h1), (3, .int p3), (4, .int p4), (5, .int i5)]) hx hb dX8_meetsAny_29 hl (by decide) rfl (fun ls hl => ?_)
        refine lv_aload_n hx hb dX8_meetsAny_31 rfl (lv_at hl 1 rfl) ?_
        refine va_get (D := (dC, dI)) (ci := 8) (v := .ref n0) (C := RX8) (T := TX8) (N := 16) hx hb hts in_X8_meetsAnyPE_X8 hown hK hP 0 rfl rfl 0 (by decide) (hts (.fieldLink RX8 12 "MeetingsAbove" "now" "LMeetingsAbove$Catalogue;") (by decide +kernel)) (fun _ h9 => h9) rfl dX8_meetsAny_32 ?_
        refine lv_iload hx hb dX8_meetsAny_35 (lv_at hl 0 rfl) ?_
        have hPc := hP.sub (ws' := [(n0, .inr (1, [.ref na, .int sz9])), (na, .inl (cT, 16, .inr (.inr (.inr (.inr ga)))))]) [1, 2] rfl
        have hKc := hK.sub (tys' := [(cT, .object "MeetingsAbove$Thing")]) [0] rfl
        refine va_csq (W.runV (As := [.int i5]) (rest := []) ⟨hx, hb, hml, hown, hts⟩ (c_X1_find l dC dI n0 na cT sz9 ga i5) (cwV 1 hts g_X8_meetsAnyPE__X1_find_103 rfl rfl rfl (by decide +kernel) ⟨Nat.le_of_ble_eq_true rfl, Nat.le_of_ble_eq_true rfl⟩) ⟨fun a U g mk q => by obtain ⟨q0, qP, qK⟩ := q; exact ⟨q0, qP, va_K.moved (u := U) (U := U.calling g mk a) (Vm.Alike.refl U.vm) qK⟩, va_recv hKc hPc (ci := 1) (q0 := 0) rfl rfl, fun U hU hW => ⟨rfl, by rw [hU]; exact hPc, va_K.moved hW.alike hKc⟩⟩ rfl rfl hl.1 rfl (lv_room (Nat.le_of_ble_eq_true rfl)) dX8_meetsAny_37 ⟨Nat.le_of_ble_eq_true rfl, Nat.le_of_ble_eq_true rfl⟩) (fun r_1 hr_1 => ?_)
        try dsimp only at hr_1
        rcases r_1 with _ | w_2
        · refine W.eq (g2 := F0 m 40 ls [.null]) rfl ?_
          have hno_40 := fd_none hC hr_1
          refine lv_astoreN (lv' := [(7, .null), (6, .int i5), (0, .ref h0), (1, .int p1), (2, .ref h1), (3, .int p3), (4, .int p4), (5, .int i5)]) hx hb dX8_meetsAny_40 hl (by decide) rfl (fun ls hl => ?_)
          refine lv_iload_n hx hb dX8_meetsAny_42 rfl (lv_at hl 3 rfl) ?_
          refine lv_iload hx hb dX8_meetsAny_43 (lv_at hl 1 rfl) ?_
          refine lv_aloadN hx hb dX8_meetsAny_45 (lv_at hl 0 rfl) ?_
          refine vp_callSi (W.runS (As := [.int p1, .int i5, .null]) (rest := []) ⟨hx, hb, hml, hown, hts⟩ (c_X8_isOtherThere_n l dC dI p1 i5) (va_cwS 3 hts g_X8_meetsAnyPE__X8_isOtherThere_n_350 rfl rfl rfl (by decide +kernel) ⟨Nat.le_of_ble_eq_true rfl, Nat.le_of_ble_eq_true rfl⟩) ⟨fun a U g mk q => by obtain ⟨q0, q1⟩ := q; exact ⟨q0, q1⟩, fun U hU hW => ⟨rfl, trivial⟩⟩ rfl rfl hl.1 rfl (lv_room (Nat.le_of_ble_eq_true rfl)) dX8_meetsAny_47 ⟨Nat.le_of_ble_eq_true rfl, Nat.le_of_ble_eq_true rfl⟩) (fun r_3 hr_3 => ?_)
          try dsimp only at hr_3
          subst hr_3
          refine lv_if_eq (tgt := 74) hx hb dX8_meetsAny_50 (by decide) (fun _ => ?_) (fun h9 => absurd h9 (by decide))
          have hN9 : ¬ (p1.toInt ≠ ((i5.toInt.toNat : Nat) : Int) ∧ (v i5.toInt.toNat).2.2.2.1.toInt = 0 ∧ meP (fi1, pl1, db1, go1, g1) (v i5.toInt.toNat) p3.toInt p4.toInt ne.toInt) := fun z9 => by first | (exfalso; omega) | (have z1 := z9.1; omega) | (have z1 := z9.1; have z2 := z9.2.1; have z3 : (v i5.toNatClampNeg).2.2.2.1.toInt = 0 := z2; rw [hv_w_2] at z3; have z4 : go_w_2.toInt = 0 := z3; omega) | (have z1 : meP _ (v i5.toNatClampNeg) _ _ _ := z9.2.2; rw [hv_w_2] at z1; exact tv_0 hwz_none c_63 z1)
          obtain ⟨y_4, ey_4⟩ : ∃ y : Int32, y = i5 + 1 := ⟨_, rfl⟩
          have ty_4 : y_4.toInt = i5.toInt + 1 := by rw [ey_4]; have := fb_addI (x := i5) (y := 1) (by omega) (by omega); omega
          refine lv_iinc (v := y_4) (lv' := [(5, .int y_4), (7, .null), (6, .int i5), (0, .ref h0), (1, .int p1), (2, .ref h1), (3, .int p3), (4, .int p4)]) hx hb dX8_meetsAny_74 hl (k := 7) rfl (by rw [ey_4]; rfl) (by decide) rfl (fun ls hl => ?_)
          refine lv_goto (tgt := 3) hx hb dX8_meetsAny_77 (by decide) ?_
          exact ih_3 y_4 vu vl vp (by omega) (by omega) (by intro u hu; rcases (show (u : Int) < i5.toInt ∨ (u : Int) = i5.toInt by omega) with z | z <;> first | exact hno u z | (have e9 : u = i5.toInt.toNat := (by omega); subst e9; exact hN9) | (exfalso; omega)) (by omega) H _ (hP.part [0, 1, 2, 3] rfl) (hD.part [0, 1, 2, 3] (by decide) rfl) hS ls (lv_sub hl [3, 4, 5, 6, 7, 0] rfl)
        · refine W.eq (g2 := F0 m 40 ls [.ref w_2]) rfl ?_
          obtain ⟨hi_w_2, hw_w_2⟩ := fd_some hr_1
          obtain ⟨x_w_2, fi_w_2, pl_w_2, db_w_2, go_w_2, g_w_2, hL_w_2, hX_w_2, hf_w_2, hg_w_2, ht_w_2, hgo_w_2, hdb_w_2, hco_w_2, h4_w_2, hv_w_2, oa_w_2, ox_w_2, hne_w_2⟩ := nv_of hV (by rw [tc_I (by omega)]; omega) hw_w_2
          obtain ⟨q1_w_2, q2_w_2, q3_w_2, q4_w_2⟩ := id ht_w_2
          obtain ⟨d1_w_2, d2_w_2⟩ := id hdb_w_2
          obtain ⟨e1_w_2, e2_w_2⟩ := id h4_w_2
          have ni_w_2 : ((i5.toNatClampNeg : Nat) : Int) = i5.toInt := tc_I (by omega)
          have v1_w_2 : ((v i5.toNatClampNeg).1).toInt = fi_w_2.toInt := by rw [hv_w_2]
          have v2_w_2 : ((v i5.toNatClampNeg).2.1).toInt = pl_w_2.toInt := by rw [hv_w_2]
          have v4_w_2 : ((v i5.toNatClampNeg).2.2.2.1).toInt = go_w_2.toInt := by rw [hv_w_2]
          refine lv_astore (lv' := [(7, .ref w_2), (6, .int i5), (0, .ref h0), (1, .int p1), (2, .ref h1), (3, .int p3), (4, .int p4), (5, .int i5)]) hx hb dX8_meetsAny_40 hl (by decide) rfl (fun ls hl => ?_)
          refine lv_iload_n hx hb dX8_meetsAny_42 rfl (lv_at hl 3 rfl) ?_
          refine lv_iload hx hb dX8_meetsAny_43 (lv_at hl 1 rfl) ?_
          refine lv_aload hx hb dX8_meetsAny_45 (lv_at hl 0 rfl) ?_
          have hPc : va_P (dC, dI) vwCl [(w_2, .inr (6, [.ref x_w_2, .int fi_w_2, .int pl_w_2, .int db_w_2, .int go_w_2]))] H := P_cons (pl_at (X := [(h0, .inr (8, [.ref n0, .ref s0, .ref s1, .ref d0, .ref o0, .int dn, .int nn, .int la, .int ne, .int wi, .ref w0, .ref e0, .ref f0, .ref t0, .ref b0, .int lm])), (n0, .inr (1, [.ref na, .int sz9])), (na, .inl (cT, 16, .inr (.inr (.inr (.inr ga))))), (w0, .inr (7, [.long vu, .long vl, .long vp]))]) hP hL_w_2 hf_w_2) (P_nil)
          have hKc := hK.sub (tys' := []) [] rfl
          refine vp_callSi (W.runS (As := [.int p1, .int i5, .ref w_2]) (rest := []) ⟨hx, hb, hml, hown, hts⟩ (c_X8_isOtherThere_r l dC dI p1 i5 w_2 x_w_2 fi_w_2 pl_w_2 db_w_2 go_w_2) (va_cwS 3 hts g_X8_meetsAnyPE__X8_isOtherThere_r_350 rfl rfl rfl (by decide +kernel) ⟨Nat.le_of_ble_eq_true rfl, Nat.le_of_ble_eq_true rfl⟩) ⟨fun a U g mk q => by obtain ⟨q0, qP, qK⟩ := q; exact ⟨q0, qP, va_K.moved (u := U) (U := U.calling g mk a) (Vm.Alike.refl U.vm) qK⟩, fun U hU hW => ⟨rfl, by rw [hU]; exact hPc, va_K.moved hW.alike hKc⟩⟩ rfl rfl hl.1 rfl (lv_room (Nat.le_of_ble_eq_true rfl)) dX8_meetsAny_47 ⟨Nat.le_of_ble_eq_true rfl, Nat.le_of_ble_eq_true rfl⟩) (fun r_5 hr_5 => ?_)
          try dsimp only at hr_5
          rcases bo_split hr_5 with ⟨rfl, q_47⟩ | ⟨rfl, q_47⟩
          · refine lv_if_eq (tgt := 74) hx hb dX8_meetsAny_50 (by decide) (fun h9 => absurd h9 (by decide)) (fun _ => ?_)
            refine lv_aload_n hx hb dX8_meetsAny_53 rfl (lv_at hl 2 rfl) ?_
            refine lv_aload_n hx hb dX8_meetsAny_54 rfl (lv_at hl 4 rfl) ?_
            refine lv_aload hx hb dX8_meetsAny_55 (lv_at hl 0 rfl) ?_
            refine lv_iload_n hx hb dX8_meetsAny_57 rfl (lv_at hl 5 rfl) ?_
            refine lv_iload hx hb dX8_meetsAny_58 (lv_at hl 6 rfl) ?_
            have hPc := hP.part (cx := [(h0, .inr (8, [.ref n0, .ref s0, .ref s1, .ref d0, .ref o0, .int dn, .int nn, .int la, .int ne, .int wi, .ref w0, .ref e0, .ref f0, .ref t0, .ref b0, .int lm])), (w0, .inr (7, [.long vu, .long vl, .long vp]))]) [0, 3] rfl
            have hKc := hK.sub (tys' := [(cI, .int)]) [1] rfl
            have hDc := hD.part (cx := [(h0, .inr (8, [.ref n0, .ref s0, .ref s1, .ref d0, .ref o0, .int dn, .int nn, .int la, .int ne, .int wi, .ref w0, .ref e0, .ref f0, .ref t0, .ref b0, .int lm])), (w0, .inr (7, [.long vu, .long vl, .long vp]))]) [0, 3] (by decide) rfl
            have hFc := va_freeP (cx := [(h0, .inr (8, [.ref n0, .ref s0, .ref s1, .ref d0, .ref o0, .int dn, .int nn, .int la, .int ne, .int wi, .ref w0, .ref e0, .ref f0, .ref t0, .ref b0, .int lm])), (w0, .inr (7, [.long vu, .long vl, .long vp]))]) hD hS hA [0, 3] rfl
            refine va_calli (va_runV (As := [.ref h1, .ref w_2, .int p3, .int p4]) (rest := []) ⟨hx, hb, hml, hown, hts⟩ (c_X8_comeNearPE l dC dI h0 n0 s0 s1 d0 o0 w0 e0 f0 t0 b0 dn nn la ne wi lm vu vl vp h1 x1 fi1 pl1 db1 go1 g1 w_2 x_w_2 fi_w_2 pl_w_2 db_w_2 go_w_2 g_w_2 cI L f p3 p4 H.size (by first | assumption | omega) (by first | assumption | omega) (by first | assumption | omega) (by first | assumption | omega) (by first | assumption | omega) (by first | assumption | omega) (by first | assumption | omega) (by first | assumption | omega) (by first | assumption | omega) (by first | assumption | omega) (by first | assumption | omega) (by first | assumption | omega) (by first | omega | assumption) (by first | omega | assumption)) (cwV 4 hts g_X8_meetsAnyPE__X8_comeNearPE_347 rfl rfl rfl (by decide +kernel) ⟨Nat.le_of_ble_eq_true rfl, Nat.le_of_ble_eq_true rfl⟩) ⟨fun a U g mk q => by obtain ⟨q0, q1, qP, qK, qD⟩ := q; exact ⟨q0, q1, qP, va_K.moved (u := U) (U := U.calling g mk a) (Vm.Alike.refl U.vm) qK, qD⟩, va_recv hKc hPc (ci := 8) (q0 := 0) rfl rfl, fun U hU hW => ⟨rfl, by rw [hU], by rw [hU]; exact hPc, va_K.moved hW.alike hKc, hDc.weaken (fun _ _ _ _ => trivial)⟩⟩ rfl rfl hl.1 rfl (lv_room (Nat.le_of_ble_eq_true rfl)) dX8_meetsAny_60 ⟨Nat.le_of_ble_eq_true rfl, Nat.le_of_ble_eq_true rfl⟩) hS (fun q _ h => hFc q h) hFc (fun r_7 u_6 t H1 locs ht hvm hw_7 hB hz1 hk1 hS => ?_)
            obtain ⟨wu9_8, wl9_9, wp9_10, hP1, hK1, hD1⟩ := hB
            rw [ht] at hP1
            have hK1 := va_K.moved hvm.symm hK1
            obtain ⟨hP, hD⟩ := va_joinP (wr := [(n0, .inr (1, [.ref na, .int sz9])), (na, .inl (cT, 16, .inr (.inr (.inr (.inr ga)))))]) (rx := [(h0, .inr (8, [.ref n0, .ref s0, .ref s1, .ref d0, .ref o0, .int dn, .int nn, .int la, .int ne, .int wi, .ref w0, .ref e0, .ref f0, .ref t0, .ref b0, .int lm])), (w0, .inr (7, [.long wu9_8, .long wl9_9, .long wp9_10]))]) hP hD [0, 3] [1, 2] rfl rfl (by decide) (by decide) hk1 hFc hP1 hD1
            have hK := (hK.sub (tys' := [(cT, .object "MeetingsAbove$Thing"), (cI, .int)]) [0, 1] rfl).app hK1
            generalize H1 = H at hP hS ⊢
            have hP : va_P (dC, dI) vwCl (([(n0, .inr (1, [.ref na, .int sz9])), (na, .inl (cT, 16, .inr (.inr (.inr (.inr ga))))), (h0, .inr (8, [.ref n0, .ref s0, .ref s1, .ref d0, .ref o0, .int dn, .int nn, .int la, .int ne, .int wi, .ref w0, .ref e0, .ref f0, .ref t0, .ref b0, .int lm])), (w0, .inr (7, [.long wu9_8, .long wl9_9, .long wp9_10]))] : va_W) ++ va_pl L f) H := hP
            have hD : va_D A (([(n0, .inr (1, [.ref na, .int sz9])), (na, .inl (cT, 16, .inr (.inr (.inr (.inr ga))))), (h0, .inr (8, [.ref n0, .ref s0, .ref s1, .ref d0, .ref o0, .int dn, .int nn, .int la, .int ne, .int wi, .ref w0, .ref e0, .ref f0, .ref t0, .ref b0, .int lm])), (w0, .inr (7, [.long wu9_8, .long wl9_9, .long wp9_10]))] : va_W) ++ va_pl L f) := hD
            have hK : va_K (dC, dI) vwCl [(cT, .object "MeetingsAbove$Thing"), (cI, .int)] s := hK
            refine W.widen (k := 0) (n := 0) (by omega) (by omega) ?_
            try dsimp only at hw_7
            refine lv_if_eq (tgt := 74) hx hb dX8_meetsAny_63 (by decide) (fun c_63 => ?_) (fun c_63 => ?_)
            · have t_63 := (fa_eq _ _).mp c_63
              have hN9 : ¬ (p1.toInt ≠ ((i5.toInt.toNat : Nat) : Int) ∧ (v i5.toInt.toNat).2.2.2.1.toInt = 0 ∧ meP (fi1, pl1, db1, go1, g1) (v i5.toInt.toNat) p3.toInt p4.toInt ne.toInt) := fun z9 => by first | (exfalso; omega) | (have z1 := z9.1; omega) | (have z1 := z9.1; have z2 := z9.2.1; have z3 : (v i5.toNatClampNeg).2.2.2.1.toInt = 0 := z2; rw [hv_w_2] at z3; have z4 : go_w_2.toInt = 0 := z3; omega) | (have z1 : meP _ (v i5.toNatClampNeg) _ _ _ := z9.2.2; rw [hv_w_2] at z1; exact tv_0 hw_7 c_63 z1)
              obtain ⟨y_11, ey_11⟩ : ∃ y : Int32, y = i5 + 1 := ⟨_, rfl⟩
              have ty_11 : y_11.toInt = i5.toInt + 1 := by rw [ey_11]; have := fb_addI (x := i5) (y := 1) (by omega) (by omega); omega
              refine lv_iinc (v := y_11) (lv' := [(5, .int y_11), (7, .ref w_2), (6, .int i5), (0, .ref h0), (1, .int p1), (2, .ref h1), (3, .int p3), (4, .int p4)]) hx hb dX8_meetsAny_74 hl (k := 7) rfl (by rw [ey_11]; rfl) (by decide) rfl (fun ls hl => ?_)
              refine lv_goto (tgt := 3) hx hb dX8_meetsAny_77 (by decide) ?_
              exact ih_3 y_11 wu9_8 wl9_9 wp9_10 (by omega) (by omega) (by intro u hu; rcases (show (u : Int) < i5.toInt ∨ (u : Int) = i5.toInt by omega) with z | z <;> first | exact hno u z | (have e9 : u = i5.toInt.toNat := (by omega); subst e9; exact hN9) | (exfalso; omega)) (by omega) H _ (hP.part [2, 0, 1, 3] rfl) (hD.part [2, 0, 1, 3] (by decide) rfl) hS ls (lv_sub hl [3, 4, 5, 6, 7, 0] rfl)
            · have t_63 := mt (fa_eq _ _).mpr c_63
              refine lv_aload_n hx hb dX8_meetsAny_66 rfl (lv_at hl 2 rfl) ?_
              refine lv_iload hx hb dX8_meetsAny_67 (lv_at hl 1 rfl) ?_
              refine va_put (D := (dC, dI)) (ci := 8) (v := .int i5) (ty := .int) (C := RX8) (T := TX8) (N := 16) hx hb hts in_X8_meetsAnyPE_X8 tyX8 tyX8_ok nmX8 hown hK hP hD hS 2 rfl rfl 15 (by decide) (hts (.fieldLink RX8 373 "MeetingsAbove" "lastMet" "I") (by decide +kernel)) (fun _ h9 => h9) rfl (by decide +kernel) rfl rfl (Nat.le_of_ble_eq_true rfl) dX8_meetsAny_69 (fun H locs hP hD hS => ?_)
              have hP : va_P (dC, dI) vwCl (([(n0, .inr (1, [.ref na, .int sz9])), (na, .inl (cT, 16, .inr (.inr (.inr (.inr ga))))), (h0, .inr (8, [.ref n0, .ref s0, .ref s1, .ref d0, .ref o0, .int dn, .int nn, .int la, .int ne, .int wi, .ref w0, .ref e0, .ref f0, .ref t0, .ref b0, .int i5])), (w0, .inr (7, [.long wu9_8, .long wl9_9, .long wp9_10]))] : va_W) ++ va_pl L f) H := hP
              have hD : va_D A (([(n0, .inr (1, [.ref na, .int sz9])), (na, .inl (cT, 16, .inr (.inr (.inr (.inr ga))))), (h0, .inr (8, [.ref n0, .ref s0, .ref s1, .ref d0, .ref o0, .int dn, .int nn, .int la, .int ne, .int wi, .ref w0, .ref e0, .ref f0, .ref t0, .ref b0, .int i5])), (w0, .inr (7, [.long wu9_8, .long wl9_9, .long wp9_10]))] : va_W) ++ va_pl L f) := hD
              refine lv_iconst (v := 1) hx hb dX8_meetsAny_72 (by decide) ?_
              have hP9 := hP.part (cx := [(h0, .inr (8, [.ref n0, .ref s0, .ref s1, .ref d0, .ref o0, .int dn, .int nn, .int la, .int ne, .int wi, .ref w0, .ref e0, .ref f0, .ref t0, .ref b0, .int i5])), (n0, .inr (1, [.ref na, .int sz9])), (na, .inl (cT, 16, .inr (.inr (.inr (.inr ga))))), (w0, .inr (7, [.long wu9_8, .long wl9_9, .long wp9_10]))]) [2, 0, 1, 3] rfl
              have hD9 := hD.part (cx := [(h0, .inr (8, [.ref n0, .ref s0, .ref s1, .ref d0, .ref o0, .int dn, .int nn, .int la, .int ne, .int wi, .ref w0, .ref e0, .ref f0, .ref t0, .ref b0, .int i5])), (n0, .inr (1, [.ref na, .int sz9])), (na, .inl (cT, 16, .inr (.inr (.inr (.inr ga))))), (w0, .inr (7, [.long wu9_8, .long wl9_9, .long wp9_10]))]) [2, 0, 1, 3] (by decide) rfl
              have hK9 := hK.sub (tys' := [(cT, .object "MeetingsAbove$Thing"), (cI, .int)]) [0, 1] rfl
              refine W.widen (k := 0) (n := 0) (by omega) (by omega) ?_
              exact W.zret (v := 1) hx hb hr rfl (fun t ht hW => ⟨⟨_, (), rfl, (Or.inl ⟨rfl, i5.toNatClampNeg, by omega, by omega, by rw [hv_w_2]; exact (by omega : go_w_2.toInt = 0), by rw [hv_w_2]; exact tv_1 hw_7 c_63⟩), wu9_8, wl9_9, wp9_10, i5, by rw [ht]; exact hP9, va_K.moved hW.alike hK9, hD9⟩, hS.F ht⟩) hS.2.2 dX8_meetsAny_73
          · refine lv_if_eq (tgt := 74) hx hb dX8_meetsAny_50 (by decide) (fun _ => ?_) (fun h9 => absurd h9 (by decide))
            have hN9 : ¬ (p1.toInt ≠ ((i5.toInt.toNat : Nat) : Int) ∧ (v i5.toInt.toNat).2.2.2.1.toInt = 0 ∧ meP (fi1, pl1, db1, go1, g1) (v i5.toInt.toNat) p3.toInt p4.toInt ne.toInt) := fun z9 => by first | (exfalso; omega) | (have z1 := z9.1; omega) | (have z1 := z9.1; have z2 := z9.2.1; have z3 : (v i5.toNatClampNeg).2.2.2.1.toInt = 0 := z2; rw [hv_w_2] at z3; have z4 : go_w_2.toInt = 0 := z3; omega) | (have z1 : meP _ (v i5.toNatClampNeg) _ _ _ := z9.2.2; rw [hv_w_2] at z1; exact tv_0 hw_7 c_63 z1)
            obtain ⟨y_12, ey_12⟩ : ∃ y : Int32, y = i5 + 1 := ⟨_, rfl⟩
            have ty_12 : y_12.toInt = i5.toInt + 1 := by rw [ey_12]; have := fb_addI (x := i5) (y := 1) (by omega) (by omega); omega
            refine lv_iinc (v := y_12) (lv' := [(5, .int y_12), (7, .ref w_2), (6, .int i5), (0, .ref h0), (1, .int p1), (2, .ref h1), (3, .int p3), (4, .int p4)]) hx hb dX8_meetsAny_74 hl (k := 7) rfl (by rw [ey_12]; rfl) (by decide) rfl (fun ls hl => ?_)
            refine lv_goto (tgt := 3) hx hb dX8_meetsAny_77 (by decide) ?_
            exact ih_3 y_12 vu vl vp (by omega) (by omega) (by intro u hu; rcases (show (u : Int) < i5.toInt ∨ (u : Int) = i5.toInt by omega) with z | z <;> first | exact hno u z | (have e9 : u = i5.toInt.toNat := (by omega); subst e9; exact hN9) | (exfalso; omega)) (by omega) H _ (hP.part [0, 1, 2, 3] rfl) (hD.part [0, 1, 2, 3] (by decide) rfl) hS ls (lv_sub hl [3, 4, 5, 6, 7, 0] rfl)
      · have t_17 := mt (fa_le _ _).mpr c_17
        refine lv_aload_n hx hb dX8_meetsAny_20 rfl (lv_at hl 0 rfl) ?_
        refine va_get (D := (dC, dI)) (ci := 8) (v := .int lm) (C := RX8) (T := TX8) (N := 16) hx hb hts in_X8_meetsAnyPE_X8 hown hK hP 0 rfl rfl 15 (by decide) (hts (.fieldLink RX8 373 "MeetingsAbove" "lastMet" "I") (by decide +kernel)) (fun _ h9 => h9) rfl dX8_meetsAny_21 ?_
        refine lv_goto (tgt := 29) hx hb dX8_meetsAny_24 (by decide) ?_
        refine lv_istore (lv' := [(6, .int lm), (0, .ref h0), (1, .int p1), (2, .ref h1), (3, .int p3), (4, .int p4), (5, .int i5)]) hx hb dX8_meetsAny_29 hl (by decide) rfl (fun ls hl => ?_)
        refine lv_aload_n hx hb dX8_meetsAny_31 rfl (lv_at hl 1 rfl) ?_
        refine va_get (D := (dC, dI)) (ci := 8) (v := .ref n0) (C := RX8) (T := TX8) (N := 16) hx hb hts in_X8_meetsAnyPE_X8 hown hK hP 0 rfl rfl 0 (by decide) (hts (.fieldLink RX8 12 "MeetingsAbove" "now" "LMeetingsAbove$Catalogue;") (by decide +kernel)) (fun _ h9 => h9) rfl dX8_meetsAny_32 ?_
        refine lv_iload hx hb dX8_meetsAny_35 (lv_at hl 0 rfl) ?_
        have hPc := hP.sub (ws' := [(n0, .inr (1, [.ref na, .int sz9])), (na, .inl (cT, 16, .inr (.inr (.inr (.inr ga)))))]) [1, 2] rfl
        have hKc := hK.sub (tys' := [(cT, .object "MeetingsAbove$Thing")]) [0] rfl
        refine va_csq (W.runV (As := [.int lm]) (rest := []) ⟨hx, hb, hml, hown, hts⟩ (c_X1_find l dC dI n0 na cT sz9 ga lm) (cwV 1 hts g_X8_meetsAnyPE__X1_find_103 rfl rfl rfl (by decide +kernel) ⟨Nat.le_of_ble_eq_true rfl, Nat.le_of_ble_eq_true rfl⟩) ⟨fun a U g mk q => by obtain ⟨q0, qP, qK⟩ := q; exact ⟨q0, qP, va_K.moved (u := U) (U := U.calling g mk a) (Vm.Alike.refl U.vm) qK⟩, va_recv hKc hPc (ci := 1) (q0 := 0) rfl rfl, fun U hU hW => ⟨rfl, by rw [hU]; exact hPc, va_K.moved hW.alike hKc⟩⟩ rfl rfl hl.1 rfl (lv_room (Nat.le_of_ble_eq_true rfl)) dX8_meetsAny_37 ⟨Nat.le_of_ble_eq_true rfl, Nat.le_of_ble_eq_true rfl⟩) (fun r_13 hr_13 => ?_)
        try dsimp only at hr_13
        rcases r_13 with _ | w_14
        · refine W.eq (g2 := F0 m 40 ls [.null]) rfl ?_
          have hno_40 := fd_none hC hr_13
          refine lv_astoreN (lv' := [(7, .null), (6, .int lm), (0, .ref h0), (1, .int p1), (2, .ref h1), (3, .int p3), (4, .int p4), (5, .int i5)]) hx hb dX8_meetsAny_40 hl (by decide) rfl (fun ls hl => ?_)
          refine lv_iload_n hx hb dX8_meetsAny_42 rfl (lv_at hl 3 rfl) ?_
          refine lv_iload hx hb dX8_meetsAny_43 (lv_at hl 1 rfl) ?_
          refine lv_aloadN hx hb dX8_meetsAny_45 (lv_at hl 0 rfl) ?_
          refine vp_callSi (W.runS (As := [.int p1, .int lm, .null]) (rest := []) ⟨hx, hb, hml, hown, hts⟩ (c_X8_isOtherThere_n l dC dI p1 lm) (va_cwS 3 hts g_X8_meetsAnyPE__X8_isOtherThere_n_350 rfl rfl rfl (by decide +kernel) ⟨Nat.le_of_ble_eq_true rfl, Nat.le_of_ble_eq_true rfl⟩) ⟨fun a U g mk q => by obtain ⟨q0, q1⟩ := q; exact ⟨q0, q1⟩, fun U hU hW => ⟨rfl, trivial⟩⟩ rfl rfl hl.1 rfl (lv_room (Nat.le_of_ble_eq_true rfl)) dX8_meetsAny_47 ⟨Nat.le_of_ble_eq_true rfl, Nat.le_of_ble_eq_true rfl⟩) (fun r_15 hr_15 => ?_)
          try dsimp only at hr_15
          subst hr_15
          refine lv_if_eq (tgt := 74) hx hb dX8_meetsAny_50 (by decide) (fun _ => ?_) (fun h9 => absurd h9 (by decide))
          obtain ⟨y_16, ey_16⟩ : ∃ y : Int32, y = i5 + 1 := ⟨_, rfl⟩
          have ty_16 : y_16.toInt = i5.toInt + 1 := by rw [ey_16]; have := fb_addI (x := i5) (y := 1) (by omega) (by omega); omega
          refine lv_iinc (v := y_16) (lv' := [(5, .int y_16), (7, .null), (6, .int lm), (0, .ref h0), (1, .int p1), (2, .ref h1), (3, .int p3), (4, .int p4)]) hx hb dX8_meetsAny_74 hl (k := 7) rfl (by rw [ey_16]; rfl) (by decide) rfl (fun ls hl => ?_)
          refine lv_goto (tgt := 3) hx hb dX8_meetsAny_77 (by decide) ?_
          exact ih_3 y_16 vu vl vp (by omega) (by omega) (by intro u hu; rcases (show (u : Int) < i5.toInt ∨ (u : Int) = i5.toInt by omega) with z | z <;> first | exact hno u z | (have e9 : u = i5.toInt.toNat := (by omega); subst e9; exact hN9) | (exfalso; omega)) (by omega) H _ (hP.part [0, 1, 2, 3] rfl) (hD.part [0, 1, 2, 3] (by decide) rfl) hS ls (lv_sub hl [3, 4, 5, 6, 7, 0] rfl)
        · refine W.eq (g2 := F0 m 40 ls [.ref w_14]) rfl ?_
          obtain ⟨hi_w_14, hw_w_14⟩ := fd_some hr_13
          obtain ⟨x_w_14, fi_w_14, pl_w_14, db_w_14, go_w_14, g_w_14, hL_w_14, hX_w_14, hf_w_14, hg_w_14, ht_w_14, hgo_w_14, hdb_w_14, hco_w_14, h4_w_14, hv_w_14, oa_w_14, ox_w_14, hne_w_14⟩ := nv_of hV (by rw [tc_I (by omega)]; omega) hw_w_14
          obtain ⟨q1_w_14, q2_w_14, q3_w_14, q4_w_14⟩ := id ht_w_14
          obtain ⟨d1_w_14, d2_w_14⟩ := id hdb_w_14
          obtain ⟨e1_w_14, e2_w_14⟩ := id h4_w_14
          have ni_w_14 : ((lm.toNatClampNeg : Nat) : Int) = lm.toInt := tc_I (by omega)
          have v1_w_14 : ((v lm.toNatClampNeg).1).toInt = fi_w_14.toInt := by rw [hv_w_14]
          have v2_w_14 : ((v lm.toNatClampNeg).2.1).toInt = pl_w_14.toInt := by rw [hv_w_14]
          have v4_w_14 : ((v lm.toNatClampNeg).2.2.2.1).toInt = go_w_14.toInt := by rw [hv_w_14]
          refine lv_astore (lv' := [(7, .ref w_14), (6, .int lm), (0, .ref h0), (1, .int p1), (2, .ref h1), (3, .int p3), (4, .int p4), (5, .int i5)]) hx hb dX8_meetsAny_40 hl (by decide) rfl (fun ls hl => ?_)
          refine lv_iload_n hx hb dX8_meetsAny_42 rfl (lv_at hl 3 rfl) ?_
          refine lv_iload hx hb dX8_meetsAny_43 (lv_at hl 1 rfl) ?_
          refine lv_aload hx hb dX8_meetsAny_45 (lv_at hl 0 rfl) ?_
          have hPc : va_P (dC, dI) vwCl [(w_14, .inr (6, [.ref x_w_14, .int fi_w_14, .int pl_w_14, .int db_w_14, .int go_w_14]))] H := P_cons (pl_at (X := [(h0, .inr (8, [.ref n0, .ref s0, .ref s1, .ref d0, .ref o0, .int dn, .int nn, .int la, .int ne, .int wi, .ref w0, .ref e0, .ref f0, .ref t0, .ref b0, .int lm])), (n0, .inr (1, [.ref na, .int sz9])), (na, .inl (cT, 16, .inr (.inr (.inr (.inr ga))))), (w0, .inr (7, [.long vu, .long vl, .long vp]))]) hP hL_w_14 hf_w_14) (P_nil)
          have hKc := hK.sub (tys' := []) [] rfl
          refine vp_callSi (W.runS (As := [.int p1, .int lm, .ref w_14]) (rest := []) ⟨hx, hb, hml, hown, hts⟩ (c_X8_isOtherThere_r l dC dI p1 lm w_14 x_w_14 fi_w_14 pl_w_14 db_w_14 go_w_14) (va_cwS 3 hts g_X8_meetsAnyPE__X8_isOtherThere_r_350 rfl rfl rfl (by decide +kernel) ⟨Nat.le_of_ble_eq_true rfl, Nat.le_of_ble_eq_true rfl⟩) ⟨fun a U g mk q => by obtain ⟨q0, qP, qK⟩ := q; exact ⟨q0, qP, va_K.moved (u := U) (U := U.calling g mk a) (Vm.Alike.refl U.vm) qK⟩, fun U hU hW => ⟨rfl, by rw [hU]; exact hPc, va_K.moved hW.alike hKc⟩⟩ rfl rfl hl.1 rfl (lv_room (Nat.le_of_ble_eq_true rfl)) dX8_meetsAny_47 ⟨Nat.le_of_ble_eq_true rfl, Nat.le_of_ble_eq_true rfl⟩) (fun r_17 hr_17 => ?_)
          try dsimp only at hr_17
          rcases bo_split hr_17 with ⟨rfl, q_47⟩ | ⟨rfl, q_47⟩
          · refine lv_if_eq (tgt := 74) hx hb dX8_meetsAny_50 (by decide) (fun h9 => absurd h9 (by decide)) (fun _ => ?_)
            refine lv_aload_n hx hb dX8_meetsAny_53 rfl (lv_at hl 2 rfl) ?_
            refine lv_aload_n hx hb dX8_meetsAny_54 rfl (lv_at hl 4 rfl) ?_
            refine lv_aload hx hb dX8_meetsAny_55 (lv_at hl 0 rfl) ?_
            refine lv_iload_n hx hb dX8_meetsAny_57 rfl (lv_at hl 5 rfl) ?_
            refine lv_iload hx hb dX8_meetsAny_58 (lv_at hl 6 rfl) ?_
            have hPc := hP.part (cx := [(h0, .inr (8, [.ref n0, .ref s0, .ref s1, .ref d0, .ref o0, .int dn, .int nn, .int la, .int ne, .int wi, .ref w0, .ref e0, .ref f0, .ref t0, .ref b0, .int lm])), (w0, .inr (7, [.long vu, .long vl, .long vp]))]) [0, 3] rfl
            have hKc := hK.sub (tys' := [(cI, .int)]) [1] rfl
            have hDc := hD.part (cx := [(h0, .inr (8, [.ref n0, .ref s0, .ref s1, .ref d0, .ref o0, .int dn, .int nn, .int la, .int ne, .int wi, .ref w0, .ref e0, .ref f0, .ref t0, .ref b0, .int lm])), (w0, .inr (7, [.long vu, .long vl, .long vp]))]) [0, 3] (by decide) rfl
            have hFc := va_freeP (cx := [(h0, .inr (8, [.ref n0, .ref s0, .ref s1, .ref d0, .ref o0, .int dn, .int nn, .int la, .int ne, .int wi, .ref w0, .ref e0, .ref f0, .ref t0, .ref b0, .int lm])), (w0, .inr (7, [.long vu, .long vl, .long vp]))]) hD hS hA [0, 3] rfl
            refine va_calli (va_runV (As := [.ref h1, .ref w_14, .int p3, .int p4]) (rest := []) ⟨hx, hb, hml, hown, hts⟩ (c_X8_comeNearPE l dC dI h0 n0 s0 s1 d0 o0 w0 e0 f0 t0 b0 dn nn la ne wi lm vu vl vp h1 x1 fi1 pl1 db1 go1 g1 w_14 x_w_14 fi_w_14 pl_w_14 db_w_14 go_w_14 g_w_14 cI L f p3 p4 H.size (by first | assumption | omega) (by first | assumption | omega) (by first | assumption | omega) (by first | assumption | omega) (by first | assumption | omega) (by first | assumption | omega) (by first | assumption | omega) (by first | assumption | omega) (by first | assumption | omega) (by first | assumption | omega) (by first | assumption | omega) (by first | assumption | omega) (by first | omega | assumption) (by first | omega | assumption)) (cwV 4 hts g_X8_meetsAnyPE__X8_comeNearPE_347 rfl rfl rfl (by decide +kernel) ⟨Nat.le_of_ble_eq_true rfl, Nat.le_of_ble_eq_true rfl⟩) ⟨fun a U g mk q => by obtain ⟨q0, q1, qP, qK, qD⟩ := q; exact ⟨q0, q1, qP, va_K.moved (u := U) (U := U.calling g mk a) (Vm.Alike.refl U.vm) qK, qD⟩, va_recv hKc hPc (ci := 8) (q0 := 0) rfl rfl, fun U hU hW => ⟨rfl, by rw [hU], by rw [hU]; exact hPc, va_K.moved hW.alike hKc, hDc.weaken (fun _ _ _ _ => trivial)⟩⟩ rfl rfl hl.1 rfl (lv_room (Nat.le_of_ble_eq_true rfl)) dX8_meetsAny_60 ⟨Nat.le_of_ble_eq_true rfl, Nat.le_of_ble_eq_true rfl⟩) hS (fun q _ h => hFc q h) hFc (fun r_19 u_18 t H1 locs ht hvm hw_19 hB hz1 hk1 hS => ?_)
            obtain ⟨wu9_20, wl9_21, wp9_22, hP1, hK1, hD1⟩ := hB
            rw [ht] at hP1
            have hK1 := va_K.moved hvm.symm hK1
            obtain ⟨hP, hD⟩ := va_joinP (wr := [(n0, .inr (1, [.ref na, .int sz9])), (na, .inl (cT, 16, .inr (.inr (.inr (.inr ga)))))]) (rx := [(h0, .inr (8, [.ref n0, .ref s0, .ref s1, .ref d0, .ref o0, .int dn, .int nn, .int la, .int ne, .int wi, .ref w0, .ref e0, .ref f0, .ref t0, .ref b0, .int lm])), (w0, .inr (7, [.long wu9_20, .long wl9_21, .long wp9_22]))]) hP hD [0, 3] [1, 2] rfl rfl (by decide) (by decide) hk1 hFc hP1 hD1
            have hK := (hK.sub (tys' := [(cT, .object "MeetingsAbove$Thing"), (cI, .int)]) [0, 1] rfl).app hK1
            generalize H1 = H at hP hS ⊢
            have hP : va_P (dC, dI) vwCl (([(n0, .inr (1, [.ref na, .int sz9])), (na, .inl (cT, 16, .inr (.inr (.inr (.inr ga))))), (h0, .inr (8, [.ref n0, .ref s0, .ref s1, .ref d0, .ref o0, .int dn, .int nn, .int la, .int ne, .int wi, .ref w0, .ref e0, .ref f0, .ref t0, .ref b0, .int lm])), (w0, .inr (7, [.long wu9_20, .long wl9_21, .long wp9_22]))] : va_W) ++ va_pl L f) H := hP
            have hD : va_D A (([(n0, .inr (1, [.ref na, .int sz9])), (na, .inl (cT, 16, .inr (.inr (.inr (.inr ga))))), (h0, .inr (8, [.ref n0, .ref s0, .ref s1, .ref d0, .ref o0, .int dn, .int nn, .int la, .int ne, .int wi, .ref w0, .ref e0, .ref f0, .ref t0, .ref b0, .int lm])), (w0, .inr (7, [.long wu9_20, .long wl9_21, .long wp9_22]))] : va_W) ++ va_pl L f) := hD
            have hK : va_K (dC, dI) vwCl [(cT, .object "MeetingsAbove$Thing"), (cI, .int)] s := hK
            refine W.widen (k := 0) (n := 0) (by omega) (by omega) ?_
            try dsimp only at hw_19
            refine lv_if_eq (tgt := 74) hx hb dX8_meetsAny_63 (by decide) (fun c_63 => ?_) (fun c_63 => ?_)
            · have t_63 := (fa_eq _ _).mp c_63
              obtain ⟨y_23, ey_23⟩ : ∃ y : Int32, y = i5 + 1 := ⟨_, rfl⟩
              have ty_23 : y_23.toInt = i5.toInt + 1 := by rw [ey_23]; have := fb_addI (x := i5) (y := 1) (by omega) (by omega); omega
              refine lv_iinc (v := y_23) (lv' := [(5, .int y_23), (7, .ref w_14), (6, .int lm), (0, .ref h0), (1, .int p1), (2, .ref h1), (3, .int p3), (4, .int p4)]) hx hb dX8_meetsAny_74 hl (k := 7) rfl (by rw [ey_23]; rfl) (by decide) rfl (fun ls hl => ?_)
              refine lv_goto (tgt := 3) hx hb dX8_meetsAny_77 (by decide) ?_
              exact ih_3 y_23 wu9_20 wl9_21 wp9_22 (by omega) (by omega) (by intro u hu; rcases (show (u : Int) < i5.toInt ∨ (u : Int) = i5.toInt by omega) with z | z <;> first | exact hno u z | (have e9 : u = i5.toInt.toNat := (by omega); subst e9; exact hN9) | (exfalso; omega)) (by omega) H _ (hP.part [2, 0, 1, 3] rfl) (hD.part [2, 0, 1, 3] (by decide) rfl) hS ls (lv_sub hl [3, 4, 5, 6, 7, 0] rfl)
            · have t_63 := mt (fa_eq _ _).mpr c_63
              refine lv_aload_n hx hb dX8_meetsAny_66 rfl (lv_at hl 2 rfl) ?_
              refine lv_iload hx hb dX8_meetsAny_67 (lv_at hl 1 rfl) ?_
              refine va_put (D := (dC, dI)) (ci := 8) (v := .int lm) (ty := .int) (C := RX8) (T := TX8) (N := 16) hx hb hts in_X8_meetsAnyPE_X8 tyX8 tyX8_ok nmX8 hown hK hP hD hS 2 rfl rfl 15 (by decide) (hts (.fieldLink RX8 373 "MeetingsAbove" "lastMet" "I") (by decide +kernel)) (fun _ h9 => h9) rfl (by decide +kernel) rfl rfl (Nat.le_of_ble_eq_true rfl) dX8_meetsAny_69 (fun H locs hP hD hS => ?_)
              have hP : va_P (dC, dI) vwCl (([(n0, .inr (1, [.ref na, .int sz9])), (na, .inl (cT, 16, .inr (.inr (.inr (.inr ga))))), (h0, .inr (8, [.ref n0, .ref s0, .ref s1, .ref d0, .ref o0, .int dn, .int nn, .int la, .int ne, .int wi, .ref w0, .ref e0, .ref f0, .ref t0, .ref b0, .int lm])), (w0, .inr (7, [.long wu9_20, .long wl9_21, .long wp9_22]))] : va_W) ++ va_pl L f) H := hP
              have hD : va_D A (([(n0, .inr (1, [.ref na, .int sz9])), (na, .inl (cT, 16, .inr (.inr (.inr (.inr ga))))), (h0, .inr (8, [.ref n0, .ref s0, .ref s1, .ref d0, .ref o0, .int dn, .int nn, .int la, .int ne, .int wi, .ref w0, .ref e0, .ref f0, .ref t0, .ref b0, .int lm])), (w0, .inr (7, [.long wu9_20, .long wl9_21, .long wp9_22]))] : va_W) ++ va_pl L f) := hD
              refine lv_iconst (v := 1) hx hb dX8_meetsAny_72 (by decide) ?_
              have hP9 := hP.part (cx := [(h0, .inr (8, [.ref n0, .ref s0, .ref s1, .ref d0, .ref o0, .int dn, .int nn, .int la, .int ne, .int wi, .ref w0, .ref e0, .ref f0, .ref t0, .ref b0, .int lm])), (n0, .inr (1, [.ref na, .int sz9])), (na, .inl (cT, 16, .inr (.inr (.inr (.inr ga))))), (w0, .inr (7, [.long wu9_20, .long wl9_21, .long wp9_22]))]) [2, 0, 1, 3] rfl
              have hD9 := hD.part (cx := [(h0, .inr (8, [.ref n0, .ref s0, .ref s1, .ref d0, .ref o0, .int dn, .int nn, .int la, .int ne, .int wi, .ref w0, .ref e0, .ref f0, .ref t0, .ref b0, .int lm])), (n0, .inr (1, [.ref na, .int sz9])), (na, .inl (cT, 16, .inr (.inr (.inr (.inr ga))))), (w0, .inr (7, [.long wu9_20, .long wl9_21, .long wp9_22]))]) [2, 0, 1, 3] (by decide) rfl
              have hK9 := hK.sub (tys' := [(cT, .object "MeetingsAbove$Thing"), (cI, .int)]) [0, 1] rfl
              refine W.widen (k := 0) (n := 0) (by omega) (by omega) ?_
              exact W.zret (v := 1) hx hb hr rfl (fun t ht hW => ⟨⟨_, (), rfl, (Or.inl ⟨rfl, lm.toNatClampNeg, by omega, by omega, by rw [hv_w_14]; exact (by omega : go_w_14.toInt = 0), by rw [hv_w_14]; exact tv_1 hw_19 c_63⟩), wu9_20, wl9_21, wp9_22, lm, by rw [ht]; exact hP9, va_K.moved hW.alike hK9, hD9⟩, hS.F ht⟩) hS.2.2 dX8_meetsAny_73
          · refine lv_if_eq (tgt := 74) hx hb dX8_meetsAny_50 (by decide) (fun _ => ?_) (fun h9 => absurd h9 (by decide))
            obtain ⟨y_24, ey_24⟩ : ∃ y : Int32, y = i5 + 1 := ⟨_, rfl⟩
            have ty_24 : y_24.toInt = i5.toInt + 1 := by rw [ey_24]; have := fb_addI (x := i5) (y := 1) (by omega) (by omega); omega
            refine lv_iinc (v := y_24) (lv' := [(5, .int y_24), (7, .ref w_14), (6, .int lm), (0, .ref h0), (1, .int p1), (2, .ref h1), (3, .int p3), (4, .int p4)]) hx hb dX8_meetsAny_74 hl (k := 7) rfl (by rw [ey_24]; rfl) (by decide) rfl (fun ls hl => ?_)
            refine lv_goto (tgt := 3) hx hb dX8_meetsAny_77 (by decide) ?_
            exact ih_3 y_24 vu vl vp (by omega) (by omega) (by intro u hu; rcases (show (u : Int) < i5.toInt ∨ (u : Int) = i5.toInt by omega) with z | z <;> first | exact hno u z | (have e9 : u = i5.toInt.toNat := (by omega); subst e9; exact hN9) | (exfalso; omega)) (by omega) H _ (hP.part [0, 1, 2, 3] rfl) (hD.part [0, 1, 2, 3] (by decide) rfl) hS ls (lv_sub hl [3, 4, 5, 6, 7, 0] rfl)
def wk_X8_meetsAnyTE : List Cond := .code yX8_meetsAny cX8_meetsAny 8 (some .boolean) :: (([.fieldLink RX8 12 "MeetingsAbove" "now" "LMeetingsAbove$Catalogue;", .fieldLink RX8 88 "MeetingsAbove$Catalogue" "size" "I", .fieldLink RX8 373 "MeetingsAbove" "lastMet" "I"] : List Cond) ++ (wsX80 ++ (wsX10 ++ ((wsV RX8 103 RX1 yX1_find wk_X1_find) ++ ((va_wsS RX8 350 yX8_isOtherThere wk_X8_isOtherThere_n) ++ ((va_wsS RX8 350 yX8_isOtherThere wk_X8_isOtherThere_r) ++ ((wsV RX8 347 RX8 yX8_comeNear wk_X8_comeNearTE) ++ ([]))))))))
theorem in_X8_meetsAnyTE_X1 : ∀ w ∈ wsX10, w ∈ wk_X8_meetsAnyTE := fun _ h => List.mem_cons_of_mem _ (List.mem_append_right _ (List.mem_append_right _ (List.mem_append_left _ h)))
theorem in_X8_meetsAnyTE_X8 : ∀ w ∈ wsX80, w ∈ wk_X8_meetsAnyTE := fun _ h => List.mem_cons_of_mem _ (List.mem_append_right _ (List.mem_append_left _ h))
theorem gw_X8_meetsAnyTE : AG wk_X8_meetsAnyTE := AG_ca (AG_l (by decide +kernel)) (AG_app ag_X8 (AG_app ag_X1 (AG_app (AG_V gw_X1_find) (AG_app (AG_S gw_X8_isOtherThere_n) (AG_app (AG_S gw_X8_isOtherThere_r) (AG_app (AG_V gw_X8_comeNearTE) (AG_nil)))))))
theorem g_X8_meetsAnyTE__X1_find_103 : GoodIn wk_X8_meetsAnyTE (wsV RX8 103 RX1 yX1_find wk_X1_find) := goodIn_m (fun _ h => List.mem_cons_of_mem _ (List.mem_append_right _ (List.mem_append_right _ (List.mem_append_right _ (List.mem_append_left _ h))))) (AG_V gw_X1_find)
theorem g_X8_meetsAnyTE__X8_isOtherThere_n_350 : GoodIn wk_X8_meetsAnyTE (va_wsS RX8 350 yX8_isOtherThere wk_X8_isOtherThere_n) := goodIn_m (fun _ h => List.mem_cons_of_mem _ (List.mem_append_right _ (List.mem_append_right _ (List.mem_append_right _ (List.mem_append_right _ (List.mem_append_left _ h)))))) (AG_S gw_X8_isOtherThere_n)
theorem g_X8_meetsAnyTE__X8_isOtherThere_r_350 : GoodIn wk_X8_meetsAnyTE (va_wsS RX8 350 yX8_isOtherThere wk_X8_isOtherThere_r) := goodIn_m (fun _ h => List.mem_cons_of_mem _ (List.mem_append_right _ (List.mem_append_right _ (List.mem_append_right _ (List.mem_append_right _ (List.mem_append_right _ (List.mem_append_left _ h))))))) (AG_S gw_X8_isOtherThere_r)
theorem g_X8_meetsAnyTE__X8_comeNearTE_347 : GoodIn wk_X8_meetsAnyTE (wsV RX8 347 RX8 yX8_comeNear wk_X8_comeNearTE) := goodIn_m (fun _ h => List.mem_cons_of_mem _ (List.mem_append_right _ (List.mem_append_right _ (List.mem_append_right _ (List.mem_append_right _ (List.mem_append_right _ (List.mem_append_right _ (List.mem_append_left _ h)))))))) (AG_V gw_X8_comeNearTE)
set_option maxHeartbeats 4000000 in
set_option maxRecDepth 100000 in
theorem c_X8_meetsAnyTE (l : Launch) (dC : Nat → ClassId) (dI : Nat → Nat → Nat) (h0 : Nat) (n0 : Nat) (s0 : Nat) (s1 : Nat) (d0 : Nat) (o0 : Nat) (w0 : Nat) (e0 : Nat) (f0 : Nat) (t0 : Nat) (b0 : Nat) (dn : Int32) (nn : Int32) (la : Int32) (ne : Int32) (wi : Int32) (lm : Int32) (na : Nat) (cT : ClassId) (sz9 : Int32) (ga : Nat → Option Nat) (cI : ClassId) (L : List Nat) (f : Nat → va_E) (ow : Nat → Nat) (v : Nat → TV) (wu : Int64) (wl : Int64) (wp : Int64) (h1 : Nat) (x1 : Nat) (fi1 : Int32) (pl1 : Int32) (db1 : Int32) (go1 : Int32) (g1 : Nat → Int32) (p1 : Int32) (p3 : Int32) (p4 : Int32) (sz : Nat) (hV : nowV L f cI ow sz9 ga v) (ht1 : tOK fi1 pl1) (hco1 : cOK pl1 g1) (hne0 : 0 ≤ ne.toInt) (hne1 : ne.toInt ≤ 3000) : Met l yX8_meetsAny wk_X8_meetsAnyTE ({ frames := 3, cells := 0, slots := 0, locals := 87 }) (va_Pc [.ref h0, .int p1, .ref h1, .int p3, .int p4] (fun U => U.heap.size = sz ∧ va_P (dC, dI) vwCl (([(h0, .inr (8, [.ref n0, .ref s0, .ref s1, .ref d0, .ref o0, .int dn, .int nn, .int la, .int ne, .int wi, .ref w0, .ref e0, .ref f0, .ref t0, .ref b0, .int lm])), (n0, .inr (1, [.ref na, .int sz9])), (na, .inl (cT, 16, .inr (.inr (.inr (.inr ga))))), (w0, .inr (7, [.long wu, .long wl, .long wp])), (h1, .inr (6, [.ref x1, .int fi1, .int pl1, .int db1, .int go1])), (x1, .inl (cI, 36, .inl g1))] : va_W) ++ va_pl L f) U.heap ∧ va_K (dC, dI) vwCl [(cT, .object "MeetingsAbove$Thing"), (cI, .int)] U ∧ va_D (fun _ => True) (([(h0, .inr (8, [.ref n0, .ref s0, .ref s1, .ref d0, .ref o0, .int dn, .int nn, .int la, .int ne, .int wi, .ref w0, .ref e0, .ref f0, .ref t0, .ref b0, .int lm])), (n0, .inr (1, [.ref na, .int sz9])), (na, .inl (cT, 16, .inr (.inr (.inr (.inr ga))))), (w0, .inr (7, [.long wu, .long wl, .long wp])), (h1, .inr (6, [.ref x1, .int fi1, .int pl1, .int db1, .int go1])), (x1, .inl (cI, 36, .inl g1))] : va_W) ++ va_pl L f))) (va_Qi (fun (r : Int32) (_ : Unit) => (r = 1 ∧ anyM (fi1, pl1, db1, go1, g1) v sz9.toInt.toNat p1.toInt p3.toInt p4.toInt ne.toInt) ∨ (r = 0 ∧ ¬ anyM (fi1, pl1, db1, go1, g1) v sz9.toInt.toNat p1.toInt p3.toInt p4.toInt ne.toInt)) (fun (_ : Unit) (t : State) => ∃ (wu9 : Int64) (wl9 : Int64) (wp9 : Int64) (lm9 : Int32), va_P (dC, dI) vwCl (([(h0, .inr (8, [.ref n0, .ref s0, .ref s1, .ref d0, .ref o0, .int dn, .int nn, .int la, .int ne, .int wi, .ref w0, .ref e0, .ref f0, .ref t0, .ref b0, .int lm9])), (n0, .inr (1, [.ref na, .int sz9])), (na, .inl (cT, 16, .inr (.inr (.inr (.inr ga))))), (w0, .inr (7, [.long wu9, .long wl9, .long wp9])), (h1, .inr (6, [.ref x1, .int fi1, .int pl1, .int db1, .int go1])), (x1, .inl (cI, 36, .inl g1))] : va_W) ++ va_pl L f) t.heap ∧ va_K (dC, dI) vwCl [(cT, .object "MeetingsAbove$Thing"), (cI, .int)] t ∧ va_D (va_A (([(h0, .inr (8, [.ref n0, .ref s0, .ref s1, .ref d0, .ref o0, .int dn, .int nn, .int la, .int ne, .int wi, .ref w0, .ref e0, .ref f0, .ref t0, .ref b0, .int lm])), (n0, .inr (1, [.ref na, .int sz9])), (na, .inl (cT, 16, .inr (.inr (.inr (.inr ga))))), (w0, .inr (7, [.long wu, .long wl, .long wp])), (h1, .inr (6, [.ref x1, .int fi1, .int pl1, .int db1, .int go1])), (x1, .inl (cI, 36, .inl g1))] : va_W) ++ va_pl L f) sz) (([(h0, .inr (8, [.ref n0, .ref s0, .ref s1, .ref d0, .ref o0, .int dn, .int nn, .int la, .int ne, .int wi, .ref w0, .ref e0, .ref f0, .ref t0, .ref b0, .int lm9])), (n0, .inr (1, [.ref na, .int sz9])), (na, .inl (cT, 16, .inr (.inr (.inr (.inr ga))))), (w0, .inr (7, [.long wu9, .long wl9, .long wp9])), (h1, .inr (6, [.ref x1, .int fi1, .int pl1, .int db1, .int go1])), (x1, .inl (cI, 36, .inl g1))] : va_W) ++ va_pl L f)) (va_A (([(h0, .inr (8, [.ref n0, .ref s0, .ref s1, .ref d0, .ref o0, .int dn, .int nn, .int la, .int ne, .int wi, .ref w0, .ref e0, .ref f0, .ref t0, .ref b0, .int lm])), (n0, .inr (1, [.ref na, .int sz9])), (na, .inl (cT, 16, .inr (.inr (.inr (.inr ga))))), (w0, .inr (7, [.long wu, .long wl, .long wp])), (h1, .inr (6, [.ref x1, .int fi1, .int pl1, .int db1, .int go1])), (x1, .inl (cI, 36, .inl g1))] : va_W) ++ va_pl L f) sz)) 0 0 (va_A (([(h0, .inr (8, [.ref n0, .ref s0, .ref s1, .ref d0, .ref o0, .int dn, .int nn, .int la, .int ne, .int wi, .ref w0, .ref e0, .ref f0, .ref t0, .ref b0, .int lm])), (n0, .inr (1, [.ref na, .int sz9])), (na, .inl (cT, 16, .inr (.inr (.inr (.inr ga))))), (w0, .inr (7, [.long wu, .long wl, .long wp])), (h1, .inr (6, [.ref x1, .int fi1, .int pl1, .int db1, .int go1])), (x1, .inl (cI, 36, .inl g1))] : va_W) ++ va_pl L f) sz) := by
  refine Met.ofW (cc := cX8_meetsAny) (maxL := 8) (ret := (some .boolean)) (by decide) rfl ?_
  intro p e s m args below meth c s₁ B hml hv
  obtain ⟨rfl, hsz, hP, hK, hD0⟩ := hv
  have hx := B.exec
  have hb := B.bytes
  have hr := B.returns
  have hts := atoms_spec (ws := wk_X8_meetsAnyTE) B.pre
  have hown : s.vm.findClass RX8 = some m.cls := findClass_of_methodNamed B.named
  have hlocks := B.notSynchronized
  subst hsz
  have hD := hD0.self (sz := s.heap.size)
  generalize hAe : va_A (([(h0, .inr (8, [.ref n0, .ref s0, .ref s1, .ref d0, .ref o0, .int dn, .int nn, .int la, .int ne, .int wi, .ref w0, .ref e0, .ref f0, .ref t0, .ref b0, .int lm])), (n0, .inr (1, [.ref na, .int sz9])), (na, .inl (cT, 16, .inr (.inr (.inr (.inr ga))))), (w0, .inr (7, [.long wu, .long wl, .long wp])), (h1, .inr (6, [.ref x1, .int fi1, .int pl1, .int db1, .int go1])), (x1, .inl (cI, 36, .inl g1))] : va_W) ++ va_pl L f) s.heap.size = A at hD ⊢
  have hA : ∀ q : Nat, s.heap.size ≤ q → A q := fun q h => by rw [← hAe]; exact Or.inr h
  have hS : va_S A s.heap s.heap [] := va_S.rf
  have hP : va_P (dC, dI) vwCl (([(h0, .inr (8, [.ref n0, .ref s0, .ref s1, .ref d0, .ref o0, .int dn, .int nn, .int la, .int ne, .int wi, .ref w0, .ref e0, .ref f0, .ref t0, .ref b0, .int lm])), (n0, .inr (1, [.ref na, .int sz9])), (na, .inl (cT, 16, .inr (.inr (.inr (.inr ga))))), (w0, .inr (7, [.long wu, .long wl, .long wp])), (h1, .inr (6, [.ref x1, .int fi1, .int pl1, .int db1, .int go1])), (x1, .inl (cI, 36, .inl g1))] : va_W) ++ va_pl L f) s.heap := hP
  have hl := lv_entry ([.ref h0, .int p1, .ref h1, .int p3, .int p4]) (n := 8) (Nat.le_of_ble_eq_true rfl)
  rw [lg_entry_eq]
  generalize (lg_sl ([.ref h0, .int p1, .ref h1, .int p3, .int p4]) ++ List.replicate (8 - (lg_sl ([.ref h0, .int p1, .ref h1, .int p3, .int p4])).length) Slot.unset).toArray = ls at hl ⊢
  have hl : lv_has ls 8 [(0, .ref h0), (1, .int p1), (2, .ref h1), (3, .int p3), (4, .int p4)] := hl
  have kl_m1 : (-1 : Int32).toInt = -1 := by decide
  have kl_0 : (0 : Int32).toInt = 0 := by decide
  have kl_1 : (1 : Int32).toInt = 1 := by decide
  have hC := nowV_cat hV
  obtain ⟨hC0, hC1, hC2⟩ := id hC
  obtain ⟨qa1, qb1, qc1, qd1⟩ := id ht1
  refine lv_iconst (v := (-1)) hx hb dX8_meetsAny_0 (by decide) ?_
  refine lv_istore (lv' := [(5, .int (-1)), (0, .ref h0), (1, .int p1), (2, .ref h1), (3, .int p3), (4, .int p4)]) hx hb dX8_meetsAny_1 hl (by decide) rfl (fun ls hl => ?_)
  refine (show ∀ (k : Nat) (i5 : Int32) (vu : Int64) (vl : Int64) (vp : Int64) (hk0 : -1 ≤ i5.toInt) (hk1 : i5.toInt ≤ sz9.toInt) (hno : ∀ u : Nat, (u : Int) < i5.toInt → ¬ (p1.toInt ≠ ((u : Nat) : Int) ∧ (v u).2.2.2.1.toInt = 0 ∧ meP (fi1, pl1, db1, go1, g1) (v u) p3.toInt p4.toInt ne.toInt)) (hk_3 : (sz9.toInt - i5.toInt).toNat < k) (H : Heap) (locs : List Loc) (hP : va_P (dC, dI) vwCl (([(h0, .inr (8, [.ref n0, .ref s0, .ref s1, .ref d0, .ref o0, .int dn, .int nn, .int la, .int ne, .int wi, .ref w0, .ref e0, .ref f0, .ref t0, .ref b0, .int lm])), (n0, .inr (1, [.ref na, .int sz9])), (na, .inl (cT, 16, .inr (.inr (.inr (.inr ga))))), (w0, .inr (7, [.long vu, .long vl, .long vp])), (h1, .inr (6, [.ref x1, .int fi1, .int pl1, .int db1, .int go1])), (x1, .inl (cI, 36, .inl g1))] : va_W) ++ va_pl L f) H) (hD : va_D A (([(h0, .inr (8, [.ref n0, .ref s0, .ref s1, .ref d0, .ref o0, .int dn, .int nn, .int la, .int ne, .int wi, .ref w0, .ref e0, .ref f0, .ref t0, .ref b0, .int lm])), (n0, .inr (1, [.ref na, .int sz9])), (na, .inl (cT, 16, .inr (.inr (.inr (.inr ga))))), (w0, .inr (7, [.long vu, .long vl, .long vp])), (h1, .inr (6, [.ref x1, .int fi1, .int pl1, .int db1, .int go1])), (x1, .inl (cI, 36, .inl g1))] : va_W) ++ va_pl L f)) (hS : va_S A s.heap H locs) (ls : Array Slot) (hl : lv_has ls 8 [(0, .ref h0), (1, .int p1), (2, .ref h1), (3, .int p3), (4, .int p4), (5, .int i5)]), W p l e _ s m _ below meth c H locs 0 0 _ (F0 m 3 ls []) from ?_) _ (-1) wu wl wp (by omega) (by omega) (by exact fun u hu => absurd hu (by omega)) (Nat.lt_succ_self _) _ _ hP hD hS ls (lv_sub hl [1, 2, 3, 4, 5, 0] rfl)
  intro k
  induction k with
  | zero => intro i5 vu vl vp hk0 hk1 hno hk_3; exact absurd hk_3 (Nat.not_lt_zero _)
  | succ k ih_3 =>
    intro i5 vu vl vp hk0 hk1 hno hk_3 H locs hP hD hS ls hl
    refine lv_iload hx hb dX8_meetsAny_3 (lv_at hl 5 rfl) ?_
    refine lv_aload_n hx hb dX8_meetsAny_5 rfl (lv_at hl 0 rfl) ?_
    refine va_get (D := (dC, dI)) (ci := 8) (v := .ref n0) (C := RX8) (T := TX8) (N := 16) hx hb hts in_X8_meetsAnyTE_X8 hown hK hP 0 rfl rfl 0 (by decide) (hts (.fieldLink RX8 12 "MeetingsAbove" "now" "LMeetingsAbove$Catalogue;") (by decide +kernel)) (fun _ h9 => h9) rfl dX8_meetsAny_6 ?_
    refine va_get (D := (dC, dI)) (ci := 1) (v := .int sz9) (C := RX1) (T := TX1) (N := 2) hx hb hts in_X8_meetsAnyTE_X1 hown hK hP 1 rfl rfl 1 (by decide) (hts (.fieldLink RX8 88 "MeetingsAbove$Catalogue" "size" "I") (by decide +kernel)) (fun _ h9 => h9) rfl dX8_meetsAny_9 ?_
    refine lv_icmp_ge (tgt := 80) hx hb dX8_meetsAny_12 (by decide) (fun c_12 => ?_) (fun c_12 => ?_)
    · have t_12 := (fa_le _ _).mp c_12
      refine lv_iconst (v := 0) hx hb dX8_meetsAny_80 (by decide) ?_
      have hP9 := hP.part (cx := [(h0, .inr (8, [.ref n0, .ref s0, .ref s1, .ref d0, .ref o0, .int dn, .int nn, .int la, .int ne, .int wi, .ref w0, .ref e0, .ref f0, .ref t0, .ref b0, .int lm])), (n0, .inr (1, [.ref na, .int sz9])), (na, .inl (cT, 16, .inr (.inr (.inr (.inr ga))))), (w0, .inr (7, [.long vu, .long vl, .long vp])), (h1, .inr (6, [.ref x1, .int fi1, .int pl1, .int db1, .int go1])), (x1, .inl (cI, 36, .inl g1))]) [0, 1, 2, 3, 4, 5] rfl
      have hD9 := hD.part (cx := [(h0, .inr (8, [.ref n0, .ref s0, .ref s1, .ref d0, .ref o0, .int dn, .int nn, .int la, .int ne, .int wi, .ref w0, .ref e0, .ref f0, .ref t0, .ref b0, .int lm])), (n0, .inr (1, [.ref na, .int sz9])), (na, .inl (cT, 16, .inr (.inr (.inr (.inr ga))))), (w0, .inr (7, [.long vu, .long vl, .long vp])), (h1, .inr (6, [.ref x1, .int fi1, .int pl1, .int db1, .int go1])), (x1, .inl (cI, 36, .inl g1))]) [0, 1, 2, 3, 4, 5] (by decide) rfl
      have hK9 := hK.sub (tys' := [(cT, .object "MeetingsAbove$Thing"), (cI, .int)]) [0, 1] rfl
      refine W.widen (k := 0) (n := 0) (by omega) (by omega) ?_
      exact W.zret (v := 0) hx hb hr rfl (fun t ht hW => ⟨⟨_, (), rfl, (Or.inr ⟨rfl, fun z8 => by obtain ⟨u, h1, h2, h3, h4⟩ := z8; exact hno u (by omega) ⟨h2, h3, h4⟩⟩), vu, vl, vp, lm, by rw [ht]; exact hP9, va_K.moved hW.alike hK9, hD9⟩, hS.F ht⟩) hS.2.2 dX8_meetsAny_81
    · have t_12 := mt (fa_le _ _).mpr c_12
      refine lv_iload hx hb dX8_meetsAny_15 (lv_at hl 5 rfl) ?_
      refine lv_if_ge (tgt := 27) hx hb dX8_meetsAny_17 (by decide) (fun c_17 => ?_) (fun c_17 => ?_)
      · have t_17 := (fa_le _ _).mp c_17
        refine lv_iload hx hb dX8_meetsAny_27 (lv_at hl 5 rfl) ?_
        refine lv_istore (lv' := [(6, .int i5), (0, .ref h0), (1, .int p1), (2, .ref h1), (3, .int p3), (4, .int p4), (5, .int i5)]) hx hb dX8_meetsAny_29 hl (by decide) rfl (fun ls hl => ?_)
        refine lv_aload_n hx hb dX8_meetsAny_31 rfl (lv_at hl 1 rfl) ?_
        refine va_get (D := (dC, dI)) (ci := 8) (v := .ref n0) (C := RX8) (T := TX8) (N := 16) hx hb hts in_X8_meetsAnyTE_X8 hown hK hP 0 rfl rfl 0 (by decide) (hts (.fieldLink RX8 12 "MeetingsAbove" "now" "LMeetingsAbove$Catalogue;") (by decide +kernel)) (fun _ h9 => h9) rfl dX8_meetsAny_32 ?_
        refine lv_iload hx hb dX8_meetsAny_35 (lv_at hl 0 rfl) ?_
        have hPc := hP.sub (ws' := [(n0, .inr (1, [.ref na, .int sz9])), (na, .inl (cT, 16, .inr (.inr (.inr (.inr ga)))))]) [1, 2] rfl
        have hKc := hK.sub (tys' := [(cT, .object "MeetingsAbove$Thing")]) [0] rfl
        refine va_csq (W.runV (As := [.int i5]) (rest := []) ⟨hx, hb, hml, hown, hts⟩ (c_X1_find l dC dI n0 na cT sz9 ga i5) (cwV 1 hts g_X8_meetsAnyTE__X1_find_103 rfl rfl rfl (by decide +kernel) ⟨Nat.le_of_ble_eq_true rfl, Nat.le_of_ble_eq_true rfl⟩) ⟨fun a U g mk q => by obtain ⟨q0, qP, qK⟩ := q; exact ⟨q0, qP, va_K.moved (u := U) (U := U.calling g mk a) (Vm.Alike.refl U.vm) qK⟩, va_recv hKc hPc (ci := 1) (q0 := 0) rfl rfl, fun U hU hW => ⟨rfl, by rw [hU]; exact hPc, va_K.moved hW.alike hKc⟩⟩ rfl rfl hl.1 rfl (lv_room (Nat.le_of_ble_eq_true rfl)) dX8_meetsAny_37 ⟨Nat.le_of_ble_eq_true rfl, Nat.le_of_ble_eq_true rfl⟩) (fun r_1 hr_1 => ?_)
        try dsimp only at hr_1
        rcases r_1 with _ | w_2
        · refine W.eq (g2 := F0 m 40 ls [.null]) rfl ?_
          have hno_40 := fd_none hC hr_1
          refine lv_astoreN (lv' := [(7, .null), (6, .int i5), (0, .ref h0), (1, .int p1), (2, .ref h1), (3, .int p3), (4, .int p4), (5, .int i5)]) hx hb dX8_meetsAny_40 hl (by decide) rfl (fun ls hl => ?_)
          refine lv_iload_n hx hb dX8_meetsAny_42 rfl (lv_at hl 3 rfl) ?_
          refine lv_iload hx hb dX8_meetsAny_43 (lv_at hl 1 rfl) ?_
          refine lv_aloadN hx hb dX8_meetsAny_45 (lv_at hl 0 rfl) ?_
          refine vp_callSi (W.runS (As := [.int p1, .int i5, .null]) (rest := []) ⟨hx, hb, hml, hown, hts⟩ (c_X8_isOtherThere_n l dC dI p1 i5) (va_cwS 3 hts g_X8_meetsAnyTE__X8_isOtherThere_n_350 rfl rfl rfl (by decide +kernel) ⟨Nat.le_of_ble_eq_true rfl, Nat.le_of_ble_eq_true rfl⟩) ⟨fun a U g mk q => by obtain ⟨q0, q1⟩ := q; exact ⟨q0, q1⟩, fun U hU hW => ⟨rfl, trivial⟩⟩ rfl rfl hl.1 rfl (lv_room (Nat.le_of_ble_eq_true rfl)) dX8_meetsAny_47 ⟨Nat.le_of_ble_eq_true rfl, Nat.le_of_ble_eq_true rfl⟩) (fun r_3 hr_3 => ?_)
          try dsimp only at hr_3
          subst hr_3
          refine lv_if_eq (tgt := 74) hx hb dX8_meetsAny_50 (by decide) (fun _ => ?_) (fun h9 => absurd h9 (by decide))
          have hN9 : ¬ (p1.toInt ≠ ((i5.toInt.toNat : Nat) : Int) ∧ (v i5.toInt.toNat).2.2.2.1.toInt = 0 ∧ meP (fi1, pl1, db1, go1, g1) (v i5.toInt.toNat) p3.toInt p4.toInt ne.toInt) := fun z9 => by first | (exfalso; omega) | (have z1 := z9.1; omega) | (have z1 := z9.1; have z2 := z9.2.1; have z3 : (v i5.toNatClampNeg).2.2.2.1.toInt = 0 := z2; rw [hv_w_2] at z3; have z4 : go_w_2.toInt = 0 := z3; omega) | (have z1 : meP _ (v i5.toNatClampNeg) _ _ _ := z9.2.2; rw [hv_w_2] at z1; exact tv_0 hwz_none c_63 z1)
          obtain ⟨y_4, ey_4⟩ : ∃ y : Int32, y = i5 + 1 := ⟨_, rfl⟩
          have ty_4 : y_4.toInt = i5.toInt + 1 := by rw [ey_4]; have := fb_addI (x := i5) (y := 1) (by omega) (by omega); omega
          refine lv_iinc (v := y_4) (lv' := [(5, .int y_4), (7, .null), (6, .int i5), (0, .ref h0), (1, .int p1), (2, .ref h1), (3, .int p3), (4, .int p4)]) hx hb dX8_meetsAny_74 hl (k := 7) rfl (by rw [ey_4]; rfl) (by decide) rfl (fun ls hl => ?_)
          refine lv_goto (tgt := 3) hx hb dX8_meetsAny_77 (by decide) ?_
          exact ih_3 y_4 vu vl vp (by omega) (by omega) (by intro u hu; rcases (show (u : Int) < i5.toInt ∨ (u : Int) = i5.toInt by omega) with z | z <;> first | exact hno u z | (have e9 : u = i5.toInt.toNat := (by omega); subst e9; exact hN9) | (exfalso; omega)) (by omega) H _ (hP.part [0, 1, 2, 3, 4, 5] rfl) (hD.part [0, 1, 2, 3, 4, 5] (by decide) rfl) hS ls (lv_sub hl [3, 4, 5, 6, 7, 0] rfl)
        · refine W.eq (g2 := F0 m 40 ls [.ref w_2]) rfl ?_
          obtain ⟨hi_w_2, hw_w_2⟩ := fd_some hr_1
          obtain ⟨x_w_2, fi_w_2, pl_w_2, db_w_2, go_w_2, g_w_2, hL_w_2, hX_w_2, hf_w_2, hg_w_2, ht_w_2, hgo_w_2, hdb_w_2, hco_w_2, h4_w_2, hv_w_2, oa_w_2, ox_w_2, hne_w_2⟩ := nv_of hV (by rw [tc_I (by omega)]; omega) hw_w_2
          obtain ⟨q1_w_2, q2_w_2, q3_w_2, q4_w_2⟩ := id ht_w_2
          obtain ⟨d1_w_2, d2_w_2⟩ := id hdb_w_2
          obtain ⟨e1_w_2, e2_w_2⟩ := id h4_w_2
          have ni_w_2 : ((i5.toNatClampNeg : Nat) : Int) = i5.toInt := tc_I (by omega)
          have v1_w_2 : ((v i5.toNatClampNeg).1).toInt = fi_w_2.toInt := by rw [hv_w_2]
          have v2_w_2 : ((v i5.toNatClampNeg).2.1).toInt = pl_w_2.toInt := by rw [hv_w_2]
          have v4_w_2 : ((v i5.toNatClampNeg).2.2.2.1).toInt = go_w_2.toInt := by rw [hv_w_2]
          refine lv_astore (lv' := [(7, .ref w_2), (6, .int i5), (0, .ref h0), (1, .int p1), (2, .ref h1), (3, .int p3), (4, .int p4), (5, .int i5)]) hx hb dX8_meetsAny_40 hl (by decide) rfl (fun ls hl => ?_)
          refine lv_iload_n hx hb dX8_meetsAny_42 rfl (lv_at hl 3 rfl) ?_
          refine lv_iload hx hb dX8_meetsAny_43 (lv_at hl 1 rfl) ?_
          refine lv_aload hx hb dX8_meetsAny_45 (lv_at hl 0 rfl) ?_
          have hPc : va_P (dC, dI) vwCl [(w_2, .inr (6, [.ref x_w_2, .int fi_w_2, .int pl_w_2, .int db_w_2, .int go_w_2]))] H := P_cons (pl_at (X := [(h0, .inr (8, [.ref n0, .ref s0, .ref s1, .ref d0, .ref o0, .int dn, .int nn, .int la, .int ne, .int wi, .ref w0, .ref e0, .ref f0, .ref t0, .ref b0, .int lm])), (n0, .inr (1, [.ref na, .int sz9])), (na, .inl (cT, 16, .inr (.inr (.inr (.inr ga))))), (w0, .inr (7, [.long vu, .long vl, .long vp])), (h1, .inr (6, [.ref x1, .int fi1, .int pl1, .int db1, .int go1])), (x1, .inl (cI, 36, .inl g1))]) hP hL_w_2 hf_w_2) (P_nil)
          have hKc := hK.sub (tys' := []) [] rfl
          refine vp_callSi (W.runS (As := [.int p1, .int i5, .ref w_2]) (rest := []) ⟨hx, hb, hml, hown, hts⟩ (c_X8_isOtherThere_r l dC dI p1 i5 w_2 x_w_2 fi_w_2 pl_w_2 db_w_2 go_w_2) (va_cwS 3 hts g_X8_meetsAnyTE__X8_isOtherThere_r_350 rfl rfl rfl (by decide +kernel) ⟨Nat.le_of_ble_eq_true rfl, Nat.le_of_ble_eq_true rfl⟩) ⟨fun a U g mk q => by obtain ⟨q0, qP, qK⟩ := q; exact ⟨q0, qP, va_K.moved (u := U) (U := U.calling g mk a) (Vm.Alike.refl U.vm) qK⟩, fun U hU hW => ⟨rfl, by rw [hU]; exact hPc, va_K.moved hW.alike hKc⟩⟩ rfl rfl hl.1 rfl (lv_room (Nat.le_of_ble_eq_true rfl)) dX8_meetsAny_47 ⟨Nat.le_of_ble_eq_true rfl, Nat.le_of_ble_eq_true rfl⟩) (fun r_5 hr_5 => ?_)
          try dsimp only at hr_5
          rcases bo_split hr_5 with ⟨rfl, q_47⟩ | ⟨rfl, q_47⟩
          · refine lv_if_eq (tgt := 74) hx hb dX8_meetsAny_50 (by decide) (fun h9 => absurd h9 (by decide)) (fun _ => ?_)
            refine lv_aload_n hx hb dX8_meetsAny_53 rfl (lv_at hl 2 rfl) ?_
            refine lv_aload_n hx hb dX8_meetsAny_54 rfl (lv_at hl 4 rfl) ?_
            refine lv_aload hx hb dX8_meetsAny_55 (lv_at hl 0 rfl) ?_
            refine lv_iload_n hx hb dX8_meetsAny_57 rfl (lv_at hl 5 rfl) ?_
            refine lv_iload hx hb dX8_meetsAny_58 (lv_at hl 6 rfl) ?_
            have hPc := hP.part (cx := [(h0, .inr (8, [.ref n0, .ref s0, .ref s1, .ref d0, .ref o0, .int dn, .int nn, .int la, .int ne, .int wi, .ref w0, .ref e0, .ref f0, .ref t0, .ref b0, .int lm])), (w0, .inr (7, [.long vu, .long vl, .long vp])), (h1, .inr (6, [.ref x1, .int fi1, .int pl1, .int db1, .int go1])), (x1, .inl (cI, 36, .inl g1))]) [0, 3, 4, 5] rfl
            have hKc := hK.sub (tys' := [(cI, .int)]) [1] rfl
            have hDc := hD.part (cx := [(h0, .inr (8, [.ref n0, .ref s0, .ref s1, .ref d0, .ref o0, .int dn, .int nn, .int la, .int ne, .int wi, .ref w0, .ref e0, .ref f0, .ref t0, .ref b0, .int lm])), (w0, .inr (7, [.long vu, .long vl, .long vp])), (h1, .inr (6, [.ref x1, .int fi1, .int pl1, .int db1, .int go1])), (x1, .inl (cI, 36, .inl g1))]) [0, 3, 4, 5] (by decide) rfl
            have hFc := va_freeP (cx := [(h0, .inr (8, [.ref n0, .ref s0, .ref s1, .ref d0, .ref o0, .int dn, .int nn, .int la, .int ne, .int wi, .ref w0, .ref e0, .ref f0, .ref t0, .ref b0, .int lm])), (w0, .inr (7, [.long vu, .long vl, .long vp])), (h1, .inr (6, [.ref x1, .int fi1, .int pl1, .int db1, .int go1])), (x1, .inl (cI, 36, .inl g1))]) hD hS hA [0, 3, 4, 5] rfl
            refine va_calli (va_runV (As := [.ref h1, .ref w_2, .int p3, .int p4]) (rest := []) ⟨hx, hb, hml, hown, hts⟩ (c_X8_comeNearTE l dC dI h0 n0 s0 s1 d0 o0 w0 e0 f0 t0 b0 dn nn la ne wi lm vu vl vp h1 x1 fi1 pl1 db1 go1 g1 w_2 x_w_2 fi_w_2 pl_w_2 db_w_2 go_w_2 g_w_2 cI L f p3 p4 H.size (by first | assumption | omega) (by first | assumption | omega) (by first | assumption | omega) (by first | assumption | omega) (by first | assumption | omega) (by first | assumption | omega) (by first | assumption | omega) (by first | assumption | omega) (by first | omega | assumption) (by first | omega | assumption)) (cwV 4 hts g_X8_meetsAnyTE__X8_comeNearTE_347 rfl rfl rfl (by decide +kernel) ⟨Nat.le_of_ble_eq_true rfl, Nat.le_of_ble_eq_true rfl⟩) ⟨fun a U g mk q => by obtain ⟨q0, q1, qP, qK, qD⟩ := q; exact ⟨q0, q1, qP, va_K.moved (u := U) (U := U.calling g mk a) (Vm.Alike.refl U.vm) qK, qD⟩, va_recv hKc hPc (ci := 8) (q0 := 0) rfl rfl, fun U hU hW => ⟨rfl, by rw [hU], by rw [hU]; exact hPc, va_K.moved hW.alike hKc, hDc.weaken (fun _ _ _ _ => trivial)⟩⟩ rfl rfl hl.1 rfl (lv_room (Nat.le_of_ble_eq_true rfl)) dX8_meetsAny_60 ⟨Nat.le_of_ble_eq_true rfl, Nat.le_of_ble_eq_true rfl⟩) hS (fun q _ h => hFc q h) hFc (fun r_7 u_6 t H1 locs ht hvm hw_7 hB hz1 hk1 hS => ?_)
            obtain ⟨wu9_8, wl9_9, wp9_10, hP1, hK1, hD1⟩ := hB
            rw [ht] at hP1
            have hK1 := va_K.moved hvm.symm hK1
            obtain ⟨hP, hD⟩ := va_joinP (wr := [(n0, .inr (1, [.ref na, .int sz9])), (na, .inl (cT, 16, .inr (.inr (.inr (.inr ga)))))]) (rx := [(h0, .inr (8, [.ref n0, .ref s0, .ref s1, .ref d0, .ref o0, .int dn, .int nn, .int la, .int ne, .int wi, .ref w0, .ref e0, .ref f0, .ref t0, .ref b0, .int lm])), (w0, .inr (7, [.long wu9_8, .long wl9_9, .long wp9_10])), (h1, .inr (6, [.ref x1, .int fi1, .int pl1, .int db1, .int go1])), (x1, .inl (cI, 36, .inl g1))]) hP hD [0, 3, 4, 5] [1, 2] rfl rfl (by decide) (by decide) hk1 hFc hP1 hD1
            have hK := (hK.sub (tys' := [(cT, .object "MeetingsAbove$Thing"), (cI, .int)]) [0, 1] rfl).app hK1
            generalize H1 = H at hP hS ⊢
            have hP : va_P (dC, dI) vwCl (([(n0, .inr (1, [.ref na, .int sz9])), (na, .inl (cT, 16, .inr (.inr (.inr (.inr ga))))), (h0, .inr (8, [.ref n0, .ref s0, .ref s1, .ref d0, .ref o0, .int dn, .int nn, .int la, .int ne, .int wi, .ref w0, .ref e0, .ref f0, .ref t0, .ref b0, .int lm])), (w0, .inr (7, [.long wu9_8, .long wl9_9, .long wp9_10])), (h1, .inr (6, [.ref x1, .int fi1, .int pl1, .int db1, .int go1])), (x1, .inl (cI, 36, .inl g1))] : va_W) ++ va_pl L f) H := hP
            have hD : va_D A (([(n0, .inr (1, [.ref na, .int sz9])), (na, .inl (cT, 16, .inr (.inr (.inr (.inr ga))))), (h0, .inr (8, [.ref n0, .ref s0, .ref s1, .ref d0, .ref o0, .int dn, .int nn, .int la, .int ne, .int wi, .ref w0, .ref e0, .ref f0, .ref t0, .ref b0, .int lm])), (w0, .inr (7, [.long wu9_8, .long wl9_9, .long wp9_10])), (h1, .inr (6, [.ref x1, .int fi1, .int pl1, .int db1, .int go1])), (x1, .inl (cI, 36, .inl g1))] : va_W) ++ va_pl L f) := hD
            have hK : va_K (dC, dI) vwCl [(cT, .object "MeetingsAbove$Thing"), (cI, .int), (cI, .int)] s := hK
            refine W.widen (k := 0) (n := 0) (by omega) (by omega) ?_
            try dsimp only at hw_7
            refine lv_if_eq (tgt := 74) hx hb dX8_meetsAny_63 (by decide) (fun c_63 => ?_) (fun c_63 => ?_)
            · have t_63 := (fa_eq _ _).mp c_63
              have hN9 : ¬ (p1.toInt ≠ ((i5.toInt.toNat : Nat) : Int) ∧ (v i5.toInt.toNat).2.2.2.1.toInt = 0 ∧ meP (fi1, pl1, db1, go1, g1) (v i5.toInt.toNat) p3.toInt p4.toInt ne.toInt) := fun z9 => by first | (exfalso; omega) | (have z1 := z9.1; omega) | (have z1 := z9.1; have z2 := z9.2.1; have z3 : (v i5.toNatClampNeg).2.2.2.1.toInt = 0 := z2; rw [hv_w_2] at z3; have z4 : go_w_2.toInt = 0 := z3; omega) | (have z1 : meP _ (v i5.toNatClampNeg) _ _ _ := z9.2.2; rw [hv_w_2] at z1; exact tv_0 hw_7 c_63 z1)
              obtain ⟨y_11, ey_11⟩ : ∃ y : Int32, y = i5 + 1 := ⟨_, rfl⟩
              have ty_11 : y_11.toInt = i5.toInt + 1 := by rw [ey_11]; have := fb_addI (x := i5) (y := 1) (by omega) (by omega); omega
              refine lv_iinc (v := y_11) (lv' := [(5, .int y_11), (7, .ref w_2), (6, .int i5), (0, .ref h0), (1, .int p1), (2, .ref h1), (3, .int p3), (4, .int p4)]) hx hb dX8_meetsAny_74 hl (k := 7) rfl (by rw [ey_11]; rfl) (by decide) rfl (fun ls hl => ?_)
              refine lv_goto (tgt := 3) hx hb dX8_meetsAny_77 (by decide) ?_
              exact ih_3 y_11 wu9_8 wl9_9 wp9_10 (by omega) (by omega) (by intro u hu; rcases (show (u : Int) < i5.toInt ∨ (u : Int) = i5.toInt by omega) with z | z <;> first | exact hno u z | (have e9 : u = i5.toInt.toNat := (by omega); subst e9; exact hN9) | (exfalso; omega)) (by omega) H _ (hP.part [2, 0, 1, 3, 4, 5] rfl) (hD.part [2, 0, 1, 3, 4, 5] (by decide) rfl) hS ls (lv_sub hl [3, 4, 5, 6, 7, 0] rfl)
            · have t_63 := mt (fa_eq _ _).mpr c_63
              refine lv_aload_n hx hb dX8_meetsAny_66 rfl (lv_at hl 2 rfl) ?_
              refine lv_iload hx hb dX8_meetsAny_67 (lv_at hl 1 rfl) ?_
              refine va_put (D := (dC, dI)) (ci := 8) (v := .int i5) (ty := .int) (C := RX8) (T := TX8) (N := 16) hx hb hts in_X8_meetsAnyTE_X8 tyX8 tyX8_ok nmX8 hown hK hP hD hS 2 rfl rfl 15 (by decide) (hts (.fieldLink RX8 373 "MeetingsAbove" "lastMet" "I") (by decide +kernel)) (fun _ h9 => h9) rfl (by decide +kernel) rfl rfl (Nat.le_of_ble_eq_true rfl) dX8_meetsAny_69 (fun H locs hP hD hS => ?_)
              have hP : va_P (dC, dI) vwCl (([(n0, .inr (1, [.ref na, .int sz9])), (na, .inl (cT, 16, .inr (.inr (.inr (.inr ga))))), (h0, .inr (8, [.ref n0, .ref s0, .ref s1, .ref d0, .ref o0, .int dn, .int nn, .int la, .int ne, .int wi, .ref w0, .ref e0, .ref f0, .ref t0, .ref b0, .int i5])), (w0, .inr (7, [.long wu9_8, .long wl9_9, .long wp9_10])), (h1, .inr (6, [.ref x1, .int fi1, .int pl1, .int db1, .int go1])), (x1, .inl (cI, 36, .inl g1))] : va_W) ++ va_pl L f) H := hP
              have hD : va_D A (([(n0, .inr (1, [.ref na, .int sz9])), (na, .inl (cT, 16, .inr (.inr (.inr (.inr ga))))), (h0, .inr (8, [.ref n0, .ref s0, .ref s1, .ref d0, .ref o0, .int dn, .int nn, .int la, .int ne, .int wi, .ref w0, .ref e0, .ref f0, .ref t0, .ref b0, .int i5])), (w0, .inr (7, [.long wu9_8, .long wl9_9, .long wp9_10])), (h1, .inr (6, [.ref x1, .int fi1, .int pl1, .int db1, .int go1])), (x1, .inl (cI, 36, .inl g1))] : va_W) ++ va_pl L f) := hD
              refine lv_iconst (v := 1) hx hb dX8_meetsAny_72 (by decide) ?_
              have hP9 := hP.part (cx := [(h0, .inr (8, [.ref n0, .ref s0, .ref s1, .ref d0, .ref o0, .int dn, .int nn, .int la, .int ne, .int wi, .ref w0, .ref e0, .ref f0, .ref t0, .ref b0, .int i5])), (n0, .inr (1, [.ref na, .int sz9])), (na, .inl (cT, 16, .inr (.inr (.inr (.inr ga))))), (w0, .inr (7, [.long wu9_8, .long wl9_9, .long wp9_10])), (h1, .inr (6, [.ref x1, .int fi1, .int pl1, .int db1, .int go1])), (x1, .inl (cI, 36, .inl g1))]) [2, 0, 1, 3, 4, 5] rfl
              have hD9 := hD.part (cx := [(h0, .inr (8, [.ref n0, .ref s0, .ref s1, .ref d0, .ref o0, .int dn, .int nn, .int la, .int ne, .int wi, .ref w0, .ref e0, .ref f0, .ref t0, .ref b0, .int i5])), (n0, .inr (1, [.ref na, .int sz9])), (na, .inl (cT, 16, .inr (.inr (.inr (.inr ga))))), (w0, .inr (7, [.long wu9_8, .long wl9_9, .long wp9_10])), (h1, .inr (6, [.ref x1, .int fi1, .int pl1, .int db1, .int go1])), (x1, .inl (cI, 36, .inl g1))]) [2, 0, 1, 3, 4, 5] (by decide) rfl
              have hK9 := hK.sub (tys' := [(cT, .object "MeetingsAbove$Thing"), (cI, .int)]) [0, 1] rfl
              refine W.widen (k := 0) (n := 0) (by omega) (by omega) ?_
              exact W.zret (v := 1) hx hb hr rfl (fun t ht hW => ⟨⟨_, (), rfl, (Or.inl ⟨rfl, i5.toNatClampNeg, by omega, by omega, by rw [hv_w_2]; exact (by omega : go_w_2.toInt = 0), by rw [hv_w_2]; exact tv_1 hw_7 c_63⟩), wu9_8, wl9_9, wp9_10, i5, by rw [ht]; exact hP9, va_K.moved hW.alike hK9, hD9⟩, hS.F ht⟩) hS.2.2 dX8_meetsAny_73
          · refine lv_if_eq (tgt := 74) hx hb dX8_meetsAny_50 (by decide) (fun _ => ?_) (fun h9 => absurd h9 (by decide))
            have hN9 : ¬ (p1.toInt ≠ ((i5.toInt.toNat : Nat) : Int) ∧ (v i5.toInt.toNat).2.2.2.1.toInt = 0 ∧ meP (fi1, pl1, db1, go1, g1) (v i5.toInt.toNat) p3.toInt p4.toInt ne.toInt) := fun z9 => by first | (exfalso; omega) | (have z1 := z9.1; omega) | (have z1 := z9.1; have z2 := z9.2.1; have z3 : (v i5.toNatClampNeg).2.2.2.1.toInt = 0 := z2; rw [hv_w_2] at z3; have z4 : go_w_2.toInt = 0 := z3; omega) | (have z1 : meP _ (v i5.toNatClampNeg) _ _ _ := z9.2.2; rw [hv_w_2] at z1; exact tv_0 hw_7 c_63 z1)
            obtain ⟨y_12, ey_12⟩ : ∃ y : Int32, y = i5 + 1 := ⟨_, rfl⟩
            have ty_12 : y_12.toInt = i5.toInt + 1 := by rw [ey_12]; have := fb_addI (x := i5) (y := 1) (by omega) (by omega); omega
            refine lv_iinc (v := y_12) (lv' := [(5, .int y_12), (7, .ref w_2), (6, .int i5), (0, .ref h0), (1, .int p1), (2, .ref h1), (3, .int p3), (4, .int p4)]) hx hb dX8_meetsAny_74 hl (k := 7) rfl (by rw [ey_12]; rfl) (by decide) rfl (fun ls hl => ?_)
            refine lv_goto (tgt := 3) hx hb dX8_meetsAny_77 (by decide) ?_
            exact ih_3 y_12 vu vl vp (by omega) (by omega) (by intro u hu; rcases (show (u : Int) < i5.toInt ∨ (u : Int) = i5.toInt by omega) with z | z <;> first | exact hno u z | (have e9 : u = i5.toInt.toNat := (by omega); subst e9; exact hN9) | (exfalso; omega)) (by omega) H _ (hP.part [0, 1, 2, 3, 4, 5] rfl) (hD.part [0, 1, 2, 3, 4, 5] (by decide) rfl) hS ls (lv_sub hl [3, 4, 5, 6, 7, 0] rfl)
      · have t_17 := mt (fa_le _ _).mpr c_17
        refine lv_aload_n hx hb dX8_meetsAny_20 rfl (lv_at hl 0 rfl) ?_
        refine va_get (D := (dC, dI)) (ci := 8) (v := .int lm) (C := RX8) (T := TX8) (N := 16) hx hb hts in_X8_meetsAnyTE_X8 hown hK hP 0 rfl rfl 15 (by decide) (hts (.fieldLink RX8 373 "MeetingsAbove" "lastMet" "I") (by decide +kernel)) (fun _ h9 => h9) rfl dX8_meetsAny_21 ?_
        refine lv_goto (tgt := 29) hx hb dX8_meetsAny_24 (by decide) ?_
        refine lv_istore (lv' := [(6, .int lm), (0, .ref h0), (1, .int p1), (2, .ref h1), (3, .int p3), (4, .int p4), (5, .int i5)]) hx hb dX8_meetsAny_29 hl (by decide) rfl (fun ls hl => ?_)
        refine lv_aload_n hx hb dX8_meetsAny_31 rfl (lv_at hl 1 rfl) ?_
        refine va_get (D := (dC, dI)) (ci := 8) (v := .ref n0) (C := RX8) (T := TX8) (N := 16) hx hb hts in_X8_meetsAnyTE_X8 hown hK hP 0 rfl rfl 0 (by decide) (hts (.fieldLink RX8 12 "MeetingsAbove" "now" "LMeetingsAbove$Catalogue;") (by decide +kernel)) (fun _ h9 => h9) rfl dX8_meetsAny_32 ?_
        refine lv_iload hx hb dX8_meetsAny_35 (lv_at hl 0 rfl) ?_
        have hPc := hP.sub (ws' := [(n0, .inr (1, [.ref na, .int sz9])), (na, .inl (cT, 16, .inr (.inr (.inr (.inr ga)))))]) [1, 2] rfl
        have hKc := hK.sub (tys' := [(cT, .object "MeetingsAbove$Thing")]) [0] rfl
        refine va_csq (W.runV (As := [.int lm]) (rest := []) ⟨hx, hb, hml, hown, hts⟩ (c_X1_find l dC dI n0 na cT sz9 ga lm) (cwV 1 hts g_X8_meetsAnyTE__X1_find_103 rfl rfl rfl (by decide +kernel) ⟨Nat.le_of_ble_eq_true rfl, Nat.le_of_ble_eq_true rfl⟩) ⟨fun a U g mk q => by obtain ⟨q0, qP, qK⟩ := q; exact ⟨q0, qP, va_K.moved (u := U) (U := U.calling g mk a) (Vm.Alike.refl U.vm) qK⟩, va_recv hKc hPc (ci := 1) (q0 := 0) rfl rfl, fun U hU hW => ⟨rfl, by rw [hU]; exact hPc, va_K.moved hW.alike hKc⟩⟩ rfl rfl hl.1 rfl (lv_room (Nat.le_of_ble_eq_true rfl)) dX8_meetsAny_37 ⟨Nat.le_of_ble_eq_true rfl, Nat.le_of_ble_eq_true rfl⟩) (fun r_13 hr_13 => ?_)
        try dsimp only at hr_13
        rcases r_13 with _ | w_14
        · refine W.eq (g2 := F0 m 40 ls [.null]) rfl ?_
          have hno_40 := fd_none hC hr_13
          refine lv_astoreN (lv' := [(7, .null), (6, .int lm), (0, .ref h0), (1, .int p1), (2, .ref h1), (3, .int p3), (4, .int p4), (5, .int i5)]) hx hb dX8_meetsAny_40 hl (by decide) rfl (fun ls hl => ?_)
          refine lv_iload_n hx hb dX8_meetsAny_42 rfl (lv_at hl 3 rfl) ?_
          refine lv_iload hx hb dX8_meetsAny_43 (lv_at hl 1 rfl) ?_
          refine lv_aloadN hx hb dX8_meetsAny_45 (lv_at hl 0 rfl) ?_
          refine vp_callSi (W.runS (As := [.int p1, .int lm, .null]) (rest := []) ⟨hx, hb, hml, hown, hts⟩ (c_X8_isOtherThere_n l dC dI p1 lm) (va_cwS 3 hts g_X8_meetsAnyTE__X8_isOtherThere_n_350 rfl rfl rfl (by decide +kernel) ⟨Nat.le_of_ble_eq_true rfl, Nat.le_of_ble_eq_true rfl⟩) ⟨fun a U g mk q => by obtain ⟨q0, q1⟩ := q; exact ⟨q0, q1⟩, fun U hU hW => ⟨rfl, trivial⟩⟩ rfl rfl hl.1 rfl (lv_room (Nat.le_of_ble_eq_true rfl)) dX8_meetsAny_47 ⟨Nat.le_of_ble_eq_true rfl, Nat.le_of_ble_eq_true rfl⟩) (fun r_15 hr_15 => ?_)
          try dsimp only at hr_15
          subst hr_15
          refine lv_if_eq (tgt := 74) hx hb dX8_meetsAny_50 (by decide) (fun _ => ?_) (fun h9 => absurd h9 (by decide))
          obtain ⟨y_16, ey_16⟩ : ∃ y : Int32, y = i5 + 1 := ⟨_, rfl⟩
          have ty_16 : y_16.toInt = i5.toInt + 1 := by rw [ey_16]; have := fb_addI (x := i5) (y := 1) (by omega) (by omega); omega
          refine lv_iinc (v := y_16) (lv' := [(5, .int y_16), (7, .null), (6, .int lm), (0, .ref h0), (1, .int p1), (2, .ref h1), (3, .int p3), (4, .int p4)]) hx hb dX8_meetsAny_74 hl (k := 7) rfl (by rw [ey_16]; rfl) (by decide) rfl (fun ls hl => ?_)
          refine lv_goto (tgt := 3) hx hb dX8_meetsAny_77 (by decide) ?_
          exact ih_3 y_16 vu vl vp (by omega) (by omega) (by intro u hu; rcases (show (u : Int) < i5.toInt ∨ (u : Int) = i5.toInt by omega) with z | z <;> first | exact hno u z | (have e9 : u = i5.toInt.toNat := (by omega); subst e9; exact hN9) | (exfalso; omega)) (by omega) H _ (hP.part [0, 1, 2, 3, 4, 5] rfl) (hD.part [0, 1, 2, 3, 4, 5] (by decide) rfl) hS ls (lv_sub hl [3, 4, 5, 6, 7, 0] rfl)
        · refine W.eq (g2 := F0 m 40 ls [.ref w_14]) rfl ?_
          obtain ⟨hi_w_14, hw_w_14⟩ := fd_some hr_13
          obtain ⟨x_w_14, fi_w_14, pl_w_14, db_w_14, go_w_14, g_w_14, hL_w_14, hX_w_14, hf_w_14, hg_w_14, ht_w_14, hgo_w_14, hdb_w_14, hco_w_14, h4_w_14, hv_w_14, oa_w_14, ox_w_14, hne_w_14⟩ := nv_of hV (by rw [tc_I (by omega)]; omega) hw_w_14
          obtain ⟨q1_w_14, q2_w_14, q3_w_14, q4_w_14⟩ := id ht_w_14
          obtain ⟨d1_w_14, d2_w_14⟩ := id hdb_w_14
          obtain ⟨e1_w_14, e2_w_14⟩ := id h4_w_14
          have ni_w_14 : ((lm.toNatClampNeg : Nat) : Int) = lm.toInt := tc_I (by omega)
          have v1_w_14 : ((v lm.toNatClampNeg).1).toInt = fi_w_14.toInt := by rw [hv_w_14]
          have v2_w_14 : ((v lm.toNatClampNeg).2.1).toInt = pl_w_14.toInt := by rw [hv_w_14]
          have v4_w_14 : ((v lm.toNatClampNeg).2.2.2.1).toInt = go_w_14.toInt := by rw [hv_w_14]
          refine lv_astore (lv' := [(7, .ref w_14), (6, .int lm), (0, .ref h0), (1, .int p1), (2, .ref h1), (3, .int p3), (4, .int p4), (5, .int i5)]) hx hb dX8_meetsAny_40 hl (by decide) rfl (fun ls hl => ?_)
          refine lv_iload_n hx hb dX8_meetsAny_42 rfl (lv_at hl 3 rfl) ?_
          refine lv_iload hx hb dX8_meetsAny_43 (lv_at hl 1 rfl) ?_
          refine lv_aload hx hb dX8_meetsAny_45 (lv_at hl 0 rfl) ?_
          have hPc : va_P (dC, dI) vwCl [(w_14, .inr (6, [.ref x_w_14, .int fi_w_14, .int pl_w_14, .int db_w_14, .int go_w_14]))] H := P_cons (pl_at (X := [(h0, .inr (8, [.ref n0, .ref s0, .ref s1, .ref d0, .ref o0, .int dn, .int nn, .int la, .int ne, .int wi, .ref w0, .ref e0, .ref f0, .ref t0, .ref b0, .int lm])), (n0, .inr (1, [.ref na, .int sz9])), (na, .inl (cT, 16, .inr (.inr (.inr (.inr ga))))), (w0, .inr (7, [.long vu, .long vl, .long vp])), (h1, .inr (6, [.ref x1, .int fi1, .int pl1, .int db1, .int go1])), (x1, .inl (cI, 36, .inl g1))]) hP hL_w_14 hf_w_14) (P_nil)
          have hKc := hK.sub (tys' := []) [] rfl
          refine vp_callSi (W.runS (As := [.int p1, .int lm, .ref w_14]) (rest := []) ⟨hx, hb, hml, hown, hts⟩ (c_X8_isOtherThere_r l dC dI p1 lm w_14 x_w_14 fi_w_14 pl_w_14 db_w_14 go_w_14) (va_cwS 3 hts g_X8_meetsAnyTE__X8_isOtherThere_r_350 rfl rfl rfl (by decide +kernel) ⟨Nat.le_of_ble_eq_true rfl, Nat.le_of_ble_eq_true rfl⟩) ⟨fun a U g mk q => by obtain ⟨q0, qP, qK⟩ := q; exact ⟨q0, qP, va_K.moved (u := U) (U := U.calling g mk a) (Vm.Alike.refl U.vm) qK⟩, fun U hU hW => ⟨rfl, by rw [hU]; exact hPc, va_K.moved hW.alike hKc⟩⟩ rfl rfl hl.1 rfl (lv_room (Nat.le_of_ble_eq_true rfl)) dX8_meetsAny_47 ⟨Nat.le_of_ble_eq_true rfl, Nat.le_of_ble_eq_true rfl⟩) (fun r_17 hr_17 => ?_)
          try dsimp only at hr_17
          rcases bo_split hr_17 with ⟨rfl, q_47⟩ | ⟨rfl, q_47⟩
          · refine lv_if_eq (tgt := 74) hx hb dX8_meetsAny_50 (by decide) (fun h9 => absurd h9 (by decide)) (fun _ => ?_)
            refine lv_aload_n hx hb dX8_meetsAny_53 rfl (lv_at hl 2 rfl) ?_
            refine lv_aload_n hx hb dX8_meetsAny_54 rfl (lv_at hl 4 rfl) ?_
            refine lv_aload hx hb dX8_meetsAny_55 (lv_at hl 0 rfl) ?_
            refine lv_iload_n hx hb dX8_meetsAny_57 rfl (lv_at hl 5 rfl) ?_
            refine lv_iload hx hb dX8_meetsAny_58 (lv_at hl 6 rfl) ?_
            have hPc := hP.part (cx := [(h0, .inr (8, [.ref n0, .ref s0, .ref s1, .ref d0, .ref o0, .int dn, .int nn, .int la, .int ne, .int wi, .ref w0, .ref e0, .ref f0, .ref t0, .ref b0, .int lm])), (w0, .inr (7, [.long vu, .long vl, .long vp])), (h1, .inr (6, [.ref x1, .int fi1, .int pl1, .int db1, .int go1])), (x1, .inl (cI, 36, .inl g1))]) [0, 3, 4, 5] rfl
            have hKc := hK.sub (tys' := [(cI, .int)]) [1] rfl
            have hDc := hD.part (cx := [(h0, .inr (8, [.ref n0, .ref s0, .ref s1, .ref d0, .ref o0, .int dn, .int nn, .int la, .int ne, .int wi, .ref w0, .ref e0, .ref f0, .ref t0, .ref b0, .int lm])), (w0, .inr (7, [.long vu, .long vl, .long vp])), (h1, .inr (6, [.ref x1, .int fi1, .int pl1, .int db1, .int go1])), (x1, .inl (cI, 36, .inl g1))]) [0, 3, 4, 5] (by decide) rfl
            have hFc := va_freeP (cx := [(h0, .inr (8, [.ref n0, .ref s0, .ref s1, .ref d0, .ref o0, .int dn, .int nn, .int la, .int ne, .int wi, .ref w0, .ref e0, .ref f0, .ref t0, .ref b0, .int lm])), (w0, .inr (7, [.long vu, .long vl, .long vp])), (h1, .inr (6, [.ref x1, .int fi1, .int pl1, .int db1, .int go1])), (x1, .inl (cI, 36, .inl g1))]) hD hS hA [0, 3, 4, 5] rfl
            refine va_calli (va_runV (As := [.ref h1, .ref w_14, .int p3, .int p4]) (rest := []) ⟨hx, hb, hml, hown, hts⟩ (c_X8_comeNearTE l dC dI h0 n0 s0 s1 d0 o0 w0 e0 f0 t0 b0 dn nn la ne wi lm vu vl vp h1 x1 fi1 pl1 db1 go1 g1 w_14 x_w_14 fi_w_14 pl_w_14 db_w_14 go_w_14 g_w_14 cI L f p3 p4 H.size (by first | assumption | omega) (by first | assumption | omega) (by first | assumption | omega) (by first | assumption | omega) (by first | assumption | omega) (by first | assumption | omega) (by first | assumption | omega) (by first | assumption | omega) (by first | omega | assumption) (by first | omega | assumption)) (cwV 4 hts g_X8_meetsAnyTE__X8_comeNearTE_347 rfl rfl rfl (by decide +kernel) ⟨Nat.le_of_ble_eq_true rfl, Nat.le_of_ble_eq_true rfl⟩) ⟨fun a U g mk q => by obtain ⟨q0, q1, qP, qK, qD⟩ := q; exact ⟨q0, q1, qP, va_K.moved (u := U) (U := U.calling g mk a) (Vm.Alike.refl U.vm) qK, qD⟩, va_recv hKc hPc (ci := 8) (q0 := 0) rfl rfl, fun U hU hW => ⟨rfl, by rw [hU], by rw [hU]; exact hPc, va_K.moved hW.alike hKc, hDc.weaken (fun _ _ _ _ => trivial)⟩⟩ rfl rfl hl.1 rfl (lv_room (Nat.le_of_ble_eq_true rfl)) dX8_meetsAny_60 ⟨Nat.le_of_ble_eq_true rfl, Nat.le_of_ble_eq_true rfl⟩) hS (fun q _ h => hFc q h) hFc (fun r_19 u_18 t H1 locs ht hvm hw_19 hB hz1 hk1 hS => ?_)
            obtain ⟨wu9_20, wl9_21, wp9_22, hP1, hK1, hD1⟩ := hB
            rw [ht] at hP1
            have hK1 := va_K.moved hvm.symm hK1
            obtain ⟨hP, hD⟩ := va_joinP (wr := [(n0, .inr (1, [.ref na, .int sz9])), (na, .inl (cT, 16, .inr (.inr (.inr (.inr ga)))))]) (rx := [(h0, .inr (8, [.ref n0, .ref s0, .ref s1, .ref d0, .ref o0, .int dn, .int nn, .int la, .int ne, .int wi, .ref w0, .ref e0, .ref f0, .ref t0, .ref b0, .int lm])), (w0, .inr (7, [.long wu9_20, .long wl9_21, .long wp9_22])), (h1, .inr (6, [.ref x1, .int fi1, .int pl1, .int db1, .int go1])), (x1, .inl (cI, 36, .inl g1))]) hP hD [0, 3, 4, 5] [1, 2] rfl rfl (by decide) (by decide) hk1 hFc hP1 hD1
            have hK := (hK.sub (tys' := [(cT, .object "MeetingsAbove$Thing"), (cI, .int)]) [0, 1] rfl).app hK1
            generalize H1 = H at hP hS ⊢
            have hP : va_P (dC, dI) vwCl (([(n0, .inr (1, [.ref na, .int sz9])), (na, .inl (cT, 16, .inr (.inr (.inr (.inr ga))))), (h0, .inr (8, [.ref n0, .ref s0, .ref s1, .ref d0, .ref o0, .int dn, .int nn, .int la, .int ne, .int wi, .ref w0, .ref e0, .ref f0, .ref t0, .ref b0, .int lm])), (w0, .inr (7, [.long wu9_20, .long wl9_21, .long wp9_22])), (h1, .inr (6, [.ref x1, .int fi1, .int pl1, .int db1, .int go1])), (x1, .inl (cI, 36, .inl g1))] : va_W) ++ va_pl L f) H := hP
            have hD : va_D A (([(n0, .inr (1, [.ref na, .int sz9])), (na, .inl (cT, 16, .inr (.inr (.inr (.inr ga))))), (h0, .inr (8, [.ref n0, .ref s0, .ref s1, .ref d0, .ref o0, .int dn, .int nn, .int la, .int ne, .int wi, .ref w0, .ref e0, .ref f0, .ref t0, .ref b0, .int lm])), (w0, .inr (7, [.long wu9_20, .long wl9_21, .long wp9_22])), (h1, .inr (6, [.ref x1, .int fi1, .int pl1, .int db1, .int go1])), (x1, .inl (cI, 36, .inl g1))] : va_W) ++ va_pl L f) := hD
            have hK : va_K (dC, dI) vwCl [(cT, .object "MeetingsAbove$Thing"), (cI, .int), (cI, .int)] s := hK
            refine W.widen (k := 0) (n := 0) (by omega) (by omega) ?_
            try dsimp only at hw_19
            refine lv_if_eq (tgt := 74) hx hb dX8_meetsAny_63 (by decide) (fun c_63 => ?_) (fun c_63 => ?_)
            · have t_63 := (fa_eq _ _).mp c_63
              obtain ⟨y_23, ey_23⟩ : ∃ y : Int32, y = i5 + 1 := ⟨_, rfl⟩
              have ty_23 : y_23.toInt = i5.toInt + 1 := by rw [ey_23]; have := fb_addI (x := i5) (y := 1) (by omega) (by omega); omega
              refine lv_iinc (v := y_23) (lv' := [(5, .int y_23), (7, .ref w_14), (6, .int lm), (0, .ref h0), (1, .int p1), (2, .ref h1), (3, .int p3), (4, .int p4)]) hx hb dX8_meetsAny_74 hl (k := 7) rfl (by rw [ey_23]; rfl) (by decide) rfl (fun ls hl => ?_)
              refine lv_goto (tgt := 3) hx hb dX8_meetsAny_77 (by decide) ?_
              exact ih_3 y_23 wu9_20 wl9_21 wp9_22 (by omega) (by omega) (by intro u hu; rcases (show (u : Int) < i5.toInt ∨ (u : Int) = i5.toInt by omega) with z | z <;> first | exact hno u z | (have e9 : u = i5.toInt.toNat := (by omega); subst e9; exact hN9) | (exfalso; omega)) (by omega) H _ (hP.part [2, 0, 1, 3, 4, 5] rfl) (hD.part [2, 0, 1, 3, 4, 5] (by decide) rfl) hS ls (lv_sub hl [3, 4, 5, 6, 7, 0] rfl)
            · have t_63 := mt (fa_eq _ _).mpr c_63
              refine lv_aload_n hx hb dX8_meetsAny_66 rfl (lv_at hl 2 rfl) ?_
              refine lv_iload hx hb dX8_meetsAny_67 (lv_at hl 1 rfl) ?_
              refine va_put (D := (dC, dI)) (ci := 8) (v := .int lm) (ty := .int) (C := RX8) (T := TX8) (N := 16) hx hb hts in_X8_meetsAnyTE_X8 tyX8 tyX8_ok nmX8 hown hK hP hD hS 2 rfl rfl 15 (by decide) (hts (.fieldLink RX8 373 "MeetingsAbove" "lastMet" "I") (by decide +kernel)) (fun _ h9 => h9) rfl (by decide +kernel) rfl rfl (Nat.le_of_ble_eq_true rfl) dX8_meetsAny_69 (fun H locs hP hD hS => ?_)
              have hP : va_P (dC, dI) vwCl (([(n0, .inr (1, [.ref na, .int sz9])), (na, .inl (cT, 16, .inr (.inr (.inr (.inr ga))))), (h0, .inr (8, [.ref n0, .ref s0, .ref s1, .ref d0, .ref o0, .int dn, .int nn, .int la, .int ne, .int wi, .ref w0, .ref e0, .ref f0, .ref t0, .ref b0, .int lm])), (w0, .inr (7, [.long wu9_20, .long wl9_21, .long wp9_22])), (h1, .inr (6, [.ref x1, .int fi1, .int pl1, .int db1, .int go1])), (x1, .inl (cI, 36, .inl g1))] : va_W) ++ va_pl L f) H := hP
              have hD : va_D A (([(n0, .inr (1, [.ref na, .int sz9])), (na, .inl (cT, 16, .inr (.inr (.inr (.inr ga))))), (h0, .inr (8, [.ref n0, .ref s0, .ref s1, .ref d0, .ref o0, .int dn, .int nn, .int la, .int ne, .int wi, .ref w0, .ref e0, .ref f0, .ref t0, .ref b0, .int lm])), (w0, .inr (7, [.long wu9_20, .long wl9_21, .long wp9_22])), (h1, .inr (6, [.ref x1, .int fi1, .int pl1, .int db1, .int go1])), (x1, .inl (cI, 36, .inl g1))] : va_W) ++ va_pl L f) := hD
              refine lv_iconst (v := 1) hx hb dX8_meetsAny_72 (by decide) ?_
              have hP9 := hP.part (cx := [(h0, .inr (8, [.ref n0, .ref s0, .ref s1, .ref d0, .ref o0, .int dn, .int nn, .int la, .int ne, .int wi, .ref w0, .ref e0, .ref f0, .ref t0, .ref b0, .int lm])), (n0, .inr (1, [.ref na, .int sz9])), (na, .inl (cT, 16, .inr (.inr (.inr (.inr ga))))), (w0, .inr (7, [.long wu9_20, .long wl9_21, .long wp9_22])), (h1, .inr (6, [.ref x1, .int fi1, .int pl1, .int db1, .int go1])), (x1, .inl (cI, 36, .inl g1))]) [2, 0, 1, 3, 4, 5] rfl
              have hD9 := hD.part (cx := [(h0, .inr (8, [.ref n0, .ref s0, .ref s1, .ref d0, .ref o0, .int dn, .int nn, .int la, .int ne, .int wi, .ref w0, .ref e0, .ref f0, .ref t0, .ref b0, .int lm])), (n0, .inr (1, [.ref na, .int sz9])), (na, .inl (cT, 16, .inr (.inr (.inr (.inr ga))))), (w0, .inr (7, [.long wu9_20, .long wl9_21, .long wp9_22])), (h1, .inr (6, [.ref x1, .int fi1, .int pl1, .int db1, .int go1])), (x1, .inl (cI, 36, .inl g1))]) [2, 0, 1, 3, 4, 5] (by decide) rfl
              have hK9 := hK.sub (tys' := [(cT, .object "MeetingsAbove$Thing"), (cI, .int)]) [0, 1] rfl
              refine W.widen (k := 0) (n := 0) (by omega) (by omega) ?_
              exact W.zret (v := 1) hx hb hr rfl (fun t ht hW => ⟨⟨_, (), rfl, (Or.inl ⟨rfl, lm.toNatClampNeg, by omega, by omega, by rw [hv_w_14]; exact (by omega : go_w_14.toInt = 0), by rw [hv_w_14]; exact tv_1 hw_19 c_63⟩), wu9_20, wl9_21, wp9_22, lm, by rw [ht]; exact hP9, va_K.moved hW.alike hK9, hD9⟩, hS.F ht⟩) hS.2.2 dX8_meetsAny_73
          · refine lv_if_eq (tgt := 74) hx hb dX8_meetsAny_50 (by decide) (fun _ => ?_) (fun h9 => absurd h9 (by decide))
            obtain ⟨y_24, ey_24⟩ : ∃ y : Int32, y = i5 + 1 := ⟨_, rfl⟩
            have ty_24 : y_24.toInt = i5.toInt + 1 := by rw [ey_24]; have := fb_addI (x := i5) (y := 1) (by omega) (by omega); omega
            refine lv_iinc (v := y_24) (lv' := [(5, .int y_24), (7, .ref w_14), (6, .int lm), (0, .ref h0), (1, .int p1), (2, .ref h1), (3, .int p3), (4, .int p4)]) hx hb dX8_meetsAny_74 hl (k := 7) rfl (by rw [ey_24]; rfl) (by decide) rfl (fun ls hl => ?_)
            refine lv_goto (tgt := 3) hx hb dX8_meetsAny_77 (by decide) ?_
            exact ih_3 y_24 vu vl vp (by omega) (by omega) (by intro u hu; rcases (show (u : Int) < i5.toInt ∨ (u : Int) = i5.toInt by omega) with z | z <;> first | exact hno u z | (have e9 : u = i5.toInt.toNat := (by omega); subst e9; exact hN9) | (exfalso; omega)) (by omega) H _ (hP.part [0, 1, 2, 3, 4, 5] rfl) (hD.part [0, 1, 2, 3, 4, 5] (by decide) rfl) hS ls (lv_sub hl [3, 4, 5, 6, 7, 0] rfl)
def wk_X8_lastClearStepE : List Cond := .code yX8_lastClearStep cX8_lastClearStep 5 (some .int) :: (([.fieldLink RX8 139 "MeetingsAbove$Thing" "first" "I"] : List Cond) ++ (wsX60 ++ ((wsV RX8 112 RX6 yX6_lastStep wk_X6_lastStep) ++ ((wsV RX8 369 RX8 yX8_meetsAny wk_X8_meetsAnyPE) ++ ([])))))
theorem in_X8_lastClearStepE_X6 : ∀ w ∈ wsX60, w ∈ wk_X8_lastClearStepE := fun _ h => List.mem_cons_of_mem _ (List.mem_append_right _ (List.mem_append_left _ h))
theorem gw_X8_lastClearStepE : AG wk_X8_lastClearStepE := AG_ca (AG_l (by decide +kernel)) (AG_app ag_X6 (AG_app (AG_V gw_X6_lastStep) (AG_app (AG_V gw_X8_meetsAnyPE) (AG_nil))))
theorem g_X8_lastClearStepE__X6_lastStep_112 : GoodIn wk_X8_lastClearStepE (wsV RX8 112 RX6 yX6_lastStep wk_X6_lastStep) := goodIn_m (fun _ h => List.mem_cons_of_mem _ (List.mem_append_right _ (List.mem_append_right _ (List.mem_append_left _ h)))) (AG_V gw_X6_lastStep)
theorem g_X8_lastClearStepE__X8_meetsAnyPE_369 : GoodIn wk_X8_lastClearStepE (wsV RX8 369 RX8 yX8_meetsAny wk_X8_meetsAnyPE) := goodIn_m (fun _ h => List.mem_cons_of_mem _ (List.mem_append_right _ (List.mem_append_right _ (List.mem_append_right _ (List.mem_append_left _ h))))) (AG_V gw_X8_meetsAnyPE)
set_option maxHeartbeats 4000000 in
set_option maxRecDepth 100000 in
theorem c_X8_lastClearStepE (l : Launch) (dC : Nat → ClassId) (dI : Nat → Nat → Nat) (h0 : Nat) (n0 : Nat) (s0 : Nat) (s1 : Nat) (d0 : Nat) (o0 : Nat) (w0 : Nat) (e0 : Nat) (f0 : Nat) (t0 : Nat) (b0 : Nat) (dn : Int32) (nn : Int32) (la : Int32) (ne : Int32) (wi : Int32) (lm : Int32) (na : Nat) (cT : ClassId) (sz9 : Int32) (ga : Nat → Option Nat) (cI : ClassId) (L : List Nat) (f : Nat → va_E) (ow : Nat → Nat) (v : Nat → TV) (wu : Int64) (wl : Int64) (wp : Int64) (h1 : Nat) (x1 : Nat) (fi1 : Int32) (pl1 : Int32) (db1 : Int32) (go1 : Int32) (g1 : Nat → Int32) (p1 : Int32) (sz : Nat) (hV : nowV L f cI ow sz9 ga v) (hL1 : h1 ∈ L) (hX1 : x1 ∈ L) (hf1 : f h1 = .inr (6, [.ref x1, .int fi1, .int pl1, .int db1, .int go1])) (hg1 : f x1 = .inl (cI, 36, .inl g1)) (ht1 : tOK fi1 pl1) (hco1 : cOK pl1 g1) (hok1 : tvOK (fi1, pl1, db1, go1, g1)) (hne0 : 0 ≤ ne.toInt) (hne1 : ne.toInt ≤ 3000) : Met l yX8_lastClearStep wk_X8_lastClearStepE ({ frames := 4, cells := 0, slots := 0, locals := 114 }) (va_Pc [.ref h0, .int p1, .ref h1] (fun U => U.heap.size = sz ∧ va_P (dC, dI) vwCl (([(h0, .inr (8, [.ref n0, .ref s0, .ref s1, .ref d0, .ref o0, .int dn, .int nn, .int la, .int ne, .int wi, .ref w0, .ref e0, .ref f0, .ref t0, .ref b0, .int lm])), (n0, .inr (1, [.ref na, .int sz9])), (na, .inl (cT, 16, .inr (.inr (.inr (.inr ga))))), (w0, .inr (7, [.long wu, .long wl, .long wp]))] : va_W) ++ va_pl L f) U.heap ∧ va_K (dC, dI) vwCl [(cT, .object "MeetingsAbove$Thing"), (cI, .int)] U ∧ va_D (fun _ => True) (([(h0, .inr (8, [.ref n0, .ref s0, .ref s1, .ref d0, .ref o0, .int dn, .int nn, .int la, .int ne, .int wi, .ref w0, .ref e0, .ref f0, .ref t0, .ref b0, .int lm])), (n0, .inr (1, [.ref na, .int sz9])), (na, .inl (cT, 16, .inr (.inr (.inr (.inr ga))))), (w0, .inr (7, [.long wu, .long wl, .long wp]))] : va_W) ++ va_pl L f))) (va_Qi (fun (r : Int32) (_ : Unit) => fi1.toInt - 1 ≤ r.toInt ∧ r.toInt < fi1.toInt + pl1.toInt ∧ ∀ s : Int, fi1.toInt ≤ s → s < fi1.toInt + pl1.toInt → (s ≤ r.toInt ↔ ¬ anyM (fi1, pl1, db1, go1, g1) v sz9.toInt.toNat p1.toInt 0 s ne.toInt)) (fun (_ : Unit) (t : State) => ∃ (wu9 : Int64) (wl9 : Int64) (wp9 : Int64) (lm9 : Int32), va_P (dC, dI) vwCl (([(h0, .inr (8, [.ref n0, .ref s0, .ref s1, .ref d0, .ref o0, .int dn, .int nn, .int la, .int ne, .int wi, .ref w0, .ref e0, .ref f0, .ref t0, .ref b0, .int lm9])), (n0, .inr (1, [.ref na, .int sz9])), (na, .inl (cT, 16, .inr (.inr (.inr (.inr ga))))), (w0, .inr (7, [.long wu9, .long wl9, .long wp9]))] : va_W) ++ va_pl L f) t.heap ∧ va_K (dC, dI) vwCl [(cT, .object "MeetingsAbove$Thing"), (cI, .int)] t ∧ va_D (va_A (([(h0, .inr (8, [.ref n0, .ref s0, .ref s1, .ref d0, .ref o0, .int dn, .int nn, .int la, .int ne, .int wi, .ref w0, .ref e0, .ref f0, .ref t0, .ref b0, .int lm])), (n0, .inr (1, [.ref na, .int sz9])), (na, .inl (cT, 16, .inr (.inr (.inr (.inr ga))))), (w0, .inr (7, [.long wu, .long wl, .long wp]))] : va_W) ++ va_pl L f) sz) (([(h0, .inr (8, [.ref n0, .ref s0, .ref s1, .ref d0, .ref o0, .int dn, .int nn, .int la, .int ne, .int wi, .ref w0, .ref e0, .ref f0, .ref t0, .ref b0, .int lm9])), (n0, .inr (1, [.ref na, .int sz9])), (na, .inl (cT, 16, .inr (.inr (.inr (.inr ga))))), (w0, .inr (7, [.long wu9, .long wl9, .long wp9]))] : va_W) ++ va_pl L f)) (va_A (([(h0, .inr (8, [.ref n0, .ref s0, .ref s1, .ref d0, .ref o0, .int dn, .int nn, .int la, .int ne, .int wi, .ref w0, .ref e0, .ref f0, .ref t0, .ref b0, .int lm])), (n0, .inr (1, [.ref na, .int sz9])), (na, .inl (cT, 16, .inr (.inr (.inr (.inr ga))))), (w0, .inr (7, [.long wu, .long wl, .long wp]))] : va_W) ++ va_pl L f) sz)) 0 0 (va_A (([(h0, .inr (8, [.ref n0, .ref s0, .ref s1, .ref d0, .ref o0, .int dn, .int nn, .int la, .int ne, .int wi, .ref w0, .ref e0, .ref f0, .ref t0, .ref b0, .int lm])), (n0, .inr (1, [.ref na, .int sz9])), (na, .inl (cT, 16, .inr (.inr (.inr (.inr ga))))), (w0, .inr (7, [.long wu, .long wl, .long wp]))] : va_W) ++ va_pl L f) sz) := by
  refine Met.ofW (cc := cX8_lastClearStep) (maxL := 5) (ret := (some .int)) (by decide) rfl ?_
  intro p e s m args below meth c s₁ B hml hv
  obtain ⟨rfl, hsz, hP, hK, hD0⟩ := hv
  have hx := B.exec
  have hb := B.bytes
  have hr := B.returns
  have hts := atoms_spec (ws := wk_X8_lastClearStepE) B.pre
  have hown : s.vm.findClass RX8 = some m.cls := findClass_of_methodNamed B.named
  have hlocks := B.notSynchronized
  subst hsz
  have hD := hD0.self (sz := s.heap.size)
  generalize hAe : va_A (([(h0, .inr (8, [.ref n0, .ref s0, .ref s1, .ref d0, .ref o0, .int dn, .int nn, .int la, .int ne, .int wi, .ref w0, .ref e0, .ref f0, .ref t0, .ref b0, .int lm])), (n0, .inr (1, [.ref na, .int sz9])), (na, .inl (cT, 16, .inr (.inr (.inr (.inr ga))))), (w0, .inr (7, [.long wu, .long wl, .long wp]))] : va_W) ++ va_pl L f) s.heap.size = A at hD ⊢
  have hA : ∀ q : Nat, s.heap.size ≤ q → A q := fun q h => by rw [← hAe]; exact Or.inr h
  have hS : va_S A s.heap s.heap [] := va_S.rf
  have hP : va_P (dC, dI) vwCl (([(h0, .inr (8, [.ref n0, .ref s0, .ref s1, .ref d0, .ref o0, .int dn, .int nn, .int la, .int ne, .int wi, .ref w0, .ref e0, .ref f0, .ref t0, .ref b0, .int lm])), (n0, .inr (1, [.ref na, .int sz9])), (na, .inl (cT, 16, .inr (.inr (.inr (.inr ga))))), (w0, .inr (7, [.long wu, .long wl, .long wp]))] : va_W) ++ va_pl L f) s.heap := hP
  have hl := lv_entry ([.ref h0, .int p1, .ref h1]) (n := 5) (Nat.le_of_ble_eq_true rfl)
  rw [lg_entry_eq]
  generalize (lg_sl ([.ref h0, .int p1, .ref h1]) ++ List.replicate (5 - (lg_sl ([.ref h0, .int p1, .ref h1])).length) Slot.unset).toArray = ls at hl ⊢
  have hl : lv_has ls 5 [(0, .ref h0), (1, .int p1), (2, .ref h1)] := hl
  have kl_0 : (0 : Int32).toInt = 0 := by decide
  have kl_1 : (1 : Int32).toInt = 1 := by decide
  obtain ⟨qa1, qb1, qc1, qd1⟩ := id ht1
  have hv9 : ∀ u : Nat, u < sz9.toInt.toNat → tvOK (v u) := fun u hu => (nowV_vOK hV).2 u (by omega)
  refine lv_aload_n hx hb dX8_lastClearStep_0 rfl (lv_at hl 2 rfl) ?_
  obtain ⟨k_1, hk_1⟩ := pl_ix (X := [(h0, .inr (8, [.ref n0, .ref s0, .ref s1, .ref d0, .ref o0, .int dn, .int nn, .int la, .int ne, .int wi, .ref w0, .ref e0, .ref f0, .ref t0, .ref b0, .int lm])), (n0, .inr (1, [.ref na, .int sz9])), (na, .inl (cT, 16, .inr (.inr (.inr (.inr ga))))), (w0, .inr (7, [.long wu, .long wl, .long wp]))]) hL1 hf1
  refine va_get (D := (dC, dI)) (ci := 6) (v := .int fi1) (C := RX6) (T := TX6) (N := 5) hx hb hts in_X8_lastClearStepE_X6 hown hK hP k_1 hk_1 rfl 1 (by decide) (hts (.fieldLink RX8 139 "MeetingsAbove$Thing" "first" "I") (by decide +kernel)) (fun _ h9 => h9) rfl dX8_lastClearStep_1 ?_
  refine lv_iconst (v := 1) hx hb dX8_lastClearStep_4 (by decide) ?_
  refine lv_isub hx hb dX8_lastClearStep_5 ?_
  refine lv_topi (fun y_2 ey_2 => ?_)
  have ty_2 : y_2.toInt = fi1.toInt - 1 := by rw [ey_2]; have := fb_subI (x := fi1) (y := 1) (by omega) (by omega); omega
  refine lv_istore_n (lv' := [(3, .int y_2), (0, .ref h0), (1, .int p1), (2, .ref h1)]) hx hb dX8_lastClearStep_6 rfl hl (by decide) rfl (fun ls hl => ?_)
  refine lv_aload_n hx hb dX8_lastClearStep_7 rfl (lv_at hl 3 rfl) ?_
  obtain ⟨k_3, hk_3⟩ := pl_ix (X := [(h0, .inr (8, [.ref n0, .ref s0, .ref s1, .ref d0, .ref o0, .int dn, .int nn, .int la, .int ne, .int wi, .ref w0, .ref e0, .ref f0, .ref t0, .ref b0, .int lm])), (n0, .inr (1, [.ref na, .int sz9])), (na, .inl (cT, 16, .inr (.inr (.inr (.inr ga))))), (w0, .inr (7, [.long wu, .long wl, .long wp]))]) hL1 hf1
  refine va_get (D := (dC, dI)) (ci := 6) (v := .int fi1) (C := RX6) (T := TX6) (N := 5) hx hb hts in_X8_lastClearStepE_X6 hown hK hP k_3 hk_3 rfl 1 (by decide) (hts (.fieldLink RX8 139 "MeetingsAbove$Thing" "first" "I") (by decide +kernel)) (fun _ h9 => h9) rfl dX8_lastClearStep_8 ?_
  refine lv_istore (lv' := [(4, .int fi1), (3, .int y_2), (0, .ref h0), (1, .int p1), (2, .ref h1)]) hx hb dX8_lastClearStep_11 hl (by decide) rfl (fun ls hl => ?_)
  refine (show ∀ (k : Nat) (n3 : Int32) (k4 : Int32) (lmv : Int32) (vu : Int64) (vl : Int64) (vp : Int64) (hk0 : fi1.toInt ≤ k4.toInt) (hk1 : k4.toInt ≤ fi1.toInt + pl1.toInt) (hn3 : n3.toInt = k4.toInt - 1) (hcl : ¬ anyM (fi1, pl1, db1, go1, g1) v sz9.toInt.toNat p1.toInt 0 (k4.toInt - 1) ne.toInt) (hk_13 : (fi1.toInt + pl1.toInt - k4.toInt).toNat < k) (H : Heap) (locs : List Loc) (hP : va_P (dC, dI) vwCl (([(h0, .inr (8, [.ref n0, .ref s0, .ref s1, .ref d0, .ref o0, .int dn, .int nn, .int la, .int ne, .int wi, .ref w0, .ref e0, .ref f0, .ref t0, .ref b0, .int lmv])), (n0, .inr (1, [.ref na, .int sz9])), (na, .inl (cT, 16, .inr (.inr (.inr (.inr ga))))), (w0, .inr (7, [.long vu, .long vl, .long vp]))] : va_W) ++ va_pl L f) H) (hD : va_D A (([(h0, .inr (8, [.ref n0, .ref s0, .ref s1, .ref d0, .ref o0, .int dn, .int nn, .int la, .int ne, .int wi, .ref w0, .ref e0, .ref f0, .ref t0, .ref b0, .int lmv])), (n0, .inr (1, [.ref na, .int sz9])), (na, .inl (cT, 16, .inr (.inr (.inr (.inr ga))))), (w0, .inr (7, [.long vu, .long vl, .long vp]))] : va_W) ++ va_pl L f)) (hS : va_S A s.heap H locs) (ls : Array Slot) (hl : lv_has ls 5 [(0, .ref h0), (1, .int p1), (2, .ref h1), (3, .int n3), (4, .int k4)]), W p l e _ s m _ below meth c H locs 0 0 _ (F0 m 13 ls []) from ?_) _ y_2 fi1 lm wu wl wp (by omega) (by omega) (by omega) (by exact any_none (by show fi1.toInt - 1 < fi1.toInt; omega)) (Nat.lt_succ_self _) _ _ hP hD hS ls (lv_sub hl [2, 3, 4, 1, 0] rfl)
  intro k
  induction k with
  | zero => intro n3 k4 lmv vu vl vp hk0 hk1 hn3 hcl hk_13; exact absurd hk_13 (Nat.not_lt_zero _)
  | succ k ih_13 =>
    intro n3 k4 lmv vu vl vp hk0 hk1 hn3 hcl hk_13 H locs hP hD hS ls hl
    refine lv_iload hx hb dX8_lastClearStep_13 (lv_at hl 4 rfl) ?_
    refine lv_aload_n hx hb dX8_lastClearStep_15 rfl (lv_at hl 2 rfl) ?_
    have hPc : va_P (dC, dI) vwCl [(h1, .inr (6, [.ref x1, .int fi1, .int pl1, .int db1, .int go1]))] H := P_cons (pl_at (X := [(h0, .inr (8, [.ref n0, .ref s0, .ref s1, .ref d0, .ref o0, .int dn, .int nn, .int la, .int ne, .int wi, .ref w0, .ref e0, .ref f0, .ref t0, .ref b0, .int lmv])), (n0, .inr (1, [.ref na, .int sz9])), (na, .inl (cT, 16, .inr (.inr (.inr (.inr ga))))), (w0, .inr (7, [.long vu, .long vl, .long vp]))]) hP hL1 hf1) (P_nil)
    have hKc := hK.sub (tys' := []) [] rfl
    refine vp_callSi (W.runV (As := []) (rest := [.int k4]) ⟨hx, hb, hml, hown, hts⟩ (c_X6_lastStep l dC dI h1 x1 fi1 pl1 db1 go1 (by first | assumption | omega)) (cwV 0 hts g_X8_lastClearStepE__X6_lastStep_112 rfl rfl rfl (by decide +kernel) ⟨Nat.le_of_ble_eq_true rfl, Nat.le_of_ble_eq_true rfl⟩) ⟨fun a U g mk q => by obtain ⟨q0, qP, qK⟩ := q; exact ⟨q0, qP, va_K.moved (u := U) (U := U.calling g mk a) (Vm.Alike.refl U.vm) qK⟩, va_recv hKc hPc (ci := 6) (q0 := 0) rfl rfl, fun U hU hW => ⟨rfl, by rw [hU]; exact hPc, va_K.moved hW.alike hKc⟩⟩ rfl rfl hl.1 rfl (lv_room (Nat.le_of_ble_eq_true rfl)) dX8_lastClearStep_16 ⟨Nat.le_of_ble_eq_true rfl, Nat.le_of_ble_eq_true rfl⟩) (fun r_4 hr_4 => ?_)
    try dsimp only at hr_4
    refine lv_icmp_gt (tgt := 48) hx hb dX8_lastClearStep_19 (by decide) (fun c_19 => ?_) (fun c_19 => ?_)
    · have t_19 := (fa_lt _ _).mp c_19
      refine lv_iload_n hx hb dX8_lastClearStep_48 rfl (lv_at hl 3 rfl) ?_
      have hP9 := hP.part (cx := [(h0, .inr (8, [.ref n0, .ref s0, .ref s1, .ref d0, .ref o0, .int dn, .int nn, .int la, .int ne, .int wi, .ref w0, .ref e0, .ref f0, .ref t0, .ref b0, .int lmv])), (n0, .inr (1, [.ref na, .int sz9])), (na, .inl (cT, 16, .inr (.inr (.inr (.inr ga))))), (w0, .inr (7, [.long vu, .long vl, .long vp]))]) [0, 1, 2, 3] rfl
      have hD9 := hD.part (cx := [(h0, .inr (8, [.ref n0, .ref s0, .ref s1, .ref d0, .ref o0, .int dn, .int nn, .int la, .int ne, .int wi, .ref w0, .ref e0, .ref f0, .ref t0, .ref b0, .int lmv])), (n0, .inr (1, [.ref na, .int sz9])), (na, .inl (cT, 16, .inr (.inr (.inr (.inr ga))))), (w0, .inr (7, [.long vu, .long vl, .long vp]))]) [0, 1, 2, 3] (by decide) rfl
      have hK9 := hK.sub (tys' := [(cT, .object "MeetingsAbove$Thing"), (cI, .int)]) [0, 1] rfl
      refine W.widen (k := 0) (n := 0) (by omega) (by omega) ?_
      exact W.iret (v := n3) hx hb hr (fun t ht hW => ⟨⟨_, (), rfl, ⟨by omega, by omega, lc_mk hok1 hv9 (by rw [hn3]; exact hcl) (Or.inl (by show n3.toInt = fi1.toInt + pl1.toInt - 1; omega))⟩, vu, vl, vp, lmv, by rw [ht]; exact hP9, va_K.moved hW.alike hK9, hD9⟩, hS.F ht⟩) hS.2.2 dX8_lastClearStep_49
    · have t_19 := mt (fa_lt _ _).mpr c_19
      refine lv_aload_n hx hb dX8_lastClearStep_22 rfl (lv_at hl 0 rfl) ?_
      refine lv_iload_n hx hb dX8_lastClearStep_23 rfl (lv_at hl 1 rfl) ?_
      refine lv_aload_n hx hb dX8_lastClearStep_24 rfl (lv_at hl 2 rfl) ?_
      refine lv_iload hx hb dX8_lastClearStep_25 (lv_at hl 4 rfl) ?_
      refine lv_iconst (v := 1) hx hb dX8_lastClearStep_27 (by decide) ?_
      refine lv_isub hx hb dX8_lastClearStep_28 ?_
      refine lv_topi (fun y_5 ey_5 => ?_)
      have ty_5 : y_5.toInt = k4.toInt - 1 := by rw [ey_5]; have := fb_subI (x := k4) (y := 1) (by omega) (by omega); omega
      refine lv_iload hx hb dX8_lastClearStep_29 (lv_at hl 4 rfl) ?_
      have hPc := hP.part (cx := [(h0, .inr (8, [.ref n0, .ref s0, .ref s1, .ref d0, .ref o0, .int dn, .int nn, .int la, .int ne, .int wi, .ref w0, .ref e0, .ref f0, .ref t0, .ref b0, .int lmv])), (n0, .inr (1, [.ref na, .int sz9])), (na, .inl (cT, 16, .inr (.inr (.inr (.inr ga))))), (w0, .inr (7, [.long vu, .long vl, .long vp]))]) [0, 1, 2, 3] rfl
      have hKc := hK.sub (tys' := [(cT, .object "MeetingsAbove$Thing"), (cI, .int)]) [0, 1] rfl
      have hDc := hD.part (cx := [(h0, .inr (8, [.ref n0, .ref s0, .ref s1, .ref d0, .ref o0, .int dn, .int nn, .int la, .int ne, .int wi, .ref w0, .ref e0, .ref f0, .ref t0, .ref b0, .int lmv])), (n0, .inr (1, [.ref na, .int sz9])), (na, .inl (cT, 16, .inr (.inr (.inr (.inr ga))))), (w0, .inr (7, [.long vu, .long vl, .long vp]))]) [0, 1, 2, 3] (by decide) rfl
      have hFc := va_freeP (cx := [(h0, .inr (8, [.ref n0, .ref s0, .ref s1, .ref d0, .ref o0, .int dn, .int nn, .int la, .int ne, .int wi, .ref w0, .ref e0, .ref f0, .ref t0, .ref b0, .int lmv])), (n0, .inr (1, [.ref na, .int sz9])), (na, .inl (cT, 16, .inr (.inr (.inr (.inr ga))))), (w0, .inr (7, [.long vu, .long vl, .long vp]))]) hD hS hA [0, 1, 2, 3] rfl
      refine va_calli (va_runV (As := [.int p1, .ref h1, .int y_5, .int k4]) (rest := []) ⟨hx, hb, hml, hown, hts⟩ (c_X8_meetsAnyPE l dC dI h0 n0 s0 s1 d0 o0 w0 e0 f0 t0 b0 dn nn la ne wi lmv na cT sz9 ga cI L f ow v vu vl vp h1 x1 fi1 pl1 db1 go1 g1 p1 y_5 k4 H.size (by first | assumption | omega) (by first | assumption | omega) (by first | assumption | omega) (by first | assumption | omega) (by first | assumption | omega) (by first | assumption | omega) (by first | assumption | omega) (by first | omega | assumption) (by first | omega | assumption)) (cwV 4 hts g_X8_lastClearStepE__X8_meetsAnyPE_369 rfl rfl rfl (by decide +kernel) ⟨Nat.le_of_ble_eq_true rfl, Nat.le_of_ble_eq_true rfl⟩) ⟨fun a U g mk q => by obtain ⟨q0, q1, qP, qK, qD⟩ := q; exact ⟨q0, q1, qP, va_K.moved (u := U) (U := U.calling g mk a) (Vm.Alike.refl U.vm) qK, qD⟩, va_recv hKc hPc (ci := 8) (q0 := 0) rfl rfl, fun U hU hW => ⟨rfl, by rw [hU], by rw [hU]; exact hPc, va_K.moved hW.alike hKc, hDc.weaken (fun _ _ _ _ => trivial)⟩⟩ rfl rfl hl.1 rfl (lv_room (Nat.le_of_ble_eq_true rfl)) dX8_lastClearStep_31 ⟨Nat.le_of_ble_eq_true rfl, Nat.le_of_ble_eq_true rfl⟩) hS (fun q _ h => hFc q h) hFc (fun r_7 u_6 t H1 locs ht hvm hw_7 hB hz1 hk1 hS => ?_)
      obtain ⟨wu9_8, wl9_9, wp9_10, lm9_11, hP1, hK1, hD1⟩ := hB
      rw [ht] at hP1
      have hK1 := va_K.moved hvm.symm hK1
      obtain ⟨hP, hD⟩ := va_joinP (wr := []) (rx := [(h0, .inr (8, [.ref n0, .ref s0, .ref s1, .ref d0, .ref o0, .int dn, .int nn, .int la, .int ne, .int wi, .ref w0, .ref e0, .ref f0, .ref t0, .ref b0, .int lm9_11])), (n0, .inr (1, [.ref na, .int sz9])), (na, .inl (cT, 16, .inr (.inr (.inr (.inr ga))))), (w0, .inr (7, [.long wu9_8, .long wl9_9, .long wp9_10]))]) hP hD [0, 1, 2, 3] [] rfl rfl (by decide) (by decide) hk1 hFc hP1 hD1
      have hK := (hK.sub (tys' := [(cT, .object "MeetingsAbove$Thing"), (cI, .int)]) [0, 1] rfl).app hK1
      generalize H1 = H at hP hS ⊢
      have hP : va_P (dC, dI) vwCl (([(h0, .inr (8, [.ref n0, .ref s0, .ref s1, .ref d0, .ref o0, .int dn, .int nn, .int la, .int ne, .int wi, .ref w0, .ref e0, .ref f0, .ref t0, .ref b0, .int lm9_11])), (n0, .inr (1, [.ref na, .int sz9])), (na, .inl (cT, 16, .inr (.inr (.inr (.inr ga))))), (w0, .inr (7, [.long wu9_8, .long wl9_9, .long wp9_10]))] : va_W) ++ va_pl L f) H := hP
      have hD : va_D A (([(h0, .inr (8, [.ref n0, .ref s0, .ref s1, .ref d0, .ref o0, .int dn, .int nn, .int la, .int ne, .int wi, .ref w0, .ref e0, .ref f0, .ref t0, .ref b0, .int lm9_11])), (n0, .inr (1, [.ref na, .int sz9])), (na, .inl (cT, 16, .inr (.inr (.inr (.inr ga))))), (w0, .inr (7, [.long wu9_8, .long wl9_9, .long wp9_10]))] : va_W) ++ va_pl L f) := hD
      have hK : va_K (dC, dI) vwCl [(cT, .object "MeetingsAbove$Thing"), (cI, .int), (cT, .object "MeetingsAbove$Thing"), (cI, .int)] s := hK
      refine W.widen (k := 0) (n := 0) (by omega) (by omega) ?_
      try dsimp only at hw_7
      refine lv_if_eq (tgt := 39) hx hb dX8_lastClearStep_34 (by decide) (fun c_34 => ?_) (fun c_34 => ?_)
      · have t_34 := (fa_eq _ _).mp c_34
        refine lv_iload hx hb dX8_lastClearStep_39 (lv_at hl 4 rfl) ?_
        refine lv_istore_n (lv' := [(3, .int k4), (0, .ref h0), (1, .int p1), (2, .ref h1), (4, .int k4)]) hx hb dX8_lastClearStep_41 rfl hl (by decide) rfl (fun ls hl => ?_)
        obtain ⟨y_12, ey_12⟩ : ∃ y : Int32, y = k4 + 1 := ⟨_, rfl⟩
        have ty_12 : y_12.toInt = k4.toInt + 1 := by rw [ey_12]; have := fb_addI (x := k4) (y := 1) (by omega) (by omega); omega
        refine lv_iinc (v := y_12) (lv' := [(4, .int y_12), (3, .int k4), (0, .ref h0), (1, .int p1), (2, .ref h1)]) hx hb dX8_lastClearStep_42 hl (k := 4) rfl (by rw [ey_12]; rfl) (by decide) rfl (fun ls hl => ?_)
        refine lv_goto (tgt := 13) hx hb dX8_lastClearStep_45 (by decide) ?_
        exact ih_13 k4 y_12 lm9_11 wu9_8 wl9_9 wp9_10 (by omega) (by omega) (by omega) (by rw [show (y_12).toInt - 1 = k4.toInt by omega]; intro z8; rcases (any_split (s := k4.toInt - 1) hok1 hv9 (by omega)).mp z8 with z | z <;> first | exact hcl z | exact tv_0 hw_7 c_34 (by rw [ty_5]; exact z)) (by omega) H _ (hP.part [0, 1, 2, 3] rfl) (hD.part [0, 1, 2, 3] (by decide) rfl) hS ls (lv_sub hl [2, 3, 4, 1, 0] rfl)
      · have t_34 := mt (fa_eq _ _).mpr c_34
        refine lv_iload_n hx hb dX8_lastClearStep_37 rfl (lv_at hl 3 rfl) ?_
        have hP9 := hP.part (cx := [(h0, .inr (8, [.ref n0, .ref s0, .ref s1, .ref d0, .ref o0, .int dn, .int nn, .int la, .int ne, .int wi, .ref w0, .ref e0, .ref f0, .ref t0, .ref b0, .int lm9_11])), (n0, .inr (1, [.ref na, .int sz9])), (na, .inl (cT, 16, .inr (.inr (.inr (.inr ga))))), (w0, .inr (7, [.long wu9_8, .long wl9_9, .long wp9_10]))]) [0, 1, 2, 3] rfl
        have hD9 := hD.part (cx := [(h0, .inr (8, [.ref n0, .ref s0, .ref s1, .ref d0, .ref o0, .int dn, .int nn, .int la, .int ne, .int wi, .ref w0, .ref e0, .ref f0, .ref t0, .ref b0, .int lm9_11])), (n0, .inr (1, [.ref na, .int sz9])), (na, .inl (cT, 16, .inr (.inr (.inr (.inr ga))))), (w0, .inr (7, [.long wu9_8, .long wl9_9, .long wp9_10]))]) [0, 1, 2, 3] (by decide) rfl
        have hK9 := hK.sub (tys' := [(cT, .object "MeetingsAbove$Thing"), (cI, .int)]) [0, 1] rfl
        refine W.widen (k := 0) (n := 0) (by omega) (by omega) ?_
        exact W.iret (v := n3) hx hb hr (fun t ht hW => ⟨⟨_, (), rfl, ⟨by omega, by omega, lc_mk hok1 hv9 (by rw [hn3]; exact hcl) (Or.inr ((any_split (s := n3.toInt) hok1 hv9 (by omega)).mpr (Or.inr (by have q9 := tv_1 hw_7 c_34; rw [ty_5, ← hn3] at q9; rw [show n3.toInt + 1 = k4.toInt by omega]; exact q9))))⟩, wu9_8, wl9_9, wp9_10, lm9_11, by rw [ht]; exact hP9, va_K.moved hW.alike hK9, hD9⟩, hS.F ht⟩) hS.2.2 dX8_lastClearStep_38
def wk_X8_fuelE : List Cond := .code yX8_fuelOf cX8_fuelOf 3 (some .int) :: (([.methodLink RX8 354 Lib.Math.abs.name, .static Lib.Math.abs.name, .initialized "java/lang/Math", .code Lib.Math.abs.name Lib.Math.abs.code 1 (some .int)] : List Cond) ++ ([]))
theorem gw_X8_fuelE : AG wk_X8_fuelE := AG_ca (AG_l (by decide +kernel)) (AG_nil)
set_option maxHeartbeats 4000000 in
set_option maxRecDepth 100000 in
theorem c_X8_fuelE (l : Launch) (dC : Nat → ClassId) (dI : Nat → Nat → Nat) (p1 : Int32) (p2 : Int32) (p3 : Int32) (hb : (-2 ≤ p1.toInt ∧ p1.toInt ≤ 2) ∧ (-2 ≤ p2.toInt ∧ p2.toInt ≤ 2) ∧ (-2 ≤ p3.toInt ∧ p3.toInt ≤ 2)) : Met l yX8_fuelOf wk_X8_fuelE ({ frames := 1, cells := 0, slots := 0, locals := 14 }) (va_Pc [.int p1, .int p2, .int p3] (fun _ => True)) (vp_Si (fun r => r.toInt = (p1.toInt.natAbs : Int) + (p2.toInt.natAbs : Int) + (p3.toInt.natAbs : Int))) 0 0 (fun _ => False) := by
  refine Met.ofW (cc := cX8_fuelOf) (maxL := 3) (ret := (some .int)) (by decide) rfl ?_
  intro p e s m args below meth c s₁ B hml hv
  obtain ⟨rfl, -⟩ := hv
  have hx := B.exec
  have hb := B.bytes
  have hr := B.returns
  have hts := atoms_spec (ws := wk_X8_fuelE) B.pre
  have hown : s.vm.findClass RX8 = some m.cls := findClass_of_methodNamed B.named
  have hlocks := B.notSynchronized
  have hl := lv_entry ([.int p1, .int p2, .int p3]) (n := 3) (Nat.le_of_ble_eq_true rfl)
  rw [lg_entry_eq]
  generalize (lg_sl ([.int p1, .int p2, .int p3]) ++ List.replicate (3 - (lg_sl ([.int p1, .int p2, .int p3])).length) Slot.unset).toArray = ls at hl ⊢
  have hl : lv_has ls 3 [(0, .int p1), (1, .int p2), (2, .int p3)] := hl
  have kl_0 : (0 : Int32).toInt = 0 := by decide
  refine lv_iload_n hx hb dX8_fuelOf_0 rfl (lv_at hl 0 rfl) ?_
  refine va_mabs hx hb (by rw [hml]; exact hl.1.symm) hown (hts (.methodLink RX8 354 Lib.Math.abs.name) (by decide +kernel)) (hts (.static Lib.Math.abs.name) (by decide +kernel)) (hts (.initialized "java/lang/Math") (by decide +kernel)) (hts _ (List.mem_of_getElem? (i := 4) rfl)) (Nat.le_of_ble_eq_true rfl) (Nat.le_of_ble_eq_true rfl) (Nat.le_of_ble_eq_true rfl) (Nat.le_of_ble_eq_true rfl) dX8_fuelOf_1 ?_
  refine lv_topi (fun y_1 ey_1 => ?_)
  have ty_1 := ab_I ey_1 (by omega)
  refine lv_iload_n hx hb dX8_fuelOf_4 rfl (lv_at hl 1 rfl) ?_
  refine va_mabs hx hb (by rw [hml]; exact hl.1.symm) hown (hts (.methodLink RX8 354 Lib.Math.abs.name) (by decide +kernel)) (hts (.static Lib.Math.abs.name) (by decide +kernel)) (hts (.initialized "java/lang/Math") (by decide +kernel)) (hts _ (List.mem_of_getElem? (i := 4) rfl)) (Nat.le_of_ble_eq_true rfl) (Nat.le_of_ble_eq_true rfl) (Nat.le_of_ble_eq_true rfl) (Nat.le_of_ble_eq_true rfl) dX8_fuelOf_5 ?_
  refine lv_topi (fun y_2 ey_2 => ?_)
  have ty_2 := ab_I ey_2 (by omega)
  refine lv_iadd hx hb dX8_fuelOf_8 ?_
  refine lv_topi (fun y_3 ey_3 => ?_)
  have ty_3 : y_3.toInt = y_1.toInt + y_2.toInt := by rw [ey_3]; have := fb_addI (x := y_1) (y := y_2) (by omega) (by omega); omega
  refine lv_iload_n hx hb dX8_fuelOf_9 rfl (lv_at hl 2 rfl) ?_
  refine va_mabs hx hb (by rw [hml]; exact hl.1.symm) hown (hts (.methodLink RX8 354 Lib.Math.abs.name) (by decide +kernel)) (hts (.static Lib.Math.abs.name) (by decide +kernel)) (hts (.initialized "java/lang/Math") (by decide +kernel)) (hts _ (List.mem_of_getElem? (i := 4) rfl)) (Nat.le_of_ble_eq_true rfl) (Nat.le_of_ble_eq_true rfl) (Nat.le_of_ble_eq_true rfl) (Nat.le_of_ble_eq_true rfl) dX8_fuelOf_10 ?_
  refine lv_topi (fun y_4 ey_4 => ?_)
  have ty_4 := ab_I ey_4 (by omega)
  refine lv_iadd hx hb dX8_fuelOf_13 ?_
  refine lv_topi (fun y_5 ey_5 => ?_)
  have ty_5 : y_5.toInt = y_3.toInt + y_4.toInt := by rw [ey_5]; have := fb_addI (x := y_3) (y := y_4) (by omega) (by omega); omega
  exact W.iret (v := y_5) hx hb hr (fun t ht _ => ⟨_, rfl, (by omega), ht⟩) (fun _ h => absurd h List.not_mem_nil) dX8_fuelOf_14
