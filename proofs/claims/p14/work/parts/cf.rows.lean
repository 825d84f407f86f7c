def wk_X7_lookPE : List Cond := .code yX7_look cX7_look 16 none :: (([.fieldLink RX7 15 "MeetingsAbove$Way" "upper" "J", .fieldLink RX7 21 "MeetingsAbove$Way" "lower" "J", .fieldLink RX7 24 "MeetingsAbove$Way" "partUpper" "J"] : List Cond) ++ (wsX70 ++ ((wsV RX7 9 RX6 yX6_coord wk_X6_coord) ++ ([]))))
theorem in_X7_lookPE_X7 : ∀ w ∈ wsX70, w ∈ wk_X7_lookPE := fun _ h => List.mem_cons_of_mem _ (List.mem_append_right _ (List.mem_append_left _ h))
theorem gw_X7_lookPE : AG wk_X7_lookPE := AG_ca (AG_l (by decide +kernel)) (AG_app ag_X7 (AG_app (AG_V gw_X6_coord) (AG_nil)))
theorem g_X7_lookPE__X6_coord_9 : GoodIn wk_X7_lookPE (wsV RX7 9 RX6 yX6_coord wk_X6_coord) := goodIn_m (fun _ h => List.mem_cons_of_mem _ (List.mem_append_right _ (List.mem_append_right _ (List.mem_append_left _ h)))) (AG_V gw_X6_coord)
set_option maxHeartbeats 4000000 in
set_option maxRecDepth 100000 in
theorem c_X7_lookPE (l : Launch) (dC : Nat → ClassId) (dI : Nat → Nat → Nat) (h0 : Nat) (wu : Int64) (wl : Int64) (wp : Int64) (h1 : Nat) (x1 : Nat) (fi1 : Int32) (pl1 : Int32) (db1 : Int32) (go1 : Int32) (g1 : Nat → Int32) (h2 : Nat) (x2 : Nat) (fi2 : Int32) (pl2 : Int32) (db2 : Int32) (go2 : Int32) (g2 : Nat → Int32) (cI : ClassId) (L : List Nat) (f : Nat → va_E) (p1 : Int32) (p2 : Int32) (sz : Nat) (hL1 : h1 ∈ L) (hX1 : x1 ∈ L) (hf1 : f h1 = .inr (6, [.ref x1, .int fi1, .int pl1, .int db1, .int go1])) (hg1 : f x1 = .inl (cI, 36, .inl g1)) (hL2 : h2 ∈ L) (hX2 : x2 ∈ L) (hf2 : f h2 = .inr (6, [.ref x2, .int fi2, .int pl2, .int db2, .int go2])) (hg2 : f x2 = .inl (cI, 36, .inl g2)) (ht1 : tOK fi1 pl1) (ht2 : tOK fi2 pl2) (hco1 : cOK pl1 g1) (hco2 : cOK pl2 g2) (hl1 : fi1.toInt ≤ p1.toInt) (hl2 : p1.toInt < fi1.toInt + pl1.toInt) (hl3 : fi2.toInt ≤ p1.toInt) (hl4 : p1.toInt < fi2.toInt + pl2.toInt) (hl5 : p2.toInt ≠ 0 → p1.toInt + 1 < fi1.toInt + pl1.toInt ∧ p1.toInt + 1 < fi2.toInt + pl2.toInt) : Met l yX7_look wk_X7_lookPE ({ frames := 1, cells := 0, slots := 0, locals := 23 }) (va_Pc [.ref h0, .ref h1, .ref h2, .int p1, .int p2] (fun U => U.heap.size = sz ∧ va_P (dC, dI) vwCl (([(h0, .inr (7, [.long wu, .long wl, .long wp]))] : va_W) ++ va_pl L f) U.heap ∧ va_K (dC, dI) vwCl [(cI, .int)] U ∧ va_D (fun _ => True) (([(h0, .inr (7, [.long wu, .long wl, .long wp]))] : va_W) ++ va_pl L f))) (va_Qv (fun (_ : Unit) => True) (fun (_ : Unit) (t : State) => ∃ (u9 : Int64) (l9 : Int64) (p9 : Int64), va_P (dC, dI) vwCl (([(h0, .inr (7, [.long u9, .long l9, .long p9]))] : va_W) ++ va_pl L f) t.heap ∧ va_K (dC, dI) vwCl [] t ∧ va_D (va_A (([(h0, .inr (7, [.long wu, .long wl, .long wp]))] : va_W) ++ va_pl L f) sz) (([(h0, .inr (7, [.long u9, .long l9, .long p9]))] : va_W) ++ va_pl L f) ∧ u9.toInt = wU (gA fi1 g1 fi2 g2 p1.toInt) (gB fi1 g1 fi2 g2 p1.toInt (p2.toInt ≠ 0)) ∧ l9.toInt = wL (gA fi1 g1 fi2 g2 p1.toInt) (gB fi1 g1 fi2 g2 p1.toInt (p2.toInt ≠ 0)) ∧ p9.toInt = wP (gA fi1 g1 fi2 g2 p1.toInt) (gB fi1 g1 fi2 g2 p1.toInt (p2.toInt ≠ 0))) (va_A (([(h0, .inr (7, [.long wu, .long wl, .long wp]))] : va_W) ++ va_pl L f) sz)) 0 0 (va_A (([(h0, .inr (7, [.long wu, .long wl, .long wp]))] : va_W) ++ va_pl L f) sz) := by
  refine Met.ofW (cc := cX7_look) (maxL := 16) (ret := none) (by decide) rfl ?_
  intro p e s m args below meth c s₁ B hml hv
  obtain ⟨rfl, hsz, hP, hK, hD0⟩ := hv
  have hx := B.exec
  have hb := B.bytes
  have hr := B.returns
  have hts := atoms_spec (ws := wk_X7_lookPE) B.pre
  have hown : s.vm.findClass RX7 = some m.cls := findClass_of_methodNamed B.named
  have hlocks := B.notSynchronized
  subst hsz
  have hD := hD0.self (sz := s.heap.size)
  generalize hAe : va_A (([(h0, .inr (7, [.long wu, .long wl, .long wp]))] : va_W) ++ va_pl L f) s.heap.size = A at hD ⊢
  have hA : ∀ q : Nat, s.heap.size ≤ q → A q := fun q h => by rw [← hAe]; exact Or.inr h
  have hS : va_S A s.heap s.heap [] := va_S.rf
  have hP : va_P (dC, dI) vwCl (([(h0, .inr (7, [.long wu, .long wl, .long wp]))] : va_W) ++ va_pl L f) s.heap := hP
  have hl := lv_entry ([.ref h0, .ref h1, .ref h2, .int p1, .int p2]) (n := 16) (Nat.le_of_ble_eq_true rfl)
  rw [lg_entry_eq]
  generalize (lg_sl ([.ref h0, .ref h1, .ref h2, .int p1, .int p2]) ++ List.replicate (16 - (lg_sl ([.ref h0, .ref h1, .ref h2, .int p1, .int p2])).length) Slot.unset).toArray = ls at hl ⊢
  have hl : lv_has ls 16 [(0, .ref h0), (1, .ref h1), (2, .ref h2), (3, .int p1), (4, .int p2)] := hl
  have kl_0 : (0 : Int32).toInt = 0 := by decide
  have kl_1 : (1 : Int32).toInt = 1 := by decide
  have kl_3 : (3 : Int32).toInt = 3 := by decide
  have klL_0 : (0 : Int64).toInt = 0 := by decide
  have klL_1 : (1 : Int64).toInt = 1 := by decide
  obtain ⟨qa1, qb1, qc1, qd1⟩ := id ht1
  obtain ⟨qa2, qb2, qc2, qd2⟩ := id ht2
  have hOK := gw_ok (go := p2.toInt ≠ 0) hco1 hco2 hl1 hl2 hl3 hl4 hl5
  refine lv_lconst (v := 0) hx hb dX7_look_0 (by decide) ?_
  refine lv_lstore (lv' := [(5, .long 0), (0, .ref h0), (1, .ref h1), (2, .ref h2), (3, .int p1), (4, .int p2)]) hx hb dX7_look_1 hl (by decide) rfl (fun ls hl => ?_)
  refine lv_lconst (v := 0) hx hb dX7_look_3 (by decide) ?_
  refine lv_lstore (lv' := [(7, .long 0), (5, .long 0), (0, .ref h0), (1, .ref h1), (2, .ref h2), (3, .int p1), (4, .int p2)]) hx hb dX7_look_4 hl (by decide) rfl (fun ls hl => ?_)
  refine lv_lconst (v := 0) hx hb dX7_look_6 (by decide) ?_
  refine lv_lstore (lv' := [(9, .long 0), (7, .long 0), (5, .long 0), (0, .ref h0), (1, .ref h1), (2, .ref h2), (3, .int p1), (4, .int p2)]) hx hb dX7_look_7 hl (by decide) rfl (fun ls hl => ?_)
  refine lv_iconst (v := 0) hx hb dX7_look_9 (by decide) ?_
  refine lv_istore (lv' := [(11, .int 0), (9, .long 0), (7, .long 0), (5, .long 0), (0, .ref h0), (1, .ref h1), (2, .ref h2), (3, .int p1), (4, .int p2)]) hx hb dX7_look_10 hl (by decide) rfl (fun ls hl => ?_)
  refine (show ∀ (k : Nat) (z5 : Int64) (z7 : Int64) (z9 : Int64) (ax : Int32) (ha0 : 0 ≤ ax.toInt) (ha1 : ax.toInt ≤ 3) (hz5 : z5.toInt = acc (fun j => gA fi1 g1 fi2 g2 p1.toInt j * gA fi1 g1 fi2 g2 p1.toInt j) ax.toInt.toNat) (hz7 : z7.toInt = acc (fun j => gA fi1 g1 fi2 g2 p1.toInt j * (gB fi1 g1 fi2 g2 p1.toInt (p2.toInt ≠ 0)) j) ax.toInt.toNat) (hz9 : z9.toInt = acc (fun j => (gB fi1 g1 fi2 g2 p1.toInt (p2.toInt ≠ 0)) j * (gB fi1 g1 fi2 g2 p1.toInt (p2.toInt ≠ 0)) j) ax.toInt.toNat) (hk_12 : (3 - ax.toInt).toNat < k) (H : Heap) (locs : List Loc) (hP : va_P (dC, dI) vwCl (([(h0, .inr (7, [.long wu, .long wl, .long wp]))] : va_W) ++ va_pl L f) H) (hD : va_D A (([(h0, .inr (7, [.long wu, .long wl, .long wp]))] : va_W) ++ va_pl L f)) (hS : va_S A s.heap H locs) (ls : Array Slot) (hl : lv_has ls 16 [(0, .ref h0), (1, .ref h1), (2, .ref h2), (3, .int p1), (4, .int p2), (5, .long z5), (7, .long z7), (9, .long z9), (11, .int ax)]), W p l e _ s m _ below meth c H locs 0 0 _ (F0 m 12 ls []) from ?_) _ 0 0 0 0 (by omega) (by omega) (by rw [show (0 : Int32).toInt.toNat = 0 by omega]; exact klL_0) (by rw [show (0 : Int32).toInt.toNat = 0 by omega]; exact klL_0) (by rw [show (0 : Int32).toInt.toNat = 0 by omega]; exact klL_0) (Nat.lt_succ_self _) _ _ hP hD hS ls (lv_sub hl [4, 5, 6, 7, 8, 3, 2, 1, 0] rfl)
  intro k
  induction k with
  | zero => intro z5 z7 z9 ax ha0 ha1 hz5 hz7 hz9 hk_12; exact absurd hk_12 (Nat.not_lt_zero _)
  | succ k ih_12 =>
    intro z5 z7 z9 ax ha0 ha1 hz5 hz7 hz9 hk_12 H locs hP hD hS ls hl
    refine lv_iload hx hb dX7_look_12 (lv_at hl 8 rfl) ?_
    refine lv_iconst (v := 3) hx hb dX7_look_14 (by decide) ?_
    refine lv_icmp_ge (tgt := 106) hx hb dX7_look_15 (by decide) (fun c_15 => ?_) (fun c_15 => ?_)
    · have t_15 := (fa_le _ _).mp c_15
      have ax3 : ax.toInt.toNat = 3 := (by omega)
      rw [ax3] at hz5 hz7 hz9
      have bS := wS_bd hOK
      have bT := wT_bd hOK
      have bC := wC_bd hOK
      have eS : z5.toInt = wD (gA fi1 g1 fi2 g2 p1.toInt) (gA fi1 g1 fi2 g2 p1.toInt) := hz5
      have eT : z7.toInt = wD (gA fi1 g1 fi2 g2 p1.toInt) (gB fi1 g1 fi2 g2 p1.toInt (p2.toInt ≠ 0)) := hz7
      have eC : z9.toInt = wD (gB fi1 g1 fi2 g2 p1.toInt (p2.toInt ≠ 0)) (gB fi1 g1 fi2 g2 p1.toInt (p2.toInt ≠ 0)) := hz9
      refine lv_lload hx hb dX7_look_106 (lv_at hl 6 rfl) ?_
      refine lv_lconst (v := 0) hx hb dX7_look_108 (by decide) ?_
      refine W.lcmp hx hb dX7_look_109 ?_
      refine lv_if_ge (tgt := 127) hx hb dX7_look_110 (by decide) (fun c_110 => ?_) (fun c_110 => ?_)
      · have t_110 := (fa_le64 _ _).mp ((lg_cmp_ge _ _).mp c_110)
        refine lv_iconst (v := 0) hx hb dX7_look_127 (by decide) ?_
        refine lv_istore (lv' := [(11, .int 0), (0, .ref h0), (1, .ref h1), (2, .ref h2), (3, .int p1), (4, .int p2), (5, .long z5), (7, .long z7), (9, .long z9)]) hx hb dX7_look_128 hl (by decide) rfl (fun ls hl => ?_)
        refine lv_aload_n hx hb dX7_look_130 rfl (lv_at hl 1 rfl) ?_
        refine lv_iload hx hb dX7_look_131 (lv_at hl 0 rfl) ?_
        refine lv_if_eq (tgt := 150) hx hb dX7_look_133 (by decide) (fun _ => ?_) (fun h9 => absurd h9 (by decide))
        refine lv_lload hx hb dX7_look_150 (lv_at hl 6 rfl) ?_
        refine va_put (D := (dC, dI)) (ci := 7) (v := .long z5) (ty := .long) (C := RX7) (T := TX7) (N := 3) hx hb hts in_X7_lookPE_X7 tyX7 tyX7_ok nmX7 hown hK hP hD hS 0 rfl rfl 0 (by decide) (hts (.fieldLink RX7 15 "MeetingsAbove$Way" "upper" "J") (by decide +kernel)) (fun _ h9 => h9) rfl (by decide +kernel) rfl rfl (Nat.le_of_ble_eq_true rfl) dX7_look_152 (fun H locs hP hD hS => ?_)
        have hP : va_P (dC, dI) vwCl (([(h0, .inr (7, [.long z5, .long wl, .long wp]))] : va_W) ++ va_pl L f) H := hP
        have hD : va_D A (([(h0, .inr (7, [.long z5, .long wl, .long wp]))] : va_W) ++ va_pl L f) := hD
        refine lv_aload_n hx hb dX7_look_155 rfl (lv_at hl 1 rfl) ?_
        refine lv_iload hx hb dX7_look_156 (lv_at hl 0 rfl) ?_
        refine lv_if_eq (tgt := 166) hx hb dX7_look_158 (by decide) (fun _ => ?_) (fun h9 => absurd h9 (by decide))
        refine lv_lconst (v := 1) hx hb dX7_look_166 (by decide) ?_
        refine va_put (D := (dC, dI)) (ci := 7) (v := .long 1) (ty := .long) (C := RX7) (T := TX7) (N := 3) hx hb hts in_X7_lookPE_X7 tyX7 tyX7_ok nmX7 hown hK hP hD hS 0 rfl rfl 1 (by decide) (hts (.fieldLink RX7 21 "MeetingsAbove$Way" "lower" "J") (by decide +kernel)) (fun _ h9 => h9) rfl (by decide +kernel) rfl rfl (Nat.le_of_ble_eq_true rfl) dX7_look_167 (fun H locs hP hD hS => ?_)
        have hP : va_P (dC, dI) vwCl (([(h0, .inr (7, [.long z5, .long 1, .long wp]))] : va_W) ++ va_pl L f) H := hP
        have hD : va_D A (([(h0, .inr (7, [.long z5, .long 1, .long wp]))] : va_W) ++ va_pl L f) := hD
        refine lv_aload_n hx hb dX7_look_170 rfl (lv_at hl 1 rfl) ?_
        refine lv_iload hx hb dX7_look_171 (lv_at hl 0 rfl) ?_
        refine lv_if_eq (tgt := 182) hx hb dX7_look_173 (by decide) (fun _ => ?_) (fun h9 => absurd h9 (by decide))
        refine lv_lconst (v := 0) hx hb dX7_look_182 (by decide) ?_
        refine va_put (D := (dC, dI)) (ci := 7) (v := .long 0) (ty := .long) (C := RX7) (T := TX7) (N := 3) hx hb hts in_X7_lookPE_X7 tyX7 tyX7_ok nmX7 hown hK hP hD hS 0 rfl rfl 2 (by decide) (hts (.fieldLink RX7 24 "MeetingsAbove$Way" "partUpper" "J") (by decide +kernel)) (fun _ h9 => h9) rfl (by decide +kernel) rfl rfl (Nat.le_of_ble_eq_true rfl) dX7_look_183 (fun H locs hP hD hS => ?_)
        have hP : va_P (dC, dI) vwCl (([(h0, .inr (7, [.long z5, .long 1, .long 0]))] : va_W) ++ va_pl L f) H := hP
        have hD : va_D A (([(h0, .inr (7, [.long z5, .long 1, .long 0]))] : va_W) ++ va_pl L f) := hD
        have hP9 := hP.part (cx := [(h0, .inr (7, [.long z5, .long 1, .long 0]))]) [0] rfl
        have hD9 := hD.part (cx := [(h0, .inr (7, [.long z5, .long 1, .long 0]))]) [0] (by decide) rfl
        have hK9 := hK.sub (tys' := []) [] rfl
        refine W.widen (k := 0) (n := 0) (by omega) (by omega) ?_
        exact W.vret hx hb hr (fun t ht hW => ⟨⟨(), rfl, trivial, z5, 1, 0, by rw [ht]; exact hP9, va_K.moved hW.alike hK9, hD9, (by first | (have hI9 : wIn (gA fi1 g1 fi2 g2 p1.toInt) (gB fi1 g1 fi2 g2 p1.toInt (p2.toInt ≠ 0)) := ⟨by omega, by omega⟩; unfold wU; rw [if_pos hI9, tzz_none, m4, m5, eS, eT, eC]) | (have hI9 : ¬ wIn (gA fi1 g1 fi2 g2 p1.toInt) (gB fi1 g1 fi2 g2 p1.toInt (p2.toInt ≠ 0)) := (fun z9 => by have z1 := z9.1; have z2 := z9.2; omega); unfold wU; rw [if_neg hI9, eS])), (by first | (have hI9 : wIn (gA fi1 g1 fi2 g2 p1.toInt) (gB fi1 g1 fi2 g2 p1.toInt (p2.toInt ≠ 0)) := ⟨by omega, by omega⟩; unfold wL; rw [if_pos hI9, eC]) | (have hI9 : ¬ wIn (gA fi1 g1 fi2 g2 p1.toInt) (gB fi1 g1 fi2 g2 p1.toInt (p2.toInt ≠ 0)) := (fun z9 => by have z1 := z9.1; have z2 := z9.2; omega); unfold wL; rw [if_neg hI9]; exact klL_1)), (by first | (have hI9 : wIn (gA fi1 g1 fi2 g2 p1.toInt) (gB fi1 g1 fi2 g2 p1.toInt (p2.toInt ≠ 0)) := ⟨by omega, by omega⟩; unfold wP; rw [if_pos hI9, ezz_none, neg_L (by omega), eT]) | (have hI9 : ¬ wIn (gA fi1 g1 fi2 g2 p1.toInt) (gB fi1 g1 fi2 g2 p1.toInt (p2.toInt ≠ 0)) := (fun z9 => by have z1 := z9.1; have z2 := z9.2; omega); unfold wP; rw [if_neg hI9]; exact klL_0))⟩, hS.F ht⟩) hS.2.2 dX7_look_186
      · have t_110 := mt (fa_le64 _ _).mpr (mt (lg_cmp_ge _ _).mpr c_110)
        refine lv_lload hx hb dX7_look_113 (lv_at hl 6 rfl) ?_
        refine lv_lload hx hb dX7_look_115 (lv_at hl 7 rfl) ?_
        refine lv_ladd hx hb dX7_look_117 ?_
        refine lv_topl (fun y_1 ey_1 => ?_)
        have ty_1 : y_1.toInt = z7.toInt + z9.toInt := by rw [ey_1]; have := fb_addL (x := z7) (y := z9) (by omega) (by omega); omega
        refine lv_lconst (v := 0) hx hb dX7_look_118 (by decide) ?_
        refine W.lcmp hx hb dX7_look_119 ?_
        refine lv_if_le (tgt := 127) hx hb dX7_look_120 (by decide) (fun c_120 => ?_) (fun c_120 => ?_)
        · have t_120 := (fa_le64 _ _).mp ((lg_cmp_le _ _).mp c_120)
          refine lv_iconst (v := 0) hx hb dX7_look_127 (by decide) ?_
          refine lv_istore (lv' := [(11, .int 0), (0, .ref h0), (1, .ref h1), (2, .ref h2), (3, .int p1), (4, .int p2), (5, .long z5), (7, .long z7), (9, .long z9)]) hx hb dX7_look_128 hl (by decide) rfl (fun ls hl => ?_)
          refine lv_aload_n hx hb dX7_look_130 rfl (lv_at hl 1 rfl) ?_
          refine lv_iload hx hb dX7_look_131 (lv_at hl 0 rfl) ?_
          refine lv_if_eq (tgt := 150) hx hb dX7_look_133 (by decide) (fun _ => ?_) (fun h9 => absurd h9 (by decide))
          refine lv_lload hx hb dX7_look_150 (lv_at hl 6 rfl) ?_
          refine va_put (D := (dC, dI)) (ci := 7) (v := .long z5) (ty := .long) (C := RX7) (T := TX7) (N := 3) hx hb hts in_X7_lookPE_X7 tyX7 tyX7_ok nmX7 hown hK hP hD hS 0 rfl rfl 0 (by decide) (hts (.fieldLink RX7 15 "MeetingsAbove$Way" "upper" "J") (by decide +kernel)) (fun _ h9 => h9) rfl (by decide +kernel) rfl rfl (Nat.le_of_ble_eq_true rfl) dX7_look_152 (fun H locs hP hD hS => ?_)
          have hP : va_P (dC, dI) vwCl (([(h0, .inr (7, [.long z5, .long wl, .long wp]))] : va_W) ++ va_pl L f) H := hP
          have hD : va_D A (([(h0, .inr (7, [.long z5, .long wl, .long wp]))] : va_W) ++ va_pl L f) := hD
          refine lv_aload_n hx hb dX7_look_155 rfl (lv_at hl 1 rfl) ?_
          refine lv_iload hx hb dX7_look_156 (lv_at hl 0 rfl) ?_
          refine lv_if_eq (tgt := 166) hx hb dX7_look_158 (by decide) (fun _ => ?_) (fun h9 => absurd h9 (by decide))
          refine lv_lconst (v := 1) hx hb dX7_look_166 (by decide) ?_
          refine va_put (D := (dC, dI)) (ci := 7) (v := .long 1) (ty := .long) (C := RX7) (T := TX7) (N := 3) hx hb hts in_X7_lookPE_X7 tyX7 tyX7_ok nmX7 hown hK hP hD hS 0 rfl rfl 1 (by decide) (hts (.fieldLink RX7 21 "MeetingsAbove$Way" "lower" "J") (by decide +kernel)) (fun _ h9 => h9) rfl (by decide +kernel) rfl rfl (Nat.le_of_ble_eq_true rfl) dX7_look_167 (fun H locs hP hD hS => ?_)
          have hP : va_P (dC, dI) vwCl (([(h0, .inr (7, [.long z5, .long 1, .long wp]))] : va_W) ++ va_pl L f) H := hP
          have hD : va_D A (([(h0, .inr (7, [.long z5, .long 1, .long wp]))] : va_W) ++ va_pl L f) := hD
          refine lv_aload_n hx hb dX7_look_170 rfl (lv_at hl 1 rfl) ?_
          refine lv_iload hx hb dX7_look_171 (lv_at hl 0 rfl) ?_
          refine lv_if_eq (tgt := 182) hx hb dX7_look_173 (by decide) (fun _ => ?_) (fun h9 => absurd h9 (by decide))
          refine lv_lconst (v := 0) hx hb dX7_look_182 (by decide) ?_
          refine va_put (D := (dC, dI)) (ci := 7) (v := .long 0) (ty := .long) (C := RX7) (T := TX7) (N := 3) hx hb hts in_X7_lookPE_X7 tyX7 tyX7_ok nmX7 hown hK hP hD hS 0 rfl rfl 2 (by decide) (hts (.fieldLink RX7 24 "MeetingsAbove$Way" "partUpper" "J") (by decide +kernel)) (fun _ h9 => h9) rfl (by decide +kernel) rfl rfl (Nat.le_of_ble_eq_true rfl) dX7_look_183 (fun H locs hP hD hS => ?_)
          have hP : va_P (dC, dI) vwCl (([(h0, .inr (7, [.long z5, .long 1, .long 0]))] : va_W) ++ va_pl L f) H := hP
          have hD : va_D A (([(h0, .inr (7, [.long z5, .long 1, .long 0]))] : va_W) ++ va_pl L f) := hD
          have hP9 := hP.part (cx := [(h0, .inr (7, [.long z5, .long 1, .long 0]))]) [0] rfl
          have hD9 := hD.part (cx := [(h0, .inr (7, [.long z5, .long 1, .long 0]))]) [0] (by decide) rfl
          have hK9 := hK.sub (tys' := []) [] rfl
          refine W.widen (k := 0) (n := 0) (by omega) (by omega) ?_
          exact W.vret hx hb hr (fun t ht hW => ⟨⟨(), rfl, trivial, z5, 1, 0, by rw [ht]; exact hP9, va_K.moved hW.alike hK9, hD9, (by first | (have hI9 : wIn (gA fi1 g1 fi2 g2 p1.toInt) (gB fi1 g1 fi2 g2 p1.toInt (p2.toInt ≠ 0)) := ⟨by omega, by omega⟩; unfold wU; rw [if_pos hI9, tzz_none, m4, m5, eS, eT, eC]) | (have hI9 : ¬ wIn (gA fi1 g1 fi2 g2 p1.toInt) (gB fi1 g1 fi2 g2 p1.toInt (p2.toInt ≠ 0)) := (fun z9 => by have z1 := z9.1; have z2 := z9.2; omega); unfold wU; rw [if_neg hI9, eS])), (by first | (have hI9 : wIn (gA fi1 g1 fi2 g2 p1.toInt) (gB fi1 g1 fi2 g2 p1.toInt (p2.toInt ≠ 0)) := ⟨by omega, by omega⟩; unfold wL; rw [if_pos hI9, eC]) | (have hI9 : ¬ wIn (gA fi1 g1 fi2 g2 p1.toInt) (gB fi1 g1 fi2 g2 p1.toInt (p2.toInt ≠ 0)) := (fun z9 => by have z1 := z9.1; have z2 := z9.2; omega); unfold wL; rw [if_neg hI9]; exact klL_1)), (by first | (have hI9 : wIn (gA fi1 g1 fi2 g2 p1.toInt) (gB fi1 g1 fi2 g2 p1.toInt (p2.toInt ≠ 0)) := ⟨by omega, by omega⟩; unfold wP; rw [if_pos hI9, ezz_none, neg_L (by omega), eT]) | (have hI9 : ¬ wIn (gA fi1 g1 fi2 g2 p1.toInt) (gB fi1 g1 fi2 g2 p1.toInt (p2.toInt ≠ 0)) := (fun z9 => by have z1 := z9.1; have z2 := z9.2; omega); unfold wP; rw [if_neg hI9]; exact klL_0))⟩, hS.F ht⟩) hS.2.2 dX7_look_186
        · have t_120 := mt (fa_le64 _ _).mpr (mt (lg_cmp_le _ _).mpr c_120)
          refine lv_iconst (v := 1) hx hb dX7_look_123 (by decide) ?_
          refine lv_goto (tgt := 128) hx hb dX7_look_124 (by decide) ?_
          refine lv_istore (lv' := [(11, .int 1), (0, .ref h0), (1, .ref h1), (2, .ref h2), (3, .int p1), (4, .int p2), (5, .long z5), (7, .long z7), (9, .long z9)]) hx hb dX7_look_128 hl (by decide) rfl (fun ls hl => ?_)
          refine lv_aload_n hx hb dX7_look_130 rfl (lv_at hl 1 rfl) ?_
          refine lv_iload hx hb dX7_look_131 (lv_at hl 0 rfl) ?_
          refine lv_if_eq (tgt := 150) hx hb dX7_look_133 (by decide) (fun h9 => absurd h9 (by decide)) (fun _ => ?_)
          refine lv_lload hx hb dX7_look_136 (lv_at hl 6 rfl) ?_
          refine lv_lload hx hb dX7_look_138 (lv_at hl 8 rfl) ?_
          refine lv_lmul hx hb dX7_look_140 ?_
          refine lv_topl (fun y_2 ey_2 => ?_)
          refine lv_lload hx hb dX7_look_141 (lv_at hl 7 rfl) ?_
          refine lv_lload hx hb dX7_look_143 (lv_at hl 7 rfl) ?_
          refine lv_lmul hx hb dX7_look_145 ?_
          refine lv_topl (fun y_3 ey_3 => ?_)
          have m4 := lm_ab 300000000 1200000000 ey_2 (by omega) (by omega) (by omega) (by omega) (by decide)
          have m5 := lm_ab 600000000 600000000 ey_3 (by omega) (by omega) (by omega) (by omega) (by decide)
          have m4b := mul_bd (x := z5.toInt) (y := z9.toInt) (a := 300000000) (b := 1200000000) (by omega) (by omega) (by omega) (by omega)
          have m5b := mul_bd (x := z7.toInt) (y := z7.toInt) (a := 600000000) (b := 600000000) (by omega) (by omega) (by omega) (by omega)
          refine lv_lsub hx hb dX7_look_146 ?_
          refine lv_topl (fun y_4 ey_4 => ?_)
          have ty_4 : y_4.toInt = y_2.toInt - y_3.toInt := by rw [ey_4]; have := fb_subL (x := y_2) (y := y_3) (by omega) (by omega); omega
          refine lv_goto (tgt := 152) hx hb dX7_look_147 (by decide) ?_
          refine va_put (D := (dC, dI)) (ci := 7) (v := .long y_4) (ty := .long) (C := RX7) (T := TX7) (N := 3) hx hb hts in_X7_lookPE_X7 tyX7 tyX7_ok nmX7 hown hK hP hD hS 0 rfl rfl 0 (by decide) (hts (.fieldLink RX7 15 "MeetingsAbove$Way" "upper" "J") (by decide +kernel)) (fun _ h9 => h9) rfl (by decide +kernel) rfl rfl (Nat.le_of_ble_eq_true rfl) dX7_look_152 (fun H locs hP hD hS => ?_)
          have hP : va_P (dC, dI) vwCl (([(h0, .inr (7, [.long y_4, .long wl, .long wp]))] : va_W) ++ va_pl L f) H := hP
          have hD : va_D A (([(h0, .inr (7, [.long y_4, .long wl, .long wp]))] : va_W) ++ va_pl L f) := hD
          refine lv_aload_n hx hb dX7_look_155 rfl (lv_at hl 1 rfl) ?_
          refine lv_iload hx hb dX7_look_156 (lv_at hl 0 rfl) ?_
          refine lv_if_eq (tgt := 166) hx hb dX7_look_158 (by decide) (fun h9 => absurd h9 (by decide)) (fun _ => ?_)
          refine lv_lload hx hb dX7_look_161 (lv_at hl 8 rfl) ?_
          refine lv_goto (tgt := 167) hx hb dX7_look_163 (by decide) ?_
          refine va_put (D := (dC, dI)) (ci := 7) (v := .long z9) (ty := .long) (C := RX7) (T := TX7) (N := 3) hx hb hts in_X7_lookPE_X7 tyX7 tyX7_ok nmX7 hown hK hP hD hS 0 rfl rfl 1 (by decide) (hts (.fieldLink RX7 21 "MeetingsAbove$Way" "lower" "J") (by decide +kernel)) (fun _ h9 => h9) rfl (by decide +kernel) rfl rfl (Nat.le_of_ble_eq_true rfl) dX7_look_167 (fun H locs hP hD hS => ?_)
          have hP : va_P (dC, dI) vwCl (([(h0, .inr (7, [.long y_4, .long z9, .long wp]))] : va_W) ++ va_pl L f) H := hP
          have hD : va_D A (([(h0, .inr (7, [.long y_4, .long z9, .long wp]))] : va_W) ++ va_pl L f) := hD
          refine lv_aload_n hx hb dX7_look_170 rfl (lv_at hl 1 rfl) ?_
          refine lv_iload hx hb dX7_look_171 (lv_at hl 0 rfl) ?_
          refine lv_if_eq (tgt := 182) hx hb dX7_look_173 (by decide) (fun h9 => absurd h9 (by decide)) (fun _ => ?_)
          refine lv_lload hx hb dX7_look_176 (lv_at hl 7 rfl) ?_
          refine lv_lneg hx hb dX7_look_178 ?_
          refine lv_topl (fun y_5 ey_5 => ?_)
          refine lv_goto (tgt := 183) hx hb dX7_look_179 (by decide) ?_
          refine va_put (D := (dC, dI)) (ci := 7) (v := .long y_5) (ty := .long) (C := RX7) (T := TX7) (N := 3) hx hb hts in_X7_lookPE_X7 tyX7 tyX7_ok nmX7 hown hK hP hD hS 0 rfl rfl 2 (by decide) (hts (.fieldLink RX7 24 "MeetingsAbove$Way" "partUpper" "J") (by decide +kernel)) (fun _ h9 => h9) rfl (by decide +kernel) rfl rfl (Nat.le_of_ble_eq_true rfl) dX7_look_183 (fun H locs hP hD hS => ?_)
          have hP : va_P (dC, dI) vwCl (([(h0, .inr (7, [.long y_4, .long z9, .long y_5]))] : va_W) ++ va_pl L f) H := hP
          have hD : va_D A (([(h0, .inr (7, [.long y_4, .long z9, .long y_5]))] : va_W) ++ va_pl L f) := hD
          have hP9 := hP.part (cx := [(h0, .inr (7, [.long y_4, .long z9, .long y_5]))]) [0] rfl
          have hD9 := hD.part (cx := [(h0, .inr (7, [.long y_4, .long z9, .long y_5]))]) [0] (by decide) rfl
          have hK9 := hK.sub (tys' := []) [] rfl
          refine W.widen (k := 0) (n := 0) (by omega) (by omega) ?_
          exact W.vret hx hb hr (fun t ht hW => ⟨⟨(), rfl, trivial, y_4, z9, y_5, by rw [ht]; exact hP9, va_K.moved hW.alike hK9, hD9, (by first | (have hI9 : wIn (gA fi1 g1 fi2 g2 p1.toInt) (gB fi1 g1 fi2 g2 p1.toInt (p2.toInt ≠ 0)) := ⟨by omega, by omega⟩; unfold wU; rw [if_pos hI9, ty_4, m4, m5, eS, eT, eC]) | (have hI9 : ¬ wIn (gA fi1 g1 fi2 g2 p1.toInt) (gB fi1 g1 fi2 g2 p1.toInt (p2.toInt ≠ 0)) := (fun z9 => by have z1 := z9.1; have z2 := z9.2; omega); unfold wU; rw [if_neg hI9, eS])), (by first | (have hI9 : wIn (gA fi1 g1 fi2 g2 p1.toInt) (gB fi1 g1 fi2 g2 p1.toInt (p2.toInt ≠ 0)) := ⟨by omega, by omega⟩; unfold wL; rw [if_pos hI9, eC]) | (have hI9 : ¬ wIn (gA fi1 g1 fi2 g2 p1.toInt) (gB fi1 g1 fi2 g2 p1.toInt (p2.toInt ≠ 0)) := (fun z9 => by have z1 := z9.1; have z2 := z9.2; omega); unfold wL; rw [if_neg hI9]; exact klL_1)), (by first | (have hI9 : wIn (gA fi1 g1 fi2 g2 p1.toInt) (gB fi1 g1 fi2 g2 p1.toInt (p2.toInt ≠ 0)) := ⟨by omega, by omega⟩; unfold wP; rw [if_pos hI9, ey_5, neg_L (by omega), eT]) | (have hI9 : ¬ wIn (gA fi1 g1 fi2 g2 p1.toInt) (gB fi1 g1 fi2 g2 p1.toInt (p2.toInt ≠ 0)) := (fun z9 => by have z1 := z9.1; have z2 := z9.2; omega); unfold wP; rw [if_neg hI9]; exact klL_0))⟩, hS.F ht⟩) hS.2.2 dX7_look_186
    · have t_15 := mt (fa_le _ _).mpr c_15
      have hax : ((ax.toInt.toNat : Nat) : Int) = ax.toInt := (by omega)
      obtain ⟨⟨ga1, ga2⟩, gb1, gb2⟩ := hOK ax.toInt (by omega) (by omega)
      have c1 := xg_bd (fi := fi1) hco1 hl1 hl2 (ax := ax.toInt) (by omega) (by omega)
      have c2 := xg_bd (fi := fi2) hco2 hl3 hl4 (ax := ax.toInt) (by omega) (by omega)
      refine lv_aload_n hx hb dX7_look_18 rfl (lv_at hl 1 rfl) ?_
      refine lv_iload_n hx hb dX7_look_19 rfl (lv_at hl 3 rfl) ?_
      refine lv_iload hx hb dX7_look_20 (lv_at hl 8 rfl) ?_
      have hPc : va_P (dC, dI) vwCl [(h1, .inr (6, [.ref x1, .int fi1, .int pl1, .int db1, .int go1])), (x1, .inl (cI, 36, .inl g1))] H := P_cons (pl_at (X := [(h0, .inr (7, [.long wu, .long wl, .long wp]))]) hP hL1 hf1) (P_cons (pl_at (X := [(h0, .inr (7, [.long wu, .long wl, .long wp]))]) hP hX1 hg1) (P_nil))
      have hKc := hK.sub (tys' := [(cI, .int)]) [0] rfl
      refine vp_callSi (W.runV (As := [.int p1, .int ax]) (rest := []) ⟨hx, hb, hml, hown, hts⟩ (c_X6_coord l dC dI h1 x1 fi1 pl1 db1 go1 g1 cI p1 ax (by first | omega | assumption) (by first | omega | assumption) (by first | omega | assumption) (by first | omega | assumption) (by first | omega | assumption) (by first | omega | assumption)) (cwV 2 hts g_X7_lookPE__X6_coord_9 rfl rfl rfl (by decide +kernel) ⟨Nat.le_of_ble_eq_true rfl, Nat.le_of_ble_eq_true rfl⟩) ⟨fun a U g mk q => by obtain ⟨q0, qP, qK⟩ := q; exact ⟨q0, qP, va_K.moved (u := U) (U := U.calling g mk a) (Vm.Alike.refl U.vm) qK⟩, va_recv hKc hPc (ci := 6) (q0 := 0) rfl rfl, fun U hU hW => ⟨rfl, by rw [hU]; exact hPc, va_K.moved hW.alike hKc⟩⟩ rfl rfl hl.1 rfl (lv_room (Nat.le_of_ble_eq_true rfl)) dX7_look_22 ⟨Nat.le_of_ble_eq_true rfl, Nat.le_of_ble_eq_true rfl⟩) (fun r_6 hr_6 => ?_)
      try dsimp only at hr_6
      have hxc1 : r_6.toInt = xg fi1 g1 p1.toInt ax.toInt := by rw [hr_6]; rfl
      refine lv_aload_n hx hb dX7_look_25 rfl (lv_at hl 2 rfl) ?_
      refine lv_iload_n hx hb dX7_look_26 rfl (lv_at hl 3 rfl) ?_
      refine lv_iload hx hb dX7_look_27 (lv_at hl 8 rfl) ?_
      have hPc : va_P (dC, dI) vwCl [(h2, .inr (6, [.ref x2, .int fi2, .int pl2, .int db2, .int go2])), (x2, .inl (cI, 36, .inl g2))] H := P_cons (pl_at (X := [(h0, .inr (7, [.long wu, .long wl, .long wp]))]) hP hL2 hf2) (P_cons (pl_at (X := [(h0, .inr (7, [.long wu, .long wl, .long wp]))]) hP hX2 hg2) (P_nil))
      have hKc := hK.sub (tys' := [(cI, .int)]) [0] rfl
      refine vp_callSi (W.runV (As := [.int p1, .int ax]) (rest := [.int r_6]) ⟨hx, hb, hml, hown, hts⟩ (c_X6_coord l dC dI h2 x2 fi2 pl2 db2 go2 g2 cI p1 ax (by first | omega | assumption) (by first | omega | assumption) (by first | omega | assumption) (by first | omega | assumption) (by first | omega | assumption) (by first | omega | assumption)) (cwV 2 hts g_X7_lookPE__X6_coord_9 rfl rfl rfl (by decide +kernel) ⟨Nat.le_of_ble_eq_true rfl, Nat.le_of_ble_eq_true rfl⟩) ⟨fun a U g mk q => by obtain ⟨q0, qP, qK⟩ := q; exact ⟨q0, qP, va_K.moved (u := U) (U := U.calling g mk a) (Vm.Alike.refl U.vm) qK⟩, va_recv hKc hPc (ci := 6) (q0 := 0) rfl rfl, fun U hU hW => ⟨rfl, by rw [hU]; exact hPc, va_K.moved hW.alike hKc⟩⟩ rfl rfl hl.1 rfl (lv_room (Nat.le_of_ble_eq_true rfl)) dX7_look_29 ⟨Nat.le_of_ble_eq_true rfl, Nat.le_of_ble_eq_true rfl⟩) (fun r_7 hr_7 => ?_)
      try dsimp only at hr_7
      have hxc2 : r_7.toInt = xg fi2 g2 p1.toInt ax.toInt := by rw [hr_7]; rfl
      refine lv_isub hx hb dX7_look_32 ?_
      refine lv_topi (fun y_8 ey_8 => ?_)
      have ty_8 : y_8.toInt = r_6.toInt - r_7.toInt := by rw [ey_8]; have := fb_subI (x := r_6) (y := r_7) (by omega) (by omega); omega
      refine lv_i2l hx hb dX7_look_33 rfl ?_
      have ti_33 : (y_8.toInt64).toInt = y_8.toInt := Int32.toInt_toInt64 _
      refine lv_lstore (lv' := [(12, .long y_8.toInt64), (0, .ref h0), (1, .ref h1), (2, .ref h2), (3, .int p1), (4, .int p2), (5, .long z5), (7, .long z7), (9, .long z9), (11, .int ax)]) hx hb dX7_look_34 hl (by decide) rfl (fun ls hl => ?_)
      have hgp : (y_8.toInt64).toInt = gA fi1 g1 fi2 g2 p1.toInt ax.toInt := by rw [ti_33, ty_8]; show _ = xg _ _ _ _ - xg _ _ _ _; omega
      refine lv_iload hx hb dX7_look_36 (lv_at hl 5 rfl) ?_
      refine lv_if_eq (tgt := 67) hx hb dX7_look_38 (by decide) (fun c_38 => ?_) (fun c_38 => ?_)
      · have t_38 := (fa_eq _ _).mp c_38
        refine lv_lconst (v := 0) hx hb dX7_look_67 (by decide) ?_
        have hsh : (0 : Int64).toInt = (gB fi1 g1 fi2 g2 p1.toInt (p2.toInt ≠ 0)) ax.toInt := by rw [klL_0]; show _ = (if p2.toInt ≠ 0 then _ else (0 : Int)); rw [if_neg (by omega)]
        refine lv_lstore (lv' := [(14, .long 0), (12, .long y_8.toInt64), (0, .ref h0), (1, .ref h1), (2, .ref h2), (3, .int p1), (4, .int p2), (5, .long z5), (7, .long z7), (9, .long z9), (11, .int ax)]) hx hb dX7_look_68 hl (by decide) rfl (fun ls hl => ?_)
        refine lv_lload hx hb dX7_look_70 (lv_at hl 7 rfl) ?_
        refine lv_lload hx hb dX7_look_72 (lv_at hl 1 rfl) ?_
        refine lv_lload hx hb dX7_look_74 (lv_at hl 1 rfl) ?_
        refine lv_lmul hx hb dX7_look_76 ?_
        refine lv_topl (fun y_9 ey_9 => ?_)
        have m1 := lm_ab 10000 10000 ey_9 (by omega) (by omega) (by omega) (by omega) (by decide)
        have m1b := mul_bd (x := (y_8.toInt64).toInt) (y := (y_8.toInt64).toInt) (a := 10000) (b := 10000) (by omega) (by omega) (by omega) (by omega)
        obtain ⟨n1, n2⟩ := acc_bd (F := fun j => gA fi1 g1 fi2 g2 p1.toInt j * gA fi1 g1 fi2 g2 p1.toInt j) (B := 100000000) (fun j j0 j3 => by have z := (hOK j j0 j3).1; have z9 := mul_bd z.1 z.2 z.1 z.2; exact ⟨by omega, by omega⟩) ax.toInt.toNat (by omega)
        refine lv_ladd hx hb dX7_look_77 ?_
        refine lv_topl (fun y_10 ey_10 => ?_)
        have ty_10 : y_10.toInt = z5.toInt + y_9.toInt := by rw [ey_10]; have := fb_addL (x := z5) (y := y_9) (by omega) (by omega); omega
        refine lv_lstore (lv' := [(5, .long y_10), (14, .long 0), (12, .long y_8.toInt64), (0, .ref h0), (1, .ref h1), (2, .ref h2), (3, .int p1), (4, .int p2), (7, .long z7), (9, .long z9), (11, .int ax)]) hx hb dX7_look_78 hl (by decide) rfl (fun ls hl => ?_)
        refine lv_lload hx hb dX7_look_80 (lv_at hl 8 rfl) ?_
        refine lv_lload hx hb dX7_look_82 (lv_at hl 2 rfl) ?_
        refine lv_lload hx hb dX7_look_84 (lv_at hl 1 rfl) ?_
        refine lv_lmul hx hb dX7_look_86 ?_
        refine lv_topl (fun y_11 ey_11 => ?_)
        have m2 := lm_ab 10000 20000 ey_11 (by omega) (by omega) (by omega) (by omega) (by decide)
        have m2b := mul_bd (x := (y_8.toInt64).toInt) (y := (0 : Int64).toInt) (a := 10000) (b := 20000) (by omega) (by omega) (by omega) (by omega)
        obtain ⟨n3, n4⟩ := acc_bd (F := fun j => gA fi1 g1 fi2 g2 p1.toInt j * (gB fi1 g1 fi2 g2 p1.toInt (p2.toInt ≠ 0)) j) (B := 200000000) (fun j j0 j3 => by have z := hOK j j0 j3; have z9 := mul_bd z.1.1 z.1.2 z.2.1 z.2.2; exact ⟨by omega, by omega⟩) ax.toInt.toNat (by omega)
        refine lv_ladd hx hb dX7_look_87 ?_
        refine lv_topl (fun y_12 ey_12 => ?_)
        have ty_12 : y_12.toInt = z7.toInt + y_11.toInt := by rw [ey_12]; have := fb_addL (x := z7) (y := y_11) (by omega) (by omega); omega
        refine lv_lstore (lv' := [(7, .long y_12), (5, .long y_10), (14, .long 0), (12, .long y_8.toInt64), (0, .ref h0), (1, .ref h1), (2, .ref h2), (3, .int p1), (4, .int p2), (9, .long z9), (11, .int ax)]) hx hb dX7_look_88 hl (by decide) rfl (fun ls hl => ?_)
        refine lv_lload hx hb dX7_look_90 (lv_at hl 9 rfl) ?_
        refine lv_lload hx hb dX7_look_92 (lv_at hl 2 rfl) ?_
        refine lv_lload hx hb dX7_look_94 (lv_at hl 2 rfl) ?_
        refine lv_lmul hx hb dX7_look_96 ?_
        refine lv_topl (fun y_13 ey_13 => ?_)
        obtain rfl : y_13 = 0 := ey_13.trans (by decide)
        obtain ⟨n5, n6⟩ := acc_bd (F := fun j => (gB fi1 g1 fi2 g2 p1.toInt (p2.toInt ≠ 0)) j * (gB fi1 g1 fi2 g2 p1.toInt (p2.toInt ≠ 0)) j) (B := 400000000) (fun j j0 j3 => by have z := (hOK j j0 j3).2; have z9 := mul_bd z.1 z.2 z.1 z.2; exact ⟨by omega, by omega⟩) ax.toInt.toNat (by omega)
        refine lv_ladd hx hb dX7_look_97 ?_
        refine lv_topl (fun y_14 ey_14 => ?_)
        have ty_14 : y_14.toInt = z9.toInt + 0 := by rw [ey_14]; have := fb_addL (x := z9) (y := 0) (by omega) (by omega); omega
        refine lv_lstore (lv' := [(9, .long y_14), (7, .long y_12), (5, .long y_10), (14, .long 0), (12, .long y_8.toInt64), (0, .ref h0), (1, .ref h1), (2, .ref h2), (3, .int p1), (4, .int p2), (11, .int ax)]) hx hb dX7_look_98 hl (by decide) rfl (fun ls hl => ?_)
        obtain ⟨y_15, ey_15⟩ : ∃ y : Int32, y = ax + 1 := ⟨_, rfl⟩
        have ty_15 : y_15.toInt = ax.toInt + 1 := by rw [ey_15]; have := fb_addI (x := ax) (y := 1) (by omega) (by omega); omega
        refine lv_iinc (v := y_15) (lv' := [(11, .int y_15), (9, .long y_14), (7, .long y_12), (5, .long y_10), (14, .long 0), (12, .long y_8.toInt64), (0, .ref h0), (1, .ref h1), (2, .ref h2), (3, .int p1), (4, .int p2)]) hx hb dX7_look_100 hl (k := 10) rfl (by rw [ey_15]; rfl) (by decide) rfl (fun ls hl => ?_)
        refine lv_goto (tgt := 12) hx hb dX7_look_103 (by decide) ?_
        exact ih_12 y_10 y_12 y_14 y_15 (by omega) (by omega) (by rw [show (y_15).toInt.toNat = ax.toInt.toNat + 1 by omega, acc_1, ← hz5, hax, ty_10, m1, hgp]) (by rw [show (y_15).toInt.toNat = ax.toInt.toNat + 1 by omega, acc_1, ← hz7, hax, ty_12, m2, hgp, hsh]) (by rw [show (y_15).toInt.toNat = ax.toInt.toNat + 1 by omega, acc_1, ← hz9, hax, ty_14]; first | rw [m3, hsh] | (rw [← hsh, klL_0]; omega)) (by omega) H _ (hP.part [0] rfl) (hD.part [0] (by decide) rfl) hS ls (lv_sub hl [6, 7, 8, 9, 10, 3, 2, 1, 0] rfl)
      · have t_38 := mt (fa_eq _ _).mpr c_38
        have hgo := hl5 (by omega)
        have c3 := xg_bd (fi := fi1) (s := p1.toInt + 1) hco1 (by omega) hgo.1 (ax := ax.toInt) (by omega) (by omega)
        have c4 := xg_bd (fi := fi2) (s := p1.toInt + 1) hco2 (by omega) hgo.2 (ax := ax.toInt) (by omega) (by omega)
        refine lv_aload_n hx hb dX7_look_41 rfl (lv_at hl 2 rfl) ?_
        refine lv_iload_n hx hb dX7_look_42 rfl (lv_at hl 4 rfl) ?_
        refine lv_iconst (v := 1) hx hb dX7_look_43 (by decide) ?_
        refine lv_iadd hx hb dX7_look_44 ?_
        refine lv_topi (fun y_16 ey_16 => ?_)
        have ty_16 : y_16.toInt = p1.toInt + 1 := by rw [ey_16]; have := fb_addI (x := p1) (y := 1) (by omega) (by omega); omega
        refine lv_iload hx hb dX7_look_45 (lv_at hl 9 rfl) ?_
        have hPc : va_P (dC, dI) vwCl [(h1, .inr (6, [.ref x1, .int fi1, .int pl1, .int db1, .int go1])), (x1, .inl (cI, 36, .inl g1))] H := P_cons (pl_at (X := [(h0, .inr (7, [.long wu, .long wl, .long wp]))]) hP hL1 hf1) (P_cons (pl_at (X := [(h0, .inr (7, [.long wu, .long wl, .long wp]))]) hP hX1 hg1) (P_nil))
        have hKc := hK.sub (tys' := [(cI, .int)]) [0] rfl
        refine vp_callSi (W.runV (As := [.int y_16, .int ax]) (rest := []) ⟨hx, hb, hml, hown, hts⟩ (c_X6_coord l dC dI h1 x1 fi1 pl1 db1 go1 g1 cI y_16 ax (by first | omega | assumption) (by first | omega | assumption) (by first | omega | assumption) (by first | omega | assumption) (by first | omega | assumption) (by first | omega | assumption)) (cwV 2 hts g_X7_lookPE__X6_coord_9 rfl rfl rfl (by decide +kernel) ⟨Nat.le_of_ble_eq_true rfl, Nat.le_of_ble_eq_true rfl⟩) ⟨fun a U g mk q => by obtain ⟨q0, qP, qK⟩ := q; exact ⟨q0, qP, va_K.moved (u := U) (U := U.calling g mk a) (Vm.Alike.refl U.vm) qK⟩, va_recv hKc hPc (ci := 6) (q0 := 0) rfl rfl, fun U hU hW => ⟨rfl, by rw [hU]; exact hPc, va_K.moved hW.alike hKc⟩⟩ rfl rfl hl.1 rfl (lv_room (Nat.le_of_ble_eq_true rfl)) dX7_look_47 ⟨Nat.le_of_ble_eq_true rfl, Nat.le_of_ble_eq_true rfl⟩) (fun r_17 hr_17 => ?_)
        try dsimp only at hr_17
        have hxc3 : r_17.toInt = xg fi1 g1 (p1.toInt + 1) ax.toInt := by rw [hr_17]; show (g1 (ixi fi1.toInt (y_16).toInt ax.toInt)).toInt = _; rw [ty_16]; rfl
        refine lv_aload_n hx hb dX7_look_50 rfl (lv_at hl 3 rfl) ?_
        refine lv_iload_n hx hb dX7_look_51 rfl (lv_at hl 4 rfl) ?_
        refine lv_iconst (v := 1) hx hb dX7_look_52 (by decide) ?_
        refine lv_iadd hx hb dX7_look_53 ?_
        refine lv_topi (fun y_18 ey_18 => ?_)
        have ty_18 : y_18.toInt = p1.toInt + 1 := by rw [ey_18]; have := fb_addI (x := p1) (y := 1) (by omega) (by omega); omega
        refine lv_iload hx hb dX7_look_54 (lv_at hl 9 rfl) ?_
        have hPc : va_P (dC, dI) vwCl [(h2, .inr (6, [.ref x2, .int fi2, .int pl2, .int db2, .int go2])), (x2, .inl (cI, 36, .inl g2))] H := P_cons (pl_at (X := [(h0, .inr (7, [.long wu, .long wl, .long wp]))]) hP hL2 hf2) (P_cons (pl_at (X := [(h0, .inr (7, [.long wu, .long wl, .long wp]))]) hP hX2 hg2) (P_nil))
        have hKc := hK.sub (tys' := [(cI, .int)]) [0] rfl
        refine vp_callSi (W.runV (As := [.int y_18, .int ax]) (rest := [.int r_17]) ⟨hx, hb, hml, hown, hts⟩ (c_X6_coord l dC dI h2 x2 fi2 pl2 db2 go2 g2 cI y_18 ax (by first | omega | assumption) (by first | omega | assumption) (by first | omega | assumption) (by first | omega | assumption) (by first | omega | assumption) (by first | omega | assumption)) (cwV 2 hts g_X7_lookPE__X6_coord_9 rfl rfl rfl (by decide +kernel) ⟨Nat.le_of_ble_eq_true rfl, Nat.le_of_ble_eq_true rfl⟩) ⟨fun a U g mk q => by obtain ⟨q0, qP, qK⟩ := q; exact ⟨q0, qP, va_K.moved (u := U) (U := U.calling g mk a) (Vm.Alike.refl U.vm) qK⟩, va_recv hKc hPc (ci := 6) (q0 := 0) rfl rfl, fun U hU hW => ⟨rfl, by rw [hU]; exact hPc, va_K.moved hW.alike hKc⟩⟩ rfl rfl hl.1 rfl (lv_room (Nat.le_of_ble_eq_true rfl)) dX7_look_56 ⟨Nat.le_of_ble_eq_true rfl, Nat.le_of_ble_eq_true rfl⟩) (fun r_19 hr_19 => ?_)
        try dsimp only at hr_19
        have hxc4 : r_19.toInt = xg fi2 g2 (p1.toInt + 1) ax.toInt := by rw [hr_19]; show (g2 (ixi fi2.toInt (y_18).toInt ax.toInt)).toInt = _; rw [ty_18]; rfl
        refine lv_isub hx hb dX7_look_59 ?_
        refine lv_topi (fun y_20 ey_20 => ?_)
        have ty_20 : y_20.toInt = r_17.toInt - r_19.toInt := by rw [ey_20]; have := fb_subI (x := r_17) (y := r_19) (by omega) (by omega); omega
        refine lv_i2l hx hb dX7_look_60 rfl ?_
        have ti_60 : (y_20.toInt64).toInt = y_20.toInt := Int32.toInt_toInt64 _
        refine lv_lload hx hb dX7_look_61 (lv_at hl 0 rfl) ?_
        refine lv_lsub hx hb dX7_look_63 ?_
        refine lv_topl (fun y_21 ey_21 => ?_)
        have ty_21 : y_21.toInt = y_20.toInt64.toInt - y_8.toInt64.toInt := by rw [ey_21]; have := fb_subL (x := y_20.toInt64) (y := y_8.toInt64) (by omega) (by omega); omega
        have hsh : y_21.toInt = (gB fi1 g1 fi2 g2 p1.toInt (p2.toInt ≠ 0)) ax.toInt := by rw [ty_21, ti_60]; show _ = (if p2.toInt ≠ 0 then gA _ _ _ _ _ _ - gA _ _ _ _ _ _ else 0); rw [if_pos (by omega)]; show _ = (xg _ _ _ _ - xg _ _ _ _) - _; rw [← hgp]; omega
        refine lv_goto (tgt := 68) hx hb dX7_look_64 (by decide) ?_
        refine lv_lstore (lv' := [(14, .long y_21), (12, .long y_8.toInt64), (0, .ref h0), (1, .ref h1), (2, .ref h2), (3, .int p1), (4, .int p2), (5, .long z5), (7, .long z7), (9, .long z9), (11, .int ax)]) hx hb dX7_look_68 hl (by decide) rfl (fun ls hl => ?_)
        refine lv_lload hx hb dX7_look_70 (lv_at hl 7 rfl) ?_
        refine lv_lload hx hb dX7_look_72 (lv_at hl 1 rfl) ?_
        refine lv_lload hx hb dX7_look_74 (lv_at hl 1 rfl) ?_
        refine lv_lmul hx hb dX7_look_76 ?_
        refine lv_topl (fun y_22 ey_22 => ?_)
        have m1 := lm_ab 10000 10000 ey_22 (by omega) (by omega) (by omega) (by omega) (by decide)
        have m1b := mul_bd (x := (y_8.toInt64).toInt) (y := (y_8.toInt64).toInt) (a := 10000) (b := 10000) (by omega) (by omega) (by omega) (by omega)
        obtain ⟨n1, n2⟩ := acc_bd (F := fun j => gA fi1 g1 fi2 g2 p1.toInt j * gA fi1 g1 fi2 g2 p1.toInt j) (B := 100000000) (fun j j0 j3 => by have z := (hOK j j0 j3).1; have z9 := mul_bd z.1 z.2 z.1 z.2; exact ⟨by omega, by omega⟩) ax.toInt.toNat (by omega)
        refine lv_ladd hx hb dX7_look_77 ?_
        refine lv_topl (fun y_23 ey_23 => ?_)
        have ty_23 : y_23.toInt = z5.toInt + y_22.toInt := by rw [ey_23]; have := fb_addL (x := z5) (y := y_22) (by omega) (by omega); omega
        refine lv_lstore (lv' := [(5, .long y_23), (14, .long y_21), (12, .long y_8.toInt64), (0, .ref h0), (1, .ref h1), (2, .ref h2), (3, .int p1), (4, .int p2), (7, .long z7), (9, .long z9), (11, .int ax)]) hx hb dX7_look_78 hl (by decide) rfl (fun ls hl => ?_)
        refine lv_lload hx hb dX7_look_80 (lv_at hl 8 rfl) ?_
        refine lv_lload hx hb dX7_look_82 (lv_at hl 2 rfl) ?_
        refine lv_lload hx hb dX7_look_84 (lv_at hl 1 rfl) ?_
        refine lv_lmul hx hb dX7_look_86 ?_
        refine lv_topl (fun y_24 ey_24 => ?_)
        have m2 := lm_ab 10000 20000 ey_24 (by omega) (by omega) (by omega) (by omega) (by decide)
        have m2b := mul_bd (x := (y_8.toInt64).toInt) (y := y_21.toInt) (a := 10000) (b := 20000) (by omega) (by omega) (by omega) (by omega)
        obtain ⟨n3, n4⟩ := acc_bd (F := fun j => gA fi1 g1 fi2 g2 p1.toInt j * (gB fi1 g1 fi2 g2 p1.toInt (p2.toInt ≠ 0)) j) (B := 200000000) (fun j j0 j3 => by have z := hOK j j0 j3; have z9 := mul_bd z.1.1 z.1.2 z.2.1 z.2.2; exact ⟨by omega, by omega⟩) ax.toInt.toNat (by omega)
        refine lv_ladd hx hb dX7_look_87 ?_
        refine lv_topl (fun y_25 ey_25 => ?_)
        have ty_25 : y_25.toInt = z7.toInt + y_24.toInt := by rw [ey_25]; have := fb_addL (x := z7) (y := y_24) (by omega) (by omega); omega
        refine lv_lstore (lv' := [(7, .long y_25), (5, .long y_23), (14, .long y_21), (12, .long y_8.toInt64), (0, .ref h0), (1, .ref h1), (2, .ref h2), (3, .int p1), (4, .int p2), (9, .long z9), (11, .int ax)]) hx hb dX7_look_88 hl (by decide) rfl (fun ls hl => ?_)
        refine lv_lload hx hb dX7_look_90 (lv_at hl 9 rfl) ?_
        refine lv_lload hx hb dX7_look_92 (lv_at hl 2 rfl) ?_
        refine lv_lload hx hb dX7_look_94 (lv_at hl 2 rfl) ?_
        refine lv_lmul hx hb dX7_look_96 ?_
        refine lv_topl (fun y_26 ey_26 => ?_)
        have m3 := lm_ab 20000 20000 ey_26 (by omega) (by omega) (by omega) (by omega) (by decide)
        have m3b := mul_bd (x := y_21.toInt) (y := y_21.toInt) (a := 20000) (b := 20000) (by omega) (by omega) (by omega) (by omega)
        obtain ⟨n5, n6⟩ := acc_bd (F := fun j => (gB fi1 g1 fi2 g2 p1.toInt (p2.toInt ≠ 0)) j * (gB fi1 g1 fi2 g2 p1.toInt (p2.toInt ≠ 0)) j) (B := 400000000) (fun j j0 j3 => by have z := (hOK j j0 j3).2; have z9 := mul_bd z.1 z.2 z.1 z.2; exact ⟨by omega, by omega⟩) ax.toInt.toNat (by omega)
        refine lv_ladd hx hb dX7_look_97 ?_
        refine lv_topl (fun y_27 ey_27 => ?_)
        have ty_27 : y_27.toInt = z9.toInt + y_26.toInt := by rw [ey_27]; have := fb_addL (x := z9) (y := y_26) (by omega) (by omega); omega
        refine lv_lstore (lv' := [(9, .long y_27), (7, .long y_25), (5, .long y_23), (14, .long y_21), (12, .long y_8.toInt64), (0, .ref h0), (1, .ref h1), (2, .ref h2), (3, .int p1), (4, .int p2), (11, .int ax)]) hx hb dX7_look_98 hl (by decide) rfl (fun ls hl => ?_)
        obtain ⟨y_28, ey_28⟩ : ∃ y : Int32, y = ax + 1 := ⟨_, rfl⟩
        have ty_28 : y_28.toInt = ax.toInt + 1 := by rw [ey_28]; have := fb_addI (x := ax) (y := 1) (by omega) (by omega); omega
        refine lv_iinc (v := y_28) (lv' := [(11, .int y_28), (9, .long y_27), (7, .long y_25), (5, .long y_23), (14, .long y_21), (12, .long y_8.toInt64), (0, .ref h0), (1, .ref h1), (2, .ref h2), (3, .int p1), (4, .int p2)]) hx hb dX7_look_100 hl (k := 10) rfl (by rw [ey_28]; rfl) (by decide) rfl (fun ls hl => ?_)
        refine lv_goto (tgt := 12) hx hb dX7_look_103 (by decide) ?_
        exact ih_12 y_23 y_25 y_27 y_28 (by omega) (by omega) (by rw [show (y_28).toInt.toNat = ax.toInt.toNat + 1 by omega, acc_1, ← hz5, hax, ty_23, m1, hgp]) (by rw [show (y_28).toInt.toNat = ax.toInt.toNat + 1 by omega, acc_1, ← hz7, hax, ty_25, m2, hgp, hsh]) (by rw [show (y_28).toInt.toNat = ax.toInt.toNat + 1 by omega, acc_1, ← hz9, hax, ty_27]; first | rw [m3, hsh] | (rw [← hsh, klL_0]; omega)) (by omega) H _ (hP.part [0] rfl) (hD.part [0] (by decide) rfl) hS ls (lv_sub hl [6, 7, 8, 9, 10, 3, 2, 1, 0] rfl)
