set_option maxHeartbeats 4000000 in
set_option maxRecDepth 100000 in
theorem law_loop {p : Program} {l : Launch} {e : Env} {s : State} {m : MethodId} {below : List Frame} {meth : Method} {c : Code} {b L : Nat} {xs : Nat → Int32} (hL : L ≤ 3072) (C0 : lw_At p s m meth c b L xs) {dC : Nat → ClassId} {dI : Nat → Nat → Nat} (hN : XN s) {x0 m0 n0 s0 s1 d0 o0 w0 e0 f0 t0 b0 na sa sb eq ep tx a1 a2 a3 a4 a5 a6 a7 a8 a9 a10 a11 : Nat} {cT cD cO cI cZ : ClassId} (hK : va_K (dC, dI) vwCl [(cT, .object "MeetingsAbove$Thing"), (cD, .object "MeetingsAbove$Dot"), (cO, .object "MeetingsAbove$Notice"), (cI, .int), (cZ, .boolean)] s) :
    ∀ (n : Nat) (i6 : Int32) (CB SB : Nat), 0 ≤ i6.toInt → i6.toInt ≤ (L : Int) → (L : Int) < i6.toInt + 6 * n → CB + 32 * n ≤ 600000 → SB + 656 * n ≤ 7302250 → ∀ (H : Heap) (locs : List Loc), LW (dC, dI) (fun q : Nat => s.heap.size ≤ q) x0 m0 n0 s0 s1 d0 o0 w0 e0 f0 t0 b0 na sa sb eq ep tx a1 a2 a3 a4 a5 a6 a7 a8 a9 a10 a11 cT cD cO cI cZ H → va_S (fun q : Nat => s.heap.size ≤ q) s.heap H locs → ∀ (ls : Array Slot), lv_has ls 4 [(3, .int i6), (2, .ref m0), (1, .ref x0), (0, .ref b)] → W p l e room_1 s m #[Value.ref b] below meth c H locs CB SB (lw_Z below #[Value.ref b] s) (F0 m 18 ls []) := by
  obtain ⟨hx, hb, hr, hml, hown, hts, hX, hbl, hlocks, hgv⟩ := id C0
  have hA : ∀ q : Nat, s.heap.size ≤ q → (fun q : Nat => s.heap.size ≤ q) q := fun _ h => h
  have hbA : ¬ (fun q : Nat => s.heap.size ≤ q) b := Nat.not_le.mpr hbl
  intro n
  induction n with
  | zero =>
    intro i6 CB SB h0 h1 h2
    exact absurd h2 (by omega)
  | succ n ih =>
    intro i6 CB SB h0 h1 h2 hc1 hs1 H locs hW hS ls hl
    have k6 : (6 : Int32).toInt = 6 := by decide
    have hLt : (Int32.ofNat L).toInt = L := nI_toInt (by omega)
    have hend : ∀ (H : Heap) (locs : List Loc) (ls : Array Slot), LW (dC, dI) (fun q : Nat => s.heap.size ≤ q) x0 m0 n0 s0 s1 d0 o0 w0 e0 f0 t0 b0 na sa sb eq ep tx a1 a2 a3 a4 a5 a6 a7 a8 a9 a10 a11 cT cD cO cI cZ H → va_S (fun q : Nat => s.heap.size ≤ q) s.heap H locs → lv_has ls 4 [(3, .int i6), (2, .ref m0), (1, .ref x0), (0, .ref b)] → i6.toInt + 6 ≤ (L : Int) → W p l e room_1 s m #[Value.ref b] below meth c H locs (CB + 32) (SB + 656) (lw_Z below #[Value.ref b] s) (F0 m 955 ls []) := by
      intro H locs ls hW hS hl hi6
      obtain ⟨y, ey⟩ : ∃ y : Int32, y = i6 + 6 := ⟨_, rfl⟩
      have ty : y.toInt = i6.toInt + 6 := by rw [ey, fb_addI (by omega) (by omega), k6]
      refine lv_iinc (v := y) (lv' := [(3, .int y), (2, .ref m0), (1, .ref x0), (0, .ref b)]) hx hb dL_law_955 hl (k := 0) rfl (by rw [ey]; rfl) (by decide) rfl (fun ls hl => ?_)
      refine lv_goto (tgt := 18) hx hb dL_law_958 (by decide) ?_
      exact ih y (CB + 32) (SB + 656) (by omega) (by omega) (by omega) (by omega) (by omega) H locs hW hS ls hl
    refine lv_iload_n hx hb dL_law_18 rfl (lv_at hl 0 rfl) ?_
    refine lv_aload_n hx hb dL_law_19 rfl (lv_at hl 3 rfl) ?_
    refine va_slen hx hb hX hbl hbA hS dL_law_20 ?_
    refine lv_bipush (v := 6) hx hb dL_law_21 (by decide) ?_
    refine lv_isub hx hb dL_law_23 ?_
    refine lv_topi (fun z ez => ?_)
    have tz : z.toInt = (L : Int) - 6 := by rw [ez, fb_subI (by omega) (by omega), hLt, k6]
    refine lv_icmp_gt (tgt := 961) hx hb dL_law_24 (by decide) (fun _ => ?_) (fun c_24 => ?_)
    · refine lv_iconst (v := 1) hx hb dL_law_961 (by decide) ?_
      refine va_forget (fun q hq => hS.2.2 q hq) ?_
      refine W.widen (k := 600000) (n := 7302250) (by omega) (by omega) ?_
      exact lw_ret hx hb hr hlocks dL_law_962
    · have t_24 := mt (fa_lt _ _).mpr c_24
      have hi6 : i6.toInt + 6 ≤ (L : Int) := by omega
      have hend := fun H locs ls h1 h2 h3 => hend H locs ls h1 h2 h3 hi6
      refine lv_aload_n hx hb dL_law_27 rfl (lv_at hl 3 rfl) ?_
      refine lv_iload_n hx hb dL_law_28 rfl (lv_at hl 0 rfl) ?_
      refine va_sld hx hb hX hbl hbA hS (vp_in_iff.mpr ⟨by omega, by omega⟩) dL_law_29 ?_
      refine lv_bipush (v := 31) hx hb dL_law_30 (by decide) ?_
      refine lv_iand hx hb dL_law_32 ?_
      refine lv_topi (fun y ey => ?_)
      clear ey
      have hW0 := hW
      refine LW_el hW0 (fun dn nn la ne wi lm sz9 zs0 zs1 ns tfi tpl tdb tgo bf bs ba bb bc mth mne mwi mdn mnn mla mwh wu wl wp su sl pu pw fu fl mup mlw mpu mpw ga gs0 gs1 gd gn tg Fi Ma Db Go Sp Ds Dp No Sm Sh Bu PL pf ow v u w hP hD hV hS0 hS1 hDV hNV hc hnb hdb hSm hne hwi hdn hcd hnr hwr => ?_)
      rcases sw_21 y with o_33 | rfl | rfl | rfl | rfl | rfl | rfl | rfl | rfl | rfl | rfl | rfl | rfl | rfl | rfl | rfl | rfl | rfl | rfl | rfl | rfl | rfl
      · refine lv_tableOut (tgt := 955) hx hb dL_law_33 o_33 (by decide) ?_
        refine W.widen (k := CB + 32) (n := SB + 656) (by omega) (by omega) ?_
        exact hend H locs ls hW hS hl
      · refine lv_tableIn (tgt := 132) (off := 99) hx hb dL_law_33 (by decide) (by decide) (by decide) (by decide) ?_
        exact lc_0 hL C0 hN h0 hi6 (by omega) (by omega) hK hP hD hV hS0 hS1 hDV hNV hc hnb hdb hSm hne hwi hdn hcd hnr hwr hS hl hend
      · refine lv_tableIn (tgt := 195) (off := 162) hx hb dL_law_33 (by decide) (by decide) (by decide) (by decide) ?_
        exact lc_1 hL C0 hN h0 hi6 (by omega) (by omega) hK hP hD hV hS0 hS1 hDV hNV hc hnb hdb hSm hne hwi hdn hcd hnr hwr hS hl hend
      · refine lv_tableIn (tgt := 248) (off := 215) hx hb dL_law_33 (by decide) (by decide) (by decide) (by decide) ?_
        exact lc_2 hL C0 hN h0 hi6 (by omega) (by omega) hK hP hD hV hS0 hS1 hDV hNV hc hnb hdb hSm hne hwi hdn hcd hnr hwr hS hl hend
      · refine lv_tableIn (tgt := 271) (off := 238) hx hb dL_law_33 (by decide) (by decide) (by decide) (by decide) ?_
        exact lc_3 hL C0 hN h0 hi6 (by omega) (by omega) hK hP hD hV hS0 hS1 hDV hNV hc hnb hdb hSm hne hwi hdn hcd hnr hwr hS hl hend
      · refine lv_tableIn (tgt := 314) (off := 281) hx hb dL_law_33 (by decide) (by decide) (by decide) (by decide) ?_
        exact lc_4 hL C0 hN h0 hi6 (by omega) (by omega) hK hP hD hV hS0 hS1 hDV hNV hc hnb hdb hSm hne hwi hdn hcd hnr hwr hS hl hend
      · refine lv_tableIn (tgt := 347) (off := 314) hx hb dL_law_33 (by decide) (by decide) (by decide) (by decide) ?_
        exact lc_5 hL C0 hN h0 hi6 (by omega) (by omega) hK hP hD hV hS0 hS1 hDV hNV hc hnb hdb hSm hne hwi hdn hcd hnr hwr hS hl hend
      · refine lv_tableIn (tgt := 380) (off := 347) hx hb dL_law_33 (by decide) (by decide) (by decide) (by decide) ?_
        exact lc_6 hL C0 hN h0 hi6 (by omega) (by omega) hK hP hD hV hS0 hS1 hDV hNV hc hnb hdb hSm hne hwi hdn hcd hnr hwr hS hl hend
      · refine lv_tableIn (tgt := 423) (off := 390) hx hb dL_law_33 (by decide) (by decide) (by decide) (by decide) ?_
        exact lc_7 hL C0 hN h0 hi6 (by omega) (by omega) hK hP hD hV hS0 hS1 hDV hNV hc hnb hdb hSm hne hwi hdn hcd hnr hwr hS hl hend
      · refine lv_tableIn (tgt := 446) (off := 413) hx hb dL_law_33 (by decide) (by decide) (by decide) (by decide) ?_
        exact lc_8 hL C0 hN h0 hi6 (by omega) (by omega) hK hP hD hV hS0 hS1 hDV hNV hc hnb hdb hSm hne hwi hdn hcd hnr hwr hS hl hend
      · refine lv_tableIn (tgt := 479) (off := 446) hx hb dL_law_33 (by decide) (by decide) (by decide) (by decide) ?_
        exact lc_9 hL C0 hN h0 hi6 (by omega) (by omega) hK hP hD hV hS0 hS1 hDV hNV hc hnb hdb hSm hne hwi hdn hcd hnr hwr hS hl hend
      · refine lv_tableIn (tgt := 522) (off := 489) hx hb dL_law_33 (by decide) (by decide) (by decide) (by decide) ?_
        exact lc_10 hL C0 hN h0 hi6 (by omega) (by omega) hK hP hD hV hS0 hS1 hDV hNV hc hnb hdb hSm hne hwi hdn hcd hnr hwr hS hl hend
      · refine lv_tableIn (tgt := 555) (off := 522) hx hb dL_law_33 (by decide) (by decide) (by decide) (by decide) ?_
        exact lc_11 hL C0 hN h0 hi6 (by omega) (by omega) hK hP hD hV hS0 hS1 hDV hNV hc hnb hdb hSm hne hwi hdn hcd hnr hwr hS hl hend
      · refine lv_tableIn (tgt := 608) (off := 575) hx hb dL_law_33 (by decide) (by decide) (by decide) (by decide) ?_
        exact lc_12 hL C0 hN h0 hi6 (by omega) (by omega) hK hP hD hV hS0 hS1 hDV hNV hc hnb hdb hSm hne hwi hdn hcd hnr hwr hS hl hend
      · refine lv_tableIn (tgt := 651) (off := 618) hx hb dL_law_33 (by decide) (by decide) (by decide) (by decide) ?_
        exact lc_13 hL C0 hN h0 hi6 (by omega) (by omega) hK hP hD hV hS0 hS1 hDV hNV hc hnb hdb hSm hne hwi hdn hcd hnr hwr hS hl hend
      · refine lv_tableIn (tgt := 714) (off := 681) hx hb dL_law_33 (by decide) (by decide) (by decide) (by decide) ?_
        exact lc_14 hL C0 hN h0 hi6 (by omega) (by omega) hK hP hD hV hS0 hS1 hDV hNV hc hnb hdb hSm hne hwi hdn hcd hnr hwr hS hl hend
      · refine lv_tableIn (tgt := 767) (off := 734) hx hb dL_law_33 (by decide) (by decide) (by decide) (by decide) ?_
        exact lc_15 hL C0 hN h0 hi6 (by omega) (by omega) hK hP hD hV hS0 hS1 hDV hNV hc hnb hdb hSm hne hwi hdn hcd hnr hwr hS hl hend
      · refine lv_tableIn (tgt := 800) (off := 767) hx hb dL_law_33 (by decide) (by decide) (by decide) (by decide) ?_
        exact lc_16 hL C0 hN h0 hi6 (by omega) (by omega) hK hP hD hV hS0 hS1 hDV hNV hc hnb hdb hSm hne hwi hdn hcd hnr hwr hS hl hend
      · refine lv_tableIn (tgt := 833) (off := 800) hx hb dL_law_33 (by decide) (by decide) (by decide) (by decide) ?_
        exact lc_17 hL C0 hN h0 hi6 (by omega) (by omega) hK hP hD hV hS0 hS1 hDV hNV hc hnb hdb hSm hne hwi hdn hcd hnr hwr hS hl hend
      · refine lv_tableIn (tgt := 876) (off := 843) hx hb dL_law_33 (by decide) (by decide) (by decide) (by decide) ?_
        exact lc_18 hL C0 hN h0 hi6 (by omega) (by omega) hK hP hD hV hS0 hS1 hDV hNV hc hnb hdb hSm hne hwi hdn hcd hnr hwr hS hl hend
      · refine lv_tableIn (tgt := 909) (off := 876) hx hb dL_law_33 (by decide) (by decide) (by decide) (by decide) ?_
        exact lc_19 hL C0 hN h0 hi6 (by omega) (by omega) hK hP hD hV hS0 hS1 hDV hNV hc hnb hdb hSm hne hwi hdn hcd hnr hwr hS hl hend
      · refine lv_tableIn (tgt := 932) (off := 899) hx hb dL_law_33 (by decide) (by decide) (by decide) (by decide) ?_
        exact lc_20 hL C0 hN h0 hi6 (by omega) (by omega) hK hP hD hV hS0 hS1 hDV hNV hc hnb hdb hSm hne hwi hdn hcd hnr hwr hS hl hend
