def wk_X9_sizeE : List Cond := .code yX9_size cX9_size 1 (some .int) :: (([] : List Cond) ++ ([]))
theorem gw_X9_sizeE : AG wk_X9_sizeE := AG_ca (AG_l (by decide +kernel)) (AG_nil)
set_option maxHeartbeats 4000000 in
set_option maxRecDepth 100000 in
theorem c_X9_sizeE (l : Launch) (dC : Nat → ClassId) (dI : Nat → Nat → Nat) (p1 : Int32) (hp : -100000 ≤ p1.toInt) : Met l yX9_size wk_X9_sizeE ({ frames := 0, cells := 0, slots := 0, locals := 0 }) (va_Pc [.int p1] (fun _ => True)) (vp_Si (fun r => (0 ≤ p1.toInt ∧ r.toInt = p1.toInt) ∨ (p1.toInt < 0 ∧ r.toInt = -p1.toInt))) 0 0 (fun _ => False) := by
  refine Met.ofW (cc := cX9_size) (maxL := 1) (ret := (some .int)) (by decide) rfl ?_
  intro p e s m args below meth c s₁ B hml hv
  obtain ⟨rfl, -⟩ := hv
  have hx := B.exec
  have hb := B.bytes
  have hr := B.returns
  have hts := atoms_spec (ws := wk_X9_sizeE) B.pre
  have hown : s.vm.findClass RX9 = some m.cls := findClass_of_methodNamed B.named
  have hlocks := B.notSynchronized
  have hl := lv_entry ([.int p1]) (n := 1) (Nat.le_of_ble_eq_true rfl)
  rw [lg_entry_eq]
  generalize (lg_sl ([.int p1]) ++ List.replicate (1 - (lg_sl ([.int p1])).length) Slot.unset).toArray = ls at hl ⊢
  have hl : lv_has ls 1 [(0, .int p1)] := hl
  have kl_0 : (0 : Int32).toInt = 0 := by decide
  refine lv_iload_n hx hb dX9_size_0 rfl (lv_at hl 0 rfl) ?_
  refine lv_if_ge (tgt := 9) hx hb dX9_size_1 (by decide) (fun c_1 => ?_) (fun c_1 => ?_)
  · have t_1 := (fa_le _ _).mp c_1
    refine lv_iload_n hx hb dX9_size_9 rfl (lv_at hl 0 rfl) ?_
    exact W.iret (v := p1) hx hb hr (fun t ht _ => ⟨_, rfl, (by omega), ht⟩) (fun _ h => absurd h List.not_mem_nil) dX9_size_10
  · have t_1 := mt (fa_le _ _).mpr c_1
    refine lv_iload_n hx hb dX9_size_4 rfl (lv_at hl 0 rfl) ?_
    refine lv_ineg hx hb dX9_size_5 ?_
    refine lv_topi (fun y_1 ey_1 => ?_)
    have ty_1 : y_1.toInt = -p1.toInt := by rw [ey_1]; exact fb_negI (by omega)
    refine lv_goto (tgt := 10) hx hb dX9_size_6 (by decide) ?_
    exact W.iret (v := y_1) hx hb hr (fun t ht _ => ⟨_, rfl, (by omega), ht⟩) (fun _ h => absurd h List.not_mem_nil) dX9_size_10
