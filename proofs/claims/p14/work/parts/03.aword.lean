def AG (ws : List Cond) : Prop := ∀ w ∈ ws, goodWord w = true
theorem AG_l {ws : List Cond} (h : ws.all goodWord = true) : AG ws := fun w hw => List.all_eq_true.mp h w hw
theorem AG_nil : AG [] := fun w h => absurd h List.not_mem_nil
theorem AG_app {a b : List Cond} (ha : AG a) (hb : AG b) : AG (a ++ b) := fun w h => (List.mem_append.mp h).elim (ha w) (hb w)
theorem AG_ca {a b : List Cond} {c : Cond} (ha : AG (c :: a)) (hb : AG b) : AG (c :: (a ++ b)) := fun w h => (List.mem_cons.mp h).elim (fun e => ha w (List.mem_cons.mpr (Or.inl e))) (fun h => (List.mem_append.mp h).elim (fun h => ha w (List.mem_cons.mpr (Or.inr h))) (hb w))
theorem AG_V {R R2 : String} {n : Nat} {y : MethodName} {ws : List Cond} (h : AG ws) : AG (wsV R n R2 y ws) := AG_app (AG_l rfl) h
theorem AG_S {R : String} {n : Nat} {y : MethodName} {ws : List Cond} (h : AG ws) : AG (va_wsS R n y ws) := AG_app (AG_l rfl) h
theorem goodIn_m {big ws : List Cond} (hm : ∀ w ∈ ws, w ∈ big) (h : AG ws) : GoodIn big ws := fun w hw => ⟨hm w hw, good_of_word (h w hw)⟩
def Sb (big ws : List Cond) : Prop := ∀ w ∈ ws, w ∈ big
theorem sb_l {big : List Cond} (ws : List Cond) (ps : List Nat) (hp : ws = ps.filterMap (fun i => big[i]?)) : Sb big ws := fun w hw => by
  rw [hp] at hw
  obtain ⟨i, -, hi⟩ := List.mem_filterMap.mp hw
  exact List.mem_of_getElem? hi
theorem sb_nil {big : List Cond} : Sb big [] := fun w h => absurd h List.not_mem_nil
theorem sb_app {big a b : List Cond} (ha : Sb big a) (hb : Sb big b) : Sb big (a ++ b) := fun w h => (List.mem_append.mp h).elim (ha w) (hb w)
theorem sb_ca {big a b : List Cond} {c : Cond} (ha : Sb big (c :: a)) (hb : Sb big b) : Sb big (c :: (a ++ b)) := fun w h => (List.mem_cons.mp h).elim (fun e => ha w (List.mem_cons.mpr (Or.inl e))) (fun h => (List.mem_append.mp h).elim (fun h => ha w (List.mem_cons.mpr (Or.inr h))) (hb w))
theorem sb_V {big : List Cond} {R R2 : String} {n : Nat} {y : MethodName} {ws : List Cond} (h0 : Sb big ([.methodLink R n y, .instanceMethod y, .selects R2 y y, .initialized R2] : List Cond)) (h : Sb big ws) : Sb big (wsV R n R2 y ws) := sb_app h0 h
theorem sb_S {big : List Cond} {R : String} {n : Nat} {y : MethodName} {ws : List Cond} (h0 : Sb big ([.methodLink R n y, .static y, .initialized y.cls] : List Cond)) (h : Sb big ws) : Sb big (va_wsS R n y ws) := sb_app h0 h
theorem ag_X0 : AG wsX00 := AG_l (by decide +kernel)
theorem ag_X1 : AG wsX10 := AG_l (by decide +kernel)
theorem ag_X2 : AG wsX20 := AG_l (by decide +kernel)
theorem ag_X3 : AG wsX30 := AG_l (by decide +kernel)
theorem ag_X4 : AG wsX40 := AG_l (by decide +kernel)
theorem ag_X5 : AG wsX50 := AG_l (by decide +kernel)
theorem ag_X6 : AG wsX60 := AG_l (by decide +kernel)
theorem ag_X7 : AG wsX70 := AG_l (by decide +kernel)
theorem ag_X8 : AG wsX80 := AG_l (by decide +kernel)
theorem ag_X9 : AG wsX90 := AG_l (by decide +kernel)
