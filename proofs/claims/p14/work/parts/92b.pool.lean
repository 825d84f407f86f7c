theorem lk_01 (x : Int32) : (¬ x = 0 ∧ ¬ x = 1) ∨ x = 0 ∨ x = 1 := by
  by_cases h : x = 0
  · exact Or.inr (Or.inl h)
  · by_cases h1 : x = 1
    · exact Or.inr (Or.inr h1)
    · exact Or.inl ⟨h, h1⟩
theorem lk_01_df {x : Int32} {a b d : Int} (n0 : ¬ x = 0) (n1 : ¬ x = 1) : Op.lookupswitch.offset [(0, a), (1, b)] d x.toInt = d := (lv_osw n0 (by decide)).trans ((lv_osw n1 (by decide)).trans rfl)
