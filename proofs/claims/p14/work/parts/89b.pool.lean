theorem pl_ix {X : va_W} {L : List Nat} {f : Nat → va_E} {a : Nat} {e : va_E} (h : a ∈ L) (hf : f a = e) : ∃ k : Nat, (X ++ va_pl L f)[k]? = some (a, e) := by
  obtain ⟨k, hk⟩ := va_pl_get (X := X) (f := f) h
  exact ⟨k, by rw [hk, hf]⟩
theorem P_nil {D : va_G} {cl : List vw_C} {H : Heap} : va_P D cl [] H := fun k q h => by simp at h
theorem P_cons {D : va_G} {cl : List vw_C} {H : Heap} {a : Nat} {e : va_E} {ws : va_W} (h1 : va_P D cl [(a, e)] H) (h2 : va_P D cl ws H) : va_P D cl ((a, e) :: ws) H :=
  P_mem.mpr (fun q hq => (List.mem_cons.mp hq).elim (fun z => P_mem.mp h1 q (by rw [z]; exact List.mem_singleton.mpr rfl)) (fun z => P_mem.mp h2 q z))
/-- at a: a thing in the pool, and its row -/
def isTh (L : List Nat) (f : Nat → va_E) (cI : ClassId) (a : Nat) : Prop := ∃ (x : Nat) (fi pl db go : Int32) (g : Nat → Int32), a ∈ L ∧ x ∈ L ∧ f a = .inr (6, [.ref x, .int fi, .int pl, .int db, .int go]) ∧ f x = .inl (cI, 36, .inl g) ∧ tOK fi pl ∧ (go = 0 ∨ go = 1)
/-- a catalogue's first places hold things -/
def catOK (L : List Nat) (f : Nat → va_E) (cI : ClassId) (sz : Int32) (ga : Nat → Option Nat) : Prop := 0 ≤ sz.toInt ∧ sz.toInt ≤ 16 ∧ ∀ i : Nat, (i : Int) < sz.toInt → ∃ a, ga i = some a ∧ isTh L f cI a
theorem fd_some {c : Prop} [Decidable c] {x : Option Nat} {w : Nat} (h : some w = if c then x else none) : c ∧ x = some w := by
  by_cases q : c
  · rw [if_pos q] at h; exact ⟨q, h.symm⟩
  · rw [if_neg q] at h; cases h
theorem th_of {L : List Nat} {f : Nat → va_E} {cI : ClassId} {sz : Int32} {ga : Nat → Option Nat} {i w : Nat} (hC : catOK L f cI sz ga) (hi : (i : Int) < sz.toInt) (hw : ga i = some w) : isTh L f cI w := by
  obtain ⟨a, ha, h⟩ := hC.2.2 i hi
  rw [hw] at ha
  cases ha
  exact h
