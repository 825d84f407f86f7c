theorem P_mem {D : va_G} {cl : List vw_C} {ws : va_W} {H : Heap} : va_P D cl ws H ↔ ∀ q ∈ ws, va_at D cl q H :=
  ⟨fun h q hq => by
    obtain ⟨k, hk⟩ := List.getElem?_of_mem hq
    exact h k q hk, fun h k q hk => h q (List.mem_of_getElem? hk)⟩
theorem D_nd {A : Nat → Prop} {ws : va_W} : va_D A ws ↔ (ws.map Prod.fst).Nodup ∧ ∀ q ∈ ws, A q.1 := by
  constructor
  · intro h
    refine ⟨?_, fun q hq => ?_⟩
    · rw [List.nodup_iff_pairwise_ne, List.pairwise_iff_getElem]
      intro i j hi hj hij he
      rw [List.length_map] at hi hj
      rw [List.getElem_map, List.getElem_map] at he
      have := h.1 i j ws[i] ws[j] (List.getElem?_eq_getElem hi) (List.getElem?_eq_getElem hj) he
      omega
    · obtain ⟨k, hk⟩ := List.getElem?_of_mem hq
      exact h.2 k q hk
  · intro h
    refine ⟨fun i j p q hi hj he => ?_, fun k q hk => h.2 q (List.mem_of_getElem? hk)⟩
    have hl : i < (ws.map Prod.fst).length := by
      rw [List.length_map]; exact (List.getElem?_eq_some_iff.mp hi).1
    refine (List.getElem?_inj hl h.1).mp ?_
    rw [List.getElem?_map, List.getElem?_map, hi, hj]
    show some p.1 = some q.1
    rw [he]
theorem pl_mem {L : List Nat} {f : Nat → va_E} {a : Nat} {e : va_E} (h : a ∈ L) (hf : f a = e) : (a, e) ∈ va_pl L f := List.mem_map.mpr ⟨a, h, by rw [hf]⟩
/-- a cell of the pool, alone -/
theorem pl_at {D : va_G} {cl : List vw_C} {X : va_W} {L : List Nat} {f : Nat → va_E} {H : Heap} (hP : va_P D cl (X ++ va_pl L f) H) {a : Nat} {e : va_E} (h : a ∈ L) (hf : f a = e) : va_P D cl [(a, e)] H :=
  P_mem.mpr (fun q hq => by
    rw [List.mem_singleton] at hq
    subst hq
    exact P_mem.mp hP _ (List.mem_append_right _ (pl_mem h hf)))
/-- for reads: a cell of the pool beside the fixed ones, the pool as it was -/
theorem P_open {D : va_G} {cl : List vw_C} {X : va_W} {L : List Nat} {f : Nat → va_E} {H : Heap} (hP : va_P D cl (X ++ va_pl L f) H) {a : Nat} {e : va_E} (h : a ∈ L) (hf : f a = e) : va_P D cl ((X ++ [(a, e)]) ++ va_pl L f) H :=
  P_mem.mpr (fun q hq => by
    rcases List.mem_append.mp hq with g | g
    · rcases List.mem_append.mp g with k | k
      · exact P_mem.mp hP _ (List.mem_append_left _ k)
      · rw [List.mem_singleton] at k
        subst k
        exact P_mem.mp hP _ (List.mem_append_right _ (pl_mem h hf))
    · exact P_mem.mp hP _ (List.mem_append_right _ g))
/-- a cell of the pool taken out, to be written -/
theorem P_focus {D : va_G} {cl : List vw_C} {X : va_W} {L : List Nat} {f : Nat → va_E} {H : Heap} (hP : va_P D cl (X ++ va_pl L f) H) {a : Nat} {e : va_E} (h : a ∈ L) (hf : f a = e) : va_P D cl ((X ++ [(a, e)]) ++ va_pl (L.erase a) f) H :=
  P_mem.mpr (fun q hq => by
    rcases List.mem_append.mp hq with g | g
    · exact P_mem.mp (P_open hP h hf) _ (List.mem_append_left _ g)
    · obtain ⟨b, hb, rfl⟩ := List.mem_map.mp g
      exact P_mem.mp hP _ (List.mem_append_right _ (List.mem_map.mpr ⟨b, List.mem_of_mem_erase hb, rfl⟩)))
theorem fst_pl (L : List Nat) (f : Nat → va_E) : (va_pl L f).map Prod.fst = L := by
  induction L with
  | nil => rfl
  | cons a l ih => show a :: (va_pl l f).map Prod.fst = a :: l; rw [ih]
theorem D_focus {A : Nat → Prop} {X : va_W} {L : List Nat} {f : Nat → va_E} (hD : va_D A (X ++ va_pl L f)) {a : Nat} {e : va_E} (h : a ∈ L) : va_D A ((X ++ [(a, e)]) ++ va_pl (L.erase a) f) := by
  obtain ⟨n, hA⟩ := D_nd.mp hD
  refine D_nd.mpr ⟨?_, fun q hq => ?_⟩
  · rw [List.map_append, fst_pl] at n
    rw [List.map_append, List.map_append, fst_pl]
    refine (List.Perm.nodup_iff ?_).mp n
    show X.map Prod.fst ++ L |>.Perm _
    rw [List.append_assoc]
    exact List.Perm.append_left _ (List.perm_cons_erase h)
  · rcases List.mem_append.mp hq with g | g
    · rcases List.mem_append.mp g with k | k
      · exact hA q (List.mem_append_left _ k)
      · rw [List.mem_singleton] at k
        subst k
        exact hA (a, f a) (List.mem_append_right _ (pl_mem h rfl))
    · obtain ⟨b, hb, rfl⟩ := List.mem_map.mp g
      exact hA (b, f b) (List.mem_append_right _ (pl_mem (List.mem_of_mem_erase hb) rfl))
/-- put back, with what it holds now -/
theorem P_back {D : va_G} {cl : List vw_C} {X : va_W} {L : List Nat} {f : Nat → va_E} {H : Heap} {a : Nat} {e : va_E} (hn : L.Nodup) (hP : va_P D cl ((X ++ [(a, e)]) ++ va_pl (L.erase a) f) H) : va_P D cl (X ++ va_pl L (va_up f a e)) H :=
  P_mem.mpr (fun q hq => by
    rcases List.mem_append.mp hq with g | g
    · exact P_mem.mp hP _ (List.mem_append_left _ (List.mem_append_left _ g))
    · obtain ⟨b, hb, rfl⟩ := List.mem_map.mp g
      by_cases hba : b = a
      · subst hba
        rw [va_up_self]
        exact P_mem.mp hP _ (List.mem_append_left _ (List.mem_append_right _ (List.mem_singleton.mpr rfl)))
      · rw [va_up_ne _ _ hba]
        exact P_mem.mp hP _ (List.mem_append_right _ (pl_mem ((List.mem_erase_of_ne hba).mpr hb) rfl)))
theorem D_back {A : Nat → Prop} {X : va_W} {L : List Nat} {f : Nat → va_E} {a : Nat} {e : va_E} (h : a ∈ L) (hD : va_D A ((X ++ [(a, e)]) ++ va_pl (L.erase a) f)) : va_D A (X ++ va_pl L (va_up f a e)) := by
  obtain ⟨n, hA⟩ := D_nd.mp hD
  refine D_nd.mpr ⟨?_, fun q hq => ?_⟩
  · rw [List.map_append, List.map_append, fst_pl, List.append_assoc] at n
    rw [List.map_append, fst_pl]
    exact (List.Perm.nodup_iff (List.Perm.append_left _ (List.perm_cons_erase h))).mpr n
  · rcases List.mem_append.mp hq with g | g
    · exact hA q (List.mem_append_left _ (List.mem_append_left _ g))
    · obtain ⟨b, hb, rfl⟩ := List.mem_map.mp g
      by_cases hba : b = a
      · subst hba
        exact hA (b, e) (List.mem_append_left _ (List.mem_append_right _ (List.mem_singleton.mpr rfl)))
      · exact hA (b, f b) (List.mem_append_right _ (pl_mem ((List.mem_erase_of_ne hba).mpr hb) rfl))
/-- the pool's addresses are apart -/
theorem D_pool {A : Nat → Prop} {X : va_W} {L : List Nat} {f : Nat → va_E} (hD : va_D A (X ++ va_pl L f)) : L.Nodup := by
  obtain ⟨n, -⟩ := D_nd.mp hD
  rw [List.map_append, fst_pl] at n
  exact (List.nodup_append.mp n).2.1
/-- cells taken into the pool, where its function says the same of them -/
theorem P_into {D : va_G} {cl : List vw_C} {X : va_W} {L : List Nat} {f : Nat → va_E} {H : Heap} {a : Nat} {e : va_E} (hP : va_P D cl ((X ++ [(a, e)]) ++ va_pl L f) H) (ha : a ∉ L) : va_P D cl (X ++ va_pl (L ++ [a]) (va_up f a e)) H :=
  P_mem.mpr (fun q hq => by
    rcases List.mem_append.mp hq with g | g
    · exact P_mem.mp hP _ (List.mem_append_left _ (List.mem_append_left _ g))
    · obtain ⟨b, hb, rfl⟩ := List.mem_map.mp g
      by_cases hba : b = a
      · subst hba
        rw [va_up_self]
        exact P_mem.mp hP _ (List.mem_append_left _ (List.mem_append_right _ (List.mem_singleton.mpr rfl)))
      · rw [va_up_ne _ _ hba]
        rcases List.mem_append.mp hb with k | k
        · exact P_mem.mp hP _ (List.mem_append_right _ (pl_mem k rfl))
        · exact absurd (List.mem_singleton.mp k) hba)
theorem D_into {A : Nat → Prop} {X : va_W} {L : List Nat} {f : Nat → va_E} {a : Nat} {e : va_E} (hD : va_D A ((X ++ [(a, e)]) ++ va_pl L f)) : va_D A (X ++ va_pl (L ++ [a]) (va_up f a e)) := by
  obtain ⟨n, hA⟩ := D_nd.mp hD
  refine D_nd.mpr ⟨?_, fun q hq => ?_⟩
  · rw [List.map_append, List.map_append, fst_pl, List.append_assoc] at n
    rw [List.map_append, fst_pl]
    exact (List.Perm.nodup_iff (List.Perm.append_left _ (List.perm_append_singleton a L))).mpr n
  · rcases List.mem_append.mp hq with g | g
    · exact hA q (List.mem_append_left _ (List.mem_append_left _ g))
    · obtain ⟨b, hb, rfl⟩ := List.mem_map.mp g
      by_cases hba : b = a
      · subst hba
        exact hA (b, e) (List.mem_append_left _ (List.mem_append_right _ (List.mem_singleton.mpr rfl)))
      · rcases List.mem_append.mp hb with k | k
        · exact hA (b, f b) (List.mem_append_right _ (pl_mem k rfl))
        · exact absurd (List.mem_singleton.mp k) hba
theorem D_new {A : Nat → Prop} {X : va_W} {L : List Nat} {f : Nat → va_E} {a : Nat} {e : va_E} (hD : va_D A ((X ++ [(a, e)]) ++ va_pl L f)) : a ∉ L := by
  obtain ⟨n, -⟩ := D_nd.mp hD
  rw [List.map_append, List.map_append, fst_pl] at n
  intro h
  exact (List.nodup_append.mp n).2.2 a (List.mem_append_right _ (List.mem_singleton.mpr rfl)) a h rfl
/-- two arrays of one type have one array type's id -/
theorem K_one {D : va_G} {cl : List vw_C} {tys : List (ClassId × FieldType)} {U : State} (hK : va_K D cl tys U) {i j : Nat} {c d : ClassId} {ty : FieldType} (hi : tys[i]? = some (c, ty)) (hj : tys[j]? = some (d, ty)) : c = d := by
  have h1 := (hK.2 i _ hi).2
  have h2 := (hK.2 j _ hj).2
  cases ty with
  | object C =>
    obtain ⟨k1, c1, -, -, -, e1⟩ := h1
    obtain ⟨k2, c2, -, -, -, e2⟩ := h2
    exact Option.some.inj (e1.symm.trans e2)
  | _ => exact Option.some.inj (h1.symm.trans h2)
