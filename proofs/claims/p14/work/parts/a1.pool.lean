/-- a thing as a value: first step, places, doubt, gone, its row -/
abbrev TV : Type := Int32 × Int32 × Int32 × Int32 × (Nat → Int32)
def cOK (pl : Int32) (g : Nat → Int32) : Prop := ∀ k : Nat, (k : Int) < 3 * pl.toInt → -5000 ≤ (g k).toInt ∧ (g k).toInt ≤ 5000
def tvOK (t : TV) : Prop := tOK t.1 t.2.1 ∧ (0 ≤ t.2.2.1.toInt ∧ t.2.2.1.toInt ≤ 200) ∧ (t.2.2.2.1 = 0 ∨ t.2.2.2.1 = 1) ∧ cOK t.2.1 t.2.2.2.2 ∧ (1 ≤ t.2.1.toInt ∧ t.1.toInt + t.2.1.toInt ≤ 40)
/-- the cells of a thing in the pool, with their owner's number -/
def isV (L : List Nat) (f : Nat → va_E) (cI : ClassId) (ow : Nat → Nat) (n a : Nat) (t : TV) : Prop := ∃ x : Nat, a ∈ L ∧ x ∈ L ∧ f a = .inr (6, [.ref x, .int t.1, .int t.2.1, .int t.2.2.1, .int t.2.2.2.1]) ∧ f x = .inl (cI, 36, .inl t.2.2.2.2) ∧ ow a = n ∧ ow x = n ∧ tvOK t
def nowV (L : List Nat) (f : Nat → va_E) (cI : ClassId) (ow : Nat → Nat) (sz : Int32) (ga : Nat → Option Nat) (v : Nat → TV) : Prop := (0 ≤ sz.toInt ∧ sz.toInt ≤ 16) ∧ (∀ i : Nat, sz.toInt ≤ (i : Int) → ga i = none) ∧ ∀ i : Nat, (i : Int) < sz.toInt → ∃ a, ga i = some a ∧ isV L f cI ow i a (v i)
def shV (L : List Nat) (f : Nat → va_E) (cI : ClassId) (ow : Nat → Nat) (base : Nat) (sz : Int32) (gs : Nat → Option Nat) : Prop := (0 ≤ sz.toInt ∧ sz.toInt ≤ 16) ∧ (∀ i : Nat, i < 16 → ∀ a, gs i = some a → ∃ t, isV L f cI ow (base + i) a t) ∧ ∀ i : Nat, (i : Int) < sz.toInt → ∃ a, gs i = some a
abbrev DV : Type := Int32 × Int32 × Int32 × Int32
def dotV (L : List Nat) (f : Nat → va_E) (ow : Nat → Nat) (dn : Int32) (gd : Nat → Option Nat) (u : Nat → DV) : Prop := (0 ≤ dn.toInt ∧ dn.toInt ≤ 40) ∧ ∀ i : Nat, (i : Int) < dn.toInt → ∃ a, gd i = some a ∧ a ∈ L ∧ ow a = 50 ∧ f a = .inr (2, [.int (u i).1, .int (u i).2.1, .int (u i).2.2.1, .int (u i).2.2.2]) ∧ okD (u i).1 (u i).2.1 (u i).2.2.1 (u i).2.2.2
abbrev NV : Type := Int32 × Int32 × Int32 × Int32 × Int32 × Int32 × Int32 × Int32
def nvE (t : NV) : va_E := .inr (5, [.int t.1, .int t.2.1, .int t.2.2.1, .int t.2.2.2.1, .int t.2.2.2.2.1, .int t.2.2.2.2.2.1, .int t.2.2.2.2.2.2.1, .int t.2.2.2.2.2.2.2])
def notV (L : List Nat) (f : Nat → va_E) (ow : Nat → Nat) (nn : Int32) (gn : Nat → Option Nat) (w : Nat → NV) : Prop := (0 ≤ nn.toInt ∧ nn.toInt ≤ 40) ∧ ∀ i : Nat, (i : Int) < nn.toInt → ∃ a, gn i = some a ∧ a ∈ L ∧ ow a = 1000 + i ∧ f a = nvE (w i) ∧ ((w i).2.2.2.2.2.2.2 = 0 ∨ (w i).2.2.2.2.2.2.2 = 1)
/-- what a writer leaves as it was: all but the cells whose owner S names -/
def frm (L : List Nat) (f : Nat → va_E) (ow : Nat → Nat) (L9 : List Nat) (f9 : Nat → va_E) (ow9 : Nat → Nat) (S : Nat → Prop) : Prop := ∀ a ∈ L, a ∈ L9 ∧ ow9 a = ow a ∧ (¬ S (ow a) → f9 a = f a)
theorem frm_rf {L : List Nat} {f : Nat → va_E} {ow : Nat → Nat} {S : Nat → Prop} : frm L f ow L f ow S := fun _ h => ⟨h, rfl, fun _ => rfl⟩
theorem frm_tr {L L1 L2 : List Nat} {f f1 f2 : Nat → va_E} {ow ow1 ow2 : Nat → Nat} {S : Nat → Prop} (h1 : frm L f ow L1 f1 ow1 S) (h2 : frm L1 f1 ow1 L2 f2 ow2 S) : frm L f ow L2 f2 ow2 S := fun a h => by
  obtain ⟨p, q, r⟩ := h1 a h
  obtain ⟨p2, q2, r2⟩ := h2 a p
  exact ⟨p2, q2.trans q, fun n => (r2 (by rw [q]; exact n)).trans (r n)⟩
theorem isV_frm {L L9 : List Nat} {f f9 : Nat → va_E} {cI : ClassId} {ow ow9 : Nat → Nat} {S : Nat → Prop} {n a : Nat} {t : TV} (h : isV L f cI ow n a t) (F : frm L f ow L9 f9 ow9 S) (hn : ¬ S n) : isV L9 f9 cI ow9 n a t := by
  obtain ⟨x, ha, hx, fa, fx, oa, ox, ok⟩ := h
  obtain ⟨a1, a2, a3⟩ := F a ha
  obtain ⟨x1, x2, x3⟩ := F x hx
  exact ⟨x, a1, x1, (a3 (by rw [oa]; exact hn)).trans fa, (x3 (by rw [ox]; exact hn)).trans fx, a2.trans oa, x2.trans ox, ok⟩
theorem nowV_frm {L L9 : List Nat} {f f9 : Nat → va_E} {cI : ClassId} {ow ow9 : Nat → Nat} {S : Nat → Prop} {sz : Int32} {ga : Nat → Option Nat} {v : Nat → TV} (h : nowV L f cI ow sz ga v) (F : frm L f ow L9 f9 ow9 S) (hn : ∀ i : Nat, i < 16 → ¬ S i) : nowV L9 f9 cI ow9 sz ga v :=
  ⟨h.1, h.2.1, fun i hi => by
    obtain ⟨a, g, q⟩ := h.2.2 i hi
    have := h.1.2
    exact ⟨a, g, isV_frm q F (hn i (by omega))⟩⟩
theorem shV_frm {L L9 : List Nat} {f f9 : Nat → va_E} {cI : ClassId} {ow ow9 : Nat → Nat} {S : Nat → Prop} {base : Nat} {sz : Int32} {gs : Nat → Option Nat} (h : shV L f cI ow base sz gs) (F : frm L f ow L9 f9 ow9 S) (hn : ∀ i : Nat, i < 16 → ¬ S (base + i)) : shV L9 f9 cI ow9 base sz gs :=
  ⟨h.1, fun i hi a ha => by
    obtain ⟨t, q⟩ := h.2.1 i hi a ha
    exact ⟨t, isV_frm q F (hn i hi)⟩, h.2.2⟩
theorem dotV_frm {L L9 : List Nat} {f f9 : Nat → va_E} {ow ow9 : Nat → Nat} {S : Nat → Prop} {dn : Int32} {gd : Nat → Option Nat} {u : Nat → DV} (h : dotV L f ow dn gd u) (F : frm L f ow L9 f9 ow9 S) (hn : ¬ S 50) : dotV L9 f9 ow9 dn gd u :=
  ⟨h.1, fun i hi => by
    obtain ⟨a, g, l, o, q, z⟩ := h.2 i hi
    obtain ⟨a1, a2, a3⟩ := F a l
    exact ⟨a, g, a1, a2.trans o, (a3 (by rw [o]; exact hn)).trans q, z⟩⟩
theorem notV_frm {L L9 : List Nat} {f f9 : Nat → va_E} {ow ow9 : Nat → Nat} {S : Nat → Prop} {nn : Int32} {gn : Nat → Option Nat} {w : Nat → NV} (h : notV L f ow nn gn w) (F : frm L f ow L9 f9 ow9 S) (hn : ∀ i : Nat, i < 40 → ¬ S (1000 + i)) : notV L9 f9 ow9 nn gn w :=
  ⟨h.1, fun i hi => by
    obtain ⟨a, g, l, o, q, z⟩ := h.2 i hi
    obtain ⟨a1, a2, a3⟩ := F a l
    have := h.1.2
    exact ⟨a, g, a1, a2.trans o, (a3 (by rw [o]; exact hn i (by omega))).trans q, z⟩⟩
theorem isV_th {L : List Nat} {f : Nat → va_E} {cI : ClassId} {ow : Nat → Nat} {n a : Nat} {t : TV} (h : isV L f cI ow n a t) : isTh L f cI a := by
  obtain ⟨x, ha, hx, fa, fx, -, -, ok⟩ := h
  exact ⟨x, _, _, _, _, _, ha, hx, fa, fx, ok.1, ok.2.2.1⟩
theorem nowV_cat {L : List Nat} {f : Nat → va_E} {cI : ClassId} {ow : Nat → Nat} {sz : Int32} {ga : Nat → Option Nat} {v : Nat → TV} (h : nowV L f cI ow sz ga v) : catOK L f cI sz ga := ⟨h.1.1, h.1.2, fun i hi => by
  obtain ⟨a, g, q⟩ := h.2.2 i hi
  exact ⟨a, g, isV_th q⟩⟩
theorem shV_cat {L : List Nat} {f : Nat → va_E} {cI : ClassId} {ow : Nat → Nat} {base : Nat} {sz : Int32} {gs : Nat → Option Nat} (h : shV L f cI ow base sz gs) : catOK L f cI sz gs := ⟨h.1.1, h.1.2, fun i hi => by
  obtain ⟨a, g⟩ := h.2.2 i hi
  have := h.1.2
  obtain ⟨t, q⟩ := h.2.1 i (by omega) a g
  exact ⟨a, g, isV_th q⟩⟩
theorem dotV_ok {L : List Nat} {f : Nat → va_E} {ow : Nat → Nat} {dn : Int32} {gd : Nat → Option Nat} {u : Nat → DV} (h : dotV L f ow dn gd u) : dotOK L f dn gd := ⟨h.1.1, h.1.2, fun i hi => by
  obtain ⟨a, g, l, -, q, -⟩ := h.2 i hi
  exact ⟨a, g, _, _, _, _, l, q⟩⟩
theorem notV_ok {L : List Nat} {f : Nat → va_E} {ow : Nat → Nat} {nn : Int32} {gn : Nat → Option Nat} {w : Nat → NV} (h : notV L f ow nn gn w) : notOK L f nn gn := ⟨h.1.1, h.1.2, fun i hi => by
  obtain ⟨a, g, l, -, q, z⟩ := h.2 i hi
  exact ⟨a, g, _, _, _, _, _, _, _, _, l, q, z⟩⟩
theorem nv_of {L : List Nat} {f : Nat → va_E} {cI : ClassId} {ow : Nat → Nat} {sz : Int32} {ga : Nat → Option Nat} {v : Nat → TV} {i w : Nat} (h : nowV L f cI ow sz ga v) (hi : (i : Int) < sz.toInt) (hw : ga i = some w) : ∃ (x : Nat) (fi pl db go : Int32) (g : Nat → Int32), w ∈ L ∧ x ∈ L ∧ f w = .inr (6, [.ref x, .int fi, .int pl, .int db, .int go]) ∧ f x = .inl (cI, 36, .inl g) ∧ tOK fi pl ∧ (go = 0 ∨ go = 1) ∧ (0 ≤ db.toInt ∧ db.toInt ≤ 200) ∧ cOK pl g ∧ (1 ≤ pl.toInt ∧ fi.toInt + pl.toInt ≤ 40) ∧ v i = (fi, pl, db, go, g) ∧ ow w = i ∧ ow x = i ∧ x ≠ w := by
  obtain ⟨a, ha, x, la, lx, fa, fx, oa, ox, ok⟩ := h.2.2 i hi
  rw [hw] at ha
  cases ha
  exact ⟨x, _, _, _, _, _, la, lx, fa, fx, ok.1, ok.2.2.1, ok.2.1, ok.2.2.2.1, ok.2.2.2.2, rfl, oa, ox, fun e => by rw [e, fa] at fx; cases fx⟩
/-- a thing of now that has changed -/
theorem nowV_set {L : List Nat} {f : Nat → va_E} {cI : ClassId} {ow : Nat → Nat} {sz : Int32} {ga : Nat → Option Nat} {v : Nat → TV} {i a x : Nat} {t : TV} (h : nowV L f cI ow sz ga v) (hi : (i : Int) < sz.toInt) (hw : ga i = some a) (la : a ∈ L) (lx : x ∈ L) (oa : ow a = i) (ox : ow x = i) (hne : x ≠ a) (ok : tvOK t) : nowV L (va_up (va_up f x (.inl (cI, 36, .inl t.2.2.2.2))) a (.inr (6, [.ref x, .int t.1, .int t.2.1, .int t.2.2.1, .int t.2.2.2.1]))) cI ow sz ga (va_up v i t) :=
  ⟨h.1, h.2.1, fun j hj => by
    by_cases hji : j = i
    · subst hji
      refine ⟨a, hw, x, la, lx, ?_, ?_, oa, ox, ?_⟩
      · rw [va_up_self, va_up_self]
      · rw [va_up_ne _ _ hne, va_up_self, va_up_self]
      · rw [va_up_self]; exact ok
    · obtain ⟨b, hb, y, lb, ly, fb, fy, ob, oy, okb⟩ := h.2.2 j hj
      have n1 : b ≠ a := fun e => hji (by rw [← ob, e, oa])
      have n2 : b ≠ x := fun e => hji (by rw [← ob, e, ox])
      have n3 : y ≠ a := fun e => hji (by rw [← oy, e, oa])
      have n4 : y ≠ x := fun e => hji (by rw [← oy, e, ox])
      refine ⟨b, hb, y, lb, ly, ?_, ?_, ob, oy, ?_⟩
      · rw [va_up_ne _ _ n1, va_up_ne _ _ n2, va_up_ne _ _ hji]; exact fb
      · rw [va_up_ne _ _ n3, va_up_ne _ _ n4, va_up_ne _ _ hji]; exact fy
      · rw [va_up_ne _ _ hji]; exact okb⟩
theorem frm_set {L : List Nat} {f : Nat → va_E} {ow : Nat → Nat} {i a x : Nat} {e1 e2 : va_E} {S : Nat → Prop} (oa : ow a = i) (ox : ow x = i) (hS : S i) : frm L f ow L (va_up (va_up f x e1) a e2) ow S := fun b hb => ⟨hb, rfl, fun n => by
  have n1 : b ≠ a := fun e => n (by rw [e, oa]; exact hS)
  have n2 : b ≠ x := fun e => n (by rw [e, ox]; exact hS)
  rw [va_up_ne _ _ n1, va_up_ne _ _ n2]⟩
/-- a new thing: its two cells come behind the pool -/
theorem frm_push {L : List Nat} {f : Nat → va_E} {ow : Nat → Nat} {a x n : Nat} {e1 e2 : va_E} {S : Nat → Prop} (ha : a ∉ L) (hx : x ∉ L) : frm L f ow ((L ++ [x]) ++ [a]) (va_up (va_up f x e1) a e2) (va_up (va_up ow x n) a n) S := fun b hb => by
  have n1 : b ≠ a := fun e => ha (by rw [← e]; exact hb)
  have n2 : b ≠ x := fun e => hx (by rw [← e]; exact hb)
  refine ⟨List.mem_append_left _ (List.mem_append_left _ hb), ?_, fun _ => ?_⟩
  · rw [va_up_ne _ _ n1, va_up_ne _ _ n2]
  · rw [va_up_ne _ _ n1, va_up_ne _ _ n2]
theorem isV_new {L : List Nat} {f : Nat → va_E} {cI : ClassId} {ow : Nat → Nat} {n a x : Nat} {t : TV} (hne : x ≠ a) (ok : tvOK t) : isV ((L ++ [x]) ++ [a]) (va_up (va_up f x (.inl (cI, 36, .inl t.2.2.2.2))) a (.inr (6, [.ref x, .int t.1, .int t.2.1, .int t.2.2.1, .int t.2.2.2.1]))) cI (va_up (va_up ow x n) a n) n a t := by
  refine ⟨x, List.mem_append_right _ (List.mem_singleton.mpr rfl), List.mem_append_left _ (List.mem_append_right _ (List.mem_singleton.mpr rfl)), va_up_self _ _ _, ?_, va_up_self _ _ _, ?_, ok⟩
  · rw [va_up_ne _ _ hne, va_up_self]
  · rw [va_up_ne _ _ hne, va_up_self]
theorem nowV_push {L : List Nat} {f : Nat → va_E} {cI : ClassId} {ow : Nat → Nat} {sz sz8 : Int32} {ga : Nat → Option Nat} {v : Nat → TV} {i a x : Nat} {t : TV} (h : nowV L f cI ow sz ga v) (hi : (i : Int) = sz.toInt) (h8 : sz8.toInt = sz.toInt + 1) (hlt : sz.toInt < 16) (ha : a ∉ L) (hx : x ∉ L) (hne : x ≠ a) (ok : tvOK t) : nowV ((L ++ [x]) ++ [a]) (va_up (va_up f x (.inl (cI, 36, .inl t.2.2.2.2))) a (.inr (6, [.ref x, .int t.1, .int t.2.1, .int t.2.2.1, .int t.2.2.2.1]))) cI (va_up (va_up ow x i) a i) sz8 (va_up ga i (some a)) (va_up v i t) := by
  refine ⟨⟨by have := h.1.1; omega, by omega⟩, fun j hj => ?_, fun j hj => ?_⟩
  · rw [va_up_ne _ _ (by omega)]; exact h.2.1 j (by omega)
  · by_cases hji : j = i
    · subst hji
      exact ⟨a, va_up_self _ _ _, by rw [va_up_self]; exact isV_new hne ok⟩
    · obtain ⟨b, hb, q⟩ := h.2.2 j (by omega)
      refine ⟨b, by rw [va_up_ne _ _ hji]; exact hb, ?_⟩
      rw [va_up_ne _ _ hji]
      exact isV_frm q (frm_push (S := fun _ => False) ha hx) (fun h => h)
