theorem frm_mono {L L9 : List Nat} {f f9 : Nat → va_E} {ow ow9 : Nat → Nat} {S S2 : Nat → Prop} (h : frm L f ow L9 f9 ow9 S) (hs : ∀ n, S n → S2 n) : frm L f ow L9 f9 ow9 S2 := fun a ha => ⟨(h a ha).1, (h a ha).2.1, fun n => (h a ha).2.2 (fun q => n (hs _ q))⟩
theorem up_id {α : Type} {v : Nat → α} {i : Nat} {t : α} (h : v i = t) : va_up v i t = v := by
  funext j
  by_cases hj : j = i
  · subst hj; rw [va_up_self, h]
  · rw [va_up_ne _ _ hj]
theorem inc_I {x y : Int32} (h : y.toInt = x.toInt + 1) (h0 : 0 ≤ x.toInt) (h1 : x.toInt ≤ 1000) : y = x + 1 := by
  apply Int32.toInt_inj.mp
  have k1 : (1 : Int32).toInt = 1 := by decide
  rw [fb_addI (by omega) (by omega)]
  omega
def tvGo (t : TV) : TV := (t.1, t.2.1, t.2.2.1, 1, t.2.2.2.2)
theorem cOK_ap {pl pl9 : Int32} {g g9 : Nat → Int32} {x y z : Int32} (h : cOK pl g) (h0 : 0 ≤ pl.toInt) (hp : inP x y z) (h9 : pl9.toInt = pl.toInt + 1) (hg : g9 = st3 g (3 * pl.toInt).toNat x y z) : cOK pl9 g9 := fun k hk => by
  obtain ⟨⟨x1, x2⟩, ⟨y1, y2⟩, z1, z2⟩ := hp
  have e : g9 k = if k = (3 * pl.toInt).toNat + 2 then z else if k = (3 * pl.toInt).toNat + 1 then y else if k = (3 * pl.toInt).toNat then x else g k := by rw [hg]; rfl
  rw [e]
  by_cases c2 : k = (3 * pl.toInt).toNat + 2
  · rw [if_pos c2]; exact ⟨z1, z2⟩
  · rw [if_neg c2]
    by_cases c1 : k = (3 * pl.toInt).toNat + 1
    · rw [if_pos c1]; exact ⟨y1, y2⟩
    · rw [if_neg c1]
      by_cases c0 : k = (3 * pl.toInt).toNat
      · rw [if_pos c0]; exact ⟨x1, x2⟩
      · rw [if_neg c0]; exact h k (by omega)
theorem cOK_mv {pl : Int32} {g : Nat → Int32} {q n : Nat} {a b c : Int32} (h : cOK pl g) (hs : stK g q a b c n) : cOK pl (mvK g q a b c n) := fun k hk => by
  by_cases ho : k < q ∨ q + 3 * n ≤ k
  · rw [mvK_off g q a b c n k ho]; exact h k hk
  · obtain ⟨d, r, hr, rfl⟩ : ∃ d r : Nat, r < 3 ∧ k = q + 3 * d + r := ⟨(k - q) / 3, (k - q) % 3, Nat.mod_lt _ (by omega), by omega⟩
    have hd : d < n := by omega
    obtain ⟨i1, i2, i3⟩ := mvK_in g q a b c n d hd
    obtain ⟨⟨x1, x2⟩, ⟨y1, y2⟩, z1, z2⟩ := hs d hd
    rcases (show r = 0 ∨ r = 1 ∨ r = 2 by omega) with rfl | rfl | rfl
    · rw [Nat.add_zero, i1]; exact ⟨x1, x2⟩
    · rw [i2]; exact ⟨y1, y2⟩
    · rw [i3]; exact ⟨z1, z2⟩
theorem cpK_in (g g1 : Nat → Int32) (q : Nat) : ∀ (n k : Nat), k < 3 * n → cpK g g1 q n k = g1 (q + k)
  | 0, k, h => absurd h (by omega)
  | n + 1, k, h => by
    show (if k = 3 * n + 2 then _ else if k = 3 * n + 1 then _ else if k = 3 * n then _ else cpK g g1 q n k) = _
    by_cases c2 : k = 3 * n + 2
    · rw [if_pos c2, c2]; rfl
    · rw [if_neg c2]
      by_cases c1 : k = 3 * n + 1
      · rw [if_pos c1, c1]; rfl
      · rw [if_neg c1]
        by_cases c0 : k = 3 * n
        · rw [if_pos c0, c0]
        · rw [if_neg c0]; exact cpK_in g g1 q n k (by omega)
theorem cOK_cp {pl pl9 : Int32} {g g1 : Nat → Int32} {q n : Nat} (h : cOK pl g1) (hn : pl9.toInt ≤ n) (hq : (q : Int) + 3 * pl9.toInt ≤ 3 * pl.toInt) : cOK pl9 (cpK g g1 q n) := fun k hk => by
  rw [cpK_in g g1 q n k (by omega)]
  exact h (q + k) (by omega)
/-- a part of a thing, moved -/
theorem stK_cp {g g1 : Nat → Int32} {q Q n m : Nat} {a b c : Int32} (hs : stK g1 Q a b c m) (hQ : Q = q + 3) (hn : m + 1 ≤ n) : stK (cpK g g1 q n) 3 a b c m := fun j hj => by
  have := hs j hj
  rw [cpK_in g g1 q n (3 + 3 * j) (by omega), cpK_in g g1 q n (3 + 3 * j + 1) (by omega), cpK_in g g1 q n (3 + 3 * j + 2) (by omega)]
  rw [show q + (3 + 3 * j) = Q + 3 * j by omega, show q + (3 + 3 * j + 1) = Q + 3 * j + 1 by omega, show q + (3 + 3 * j + 2) = Q + 3 * j + 2 by omega]
  exact this
/-- burns -/
def dfQ (t : TV) (st : Int32) : Nat := (3 * (st.toInt + 1 - t.1.toInt)).toNat
def dfN (t : TV) (st : Int32) : Nat := (t.1.toInt + t.2.1.toInt - 1 - st.toInt).toNat
abbrev bRng (t : TV) (st a b c : Int32) : Prop := (t.1.toInt ≤ st.toInt ∧ st.toInt < t.1.toInt + t.2.1.toInt) ∧ ((-2 ≤ a.toInt ∧ a.toInt ≤ 2) ∧ (-2 ≤ b.toInt ∧ b.toInt ≤ 2) ∧ (-2 ≤ c.toInt ∧ c.toInt ≤ 2)) ∧ ¬ (a.toInt = 0 ∧ b.toInt = 0 ∧ c.toInt = 0) ∧ t.2.2.2.1.toInt = 0
def bSt (t : TV) (st a b c : Int32) : Prop := stK t.2.2.2.2 (dfQ t st) a b c (dfN t st)
def bDo (t : TV) (st a b c : Int32) : TV := (t.1, t.2.1, t.2.2.1, t.2.2.2.1, mvK t.2.2.2.2 (dfQ t st) a b c (dfN t st))
/-- parts -/
def ptV (t : TV) (st a b : Int32) : TV := (st, t.1 + t.2.1 - st, t.2.2.1, t.2.2.2.1, mvK (cpK (fun _ => 0) t.2.2.2.2 (3 * (st.toInt - t.1.toInt)).toNat (t.1.toInt + t.2.1.toInt - st.toInt).toNat) 3 a b 0 (t.1.toInt + t.2.1.toInt - 1 - st.toInt).toNat)
def brV (v : Nat → TV) (n0 : Nat) (t : TV) (st n : Int32) : Nat → (Nat → TV)
  | 0 => v
  | i + 1 => va_up (brV v n0 t st n i) (n0 + i) (ptV t st (nI i - n / 2) ((nI i - nI i / 2 * 2) * 2 - 1))
theorem brV_off (v : Nat → TV) (n0 : Nat) (t : TV) (st n : Int32) : ∀ (i k : Nat), k < n0 → brV v n0 t st n i k = v k
  | 0, _, _ => rfl
  | i + 1, k, h => by
    show va_up (brV v n0 t st n i) (n0 + i) _ k = v k
    rw [va_up_ne _ _ (by omega), brV_off v n0 t st n i k h]
theorem sub_I {fi pl st pl9 : Int32} (h : pl9.toInt = fi.toInt + pl.toInt - st.toInt) (h0 : 0 ≤ fi.toInt) (h1 : fi.toInt ≤ 39) (h2 : 0 ≤ pl.toInt) (h3 : pl.toInt ≤ 12) (h4 : 0 ≤ st.toInt) (h5 : st.toInt ≤ 100) : pl9 = fi + pl - st := by
  apply Int32.toInt_inj.mp
  have e : (fi + pl).toInt = fi.toInt + pl.toInt := fb_addI (by omega) (by omega)
  rw [fb_subI (by omega) (by omega), e]
  exact h
/-- shelves -/
theorem shV_set {L : List Nat} {f : Nat → va_E} {cI : ClassId} {ow : Nat → Nat} {base : Nat} {sz sz8 : Int32} {gs : Nat → Option Nat} {i a x : Nat} {t : TV} (h : shV L f cI ow base sz gs) (hi : (i : Int) = sz.toInt) (h8 : sz8.toInt = sz.toInt + 1) (hlt : sz.toInt < 16) (hw : gs i = some a) (la : a ∈ L) (lx : x ∈ L) (oa : ow a = base + i) (ox : ow x = base + i) (hne : x ≠ a) (ok : tvOK t) : shV L (va_up (va_up f x (.inl (cI, 36, .inl t.2.2.2.2))) a (.inr (6, [.ref x, .int t.1, .int t.2.1, .int t.2.2.1, .int t.2.2.2.1]))) cI ow base sz8 gs := by
  refine ⟨⟨by have := h.1.1; omega, by omega⟩, fun j hj b hb => ?_, fun j hj => ?_⟩
  · by_cases hji : j = i
    · subst hji
      rw [hw] at hb
      cases hb
      refine ⟨t, x, la, lx, va_up_self _ _ _, ?_, oa, ox, ok⟩
      rw [va_up_ne _ _ hne, va_up_self]
    · obtain ⟨t2, q⟩ := h.2.1 j hj b hb
      exact ⟨t2, isV_frm q (frm_set (S := fun n => n = base + i) oa ox rfl) (fun e => hji (by have : base + j = base + i := e; omega))⟩
  · by_cases hji : j = i
    · subst hji; exact ⟨a, hw⟩
    · exact h.2.2 j (by omega)
theorem shV_push {L : List Nat} {f : Nat → va_E} {cI : ClassId} {ow : Nat → Nat} {base : Nat} {sz sz8 : Int32} {gs : Nat → Option Nat} {i a x : Nat} {t : TV} (h : shV L f cI ow base sz gs) (hi : (i : Int) = sz.toInt) (h8 : sz8.toInt = sz.toInt + 1) (hlt : sz.toInt < 16) (ha : a ∉ L) (hx : x ∉ L) (hne : x ≠ a) (ok : tvOK t) : shV ((L ++ [x]) ++ [a]) (va_up (va_up f x (.inl (cI, 36, .inl t.2.2.2.2))) a (.inr (6, [.ref x, .int t.1, .int t.2.1, .int t.2.2.1, .int t.2.2.2.1]))) cI (va_up (va_up ow x (base + i)) a (base + i)) base sz8 (va_up gs i (some a)) := by
  refine ⟨⟨by have := h.1.1; omega, by omega⟩, fun j hj b hb => ?_, fun j hj => ?_⟩
  · by_cases hji : j = i
    · subst hji
      rw [va_up_self] at hb
      cases hb
      exact ⟨t, isV_new hne ok⟩
    · rw [va_up_ne _ _ hji] at hb
      obtain ⟨t2, q⟩ := h.2.1 j hj b hb
      exact ⟨t2, isV_frm q (frm_push (S := fun _ => False) ha hx) (fun h => h)⟩
  · by_cases hji : j = i
    · subst hji; exact ⟨a, va_up_self _ _ _⟩
    · rw [va_up_ne _ _ hji]; exact h.2.2 j (by omega)
theorem shV_of {L : List Nat} {f : Nat → va_E} {cI : ClassId} {ow : Nat → Nat} {base : Nat} {sz : Int32} {gs : Nat → Option Nat} {i w : Nat} (h : shV L f cI ow base sz gs) (hi : i < 16) (hw : gs i = some w) : ∃ (x : Nat) (fi pl db go : Int32) (g : Nat → Int32), w ∈ L ∧ x ∈ L ∧ f w = .inr (6, [.ref x, .int fi, .int pl, .int db, .int go]) ∧ f x = .inl (cI, 36, .inl g) ∧ ow w = base + i ∧ ow x = base + i ∧ x ≠ w := by
  obtain ⟨t, x, la, lx, fa, fx, oa, ox, -⟩ := h.2.1 i hi w hw
  exact ⟨x, _, _, _, _, _, la, lx, fa, fx, oa, ox, fun e => by rw [e, fa] at fx; cases fx⟩
theorem shV_zero {L : List Nat} {f : Nat → va_E} {cI : ClassId} {ow : Nat → Nat} {base : Nat} {sz : Int32} {gs : Nat → Option Nat} (h : shV L f cI ow base sz gs) : shV L f cI ow base 0 gs := by
  have k0 : (0 : Int32).toInt = 0 := by decide
  exact ⟨⟨by omega, by omega⟩, h.2.1, fun i hi => by omega⟩
/-- dots and notices -/
theorem one_push {L : List Nat} {f : Nat → va_E} {ow : Nat → Nat} {a n : Nat} {e : va_E} {S : Nat → Prop} (ha : a ∉ L) : frm L f ow (L ++ [a]) (va_up f a e) (va_up ow a n) S := fun b hb => by
  have n1 : b ≠ a := fun e => ha (by rw [← e]; exact hb)
  refine ⟨List.mem_append_left _ hb, ?_, fun _ => ?_⟩
  · rw [va_up_ne _ _ n1]
  · rw [va_up_ne _ _ n1]
theorem one_set {L : List Nat} {f : Nat → va_E} {ow : Nat → Nat} {i a : Nat} {e : va_E} {S : Nat → Prop} (oa : ow a = i) (hS : S i) : frm L f ow L (va_up f a e) ow S := fun b hb => ⟨hb, rfl, fun n => by
  have n1 : b ≠ a := fun e => n (by rw [e, oa]; exact hS)
  rw [va_up_ne _ _ n1]⟩
theorem dotV_push {L : List Nat} {f : Nat → va_E} {ow : Nat → Nat} {dn dn8 : Int32} {gd : Nat → Option Nat} {u : Nat → DV} {i a : Nat} {d : DV} (h : dotV L f ow dn gd u) (hi : (i : Int) = dn.toInt) (h8 : dn8.toInt = dn.toInt + 1) (hlt : dn.toInt < 40) (ha : a ∉ L) (ok : okD d.1 d.2.1 d.2.2.1 d.2.2.2) : dotV (L ++ [a]) (va_up f a (.inr (2, [.int d.1, .int d.2.1, .int d.2.2.1, .int d.2.2.2]))) (va_up ow a 50) dn8 (va_up gd i (some a)) (va_up u i d) := by
  refine ⟨⟨by have := h.1.1; omega, by omega⟩, fun j hj => ?_⟩
  by_cases hji : j = i
  · subst hji
    refine ⟨a, va_up_self _ _ _, List.mem_append_right _ (List.mem_singleton.mpr rfl), va_up_self _ _ _, ?_, ?_⟩
    · rw [va_up_self, va_up_self]
    · rw [va_up_self]; exact ok
  · obtain ⟨b, hb, lb, ob, fb, z⟩ := h.2 j (by omega)
    obtain ⟨m1, m2, m3⟩ := one_push (f := f) (ow := ow) (n := 50) (e := .inr (2, [.int d.1, .int d.2.1, .int d.2.2.1, .int d.2.2.2])) (S := fun _ => False) ha b lb
    refine ⟨b, by rw [va_up_ne _ _ hji]; exact hb, m1, m2.trans ob, ?_, ?_⟩
    · rw [va_up_ne _ _ hji]; exact (m3 (fun h => h)).trans fb
    · rw [va_up_ne _ _ hji]; exact z
theorem notV_push {L : List Nat} {f : Nat → va_E} {ow : Nat → Nat} {nn nn8 : Int32} {gn : Nat → Option Nat} {w : Nat → NV} {i a : Nat} {t : NV} (h : notV L f ow nn gn w) (hi : (i : Int) = nn.toInt) (h8 : nn8.toInt = nn.toInt + 1) (hlt : nn.toInt < 40) (ha : a ∉ L) (ok : t.2.2.2.2.2.2.2 = 0 ∨ t.2.2.2.2.2.2.2 = 1) : notV (L ++ [a]) (va_up f a (nvE t)) (va_up ow a (1000 + i)) nn8 (va_up gn i (some a)) (va_up w i t) := by
  refine ⟨⟨by have := h.1.1; omega, by omega⟩, fun j hj => ?_⟩
  by_cases hji : j = i
  · subst hji
    refine ⟨a, va_up_self _ _ _, List.mem_append_right _ (List.mem_singleton.mpr rfl), va_up_self _ _ _, ?_, ?_⟩
    · rw [va_up_self, va_up_self]
    · rw [va_up_self]; exact ok
  · obtain ⟨b, hb, lb, ob, fb, z⟩ := h.2 j (by omega)
    obtain ⟨m1, m2, m3⟩ := one_push (f := f) (ow := ow) (n := 1000 + i) (e := nvE t) (S := fun _ => False) ha b lb
    refine ⟨b, by rw [va_up_ne _ _ hji]; exact hb, m1, m2.trans ob, ?_, ?_⟩
    · rw [va_up_ne _ _ hji]; exact (m3 (fun h => h)).trans fb
    · rw [va_up_ne _ _ hji]; exact z
theorem notV_set {L : List Nat} {f : Nat → va_E} {ow : Nat → Nat} {nn : Int32} {gn : Nat → Option Nat} {w : Nat → NV} {i a : Nat} {t : NV} (h : notV L f ow nn gn w) (hi : (i : Int) < nn.toInt) (hw : gn i = some a) (la : a ∈ L) (oa : ow a = 1000 + i) (ok : t.2.2.2.2.2.2.2 = 0 ∨ t.2.2.2.2.2.2.2 = 1) : notV L (va_up f a (nvE t)) ow nn gn (va_up w i t) :=
  ⟨h.1, fun j hj => by
    by_cases hji : j = i
    · subst hji
      refine ⟨a, hw, la, oa, ?_, ?_⟩
      · rw [va_up_self, va_up_self]
      · rw [va_up_self]; exact ok
    · obtain ⟨b, hb, lb, ob, fb, z⟩ := h.2 j hj
      have n1 : b ≠ a := fun e => hji (by rw [e, oa] at ob; omega)
      refine ⟨b, hb, lb, ob, ?_, ?_⟩
      · rw [va_up_ne _ _ n1, va_up_ne _ _ hji]; exact fb
      · rw [va_up_ne _ _ hji]; exact z⟩
theorem nw_of {L : List Nat} {f : Nat → va_E} {ow : Nat → Nat} {nn : Int32} {gn : Nat → Option Nat} {w : Nat → NV} {i a : Nat} (h : notV L f ow nn gn w) (hi : (i : Int) < nn.toInt) (hw : gn i = some a) : ∃ v1 v2 v3 v4 v5 v6 v7 v8 : Int32, a ∈ L ∧ f a = .inr (5, [.int v1, .int v2, .int v3, .int v4, .int v5, .int v6, .int v7, .int v8]) ∧ (v8 = 0 ∨ v8 = 1) ∧ w i = (v1, v2, v3, v4, v5, v6, v7, v8) ∧ ow a = 1000 + i := by
  obtain ⟨b, hb, lb, ob, fb, z⟩ := h.2 i hi
  rw [hw] at hb
  cases hb
  exact ⟨_, _, _, _, _, _, _, _, lb, fb, z, rfl, ob⟩
