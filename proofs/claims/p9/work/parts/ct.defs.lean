/-- the reference's row of a notice, in the class's order -/
def mNV (No : Nat → Int32) (i : Nat) : NV := (No (8 * i), No (8 * i + 1), No (8 * i + 2), No (8 * i + 3), No (8 * i + 4), No (8 * i + 6), No (8 * i + 7), No (8 * i + 5))
def cpN (nn : Int32) (w : Nat → NV) (No : Nat → Int32) : Prop := ∀ i : Nat, (i : Int) < nn.toInt → w i = mNV No i
theorem up_eq {f : Nat → Int32} {i j : Nat} {x : Int32} (h : i = j) : upd f i x = upd f j x := by rw [h]
theorem up_s (f : Nat → Int32) (i : Nat) (x : Int32) : upd f i x i = x := if_pos rfl
theorem up_o {f : Nat → Int32} {i j : Nat} (x : Int32) (h : j ≠ i) : upd f i x j = f j := if_neg h
/-- an answer -/
abbrev anC (R : Prop) (x : NV) (t w : Int) : Prop := R ∧ (w = 1 ∨ w = 2) ∧ (t = x.1.toInt ∨ t = x.2.1.toInt)
def anP (R : Prop) (x : NV) (t w r : Int) : Prop := (¬ R ∧ r = -100001) ∨ (R ∧ ¬ (w = 1 ∨ w = 2) ∧ r = -100002) ∨ (R ∧ (w = 1 ∨ w = 2) ∧ ¬ (t = x.1.toInt ∨ t = x.2.1.toInt) ∧ r = -100003) ∨ (anC R x t w ∧ x.2.2.2.2.2.2.2.toInt = 0 ∧ r = 0) ∨ (anC R x t w ∧ x.2.2.2.2.2.2.2.toInt ≠ 0 ∧ r = 1)
def anS (x : NV) (t w : Int32) : NV := if t.toInt = x.1.toInt then (x.1, x.2.1, x.2.2.1, x.2.2.2.1, x.2.2.2.2.1, w, x.2.2.2.2.2.2.1, x.2.2.2.2.2.2.2) else (x.1, x.2.1, x.2.2.1, x.2.2.2.1, x.2.2.2.2.1, x.2.2.2.2.2.1, w, x.2.2.2.2.2.2.2)
theorem cp_answer {nn mnn sz th p1 p2 p3 la la9 ma ma9 : Int32} {w w9 : Nat → NV} {No No9 : Nat → Int32} (es : sz = th) (e : nn = mnn) (el : la = ma) (hc : cpN nn w No)
    (hx : (anC ((0 ≤ p1.toInt ∧ p1.toInt < nn.toInt) ∧ (0 ≤ p2.toInt ∧ p2.toInt < sz.toInt)) (w p1.toNatClampNeg) p2.toInt p3.toInt ∧ (w p1.toNatClampNeg).2.2.2.2.2.2.2.toInt ≠ 0 ∧ w9 = va_up w p1.toNatClampNeg (anS (w p1.toNatClampNeg) p2 p3) ∧ la9 = la) ∨ (anC ((0 ≤ p1.toInt ∧ p1.toInt < nn.toInt) ∧ (0 ≤ p2.toInt ∧ p2.toInt < sz.toInt)) (w p1.toNatClampNeg) p2.toInt p3.toInt ∧ (w p1.toNatClampNeg).2.2.2.2.2.2.2.toInt = 0 ∧ w9 = w ∧ la9 = la + 1) ∨ (¬ anC ((0 ≤ p1.toInt ∧ p1.toInt < nn.toInt) ∧ (0 ≤ p2.toInt ∧ p2.toInt < sz.toInt)) (w p1.toNatClampNeg) p2.toInt p3.toInt ∧ w9 = w ∧ la9 = la))
    (hm : (anC ((0 ≤ p1.toInt ∧ p1.toInt < mnn.toInt) ∧ (0 ≤ p2.toInt ∧ p2.toInt < th.toInt)) (mNV No p1.toNatClampNeg) p2.toInt p3.toInt ∧ (mNV No p1.toNatClampNeg).2.2.2.2.2.2.2.toInt ≠ 0 ∧ ((p2.toInt = (No (8 * p1.toNatClampNeg)).toInt ∧ No9 = upd No (8 * p1.toNatClampNeg + 6) p3) ∨ (p2.toInt ≠ (No (8 * p1.toNatClampNeg)).toInt ∧ No9 = upd No (8 * p1.toNatClampNeg + 7) p3)) ∧ ma9 = ma) ∨ (anC ((0 ≤ p1.toInt ∧ p1.toInt < mnn.toInt) ∧ (0 ≤ p2.toInt ∧ p2.toInt < th.toInt)) (mNV No p1.toNatClampNeg) p2.toInt p3.toInt ∧ (mNV No p1.toNatClampNeg).2.2.2.2.2.2.2.toInt = 0 ∧ No9 = No ∧ ma9 = ma + 1) ∨ (¬ anC ((0 ≤ p1.toInt ∧ p1.toInt < mnn.toInt) ∧ (0 ≤ p2.toInt ∧ p2.toInt < th.toInt)) (mNV No p1.toNatClampNeg) p2.toInt p3.toInt ∧ No9 = No ∧ ma9 = ma)) : cpN nn w9 No9 ∧ la9 = ma9 := by
  subst e; subst es; subst el
  by_cases q : 0 ≤ p1.toInt ∧ p1.toInt < nn.toInt
  · have ni : ((p1.toNatClampNeg : Nat) : Int) = p1.toInt := tc_I q.1
    have ew := hc p1.toNatClampNeg (by omega)
    rw [ew] at hx
    generalize p1.toNatClampNeg = i at *
    rcases hx with ⟨a1, a2, a3, a4⟩ | ⟨a1, a2, a3, a4⟩ | ⟨a1, a3, a4⟩
    · rcases hm with ⟨b1, b2, b3, b4⟩ | ⟨b1, b2, -⟩ | ⟨b1, -⟩
      · refine ⟨fun k hk => ?_, a4.trans b4.symm⟩
        rw [a3]
        by_cases ek : k = i
        · subst ek
          rw [va_up_self]
          unfold anS
          rcases b3 with ⟨c1, rfl⟩ | ⟨c1, rfl⟩
          · refine (if_pos c1).trans ?_
            unfold mNV
            rw [up_s, up_o _ (by omega), up_o _ (by omega), up_o _ (by omega), up_o _ (by omega), up_o _ (by omega), up_o _ (by omega), up_o _ (by omega)]
          · refine (if_neg c1).trans ?_
            unfold mNV
            rw [up_s, up_o _ (by omega), up_o _ (by omega), up_o _ (by omega), up_o _ (by omega), up_o _ (by omega), up_o _ (by omega), up_o _ (by omega)]
        · rw [va_up_ne _ _ ek, hc k hk]
          rcases b3 with ⟨c1, rfl⟩ | ⟨c1, rfl⟩ <;> (unfold mNV; rw [up_o _ (by omega), up_o _ (by omega), up_o _ (by omega), up_o _ (by omega), up_o _ (by omega), up_o _ (by omega), up_o _ (by omega), up_o _ (by omega)])
      · exact absurd b2 a2
      · exact absurd a1 b1
    · rcases hm with ⟨b1, b2, -⟩ | ⟨b1, b2, b3, b4⟩ | ⟨b1, -⟩
      · exact absurd a2 b2
      · rw [a3, b3, a4, b4]; exact ⟨hc, rfl⟩
      · exact absurd a1 b1
    · rcases hm with ⟨b1, -⟩ | ⟨b1, -⟩ | ⟨b1, b3, b4⟩
      · exact absurd b1 a1
      · exact absurd b1 a1
      · rw [a3, b3, a4, b4]; exact ⟨hc, rfl⟩
  · rcases hx with ⟨a1, -⟩ | ⟨a1, -⟩ | ⟨a1, a3, a4⟩
    · exact absurd a1.1.1 q
    · exact absurd a1.1.1 q
    · rcases hm with ⟨b1, -⟩ | ⟨b1, -⟩ | ⟨b1, b3, b4⟩
      · exact absurd b1.1.1 q
      · exact absurd b1.1.1 q
      · rw [a3, b3, a4, b4]; exact ⟨hc, rfl⟩
/-- the last notice about a and b below n -/
def lsP (x : Nat → NV) (n : Nat) (a b r : Int) : Prop := (∃ k : Nat, r = k ∧ k < n ∧ ((x k).1.toInt = a ∧ (x k).2.1.toInt = b) ∧ ∀ j : Nat, k < j → j < n → ¬ ((x j).1.toInt = a ∧ (x j).2.1.toInt = b)) ∨ (r = -1 ∧ ∀ j : Nat, j < n → ¬ ((x j).1.toInt = a ∧ (x j).2.1.toInt = b))
theorem ls_one {x : Nat → NV} {n : Nat} {a b r s : Int} (h : lsP x n a b r) (h' : lsP x n a b s) : r = s := by
  rcases h with ⟨k, rfl, k1, k2, k3⟩ | ⟨rfl, k3⟩
  · rcases h' with ⟨j, rfl, j1, j2, j3⟩ | ⟨rfl, j3⟩
    · rcases (show k < j ∨ j < k ∨ k = j by omega) with z | z | z
      · exact absurd j2 (k3 j z j1)
      · exact absurd k2 (j3 k z k1)
      · rw [z]
    · exact absurd k2 (j3 k k1)
  · rcases h' with ⟨j, rfl, j1, j2, j3⟩ | ⟨rfl, j3⟩
    · exact absurd j2 (k3 j j1)
    · rfl
theorem ls_tr {x y : Nat → NV} {n : Nat} (e : ∀ k : Nat, k < n → x k = y k) {a b r : Int} (h : lsP x n a b r) : lsP y n a b r := by
  rcases h with ⟨k, rfl, k1, k2, k3⟩ | ⟨rfl, k3⟩
  · exact Or.inl ⟨k, rfl, k1, by rw [← e k k1]; exact k2, fun j h1 h2 => by rw [← e j h2]; exact k3 j h1 h2⟩
  · exact Or.inr ⟨rfl, fun j h2 => by rw [← e j h2]; exact k3 j h2⟩
theorem ls_0 (x : Nat → NV) (a b : Int) : lsP x 0 a b (-1) := Or.inr ⟨rfl, fun j h => absurd h (by omega)⟩
theorem ls_y {x : Nat → NV} {n : Nat} {a b : Int} (h : (x n).1.toInt = a ∧ (x n).2.1.toInt = b) : lsP x (n + 1) a b n := Or.inl ⟨n, rfl, by omega, h, fun j h1 h2 => absurd h1 (by omega)⟩
theorem ls_n {x : Nat → NV} {n : Nat} {a b r : Int} (h : ¬ ((x n).1.toInt = a ∧ (x n).2.1.toInt = b)) (h' : lsP x n a b r) : lsP x (n + 1) a b r := by
  rcases h' with ⟨k, rfl, k1, k2, k3⟩ | ⟨rfl, k3⟩
  · refine Or.inl ⟨k, rfl, by omega, k2, fun j h1 h2 => ?_⟩
    rcases (show j < n ∨ j = n by omega) with z | z
    · exact k3 j h1 z
    · subst z; exact h
  · refine Or.inr ⟨rfl, fun j h2 => ?_⟩
    rcases (show j < n ∨ j = n by omega) with z | z
    · exact k3 j z
    · subst z; exact h
theorem ls_rg {x : Nat → NV} {n : Nat} {a b r : Int} (h : lsP x n a b r) : -1 ≤ r ∧ r < n := by
  rcases h with ⟨k, rfl, k1, -⟩ | ⟨rfl, -⟩
  · exact ⟨by omega, by omega⟩
  · exact ⟨by omega, by omega⟩
/-- the least square cut, and its step -/
def sqP (t1 t2 : TV) (sq sp : Int32) : Prop := ∃ q : Int64, sq = q.toInt32 ∧ q.toInt = uK t1.1 t1.2.2.2.2 t2.1 t2.2.2.2.2 (bK t1 t2 39) (kbF (uK t1.1 t1.2.2.2.2 t2.1 t2.2.2.2.2 (bK t1 t2 39)) (lK t1.1 t1.2.2.2.2 t2.1 t2.2.2.2.2 (bK t1 t2 39)) (aK t1 t2 0) (bK t1 t2 39 - aK t1 t2 0).toNat) / lK t1.1 t1.2.2.2.2 t2.1 t2.2.2.2.2 (bK t1 t2 39) (kbF (uK t1.1 t1.2.2.2.2 t2.1 t2.2.2.2.2 (bK t1 t2 39)) (lK t1.1 t1.2.2.2.2 t2.1 t2.2.2.2.2 (bK t1 t2 39)) (aK t1 t2 0) (bK t1 t2 39 - aK t1 t2 0).toNat) ∧ sp.toInt = kbF (uK t1.1 t1.2.2.2.2 t2.1 t2.2.2.2.2 (bK t1 t2 39)) (lK t1.1 t1.2.2.2.2 t2.1 t2.2.2.2.2 (bK t1 t2 39)) (aK t1 t2 0) (bK t1 t2 39 - aK t1 t2 0).toNat
theorem sq_one {t1 t2 : TV} {sq sp sq' sp' : Int32} (h : sqP t1 t2 sq sp) (h' : sqP t1 t2 sq' sp') : sq = sq' ∧ sp = sp' := by
  obtain ⟨q, e1, e2, e3⟩ := h
  obtain ⟨q', f1, f2, f3⟩ := h'
  have : q = q' := Int64.toInt_inj.mp (e2.trans f2.symm)
  subst this
  exact ⟨e1.trans f1.symm, Int32.toInt_inj.mp (e3.trans f3.symm)⟩
theorem sq_tr {t1 t2 m1 m2 : TV} (h1 : teq t1 m1) (h2 : teq t2 m2) (hg : tgP t1 t2) (o1 : tvOK t1) (o2 : tvOK t2) {sq sp : Int32} (h : sqP t1 t2 sq sp) : sqP m1 m2 sq sp := by
  obtain ⟨⟨f1, f2, f3, f4⟩, -, -, -, g1, g2⟩ := o1
  obtain ⟨⟨f5, f6, f7, f8⟩, -, -, -, g3, g4⟩ := o2
  have ea : aK t1 t2 0 = aK m1 m2 0 := by unfold aK; rw [h1.1, h2.1]
  have eb : bK t1 t2 39 = bK m1 m2 39 := by unfold bK; rw [h1.1, h2.1, h1.2.1, h2.2.1]
  have qa : aK t1 t2 0 = max 0 (max t1.1.toInt t2.1.toInt) := rfl
  have qb : bK t1 t2 39 = min 39 (min (t1.1.toInt + t1.2.1.toInt - 1) (t2.1.toInt + t2.2.1.toInt - 1)) := rfl
  obtain ⟨hg1, hg2⟩ := hg
  have ke := fun k (k1 : aK t1 t2 0 ≤ k) (k2 : k ≤ bK t1 t2 39) => K_eq h1 h2 (b := bK t1 t2 39) (k := k) (by omega) (by omega) k2 (by omega) (by omega)
  have kk := kb_eq (a := aK t1 t2 0) (bK t1 t2 39 - aK t1 t2 0).toNat (fun k k1 k2 => ⟨(ke k k1 (by omega)).1, (ke k k1 (by omega)).2.1⟩)
  obtain ⟨kb, hkb⟩ : ∃ kb, kbF (uK t1.1 t1.2.2.2.2 t2.1 t2.2.2.2.2 (bK t1 t2 39)) (lK t1.1 t1.2.2.2.2 t2.1 t2.2.2.2.2 (bK t1 t2 39)) (aK t1 t2 0) (bK t1 t2 39 - aK t1 t2 0).toNat = kb := ⟨_, rfl⟩
  have rg := kb_rg (uK t1.1 t1.2.2.2.2 t2.1 t2.2.2.2.2 (bK t1 t2 39)) (lK t1.1 t1.2.2.2.2 t2.1 t2.2.2.2.2 (bK t1 t2 39)) (aK t1 t2 0) (bK t1 t2 39 - aK t1 t2 0).toNat
  obtain ⟨d1, d2, -⟩ := ke kb (by omega) (by omega)
  unfold sqP at h ⊢
  rw [hkb] at h kk
  rw [← ea, ← eb, ← kk, ← d1, ← d2]
  exact h
/-- a notice that holds no longer -/
def unh (x : NV) : NV := (x.1, x.2.1, x.2.2.1, x.2.2.2.1, x.2.2.2.2.1, x.2.2.2.2.2.1, x.2.2.2.2.2.2.1, 0)
def hfN (w : Nat → NV) (ah : Int32) : Nat → NV := fun k => if 0 ≤ ah.toInt ∧ k = ah.toNatClampNeg then unh (w k) else w k
theorem hf_up {w : Nat → NV} {ah : Int32} (h : 0 ≤ ah.toInt) : hfN w ah = va_up w ah.toNatClampNeg (unh (w ah.toNatClampNeg)) := by
  funext k
  unfold hfN
  by_cases e : k = ah.toNatClampNeg
  · subst e; rw [if_pos ⟨h, rfl⟩, va_up_self]
  · rw [if_neg (fun z => e z.2), va_up_ne _ _ e]
theorem hf_no {w : Nat → NV} {ah : Int32} (h : ¬ 0 ≤ ah.toInt) : hfN w ah = w := by
  funext k
  unfold hfN
  rw [if_neg (fun z => h z.1)]
/-- the row of a new notice in the reference -/
def nwR (No : Nat → Int32) (n : Nat) (lo hi sq sp ah : Int32) : Nat → Int32 := upd (upd (upd (upd (upd (upd (upd (upd No (8 * n) lo) (8 * n + 1) hi) (8 * n + 2) sq) (8 * n + 3) sp) (8 * n + 4) ah) (8 * n + 5) 1) (8 * n + 6) 0) (8 * n + 7) 0
def nwN (No : Nat → Int32) (n : Nat) (lo hi sq sp ah : Int32) : Nat → Int32 := fun k => if 0 ≤ ah.toInt ∧ k = 8 * ah.toNatClampNeg + 5 then 0 else nwR No n lo hi sq sp ah k
theorem nwR_o {No : Nat → Int32} {n k : Nat} {lo hi sq sp ah : Int32} (h : k < 8 * n) : nwR No n lo hi sq sp ah k = No k := by
  unfold nwR
  rw [up_o _ (by omega), up_o _ (by omega), up_o _ (by omega), up_o _ (by omega), up_o _ (by omega), up_o _ (by omega), up_o _ (by omega), up_o _ (by omega)]
theorem nwR_s (No : Nat → Int32) (n : Nat) (lo hi sq sp ah : Int32) : mNV (nwR No n lo hi sq sp ah) n = (lo, hi, sq, sp, ah, 0, 0, 1) := by
  have e0 : nwR No n lo hi sq sp ah (8 * n) = lo := by unfold nwR; rw [up_o _ (by omega), up_o _ (by omega), up_o _ (by omega), up_o _ (by omega), up_o _ (by omega), up_o _ (by omega), up_o _ (by omega), up_s]
  have e1 : nwR No n lo hi sq sp ah (8 * n + 1) = hi := by unfold nwR; rw [up_o _ (by omega), up_o _ (by omega), up_o _ (by omega), up_o _ (by omega), up_o _ (by omega), up_o _ (by omega), up_s]
  have e2 : nwR No n lo hi sq sp ah (8 * n + 2) = sq := by unfold nwR; rw [up_o _ (by omega), up_o _ (by omega), up_o _ (by omega), up_o _ (by omega), up_o _ (by omega), up_s]
  have e3 : nwR No n lo hi sq sp ah (8 * n + 3) = sp := by unfold nwR; rw [up_o _ (by omega), up_o _ (by omega), up_o _ (by omega), up_o _ (by omega), up_s]
  have e4 : nwR No n lo hi sq sp ah (8 * n + 4) = ah := by unfold nwR; rw [up_o _ (by omega), up_o _ (by omega), up_o _ (by omega), up_s]
  have e5 : nwR No n lo hi sq sp ah (8 * n + 5) = 1 := by unfold nwR; rw [up_o _ (by omega), up_o _ (by omega), up_s]
  have e6 : nwR No n lo hi sq sp ah (8 * n + 6) = 0 := by unfold nwR; rw [up_o _ (by omega), up_s]
  have e7 : nwR No n lo hi sq sp ah (8 * n + 7) = 0 := by unfold nwR; rw [up_s]
  unfold mNV
  rw [e0, e1, e2, e3, e4, e5, e6, e7]
/-- the notices agree behind a new one -/
theorem cp_new {nn nn8 : Int32} {w : Nat → NV} {No : Nat → Int32} {n : Nat} {lo hi sq sp ah : Int32} (hn : (n : Int) = nn.toInt) (h8 : nn8.toInt = nn.toInt + 1) (hah : ah.toInt < nn.toInt) (hc : cpN nn w No) : cpN nn8 (va_up (hfN w ah) n (lo, hi, sq, sp, ah, 0, 0, 1)) (nwN No n lo hi sq sp ah) := fun k hk => by
  have na : 0 ≤ ah.toInt → ((ah.toNatClampNeg : Nat) : Int) = ah.toInt := fun h => tc_I h
  by_cases e : k = n
  · subst e
    rw [va_up_self]
    have h1 : mNV (nwN No k lo hi sq sp ah) k = mNV (nwR No k lo hi sq sp ah) k := by
      have o : ∀ j : Nat, j < 8 → nwN No k lo hi sq sp ah (8 * k + j) = nwR No k lo hi sq sp ah (8 * k + j) := fun j hj => if_neg (fun z => by have z1 := na z.1; have z2 := z.2; omega)
      have o0 := o 0 (by omega)
      rw [Nat.add_zero] at o0
      unfold mNV
      rw [o0, o 1 (by omega), o 2 (by omega), o 3 (by omega), o 4 (by omega), o 5 (by omega), o 6 (by omega), o 7 (by omega)]
    rw [h1, nwR_s]
  · rw [va_up_ne _ _ e]
    have hk2 : k < n := by omega
    have o : ∀ j : Nat, j < 8 → (¬ (0 ≤ ah.toInt ∧ 8 * k + j = 8 * ah.toNatClampNeg + 5)) → nwN No n lo hi sq sp ah (8 * k + j) = No (8 * k + j) := fun j hj hz => (if_neg hz).trans (nwR_o (by omega))
    have o0 := o 0 (by omega) (fun z => by have z2 := z.2; omega)
    rw [Nat.add_zero] at o0
    have h2 : ∀ x : Int32, nwN No n lo hi sq sp ah (8 * k + 5) = x → mNV (nwN No n lo hi sq sp ah) k = (No (8 * k), No (8 * k + 1), No (8 * k + 2), No (8 * k + 3), No (8 * k + 4), No (8 * k + 6), No (8 * k + 7), x) := fun x hx => by
      unfold mNV
      rw [hx, o0, o 1 (by omega) (fun z => by have z2 := z.2; omega), o 2 (by omega) (fun z => by have z2 := z.2; omega), o 3 (by omega) (fun z => by have z2 := z.2; omega), o 4 (by omega) (fun z => by have z2 := z.2; omega), o 6 (by omega) (fun z => by have z2 := z.2; omega), o 7 (by omega) (fun z => by have z2 := z.2; omega)]
    have hw := hc k (by omega)
    by_cases z : 0 ≤ ah.toInt ∧ k = ah.toNatClampNeg
    · rw [h2 0 (if_pos ⟨z.1, by rw [z.2]⟩)]
      show (if 0 ≤ ah.toInt ∧ k = ah.toNatClampNeg then unh (w k) else w k) = _
      rw [if_pos z, hw]
      rfl
    · rw [h2 (No (8 * k + 5)) (o 5 (by omega) (fun y => z ⟨y.1, by have y2 := y.2; omega⟩))]
      show (if 0 ≤ ah.toInt ∧ k = ah.toNatClampNeg then unh (w k) else w k) = _
      rw [if_neg z, hw]
      rfl
/-- a notice made, or not -/
def ntS (C : Prop) (t1 t2 : TV) (x y : Nat → NV) (a b : Int) (nn nn8 : Int32) : Prop := (C ∧ nn.toInt < 40 ∧ nn8.toInt = nn.toInt + 1 ∧ ∃ lo hi sq sp ah : Int32, lo.toInt = min a b ∧ hi.toInt = max a b ∧ lsP x nn.toNatClampNeg lo.toInt hi.toInt ah.toInt ∧ sqP t1 t2 sq sp ∧ y = va_up (hfN x ah) nn.toNatClampNeg (lo, hi, sq, sp, ah, 0, 0, 1)) ∨ (¬ (C ∧ nn.toInt < 40) ∧ nn8 = nn ∧ y = x)
def ntM (C : Prop) (t1 t2 : TV) (No No9 : Nat → Int32) (a b : Int) (nn nn9 : Int32) : Prop := (C ∧ nn.toInt < 40 ∧ nn9.toInt = nn.toInt + 1 ∧ ∃ lo hi sq sp ah : Int32, lo.toInt = min a b ∧ hi.toInt = max a b ∧ lsP (mNV No) nn.toNatClampNeg lo.toInt hi.toInt ah.toInt ∧ sqP t1 t2 sq sp ∧ No9 = nwN No nn.toNatClampNeg lo hi sq sp ah) ∨ (¬ (C ∧ nn.toInt < 40) ∧ nn9 = nn ∧ No9 = No)
abbrev ntC (n : Int32) (v : Nat → TV) (ne : Int) (p1 p2 : Int32) : Prop := ((0 ≤ p1.toInt ∧ p1.toInt < n.toInt) ∧ (0 ≤ p2.toInt ∧ p2.toInt < n.toInt)) ∧ p1.toInt ≠ p2.toInt ∧ mtM v ne p1.toNatClampNeg p2.toNatClampNeg
theorem nt_iff {sz th ne me p1 p2 : Int32} {v : Nat → TV} {Fi Ma Db Go Sp : Nat → Int32} (hc : cpT sz th v Fi Ma Db Go Sp) (e : ne = me) : ntC sz v ne.toInt p1 p2 ↔ ntC th (mTV Fi Ma Db Go Sp) me.toInt p1 p2 := by
  have es := hc.1
  subst e; subst es
  constructor
  · rintro ⟨R, n, m⟩
    have n1 : ((p1.toNatClampNeg : Nat) : Int) = p1.toInt := tc_I R.1.1
    have n2 : ((p2.toNatClampNeg : Nat) : Int) = p2.toInt := tc_I R.2.1
    exact ⟨R, n, (mt_tr hc (by omega) (by omega) _).mp m⟩
  · rintro ⟨R, n, m⟩
    have n1 : ((p1.toNatClampNeg : Nat) : Int) = p1.toInt := tc_I R.1.1
    have n2 : ((p2.toNatClampNeg : Nat) : Int) = p2.toInt := tc_I R.2.1
    exact ⟨R, n, (mt_tr hc (by omega) (by omega) _).mpr m⟩
theorem me_tg {t1 t2 : TV} {lo hi ne : Int} (h : meP t1 t2 lo hi ne) : tgP t1 t2 := by
  obtain ⟨k, k1, k2, -⟩ := h
  have q1 : max lo (max t1.1.toInt t2.1.toInt) ≤ k := k1
  have q2 : k ≤ min hi (min (t1.1.toInt + t1.2.1.toInt - 1) (t2.1.toInt + t2.2.1.toInt - 1)) := k2
  exact ⟨by omega, by omega⟩
theorem cp_notice {sz th ne me p1 p2 nn mnn nn8 mn9 : Int32} {v : Nat → TV} {Fi Ma Db Go Sp : Nat → Int32} {w w9 : Nat → NV} {No No9 : Nat → Int32} (hc : cpT sz th v Fi Ma Db Go Sp) (hV : vOK sz v) (e : ne = me) (en : nn = mnn) (hb : 0 ≤ mnn.toInt) (hn : cpN nn w No)
    (hx : ntS (ntC sz v ne.toInt p1 p2) (v p1.toNatClampNeg) (v p2.toNatClampNeg) w w9 p1.toInt p2.toInt nn nn8) (hm : ntM (ntC th (mTV Fi Ma Db Go Sp) me.toInt p1 p2) (mTV Fi Ma Db Go Sp p1.toNatClampNeg) (mTV Fi Ma Db Go Sp p2.toNatClampNeg) No No9 p1.toInt p2.toInt mnn mn9) : nn8 = mn9 ∧ cpN nn8 w9 No9 := by
  have iff := nt_iff (p1 := p1) (p2 := p2) hc e
  subst en
  rcases hx with ⟨c1, c2, c3, lo, hi, sq, sp, ah, l1, l2, l3, l4, rfl⟩ | ⟨c1, rfl, rfl⟩
  · rcases hm with ⟨-, -, d3, lo', hi', sq', sp', ah', m1, m2, m3, m4, rfl⟩ | ⟨d1, -⟩
    · have n0 : ((nn.toNatClampNeg : Nat) : Int) = nn.toInt := tc_I hb
      have R := c1.1
      have n1 : ((p1.toNatClampNeg : Nat) : Int) = p1.toInt := tc_I R.1.1
      have n2 : ((p2.toNatClampNeg : Nat) : Int) = p2.toInt := tc_I R.2.1
      have elo : lo = lo' := Int32.toInt_inj.mp (l1.trans m1.symm)
      have ehi : hi = hi' := Int32.toInt_inj.mp (l2.trans m2.symm)
      subst elo; subst ehi
      have eah : ah = ah' := Int32.toInt_inj.mp (ls_one (ls_tr (fun k hk => hn k (by omega)) l3) m3)
      subst eah
      obtain ⟨es1, es2⟩ := sq_one (sq_tr (cp_teq hc (i := p1.toNatClampNeg) (by omega)) (cp_teq hc (i := p2.toNatClampNeg) (by omega)) (me_tg c1.2.2.2.2) (hV.2 _ (by omega)) (hV.2 _ (by omega)) l4) m4
      subst es1; subst es2
      have rg := ls_rg l3
      exact ⟨Int32.toInt_inj.mp (by omega), cp_new n0 c3 (by omega) hn⟩
    · exact absurd ⟨iff.mp c1, c2⟩ d1
  · rcases hm with ⟨d1, d2, -⟩ | ⟨-, rfl, rfl⟩
    · exact absurd ⟨iff.mpr d1, d2⟩ c1
    · exact ⟨rfl, hn⟩
def ntP (R C : Prop) (nn : Int32) (r : Int32) : Prop := (¬ R ∧ r = -100001) ∨ (R ∧ ¬ C ∧ r = -100003) ∨ (R ∧ C ∧ ¬ nn.toInt < 40 ∧ r = -100004) ∨ (R ∧ C ∧ nn.toInt < 40 ∧ r = nn)
theorem nt_none {L : List Nat} {f : Nat → va_E} {ow : Nat → Nat} {nn t : Int32} {gn : Nat → Option Nat} {w : Nat → NV} (hN : notV L f ow nn gn w) (h : none = if 0 ≤ t.toInt ∧ t.toInt < nn.toInt ∧ t.toInt < 40 then gn t.toNatClampNeg else none) : ¬ (0 ≤ t.toInt ∧ t.toInt < nn.toInt) := by
  intro q
  have := hN.1.2
  rw [if_pos (by omega)] at h
  obtain ⟨a, ha, -⟩ := hN.2 t.toNatClampNeg (by rw [tc_I (by omega)]; omega)
  rw [ha] at h
  cases h
theorem rd_q {U B a b : Int} (hU : 0 ≤ U) (hB : 0 < B) (ea : a = U / (gN U B : Nat)) (eb : b = B / (gN U B : Nat)) : a / b = U / B := by
  have gp : 0 < gN U B := g_pos hB
  have d1 : (gN U B : Int) ∣ U := by
    obtain ⟨q, hq⟩ := Nat.gcd_dvd_left U.toNat B.toNat
    exact ⟨q, by show U = ((Nat.gcd U.toNat B.toNat : Nat) : Int) * q; rw [← Int.natCast_mul, ← hq]; omega⟩
  have d2 : (gN U B : Int) ∣ B := by
    obtain ⟨q, hq⟩ := Nat.gcd_dvd_right U.toNat B.toNat
    exact ⟨q, by show B = ((Nat.gcd U.toNat B.toNat : Nat) : Int) * q; rw [← Int.natCast_mul, ← hq]; omega⟩
  obtain ⟨g, hg⟩ : ∃ g : Int, ((gN U B : Nat) : Int) = g := ⟨_, rfl⟩
  rw [hg] at ea eb d1 d2
  have g0 : 0 < g := by omega
  have e1 : g * a = U := by rw [ea]; exact Int.mul_ediv_cancel' d1
  have e2 : g * b = B := by rw [eb]; exact Int.mul_ediv_cancel' d2
  rw [← e1, ← e2]
  exact (Int.mul_ediv_mul_of_pos a b g0).symm
theorem sq_pre {f1 p1 d1 o1 f2 p2 d2 o2 : Int32} {g1 g2 : Nat → Int32} {a b x y z u e : Int} (hc1 : cOK p1 g1) (hc2 : cOK p2 g2) (ha : f1.toInt ≤ a ∧ f2.toInt ≤ a ∧ (a = f1.toInt ∨ a = f2.toInt)) (hb : b < f1.toInt + p1.toInt ∧ b < f2.toInt + p2.toInt ∧ (b = f1.toInt + p1.toInt - 1 ∨ b = f2.toInt + p2.toInt - 1)) (hab : a ≤ b) (hn : nsP (uK f1 g1 f2 g2 b) (lK f1 g1 f2 g2 b) (qK f1 g1 f2 g2 b) (kbF (uK f1 g1 f2 g2 b) (lK f1 g1 f2 g2 b) a (b - a).toNat) x y z u e) (h0 : 0 ≤ f1.toInt) (h1 : 0 ≤ f2.toInt) (h2 : f1.toInt + p1.toInt ≤ 40) (h3 : f2.toInt + p2.toInt ≤ 40) :
    (0 ≤ x ∧ 0 < y) ∧ ∀ sq sp : Int32, (∃ q : Int64, sq = q.toInt32 ∧ q.toInt = x / y) → sp.toInt = e → sqP (f1, p1, d1, o1, g1) (f2, p2, d2, o2, g2) sq sp := by
  have ea : a = aK (f1, p1, d1, o1, g1) (f2, p2, d2, o2, g2) 0 := by show _ = max 0 (max f1.toInt f2.toInt); omega
  have eb : b = bK (f1, p1, d1, o1, g1) (f2, p2, d2, o2, g2) 39 := by show _ = min 39 (min (f1.toInt + p1.toInt - 1) (f2.toInt + p2.toInt - 1)); omega
  obtain ⟨kb, hkb⟩ : ∃ kb, kbF (uK f1 g1 f2 g2 b) (lK f1 g1 f2 g2 b) a (b - a).toNat = kb := ⟨_, rfl⟩
  have rg := kb_rg (uK f1 g1 f2 g2 b) (lK f1 g1 f2 g2 b) a (b - a).toNat
  rw [hkb] at hn rg
  obtain ⟨⟨b1, b2⟩, ⟨b3, b4⟩, -⟩ := K_bd (f1 := f1) (f2 := f2) (k := kb) (b := b) hc1 hc2 (by omega) (by omega) (by omega) (by omega) (by omega)
  obtain ⟨n1, n2, -, -, n5⟩ := hn
  have r1 := red_lt (u := 0) (l := 0) b1 (by omega) n1 n2
  have r2 := rd_q b1 (by omega) n1 n2
  refine ⟨r1.1, fun sq sp ⟨q, q1, q2⟩ hs => ⟨q, q1, ?_, ?_⟩⟩
  · rw [← ea, ← eb]
    show q.toInt = uK f1 g1 f2 g2 b (kbF (uK f1 g1 f2 g2 b) (lK f1 g1 f2 g2 b) a (b - a).toNat) / lK f1 g1 f2 g2 b (kbF (uK f1 g1 f2 g2 b) (lK f1 g1 f2 g2 b) a (b - a).toNat)
    rw [hkb, q2, r2]
  · rw [← ea, ← eb]
    show sp.toInt = kbF (uK f1 g1 f2 g2 b) (lK f1 g1 f2 g2 b) a (b - a).toNat
    rw [hkb, hs, n5]
theorem sq_ms {t1 t2 : TV} {up lw wh pu pw : Int} {sq sp : Int32} (h : msQ t1 t2 up lw wh pu pw) (hq : ∃ q : Int64, sq = q.toInt32 ∧ q.toInt = up / lw) (hs : sp.toInt = wh) : sqP t1 t2 sq sp := by
  obtain ⟨m1, m2, m3, -⟩ := h
  obtain ⟨q, q1, q2⟩ := hq
  exact ⟨q, q1, by rw [q2, m1, m2], by rw [hs, m3]⟩
theorem nw_y {No : Nat → Int32} {n : Nat} {lo hi sq sp ah : Int32} (h : 0 ≤ ah.toInt) : upd (nwR No n lo hi sq sp ah) (8 * ah.toNatClampNeg + 5) 0 = nwN No n lo hi sq sp ah := by
  funext k
  unfold nwN
  by_cases e : k = 8 * ah.toNatClampNeg + 5
  · subst e; rw [if_pos ⟨h, rfl⟩, up_s]
  · rw [if_neg (fun z => e z.2), up_o _ e]
theorem nw_n {No : Nat → Int32} {n : Nat} {lo hi sq sp ah : Int32} (h : ¬ 0 ≤ ah.toInt) : nwR No n lo hi sq sp ah = nwN No n lo hi sq sp ah := by
  funext k
  unfold nwN
  rw [if_neg (fun z => h z.1)]
theorem cpN_0 {w : Nat → NV} {No : Nat → Int32} : cpN 0 w No := fun i hi => by
  have k0 : (0 : Int32).toInt = 0 := by decide
  omega
