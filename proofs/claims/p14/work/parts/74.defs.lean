def dX (i n : Int32) : Int32 := i - n / 2
def dY (i : Int32) : Int32 := (i - i / 2 * 2) * 2 - 1
/-- a part's block: j places of it, from the whole's places at src -/
def bkK (S0 S : Nat → Int32) (src dst : Nat) (a b : Int32) : Nat → (Nat → Int32)
  | 0 => S
  | j + 1 => st3 (bkK S0 S src dst a b j) (dst + 3 * j) (S0 (src + 3 * j) + nI j * a) (S0 (src + 3 * j + 1) + nI j * b) (S0 (src + 3 * j + 2))
/-- i parts, behind th things -/
def bkN (S0 : Nat → Int32) (src th left : Nat) (n : Int32) : Nat → (Nat → Int32)
  | 0 => S0
  | i + 1 => bkK S0 (bkN S0 src th left n i) src (36 * (th + i)) (dX (nI i) n) (dY (nI i)) left
def upN (F : Nat → Int32) (th : Nat) (v : Int32) : Nat → (Nat → Int32)
  | 0 => F
  | i + 1 => upd (upN F th v i) (th + i) v
def maN (F : Nat → Int32) (th : Nat) (v : Int32) : Nat → (Nat → Int32)
  | 0 => F
  | i + 1 => upd (upd (maN F th v i) (th + i) 0) (th + i) v
theorem bkK_off (S0 S : Nat → Int32) (src dst : Nat) (a b : Int32) : ∀ (n k : Nat), (k < dst ∨ dst + 3 * n ≤ k) → bkK S0 S src dst a b n k = S k
  | 0, _, _ => rfl
  | n + 1, k, h => by
    have ih := bkK_off S0 S src dst a b n k (by omega)
    show (if k = dst + 3 * n + 2 then _ else if k = dst + 3 * n + 1 then _ else if k = dst + 3 * n then _ else bkK S0 S src dst a b n k) = S k
    rw [if_neg (by omega), if_neg (by omega), if_neg (by omega), ih]
theorem bkN_off (S0 : Nat → Int32) (src th left : Nat) (n : Int32) : ∀ (i k : Nat), k < 36 * th → bkN S0 src th left n i k = S0 k
  | 0, _, _ => rfl
  | i + 1, k, h => by
    show bkK S0 (bkN S0 src th left n i) src (36 * (th + i)) _ _ left k = S0 k
    rw [bkK_off _ _ _ _ _ _ left k (by omega), bkN_off S0 src th left n i k h]
theorem upN_off (F : Nat → Int32) (th : Nat) (v : Int32) : ∀ (i k : Nat), k < th → upN F th v i k = F k
  | 0, _, _ => rfl
  | i + 1, k, h => by
    show (if k = th + i then v else upN F th v i k) = F k
    rw [if_neg (by omega), upN_off F th v i k h]
def gdI (S : Nat → Int32) (src : Nat) (a b : Int32) (j : Nat) : Prop := ∀ k : Nat, k < j → inP (S (src + 3 * k) + nI k * a) (S (src + 3 * k + 1) + nI k * b) 0
def gdN (S : Nat → Int32) (src left : Nat) (n : Int32) (i : Nat) : Prop := ∀ k : Nat, k < i → gdI S src (dX (nI k) n) (dY (nI k)) left
theorem gdI_up {S : Nat → Int32} {src j : Nat} {a b : Int32} (h : gdI S src a b j) (h2 : inP (S (src + 3 * j) + nI j * a) (S (src + 3 * j + 1) + nI j * b) 0) : gdI S src a b (j + 1) := fun k hk => by
  rcases Nat.lt_or_ge k j with q | q
  · exact h k q
  · have e : k = j := by omega
    subst e; exact h2
theorem bk_0 {G : Prop} {S : Nat → Int32} {src j : Nat} {a b gd : Int32} (hH : (gd = 1 ∧ G ∧ gdI S src a b j) ∨ (gd = 0 ∧ ¬ (G ∧ gdI S src a b j))) (c : gd = 0) : ((0 : Int32) = 1 ∧ G ∧ gdI S src a b (j + 1)) ∨ ((0 : Int32) = 0 ∧ ¬ (G ∧ gdI S src a b (j + 1))) :=
  hH.elim (fun h => absurd (h.1.symm.trans c) (by decide)) (fun h => Or.inr ⟨rfl, fun z => h.2 ⟨z.1, fun k hk => z.2 k (by omega)⟩⟩)
theorem bk_1 {G : Prop} {S : Nat → Int32} {src j : Nat} {a b gd v w : Int32} (hH : (gd = 1 ∧ G ∧ gdI S src a b j) ∨ (gd = 0 ∧ ¬ (G ∧ gdI S src a b j))) (c : ¬ gd = 0) (w8 : v = S (src + 3 * j) + nI j * a) (w9 : w = S (src + 3 * j + 1) + nI j * b) (p : inP v w 0) : ((1 : Int32) = 1 ∧ G ∧ gdI S src a b (j + 1)) ∨ ((1 : Int32) = 0 ∧ ¬ (G ∧ gdI S src a b (j + 1))) := by
  subst w8; subst w9
  exact hH.elim (fun h => Or.inl ⟨rfl, h.2.1, gdI_up h.2.2 p⟩) (fun h => absurd h.1 c)
theorem bk_2 {G : Prop} {S : Nat → Int32} {src j : Nat} {a b v w : Int32} (w8 : v = S (src + 3 * j) + nI j * a) (w9 : w = S (src + 3 * j + 1) + nI j * b) (p : ¬ inP v w 0) : ((0 : Int32) = 1 ∧ G ∧ gdI S src a b (j + 1)) ∨ ((0 : Int32) = 0 ∧ ¬ (G ∧ gdI S src a b (j + 1))) := by
  subst w8; subst w9
  exact Or.inr ⟨rfl, fun z => p (z.2 j (by omega))⟩
theorem bk_up {Z : Prop} {S : Nat → Int32} {src left i : Nat} {n gd : Int32} (hH : (gd = 1 ∧ (Z ∧ gdN S src left n i) ∧ gdI S src (dX (nI i) n) (dY (nI i)) left) ∨ (gd = 0 ∧ ¬ ((Z ∧ gdN S src left n i) ∧ gdI S src (dX (nI i) n) (dY (nI i)) left))) : (gd = 1 ∧ Z ∧ gdN S src left n (i + 1)) ∨ (gd = 0 ∧ ¬ (Z ∧ gdN S src left n (i + 1))) := by
  refine hH.imp (fun h => ⟨h.1, h.2.1.1, fun k hk => ?_⟩) (fun h => ⟨h.1, fun z => h.2 ⟨⟨z.1, fun k hk => z.2 k (by omega)⟩, z.2 i (by omega)⟩⟩)
  rcases Nat.lt_or_ge k i with q | q
  · exact h.2.1.2 k q
  · have e : k = i := by omega
    subst e; exact h.2.2
/-- a part's x: a place of the whole, moved -/
theorem bk_x {S : Nat → Int32} {q j : Nat} {r jj ii n y1 y2 y3 v : Int32} {i : Nat} (e0 : r = S (q + 3 * j)) (e1 : y1 = n / 2) (e2 : y2 = ii - y1) (e3 : y3 = jj * y2) (e4 : v = r + y3) (hj : jj = nI j) (hi : ii = nI i) : v = S (q + 3 * j) + nI j * dX (nI i) n := by
  rw [e4, e3, e2, e1, e0, hj, hi]; rfl
theorem bk_y {S : Nat → Int32} {q j : Nat} {r jj ii y1 y2 y3 y4 v : Int32} {i : Nat} (e0 : r = S (q + 3 * j + 1)) (e1 : y1 = ii - ii / 2 * 2) (e2 : y2 = y1 * 2) (e3 : y3 = y2 - 1) (e4 : y4 = jj * y3) (e5 : v = r + y4) (hj : jj = nI j) (hi : ii = nI i) : v = S (q + 3 * j + 1) + nI j * dY (nI i) := by
  rw [e5, e4, e3, e2, e1, e0, hj, hi]; rfl
theorem bkK_step {S0 S7 S8 S9 : Nat → Int32} {src dst j : Nat} {a b v w x : Int32} {z : Int} (h8 : S8 = bkK S0 S7 src dst a b j) (h9 : S9 = st3 S8 z.toNat v w x) (hz : z.toNat = dst + 3 * j) (hv : v = S0 (src + 3 * j) + nI j * a) (hw : w = S0 (src + 3 * j + 1) + nI j * b) (hx : x = S0 (src + 3 * j + 2)) : S9 = bkK S0 S7 src dst a b (j + 1) := by
  subst hv; subst hw; subst hx; subst h8
  rw [h9, hz]; rfl
theorem cl_t {y : Int32} {z : Nat} (h : y.toInt = z) : y.toNatClampNeg = z := by
  have : y.toNatClampNeg = y.toInt.toNat := rfl
  omega
