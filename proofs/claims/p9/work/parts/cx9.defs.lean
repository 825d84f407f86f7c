def dtN (v : Nat → TV) (sz : Nat) (d : DV) : Nat := cntP (fun k => hold (v k) d) sz
noncomputable def gnN (v : Nat → TV) (n : Nat) : Nat := cnC (fun t => (v t).2.2.2.1.toInt = 0) n
noncomputable def hdN (w : Nat → NV) (n : Nat) : Nat := cnC (fun k => (w k).2.2.2.2.2.2.2.toInt = 1) n
noncomputable def dsN (v : Nat → TV) (sz : Nat) (u : Nat → DV) (a b : Nat) (n : Nat) : Nat := cnC (fun d => a ≤ dtN v sz (u d) ∧ dtN v sz (u d) ≤ b) n
/-- the counts -/
def coP (sz dn nn la : Int32) (v : Nat → TV) (u : Nat → DV) (w : Nat → NV) (ne wh r : Int) : Prop := (¬ (0 ≤ wh ∧ wh ≤ 9) ∧ r = -100002) ∨ (wh = 0 ∧ r = sz.toInt) ∨ (wh = 1 ∧ r = gnN v sz.toInt.toNat) ∨ (wh = 2 ∧ r = allN (mtM v ne) sz.toInt.toNat sz.toInt.toNat) ∨ (wh = 3 ∧ r = dn.toInt) ∨ (wh = 4 ∧ r = dsN v sz.toInt.toNat u 1 1 dn.toInt.toNat) ∨ (wh = 5 ∧ r = dsN v sz.toInt.toNat u 2 16 dn.toInt.toNat) ∨ (wh = 6 ∧ r = dsN v sz.toInt.toNat u 0 0 dn.toInt.toNat) ∨ (wh = 7 ∧ r = nn.toInt) ∨ (wh = 8 ∧ r = hdN w nn.toInt.toNat) ∨ (wh = 9 ∧ r = la.toInt)
theorem dt_le (v : Nat → TV) (sz : Nat) (d : DV) : dtN v sz d ≤ sz := cntP_le _ _
/-- the reference's one sum, by what is asked -/
noncomputable def caN (v : Nat → TV) (M : Nat → Nat → Prop) (sz : Nat) (wh : Int) (t : Nat) : Nat := if wh = 1 then gnN v t else if wh = 2 then allN M sz t else 0
noncomputable def cdN (v : Nat → TV) (sz : Nat) (u : Nat → DV) (wh : Int) (d : Nat) : Nat := if wh = 4 then dsN v sz u 1 1 d else if wh = 5 then dsN v sz u 2 16 d else if wh = 6 then dsN v sz u 0 0 d else 0
noncomputable def chN (w : Nat → NV) (wh : Int) (k : Nat) : Nat := if wh = 8 then hdN w k else 0
theorem ca_1 {v : Nat → TV} {M : Nat → Nat → Prop} {sz t : Nat} : caN v M sz 1 t = gnN v t := if_pos rfl
theorem ca_2 {v : Nat → TV} {M : Nat → Nat → Prop} {sz t : Nat} : caN v M sz 2 t = allN M sz t := rfl
theorem ca_o {v : Nat → TV} {M : Nat → Nat → Prop} {sz t : Nat} {wh : Int} (h1 : wh ≠ 1) (h2 : wh ≠ 2) : caN v M sz wh t = 0 := (if_neg h1).trans (if_neg h2)
theorem cd_o {v : Nat → TV} {sz d : Nat} {u : Nat → DV} {wh : Int} (h1 : wh ≠ 4) (h2 : wh ≠ 5) (h3 : wh ≠ 6) : cdN v sz u wh d = 0 := (if_neg h1).trans ((if_neg h2).trans (if_neg h3))
theorem ch_o {w : Nat → NV} {k : Nat} {wh : Int} (h1 : wh ≠ 8) : chN w wh k = 0 := if_neg h1
theorem ca_le {v : Nat → TV} {M : Nat → Nat → Prop} {sz t : Nat} {wh : Int} (h1 : sz ≤ 16) (h2 : t ≤ sz) : caN v M sz wh t ≤ 256 := by
  unfold caN
  split
  · have := cnC_le (fun t => (v t).2.2.2.1.toInt = 0) t
    unfold gnN; omega
  · split
    · exact allN_16 h1 h2
    · omega
theorem cd_le {v : Nat → TV} {sz d : Nat} {u : Nat → DV} {wh : Int} : cdN v sz u wh d ≤ d := by
  unfold cdN
  split
  · exact cnC_le _ _
  · split
    · exact cnC_le _ _
    · split
      · exact cnC_le _ _
      · omega
theorem ch_le {w : Nat → NV} {k : Nat} {wh : Int} : chN w wh k ≤ k := by
  unfold chN
  split
  · exact cnC_le _ _
  · omega
/-- one dot more -/
theorem cd_y {v : Nat → TV} {sz d : Nat} {u : Nat → DV} {wh : Int} {n : Int} (hs : sz ≤ 16) (e : n = dtN v sz (u d)) (h : (wh = 4 ∧ n = 1) ∨ (wh = 5 ∧ 1 < n) ∨ (wh = 6 ∧ n = 0)) : cdN v sz u wh (d + 1) = cdN v sz u wh d + 1 := by
  have q := dt_le v sz (u d)
  rcases h with ⟨rfl, h⟩ | ⟨rfl, h⟩ | ⟨rfl, h⟩
  · exact cnC_1 (P := fun d => 1 ≤ dtN v sz (u d) ∧ dtN v sz (u d) ≤ 1) ⟨by omega, by omega⟩
  · exact cnC_1 (P := fun d => 2 ≤ dtN v sz (u d) ∧ dtN v sz (u d) ≤ 16) ⟨by omega, by omega⟩
  · exact cnC_1 (P := fun d => 0 ≤ dtN v sz (u d) ∧ dtN v sz (u d) ≤ 0) ⟨by omega, by omega⟩
theorem cd_n {v : Nat → TV} {sz d : Nat} {u : Nat → DV} {wh : Int} {n : Int} (e : n = dtN v sz (u d)) (h : ¬ ((wh = 4 ∧ n = 1) ∨ (wh = 5 ∧ 1 < n) ∨ (wh = 6 ∧ n = 0))) : cdN v sz u wh (d + 1) = cdN v sz u wh d := by
  by_cases h4 : wh = 4
  · subst h4; exact cnC_0 (P := fun d => 1 ≤ dtN v sz (u d) ∧ dtN v sz (u d) ≤ 1) (fun z => by have z1 := z.1; have z2 := z.2; omega)
  · by_cases h5 : wh = 5
    · subst h5; exact cnC_0 (P := fun d => 2 ≤ dtN v sz (u d) ∧ dtN v sz (u d) ≤ 16) (fun z => by have z1 := z.1; have z2 := z.2; omega)
    · by_cases h6 : wh = 6
      · subst h6; exact cnC_0 (P := fun d => 0 ≤ dtN v sz (u d) ∧ dtN v sz (u d) ≤ 0) (fun z => by have z1 := z.1; have z2 := z.2; omega)
      · rw [cd_o h4 h5 h6, cd_o h4 h5 h6]
theorem ch_y {w : Nat → NV} {k : Nat} {wh : Int} (h : wh = 8) (h1 : (w k).2.2.2.2.2.2.2.toInt = 1) : chN w wh (k + 1) = chN w wh k + 1 := by
  subst h; exact cnC_1 (P := fun k => (w k).2.2.2.2.2.2.2.toInt = 1) h1
theorem ch_n {w : Nat → NV} {k : Nat} {wh : Int} (h : ¬ (wh = 8 ∧ (w k).2.2.2.2.2.2.2.toInt = 1)) : chN w wh (k + 1) = chN w wh k := by
  by_cases h8 : wh = 8
  · subst h8; exact cnC_0 (P := fun k => (w k).2.2.2.2.2.2.2.toInt = 1) (fun z => h ⟨rfl, z⟩)
  · rw [ch_o h8, ch_o h8]
/-- one thing more: the row of its meetings is r -/
theorem ca_s {v : Nat → TV} {M : Nat → Nat → Prop} {sz t : Nat} {wh : Int} {g r : Nat} (hg : (wh = 1 ∧ (v t).2.2.2.1.toInt = 0 ∧ g = 1) ∨ (¬ (wh = 1 ∧ (v t).2.2.2.1.toInt = 0) ∧ g = 0)) (hr : (wh = 2 ∧ r = rowN M t sz) ∨ (wh ≠ 2 ∧ r = 0)) : caN v M sz wh (t + 1) = caN v M sz wh t + g + r := by
  by_cases h1 : wh = 1
  · subst h1
    rcases hr with ⟨h, -⟩ | ⟨-, rfl⟩
    · omega
    · rw [ca_1, ca_1]
      rcases hg with ⟨-, z, rfl⟩ | ⟨z, rfl⟩
      · exact cnC_1 (P := fun t => (v t).2.2.2.1.toInt = 0) z
      · exact cnC_0 (P := fun t => (v t).2.2.2.1.toInt = 0) (fun y => z ⟨rfl, y⟩)
  · have g0 : g = 0 := by
      rcases hg with ⟨z, -⟩ | ⟨-, z⟩
      · exact absurd z h1
      · exact z
    subst g0
    by_cases h2 : wh = 2
    · subst h2
      rcases hr with ⟨-, rfl⟩ | ⟨z, -⟩
      · rw [ca_2, ca_2]; rfl
      · exact absurd rfl z
    · rcases hr with ⟨z, -⟩ | ⟨-, rfl⟩
      · exact absurd z h2
      · rw [ca_o h1 h2, ca_o h1 h2]
theorem co_m {sz dn nn la : Int32} {v : Nat → TV} {u : Nat → DV} {w : Nat → NV} {ne wh r : Int} (e : r = ((caN v (mtM v ne) sz.toInt.toNat wh sz.toInt.toNat + cdN v sz.toInt.toNat u wh dn.toInt.toNat + chN w wh nn.toInt.toNat : Nat) : Int)) (h : wh = 1 ∨ wh = 2 ∨ wh = 4 ∨ wh = 5 ∨ wh = 6 ∨ wh = 8) : coP sz dn nn la v u w ne wh r := by
  unfold coP
  rcases h with rfl | rfl | rfl | rfl | rfl | rfl
  · rw [ca_1, cd_o (by omega) (by omega) (by omega), ch_o (by omega)] at e; omega
  · rw [ca_2, cd_o (by omega) (by omega) (by omega), ch_o (by omega)] at e; omega
  · rw [ca_o (by omega) (by omega), ch_o (by omega)] at e
    have q : cdN v sz.toInt.toNat u 4 dn.toInt.toNat = dsN v sz.toInt.toNat u 1 1 dn.toInt.toNat := rfl
    omega
  · rw [ca_o (by omega) (by omega), ch_o (by omega)] at e
    have q : cdN v sz.toInt.toNat u 5 dn.toInt.toNat = dsN v sz.toInt.toNat u 2 16 dn.toInt.toNat := rfl
    omega
  · rw [ca_o (by omega) (by omega), ch_o (by omega)] at e
    have q : cdN v sz.toInt.toNat u 6 dn.toInt.toNat = dsN v sz.toInt.toNat u 0 0 dn.toInt.toNat := rfl
    omega
  · rw [ca_o (by omega) (by omega), cd_o (by omega) (by omega) (by omega)] at e
    have q : chN w 8 nn.toInt.toNat = hdN w nn.toInt.toNat := rfl
    omega
theorem ca_z {v : Nat → TV} {M : Nat → Nat → Prop} {sz : Nat} {wh : Int} : caN v M sz wh 0 = 0 := by
  unfold caN
  split
  · rfl
  · split <;> rfl
theorem cd_z {v : Nat → TV} {sz : Nat} {u : Nat → DV} {wh : Int} : cdN v sz u wh 0 = 0 := by
  unfold cdN
  split
  · rfl
  · split
    · rfl
    · split <;> rfl
theorem ch_z {w : Nat → NV} {wh : Int} : chN w wh 0 = 0 := by
  unfold chN
  split <;> rfl
