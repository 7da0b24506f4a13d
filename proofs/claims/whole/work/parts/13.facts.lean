/-! what the small tests say; the desk's numbers are in their bounds -/
theorem dz_lt {x sz : Int32} {n : Nat} (h1 : ¬ x < 0) (h2 : ¬ sz ≤ x) (hs : sz = nI n) : ∃ j : Nat, j < n ∧ x = nI j := by
  subst hs
  obtain ⟨j, hj, rfl⟩ := nI_of h1
  refine ⟨j, ?_, rfl⟩
  rcases Nat.lt_or_ge j n with h | h
  · exact h
  · exact absurd (nI_le h hj) h2
theorem dz_isThing {B : dB} {x : Int32} {n : Nat} (h : ¬ fX3_isThing B x = 0) (hs : B.1 = nI n) : ∃ j : Nat, j < n ∧ x = nI j := by
  unfold fX3_isThing at h
  by_cases h1 : x < 0
  · rw [if_pos h1] at h; exact absurd rfl h
  · rw [if_neg h1] at h
    by_cases h2 : B.1 ≤ x
    · rw [if_pos h2] at h; exact absurd rfl h
    · exact dz_lt h1 h2 hs
theorem dz_isColumn {x : Int32} (h : ¬ fX3_isColumn x = 0) : ∃ j : Nat, j < 3 ∧ x = nI j := by
  unfold fX3_isColumn at h
  by_cases h1 : x < 0
  · rw [if_pos h1] at h; exact absurd rfl h
  · rw [if_neg h1] at h
    by_cases h2 : (3 : Int32) ≤ x
    · rw [if_pos h2] at h; exact absurd rfl h
    · exact dz_lt (sz := 3) (n := 3) h1 h2 rfl
theorem dz_has {S : dS} {x : Int32} {n : Nat} (h : ¬ fX1_has S x = 0) (hs : S.2.2.2.2 = nI n) : ∃ j : Nat, j < n ∧ x = nI j := by
  unfold fX1_has at h
  by_cases h1 : x < 0
  · rw [if_pos h1] at h; exact absurd rfl h
  · rw [if_neg h1] at h
    by_cases h2 : S.2.2.2.2 ≤ x
    · rw [if_pos h2] at h; exact absurd rfl h
    · exact dz_lt h1 h2 hs
theorem dz_cell {x y : Int32} {j c : Nat} (hj : j < 40) (hc : c < 3) (hx : x = nI j) (hy : y = nI c) : fX3_cellOf x y = nI (j * 3 + c) ∧ vp_in (fX3_cellOf x y) 120 := by
  subst hx; subst hy
  have e : fX3_cellOf (nI j) (nI c) = nI (j * 3 + c) := by
    unfold fX3_cellOf
    rw [show (3 : Int32) = nI 3 from rfl, pk_mul, nI_add]
  exact ⟨e, by rw [e]; exact vp_in_nI (by omega) (by decide)⟩
theorem dz_place {x : Int64} (h : ¬ fX3_isPlaceOfRow x = 0) : ∃ j : Nat, j < 8 ∧ x = lN j := by
  unfold fX3_isPlaceOfRow at h
  by_cases h1 : lg_cmp x 0 < 0
  · rw [if_pos h1] at h; exact absurd rfl h
  · rw [if_neg h1] at h
    by_cases h2 : 0 ≤ lg_cmp x 8
    · rw [if_pos h2] at h; exact absurd rfl h
    · have a1 : ¬ x < 0 := fun z => h1 ((lg_cmp_lt x 0).mpr z)
      have a2 : ¬ (8 : Int64) ≤ x := fun z => h2 ((lg_cmp_ge x 8).mpr z)
      obtain ⟨k, hk, rfl⟩ := pk_lOf a1
      refine ⟨k, ?_, rfl⟩
      rcases Nat.lt_or_ge k 8 with h3 | h3
      · exact h3
      · exact absurd ((pk_lLE (a := 8) (b := k) (by decide) hk).mpr h3) a2
theorem dz_placeI {x : Int32} (h : ¬ fX3_isPlaceOfRow x.toInt64 = 0) : vp_in x 8 := by
  obtain ⟨j, hj, e⟩ := dz_place h
  have e2 : x = nI j := by rw [← lg_l2i_i2l x, e, lN_i]
  rw [e2]; exact vp_in_nI hj (by decide)
theorem dz_placeL {x : Int64} (h : ¬ fX3_isPlaceOfRow x = 0) : vp_in x.toInt32 8 := by
  obtain ⟨j, hj, rfl⟩ := dz_place h
  rw [lN_i]; exact vp_in_nI hj (by decide)
/-- the desk's counts and list in their bounds: n things, k of them listed -/
def dz_B (B : dB) (n k : Nat) : Prop := n ≤ 40 ∧ k ≤ n ∧ B.1 = nI n ∧ B.2.1 = nI k ∧ ∀ j : Nat, j < k → ∃ t : Nat, t < n ∧ B.2.2.2.2.2.1 j = nI t
theorem dz_full {B : dB} {n k : Nat} (hB : dz_B B n k) (h : B.1 < 40) : n < 40 := by
  rw [hB.2.2.1] at h
  exact (nI_ltI (a := n) (b := 40) (by have := hB.1; omega) (by decide)).mp h
theorem dz_le {B : dB} {n k : Nat} (hB : dz_B B n k) : zw_le B.2.1 40 := ⟨k, by have := hB.1; have := hB.2.1; omega, hB.2.2.2.1⟩
