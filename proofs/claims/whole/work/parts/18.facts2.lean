theorem dz_hasIn {S : dS} {x : Int32} {n : Nat} (h : ¬ fX1_has S x = 0) (hs : S.2.2.2.2 = nI n) (hn : n ≤ 24) : vp_in x n := by
  obtain ⟨j, hj, rfl⟩ := dz_has h hs
  exact vp_in_nI hj (by omega)
theorem dz_thingIn {B : dB} {x : Int32} {n : Nat} (h : ¬ fX3_isThing B x = 0) (hs : B.1 = nI n) (hn : n ≤ 40) : vp_in x n := by
  obtain ⟨j, hj, rfl⟩ := dz_isThing h hs
  exact vp_in_nI hj (by omega)
theorem dz_lk {B : dB} {nt k i : Nat} {x : Int32} (hB : dz_B B nt k) (e : x = nI i) (h : ¬ B.2.1 ≤ x) (hi : i ≤ k) : i < k := by
  rcases Nat.lt_or_ge i k with h1 | h1
  · exact h1
  · exact absurd (by rw [hB.2.2.2.1, e]; exact nI_le h1 (by have := hB.1; have := hB.2.1; omega)) h
theorem dz_ixl {B : dB} {nt k i : Nat} {x : Int32} (hB : dz_B B nt k) (e : x = nI i) (hi : i ≤ k) (h : ¬ B.2.1 ≤ x) : vp_in x 40 := by
  have := dz_lk hB e h hi
  rw [e]; exact vp_in_nI (by have := hB.1; have := hB.2.1; omega) (by decide)
theorem dz_ixd {B : dB} {nt k i j : Nat} {x y : Int32} (hB : dz_B B nt k) (e : x = nI i) (hi : i ≤ k) (h : ¬ B.2.1 ≤ x) (ey : y = nI j) (hj : j ≤ i) : vp_in y 40 := by
  have := dz_lk hB e h hi
  rw [ey]; exact vp_in_nI (by have := hB.1; have := hB.2.1; omega) (by decide)
theorem dz_li {B : dB} {nt k i : Nat} {x : Int32} (hB : dz_B B nt k) (e : x = nI i) (hi : i ≤ k) (h : ¬ B.2.1 ≤ x) : vp_in (B.2.2.2.2.2.1 x.toNatClampNeg) nt := by
  have h2 := dz_lk hB e h hi
  rw [e, nI_clamp (by have := hB.1; have := hB.2.1; omega)]
  obtain ⟨t, ht, e2⟩ := hB.2.2.2.2 i h2
  rw [e2]; exact vp_in_nI ht (by have := hB.1; omega)
theorem dz_cp {x : Int32} (h : zw_le x 40) : (¬ x < 0) ∧ (0 : Int32).toNatClampNeg + x.toNatClampNeg ≤ 40 ∧ (0 : Int32).toNatClampNeg + x.toNatClampNeg ≤ 40 := by
  obtain ⟨n, hn, rfl⟩ := h
  have e : (nI n).toNatClampNeg = n := nI_clamp (by omega)
  refine ⟨nI_pos (by omega), ?_, ?_⟩ <;> (rw [e, show (0 : Int32).toNatClampNeg = 0 from rfl]; omega)
theorem dz_notFull {S : dS} {n : Nat} (h : fX1_isFull S = 0) (hs : S.2.2.2.2 = nI n) (hn : n ≤ 24) : n < 24 ∧ vp_in S.2.2.2.2 24 := by
  have h2 : n < 24 := by
    unfold fX1_isFull at h
    rw [hs] at h
    rcases Nat.lt_or_ge n 24 with h3 | h3
    · exact h3
    · have : n = 24 := by omega
      subst this
      exact absurd h (by decide)
  exact ⟨h2, by rw [hs]; exact vp_in_nI h2 (by decide)⟩
theorem bb_fX3_isColumn {x : Int32} : fX3_isColumn x = 0 ∨ fX3_isColumn x = 1 := by unfold fX3_isColumn; (repeat' split) <;> first | exact Or.inl rfl | exact Or.inr rfl
theorem bb_fX3_isPlaceOfRow {x : Int64} : fX3_isPlaceOfRow x = 0 ∨ fX3_isPlaceOfRow x = 1 := by unfold fX3_isPlaceOfRow; (repeat' split) <;> first | exact Or.inl rfl | exact Or.inr rfl
theorem bb_fX1_has {S : dS} {x : Int32} : fX1_has S x = 0 ∨ fX1_has S x = 1 := by unfold fX1_has; (repeat' split) <;> first | exact Or.inl rfl | exact Or.inr rfl
theorem dz_pred {x : Int32} {i : Nat} (e : x = nI i) (hi : i < 2 ^ 31) (h : ¬ x ≤ 0) : ∃ m : Nat, i = m + 1 ∧ x - 1 = nI m ∧ x + (-1) = nI m := by
  cases i with
  | zero => subst e; exact absurd (by decide) h
  | succ m => exact ⟨m, rfl, by rw [e]; exact nI_pred m, by rw [e]; exact pk_m1 m⟩
