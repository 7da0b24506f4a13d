theorem dm_row {v : Int64} (h1 : ¬ lg_cmp v 0 < 0) (h2 : lg_cmp v 7 ≤ 0) : vp_in v.toInt32 8 := by
  have a1 : ¬ v < 0 := fun z => h1 ((lg_cmp_lt v 0).mpr z)
  have a2 : v ≤ 7 := (lg_cmp_le v 7).mp h2
  obtain ⟨k, hk, rfl⟩ := pk_lOf a1
  have h3 : k ≤ 7 := (pk_lLE (a := k) (b := 7) hk (by decide)).mp a2
  rw [lN_i]; exact vp_in_nI (by omega) (by decide)
theorem dm_w72 {x : Int32} (h1 : ¬ x < 24) (h2 : ¬ (48 : Int32) ≤ x) : vp_in x 72 := by
  have b1 : ¬ x.toInt < 24 := fun h => h1 (Int32.lt_iff_toInt_lt.mpr h)
  have b2 : ¬ (48 : Int) ≤ x.toInt := fun h => h2 (Int32.le_iff_toInt_le.mpr h)
  exact vp_in_iff.mpr ⟨by omega, by omega⟩
theorem dm_pred {x : Int32} {i : Nat} (e : x = nI i) (hi : i ≤ 80) (h : ¬ x ≤ 0) : ∃ m : Nat, i = m + 1 ∧ x - 1 = nI m ∧ vp_in (x - 1) 80 := by
  obtain ⟨m, em, e5, -⟩ := dz_pred e (by omega) h
  exact ⟨m, em, e5, by rw [e5]; exact vp_in_nI (by omega) (by decide)⟩
