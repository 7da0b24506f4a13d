theorem dz_can8 {B : dB} {S : dS} {V : dV} {x y z : Int32} (h : ¬ fX3_canMakeScale B S V x y z = 0) (hx : x = 8) : vp_in y 8 := by
  subst hx
  refine dz_placeI (fun h2 => h ?_)
  unfold fX3_canMakeScale
  rw [if_neg (by decide), if_neg (by decide), if_neg (by decide), if_neg (by decide), if_neg (by decide), if_neg (by decide), if_neg (by decide), if_neg (by decide), if_pos rfl]
  exact h2
theorem dz_can9 {B : dB} {S : dS} {V : dV} {x y z : Int32} (h : ¬ fX3_canMakeScale B S V x y z = 0) (hx : x = 9) : (¬ fX1_has S y = 0) ∧ ¬ fX3_isThing B z = 0 := by
  subst hx
  unfold fX3_canMakeScale at h
  rw [if_neg (by decide), if_neg (by decide), if_neg (by decide), if_neg (by decide), if_neg (by decide), if_neg (by decide), if_neg (by decide), if_neg (by decide), if_neg (by decide), if_pos rfl] at h
  by_cases h1 : fX1_has S y = 0
  · rw [if_pos h1] at h; exact absurd rfl h
  · rw [if_neg h1] at h
    by_cases h2 : fX3_isThing B z = 0
    · rw [if_pos h2] at h; exact absurd rfl h
    · exact ⟨h1, h2⟩
theorem dz_pl {B : dB} {nt k : Nat} {x : Int32} (hB : dz_B B nt k) (h : ∃ j : Nat, j ≤ k ∧ x = nI j) : zw_le x 40 := by
  obtain ⟨j, hj, ej⟩ := h
  exact ⟨j, by have := hB.1; have := hB.2.1; omega, ej⟩
theorem dz_lt1 {x y : Int32} {i n : Nat} (hy : y = nI n) (e : x = nI i) (h : ¬ y ≤ x) (hi : i ≤ n) (hn : n ≤ 40) : i + 1 ≤ n := by
  rcases Nat.lt_or_ge i n with h1 | h1
  · exact h1
  · exact absurd (by rw [hy, e]; exact nI_le h1 (by omega)) h
theorem dz_dr {B : dB} {nt k : Nat} {x : Int32} {f : Nat → Int32} (hB : dz_B B nt k) (h : ∃ i : Nat, i < k ∧ x = nI i) (hd : ∀ j, j < k → vp_in (f j) nt) : vp_in (f x.toNatClampNeg) nt := by
  obtain ⟨i, hi, rfl⟩ := h
  rw [nI_clamp (by have := hB.1; have := hB.2.1; omega)]
  exact hd i hi
theorem dz_up {nt k i : Nat} {f : Nat → Int32} {v : Int32} (hd : ∀ j, j < k → vp_in (f j) nt) (hv : vp_in v nt) : ∀ j, j < k → vp_in (upd f i v j) nt := by
  intro j hj
  by_cases h : j = i
  · subst h; rw [pk_us]; exact hv
  · rw [pk_un h]; exact hd j hj
theorem dz_ix40 {B : dB} {nt k : Nat} {x : Int32} (hB : dz_B B nt k) (h : ∃ i : Nat, i < k ∧ x = nI i) : vp_in x 40 := by
  obtain ⟨i, hi, rfl⟩ := h
  exact vp_in_nI (by have := hB.1; have := hB.2.1; omega) (by decide)
theorem dz_ix40p {B : dB} {nt k : Nat} {x : Int32} {P : Prop} (hB : dz_B B nt k) (h : ∃ i : Nat, x = nI i ∧ i < k ∧ P) : vp_in x 40 := by
  obtain ⟨i, e, hi, -⟩ := h
  exact dz_ix40 hB ⟨i, hi, e⟩
