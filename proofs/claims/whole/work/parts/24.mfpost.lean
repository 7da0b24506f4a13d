/-! moving ahead keeps the draft within the things -/
theorem mf_loop {B : dB} {S : dS} {V : dV} {O : dO} {p1 x3 : Int32} {nt k : Nat} (hk : k ≤ 40) : ∀ (n : Nat) (B6 : Nat → Int32) (S3 V3 : Nat → Int64) (T : dT) (x4 : Int32), (∀ j, j < k → vp_in (B6 j) nt) → (∃ i : Nat, x4 = nI i ∧ i < k) → (∀ j, j < k → vp_in ((fX3_moveForward_loop B S V O p1 x3 n B6 S3 V3 T x4).1 j) nt) := by
  intro n
  induction n with
  | zero => intro B6 S3 V3 T x4 h _; exact h
  | succ n ih =>
    intro B6 S3 V3 T x4 h hx
    obtain ⟨i, e, hi⟩ := hx
    rw [fX3_moveForward_loop]
    by_cases h1 : x4 ≤ 0
    · rw [if_pos h1]; exact h
    · rw [if_neg h1]
      unfold zw_l
      dsimp only
      obtain ⟨m, em, e5, e6⟩ := dz_pred e (by omega) h1
      split
      · refine ih _ _ _ _ _ (dz_up h ?_) ⟨m, e6, by omega⟩
        rw [e5, nI_clamp (by omega)]
        exact h m (by omega)
      · exact h
theorem mf_post {B : dB} {S : dS} {V : dV} {O : dO} {p1 p2 : Int32} {nt k : Nat} {B6 : Nat → Int32} {S3 V3 : Nat → Int64} {T : dT} (hk : k ≤ 40) (h : ∀ j, j < k → vp_in (B6 j) nt) (hp : ∃ i : Nat, i < k ∧ p2 = nI i) : ∀ j, j < k → vp_in ((fX3_moveForward B S V O B6 S3 V3 T p1 p2).2.1 j) nt := by
  obtain ⟨i, hi, e⟩ := hp
  unfold fX3_moveForward zw_l
  dsimp only
  refine dz_up (mf_loop hk 41 B6 S3 V3 T p2 h ⟨i, e, hi⟩) ?_
  rw [e, nI_clamp (by omega)]
  exact h i hi
theorem mf_q {B : dB} {S : dS} {V : dV} {O : dO} {p1 p2 : Int32} {nt k : Nat} {B6 : Nat → Int32} {S3 V3 : Nat → Int64} {T : dT} {q : Int32 × (Nat → Int32) × (Nat → Int64) × (Nat → Int64) × dT} (hk : k ≤ 40) (h : ∀ j, j < k → vp_in (B6 j) nt) (hp : ∃ i : Nat, i < k ∧ p2 = nI i) (e : fX3_moveForward B S V O B6 S3 V3 T p1 p2 = q) : ∀ j, j < k → vp_in (q.2.1 j) nt := by
  subst e; exact mf_post hk h hp
theorem dz_cpd {B : dB} {nt k : Nat} {g : Nat → Int32} (hB : dz_B B nt k) : ∀ j, j < k → vp_in (va_cpy B.2.2.2.2.2.1 g (0 : Int32).toNatClampNeg (0 : Int32).toNatClampNeg B.2.1.toNatClampNeg j) nt := by
  intro j hj
  have hk : k < 2 ^ 31 := by have := hB.1; have := hB.2.1; omega
  rw [hB.2.2.2.1, nI_clamp hk, show (0 : Int32).toNatClampNeg = 0 from rfl, pk_cpy_in (Nat.zero_le _) (by omega), Nat.zero_add, Nat.sub_zero]
  obtain ⟨t, ht, e⟩ := hB.2.2.2.2 j hj
  rw [e]; exact vp_in_nI ht (by have := hB.1; omega)
theorem dz_lk2 {B : dB} {nt k i : Nat} {x : Int32} (hB : dz_B B nt k) (e : x = nI i) (h : ¬ B.2.1 ≤ x) (hi : i ≤ k + 1) : i < k := by
  rcases Nat.lt_or_ge i k with h1 | h1
  · exact h1
  · exact absurd (by rw [hB.2.2.2.1, e]; exact nI_le h1 (by have := hB.1; have := hB.2.1; omega)) h
