def fX4_in (p1 : Int32) (p2 : Int32) (p3 : Int32) : Int32 := (if p1 < p2 then 0 else (if p3 < p1 then 0 else 1))
set_option maxHeartbeats 4000000 in
set_option maxRecDepth 100000 in
theorem kX4_in {l : Launch} {D : va_G} {cI cL : ClassId} {b : Nat → Nat} {B : mB} {K : mK} {E : mE} {M : mM} {U : mU} {G : mG} {N : mN} {p1 : Int32} {p2 : Int32} {p3 : Int32} {q : Int32} (hF : fX4_in p1 p2 p3 = q) : zw_Mi l yX4_in cX4_in 3 .boolean D (zw_tys cI cL) (zw_rm 0 0) [.int p1, .int p2, .int p3] (wM cI cL b B K E M U G N) (wM cI cL b B K E M U G N) q := by
  unfold fX4_in at hF
  refine zw_Mi_of (own := RX4) (by decide) rfl (Nat.le_of_ble_eq_true rfl) ?_
  intro p e s m args below meth c A C hr hlk
  refine zw_eq (lv2 := [(0, .int p1), (1, .int p2), (2, .int p3)]) rfl rfl rfl ?_
  refine zw_iload_n C dX4_in_0 0 rfl rfl ?_
  refine zw_iload_n C dX4_in_1 1 rfl rfl ?_
  refine zw_icmp_lt C 14 dX4_in_2 (by decide) (fun h1 => ?_) (fun h1 => ?_)
  · rw [if_pos h1] at hF
    refine zw_iconst C (v := 0) dX4_in_14 (by decide) ?_
    subst hF
    exact zw_zreturn C hr hlk rfl dX4_in_15 rfl rfl
  · rw [if_neg h1] at hF
    refine zw_iload_n C dX4_in_5 0 rfl rfl ?_
    refine zw_iload_n C dX4_in_6 2 rfl rfl ?_
    refine zw_icmp_gt C 14 dX4_in_7 (by decide) (fun h2 => ?_) (fun h2 => ?_)
    · rw [if_pos h2] at hF
      refine zw_iconst C (v := 0) dX4_in_14 (by decide) ?_
      subst hF
      exact zw_zreturn C hr hlk rfl dX4_in_15 rfl rfl
    · rw [if_neg h2] at hF
      refine zw_iconst C (v := 1) dX4_in_10 (by decide) ?_
      refine zw_goto C 15 dX4_in_11 (by decide) ?_
      subst hF
      exact zw_zreturn C hr hlk rfl dX4_in_15 rfl rfl
def fX4_answer (B : mB) : Int64 := B.2.2.1
set_option maxHeartbeats 4000000 in
set_option maxRecDepth 100000 in
theorem kX4_answer {l : Launch} {D : va_G} {cI cL : ClassId} {b : Nat → Nat} {B : mB} {K : mK} {E : mE} {M : mM} {U : mU} {G : mG} {N : mN} {q : Int64} (hF : fX4_answer B = q) : zw_Ml l yX4_answer cX4_answer 1 D (zw_tys cI cL) (zw_rm 0 0) [.ref (b 0)] (wM cI cL b B K E M U G N) (wM cI cL b B K E M U G N) q := by
  unfold fX4_answer at hF
  refine zw_Ml_of (own := RX4) (by decide) rfl (Nat.le_of_ble_eq_true rfl) ?_
  intro p e s m args below meth c A C hr hlk
  refine zw_eq (lv2 := [(0, .ref (b 0))]) rfl rfl rfl ?_
  refine zw_aload_n C dX4_answer_0 0 rfl rfl ?_
  refine zw_get C FX4 0 25 (v := .long B.2.2.1) rfl (by decide) lkX4_172 rfl dX4_answer_1 ?_
  subst hF
  exact zw_lreturn C hr hlk dX4_answer_4 rfl rfl
theorem bb_fX4_in {x y z : Int32} : fX4_in x y z = 0 ∨ fX4_in x y z = 1 := by unfold fX4_in; (repeat' split) <;> first | exact Or.inl rfl | exact Or.inr rfl
theorem dm_in {x y z : Int32} (h : ¬ fX4_in x y z = 0) : ¬ x < y ∧ ¬ z < x := by
  unfold fX4_in at h
  by_cases h1 : x < y
  · rw [if_pos h1] at h; exact absurd rfl h
  · rw [if_neg h1] at h
    by_cases h2 : z < x
    · rw [if_pos h2] at h; exact absurd rfl h
    · exact ⟨h1, h2⟩
theorem dm_in0 {x : Int32} {n : Nat} (hn : n < 2 ^ 31) (h : ¬ fX4_in x 0 (nI n - 1) = 0) : ∃ j : Nat, j < n ∧ x = nI j := by
  obtain ⟨h1, h2⟩ := dm_in h
  obtain ⟨j, hj, rfl⟩ := nI_of h1
  refine ⟨j, ?_, rfl⟩
  cases n with
  | zero =>
    refine absurd ?_ h2
    rw [show nI 0 - 1 = (-1 : Int32) from by decide]
    exact Int32.lt_iff_toInt_lt.mpr (by rw [nI_toInt hj]; show (-1 : Int) < (j : Int); omega)
  | succ m =>
    rw [nI_pred] at h2
    rcases Nat.lt_or_ge m j with h3 | h3
    · exact absurd (nI_lt h3 hj) h2
    · omega
theorem dm_inC {x y : Int32} {n : Nat} (hn : n < 2 ^ 31) (hy : y = nI n) (h : ¬ fX4_in x 0 y = 0) : ∃ j : Nat, j ≤ n ∧ x = nI j := by
  obtain ⟨h1, h2⟩ := dm_in h
  obtain ⟨j, hj, rfl⟩ := nI_of h1
  refine ⟨j, ?_, rfl⟩
  subst hy
  rcases Nat.lt_or_ge n j with h3 | h3
  · exact absurd (nI_lt h3 hj) h2
  · exact h3
theorem dm_cell {x y : Int32} {j c : Nat} (hj : j < 40) (hc : c < 3) (hx : x = nI j) (hy : y = nI c) : 3 * x + y = nI (j * 3 + c) ∧ vp_in (3 * x + y) 120 := by
  subst hx; subst hy
  have e : 3 * nI j + nI c = nI (j * 3 + c) := by rw [show (3 : Int32) = nI 3 from rfl, pk_mul, nI_add, Nat.mul_comm]
  exact ⟨e, by rw [e]; exact vp_in_nI (by omega) (by decide)⟩
theorem dm_cell0 {x : Int32} {j : Nat} (hj : j < 40) (hx : x = nI j) : vp_in (3 * x) 120 := by
  subst hx
  rw [show (3 : Int32) = nI 3 from rfl, pk_mul]; exact vp_in_nI (by omega) (by decide)
theorem dm_full {B : mB} {n k : Nat} (hB : dz_B B n k) (h : ¬ B.1 = 40) : n < 40 := by
  rcases Nat.lt_or_ge n 40 with h1 | h1
  · exact h1
  · exact absurd (by rw [hB.2.2.1, show n = 40 from by have := hB.1; omega]; rfl) h
