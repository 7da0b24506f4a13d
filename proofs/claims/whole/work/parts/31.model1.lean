def fX4_in (p1 : Int32) (p2 : Int32) (p3 : Int32) : Int32 := (if p1 < p2 then 0 else (if p3 < p1 then 0 else 1))
set_option maxHeartbeats 4000000 in
set_option maxRecDepth 100000 in
theorem kX4_in {l : Launch} {D : va_G} {cI cL : ClassId} {b : Nat → Nat} {B0 : Int32} {B1 : Int32} {B2 : Int64} {B3 : (Nat → Int64)} {B4 : (Nat → Int64)} {B5 : (Nat → Int32)} {B6 : (Nat → Int32)} {K0 : (Nat → Int32)} {K1 : (Nat → Int32)} {K2 : (Nat → Int32)} {K3 : (Nat → Int32)} {K4 : (Nat → Int64)} {E0 : (Nat → Int32)} {M0 : Int32} {M1 : (Nat → Int32)} {M2 : (Nat → Int32)} {M3 : (Nat → Int32)} {M4 : (Nat → Int32)} {M5 : (Nat → Int64)} {M6 : Int64} {M7 : Int32} {U0 : Int32} {U1 : Int32} {U2 : Int32} {U3 : Int32} {U4 : Int32} {U5 : Int32} {G0 : Int32} {G1 : (Nat → Int64)} {G2 : (Nat → Int32)} {G3 : (Nat → Int64)} {G4 : (Nat → Int32)} {N0 : (Nat → Int64)} {N1 : (Nat → Int32)} {N2 : (Nat → Int64)} {N3 : (Nat → Int32)} {p1 : Int32} {p2 : Int32} {p3 : Int32} {q : Int32} (hF : fX4_in p1 p2 p3 = q) : zw_Mi l yX4_in cX4_in 3 .boolean D (zw_tys cI cL) (zw_rm 0 0) [.int p1, .int p2, .int p3] (wM cI cL b B0 B1 B2 B3 B4 B5 B6 K0 K1 K2 K3 K4 E0 M0 M1 M2 M3 M4 M5 M6 M7 U0 U1 U2 U3 U4 U5 G0 G1 G2 G3 G4 N0 N1 N2 N3) (wM cI cL b B0 B1 B2 B3 B4 B5 B6 K0 K1 K2 K3 K4 E0 M0 M1 M2 M3 M4 M5 M6 M7 U0 U1 U2 U3 U4 U5 G0 G1 G2 G3 G4 N0 N1 N2 N3) q := by
  unfold fX4_in at hF
  refine zw_Mi_of (own := RX4) (by decide) rfl (Nat.le_of_ble_eq_true rfl) ?_
  intro p e s m args below meth c A C hr hlk
  refine zw_eq (lv2 := [(0, .int p1), (1, .int p2), (2, .int p3)]) rfl rfl rfl ?_
  refine zw_iload_n C dX4_in_0 0 rfl rfl ?_
  refine zw_iload_n C dX4_in_1 1 rfl rfl ?_
  refine zw_icmp_lt C 14 dX4_in_2 (by decide) (fun h1 => ?_) (fun h1 => ?_)
  · rw [if_pos h1] at hF
    refine zw_iconst C (v := 0) dX4_in_14 (by decide) ?_
    subst hF
    exact zw_zreturn C hr hlk rfl dX4_in_15 rfl rfl
  · rw [if_neg h1] at hF
    refine zw_iload_n C dX4_in_5 0 rfl rfl ?_
    refine zw_iload_n C dX4_in_6 2 rfl rfl ?_
    refine zw_icmp_gt C 14 dX4_in_7 (by decide) (fun h2 => ?_) (fun h2 => ?_)
    · rw [if_pos h2] at hF
      refine zw_iconst C (v := 0) dX4_in_14 (by decide) ?_
      subst hF
      exact zw_zreturn C hr hlk rfl dX4_in_15 rfl rfl
    · rw [if_neg h2] at hF
      refine zw_iconst C (v := 1) dX4_in_10 (by decide) ?_
      refine zw_goto C 15 dX4_in_11 (by decide) ?_
      subst hF
      exact zw_zreturn C hr hlk rfl dX4_in_15 rfl rfl
def fX4_answer (B2 : Int64) : Int64 := B2
set_option maxHeartbeats 4000000 in
set_option maxRecDepth 100000 in
theorem kX4_answer {l : Launch} {D : va_G} {cI cL : ClassId} {b : Nat → Nat} {B0 : Int32} {B1 : Int32} {B2 : Int64} {B3 : (Nat → Int64)} {B4 : (Nat → Int64)} {B5 : (Nat → Int32)} {B6 : (Nat → Int32)} {K0 : (Nat → Int32)} {K1 : (Nat → Int32)} {K2 : (Nat → Int32)} {K3 : (Nat → Int32)} {K4 : (Nat → Int64)} {E0 : (Nat → Int32)} {M0 : Int32} {M1 : (Nat → Int32)} {M2 : (Nat → Int32)} {M3 : (Nat → Int32)} {M4 : (Nat → Int32)} {M5 : (Nat → Int64)} {M6 : Int64} {M7 : Int32} {U0 : Int32} {U1 : Int32} {U2 : Int32} {U3 : Int32} {U4 : Int32} {U5 : Int32} {G0 : Int32} {G1 : (Nat → Int64)} {G2 : (Nat → Int32)} {G3 : (Nat → Int64)} {G4 : (Nat → Int32)} {N0 : (Nat → Int64)} {N1 : (Nat → Int32)} {N2 : (Nat → Int64)} {N3 : (Nat → Int32)} {q : Int64} (hF : fX4_answer B2 = q) : zw_Ml l yX4_answer cX4_answer 1 D (zw_tys cI cL) (zw_rm 0 0) [.ref (b 0)] (wM cI cL b B0 B1 B2 B3 B4 B5 B6 K0 K1 K2 K3 K4 E0 M0 M1 M2 M3 M4 M5 M6 M7 U0 U1 U2 U3 U4 U5 G0 G1 G2 G3 G4 N0 N1 N2 N3) (wM cI cL b B0 B1 B2 B3 B4 B5 B6 K0 K1 K2 K3 K4 E0 M0 M1 M2 M3 M4 M5 M6 M7 U0 U1 U2 U3 U4 U5 G0 G1 G2 G3 G4 N0 N1 N2 N3) q := by
  unfold fX4_answer at hF
  refine zw_Ml_of (own := RX4) (by decide) rfl (Nat.le_of_ble_eq_true rfl) ?_
  intro p e s m args below meth c A C hr hlk
  refine zw_eq (lv2 := [(0, .ref (b 0))]) rfl rfl rfl ?_
  refine zw_aload_n C dX4_answer_0 0 rfl rfl ?_
  refine zw_get C FX4 0 25 (v := .long B2) rfl (by decide) lkX4_172 rfl dX4_answer_1 ?_
  subst hF
  exact zw_lreturn C hr hlk dX4_answer_4 rfl rfl
theorem bb_fX4_in {x y z : Int32} : fX4_in x y z = 0 ∨ fX4_in x y z = 1 := by unfold fX4_in; (repeat' split) <;> first | exact Or.inl rfl | exact Or.inr rfl
theorem dm_in {x y z : Int32} (h : ¬ fX4_in x y z = 0) : ¬ x < y ∧ ¬ z < x := by
  unfold fX4_in at h
  by_cases h1 : x < y
  · rw [if_pos h1] at h; exact absurd rfl h
  · rw [if_neg h1] at h
    by_cases h2 : z < x
    · rw [if_pos h2] at h; exact absurd rfl h
    · exact ⟨h1, h2⟩
theorem dm_in0 {x : Int32} {n : Nat} (hn : n < 2 ^ 31) (h : ¬ fX4_in x 0 (nI n - 1) = 0) : ∃ j : Nat, j < n ∧ x = nI j := by
  obtain ⟨h1, h2⟩ := dm_in h
  obtain ⟨j, hj, rfl⟩ := nI_of h1
  refine ⟨j, ?_, rfl⟩
  cases n with
  | zero =>
    refine absurd ?_ h2
    rw [show nI 0 - 1 = (-1 : Int32) from by decide]
    exact Int32.lt_iff_toInt_lt.mpr (by rw [nI_toInt hj]; show (-1 : Int) < (j : Int); omega)
  | succ m =>
    rw [nI_pred] at h2
    rcases Nat.lt_or_ge m j with h3 | h3
    · exact absurd (nI_lt h3 hj) h2
    · omega
theorem dm_inC {x y : Int32} {n : Nat} (hn : n < 2 ^ 31) (hy : y = nI n) (h : ¬ fX4_in x 0 y = 0) : ∃ j : Nat, j ≤ n ∧ x = nI j := by
  obtain ⟨h1, h2⟩ := dm_in h
  obtain ⟨j, hj, rfl⟩ := nI_of h1
  refine ⟨j, ?_, rfl⟩
  subst hy
  rcases Nat.lt_or_ge n j with h3 | h3
  · exact absurd (nI_lt h3 hj) h2
  · exact h3
theorem dm_cell {x y : Int32} {j c : Nat} (hj : j < 40) (hc : c < 3) (hx : x = nI j) (hy : y = nI c) : 3 * x + y = nI (j * 3 + c) ∧ vp_in (3 * x + y) 120 := by
  subst hx; subst hy
  have e : 3 * nI j + nI c = nI (j * 3 + c) := by rw [show (3 : Int32) = nI 3 from rfl, pk_mul, nI_add, Nat.mul_comm]
  exact ⟨e, by rw [e]; exact vp_in_nI (by omega) (by decide)⟩
theorem dm_cell0 {x : Int32} {j : Nat} (hj : j < 40) (hx : x = nI j) : vp_in (3 * x) 120 := by
  subst hx
  rw [show (3 : Int32) = nI 3 from rfl, pk_mul]; exact vp_in_nI (by omega) (by decide)
/-- the reference's counts and list in their bounds -/
def dm_B (x y : Int32) (f : Nat → Int32) (n k : Nat) : Prop := n ≤ 40 ∧ k ≤ n ∧ x = nI n ∧ y = nI k ∧ ∀ j : Nat, j < k → ∃ t : Nat, t < n ∧ f j = nI t
theorem dm_full {x y : Int32} {f : Nat → Int32} {n k : Nat} (hB : dm_B x y f n k) (h : ¬ x = 40) : n < 40 := by
  rcases Nat.lt_or_ge n 40 with h1 | h1
  · exact h1
  · exact absurd (by rw [hB.2.2.1, show n = 40 from by have := hB.1; omega]; rfl) h
