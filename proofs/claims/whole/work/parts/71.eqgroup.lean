/-! group -/
section ZY
variable {B : dB} {S : dS} {V : dV} {O : dO} {G : dG} {F : dF} {T : dT} {B0 : Int32} {B1 : Int32} {B2 : Int64} {B3 : (Nat → Int64)} {B4 : (Nat → Int64)} {B5 : (Nat → Int32)} {K0 : (Nat → Int32)} {K1 : (Nat → Int32)} {K2 : (Nat → Int32)} {K3 : (Nat → Int32)} {K4 : (Nat → Int64)} {E0 : (Nat → Int32)} {U1 : Int32} {U2 : Int32} {U3 : Int32} {U4 : Int32} {U5 : Int32} {G0 : Int32} {G1 : (Nat → Int64)} {G2 : (Nat → Int32)} {G3 : (Nat → Int64)} {G4 : (Nat → Int32)} {B6 : (Nat → Int32)} {M0 : Int32} {M1 : (Nat → Int32)} {M2 : (Nat → Int32)} {M3 : (Nat → Int32)} {M4 : (Nat → Int32)} {M5 : (Nat → Int64)} {M6 : Int64} {M7 : Int32} {U0 : Int32} {N0 : (Nat → Int64)} {N1 : (Nat → Int32)} {N2 : (Nat → Int64)} {N3 : (Nat → Int32)} {nt k sn vn on g m : Nat} {rs rv ro : Nat → Nat}
theorem find_eq {N0 : Nat → Int64} {y3 : Int32} {gc : Nat} {key : Int64} (hF : F.2.2.2.2 = nI gc) (hy : y3 = nI gc) (hg : gc ≤ 40) (hN : ∀ j, j < gc → F.1 j = N0 j) : ∀ (n : Nat) (x : Int32) (i : Nat), x = nI i → i ≤ gc → gc < i + n → fX0_placeOf_loop F key n x = fX4_group_find N0 y3 key n x ∧ ∃ a : Nat, a ≤ gc ∧ fX4_group_find N0 y3 key n x = nI a := by
  intro n
  induction n with
  | zero => intro x i e hi hn; exact absurd hn (by omega)
  | succ n ih =>
    intro x i e hi hn
    rw [fX0_placeOf_loop, fX4_group_find]
    by_cases h1 : F.2.2.2.2 ≤ x
    · have h2 : y3 ≤ x := by rw [hy, ← hF]; exact h1
      rw [if_pos h1, if_pos h2]
      rw [hF, e, nI_leI (by omega) (by omega)] at h1
      have e2 : i = gc := by omega
      exact ⟨by rw [hF, e, e2], i, hi, e⟩
    · have h2 : ¬ y3 ≤ x := by rw [hy, ← hF]; exact h1
      rw [if_neg h1, if_neg h2]
      have h3 : i < gc := by
        rcases Nat.lt_or_ge i gc with z | z
        · exact z
        · exact absurd (by rw [hF, e]; exact nI_le z (by omega)) h1
      have h4 : F.1 x.toNatClampNeg = N0 x.toNatClampNeg := by rw [e, nI_clamp (by omega)]; exact hN i h3
      rw [h4]
      by_cases h5 : lg_cmp (N0 x.toNatClampNeg) key = 0
      · rw [if_pos h5, if_pos h5]; exact ⟨rfl, i, hi, e⟩
      · rw [if_neg h5, if_neg h5]
        exact ih _ (i + 1) (by rw [e]; exact nI_1 i) (by omega) (by omega)
theorem groupc {N0 : Nat → Int64} {N1 : Nat → Int32} {N2 : Nat → Int64} {N3 : Nat → Int32} {y : Int32} {c : Nat} (hy : y = nI c) (hc : c ≤ 40) : ∀ (n : Nat) (f1 : Nat → Int64) (f2 : Nat → Int32) (f3 : Nat → Int64) (f4 : Nat → Int32) (x : Int32) (i : Nat), x = nI i → i ≤ c → c ≤ i + n → (∀ j, j < i → f1 j = N0 j ∧ f2 j = N1 j ∧ f3 j = N2 j ∧ f4 j = N3 j) → ∀ j : Nat, j < c → (fX4_group_copy N0 N1 N2 N3 y n f1 f2 f3 f4 x).1 j = N0 j ∧ (fX4_group_copy N0 N1 N2 N3 y n f1 f2 f3 f4 x).2.1 j = N1 j ∧ (fX4_group_copy N0 N1 N2 N3 y n f1 f2 f3 f4 x).2.2.1 j = N2 j ∧ (fX4_group_copy N0 N1 N2 N3 y n f1 f2 f3 f4 x).2.2.2 j = N3 j := by
  intro n
  induction n with
  | zero =>
    intro f1 f2 f3 f4 x i e hi hn hf j hj
    exact hf j (by omega)
  | succ n ih =>
    intro f1 f2 f3 f4 x i e hi hn hf j hj
    rw [fX4_group_copy]
    by_cases h1 : y ≤ x
    · rw [if_pos h1]
      rw [hy, e, nI_leI (by omega) (by omega)] at h1
      exact hf j (by omega)
    · rw [if_neg h1]
      have h2 : i < c := by
        rcases Nat.lt_or_ge i c with z | z
        · exact z
        · exact absurd (by rw [hy, e]; exact nI_le z (by omega)) h1
      refine ih _ _ _ _ _ (i + 1) (by rw [e]; exact nI_1 i) (by omega) (by omega) (fun j2 hj2 => ?_) j hj
      rw [e, nI_clamp (by omega)]
      by_cases hji : j2 = i
      · subst hji; rw [pk_uLs, pk_us, pk_uLs, pk_us]; exact ⟨rfl, rfl, rfl, rfl⟩
      · rw [pk_uLn hji, pk_un hji, pk_uLn hji, pk_un hji]; exact hf j2 (by omega)
set_option maxHeartbeats 2000000 in
theorem group_eq {B : dB} {S : dS} {V : dV} {O : dO} {B5 K1 K2 K3 : Nat → Int32} {K4 : Nat → Int64} {nt k sn vn on L : Nat} {rs rv ro : Nat → Nat} {T0 : dT} {p1 : Int32} {p2 : Int32} (hB : dz_B B nt k) (hK : dz_K S V O sn vn on rs rv ro) (hM : mTab S V O K1 K2 K3 sn vn on) (hL : L ≤ 2000000) (h5 : ∀ j, j < k → B.2.2.2.2.2.1 j = B5 j) (hp : vp_in p1 sn) (hp2 : vp_in p2 sn) : ∀ (n : Nat) (F : dF) (N0 : Nat → Int64) (N1 : Nat → Int32) (N2 : Nat → Int64) (N3 : Nat → Int32) (S3 V3 : Nat → Int64) (T : dT) (E : Nat → Int32) (M0 : Int32) (M1 M2 M3 M4 : Nat → Int32) (M5 : Nat → Int64) (M6 : Int64) (M7 U0 U2 U3 : Int32) (x3 x4 x5 : Int32) (i : Nat) (c : dF × (Nat → Int64) × (Nat → Int64) × dT) (r : ((Nat → Int64) × (Nat → Int32) × (Nat → Int64) × (Nat → Int32) × (Nat → Int32) × Int32 × (Nat → Int32) × (Nat → Int32) × (Nat → Int32) × (Nat → Int32) × (Nat → Int64) × Int64 × Int32 × Int32 × Int32 × Int32 × Int32 × Int32)), x5 = nI i → i ≤ k → zL S V K4 sn vn L T0 (S3, V3, T) E M7 U0 U2 U3 x4 → (T.2.2.2.2.2 = 0 → ∃ gc : Nat, gc ≤ i ∧ F.2.2.2.2 = nI gc ∧ x3 = nI gc ∧ (∀ j, j < gc → F.1 j = N0 j ∧ F.2.1 j = N1 j ∧ F.2.2.1 j = N2 j ∧ F.2.2.2.1 j = N3 j)) → fX3_group_loop B S V p1 p2 n F S3 V3 T x5 = c → fX4_group_loop B.2.1 B.2.2.2.1 B.2.2.2.2.1 K1 K2 K3 K4 B5 p1 p2 n N0 N1 N2 N3 E M0 M1 M2 M3 M4 M5 M6 M7 U0 U2 U3 x3 x4 x5 = r → zL S V K4 sn vn L T0 (c.2.1, c.2.2.1, c.2.2.2) r.2.2.2.2.1 r.2.2.2.2.2.2.2.2.2.2.2.2.1 r.2.2.2.2.2.2.2.2.2.2.2.2.2.1 r.2.2.2.2.2.2.2.2.2.2.2.2.2.2.1 r.2.2.2.2.2.2.2.2.2.2.2.2.2.2.2.1 r.2.2.2.2.2.2.2.2.2.2.2.2.2.2.2.2.2 ∧ (c.2.2.2.2.2.2.2.2 = 0 → ∃ gc : Nat, gc ≤ k ∧ c.1.2.2.2.2 = nI gc ∧ r.2.2.2.2.2.2.2.2.2.2.2.2.2.2.2.2.1 = nI gc ∧ (∀ j, j < gc → c.1.1 j = r.1 j ∧ c.1.2.1 j = r.2.1 j ∧ c.1.2.2.1 j = r.2.2.1 j ∧ c.1.2.2.2.1 j = r.2.2.2.1 j)) := by
  intro n
  induction n with
  | zero =>
    intro F N0 N1 N2 N3 S3 V3 T E M0 M1 M2 M3 M4 M5 M6 M7 U0 U2 U3 x3 x4 x5 i c r e hi hz hx hc hr
    rw [fX3_group_loop] at hc; rw [fX4_group_loop] at hr
    subst hc; subst hr
    refine ⟨hz, fun y => ?_⟩
    obtain ⟨gc, a1, a2⟩ := hx y
    exact ⟨gc, Nat.le_trans a1 hi, a2⟩
  | succ n ih =>
    intro F N0 N1 N2 N3 S3 V3 T E M0 M1 M2 M3 M4 M5 M6 M7 U0 U2 U3 x3 x4 x5 i c r e hi hz hx hc hr
    rw [fX3_group_loop] at hc; rw [fX4_group_loop] at hr
    by_cases h1 : B.2.1 ≤ x5
    · rw [if_pos h1] at hc hr
      subst hc; subst hr
      refine ⟨hz, fun y => ?_⟩
      obtain ⟨gc, a1, a2⟩ := hx y
      exact ⟨gc, Nat.le_trans a1 hi, a2⟩
    rw [if_neg h1] at hc hr
    by_cases h2 : T.2.2.2.2.2 = 0
    case neg =>
      rw [if_neg (hf1 h2)] at hc
      rw [if_pos (zL_no hz h2)] at hr
      subst hc; subst hr
      exact ⟨hz, fun y => absurd y h2⟩
    rw [if_pos (hf0 h2)] at hc
    rw [if_neg (zL_1 hz h2)] at hr
    have hi2 := dz_lk hB e h1 hi
    have hk40 : k ≤ 40 := Nat.le_trans hB.2.1 hB.1
    have hl : B5 x5.toNatClampNeg = B.2.2.2.2.2.1 x5.toNatClampNeg := by
      rw [e, nI_clamp (by omega)]; exact (h5 i hi2).symm
    rw [hl] at hr
    have hli := dz_li hB e hi h1
    have e2 : x5 + 1 = nI (i + 1) := by rw [e]; exact nI_1 i
    generalize B.2.2.2.2.2.1 x5.toNatClampNeg = th at hc hr hli
    obtain ⟨t, g1, g2, g3, g4⟩ := ask_S (B3 := B.2.2.2.1) (B4 := B.2.2.2.2.1) (W := M1) (X := M2) (Y := M3) (G := M4) (Hd := M5) (tv := M6) (d := (S3, V3, T)) hK hM hB.1 hL hp hli h2 hz.1
    rw [fK_eq g1] at hr
    generalize hz9 : (zA B.2.2.2.1 B.2.2.2.2.1 S.1 S.2.1 S.2.2.1 V.1 V.2.1 V.2.2.1 73).1 (S3, V3, T) p1 th = z at hc g2 g3 g4
    have hk : kp T0 z.2.2.2 := kp_tr hz.2.2.2 (by rw [← hz9]; exact (kp_A 73).1 _ _ _)
    rw [zw_l] at hc hr
    by_cases h6 : z.2.2.2.2.2.2.2.2 = 0
    case neg =>
      have e5 : ¬ t.2.2.2.2.2.2.2.2.1 = 0 := fun y => h6 (g2.symm.trans y)
      rw [if_neg e5] at hr
      simp only [↓reduceIte] at hr
      have e6 := dead_S (ce := B.2.2.2.1) (rw := B.2.2.2.2.1) (sk := S.1) (sa := S.2.1) (sb := S.2.2.1) (vk := V.1) (va := V.2.1) (vb := V.2.2.1) (d := z.2) (i := p2) (t := th) h6 73
      generalize (zA B.2.2.2.1 B.2.2.2.2.1 S.1 S.2.1 S.2.2.1 V.1 V.2.1 V.2.2.1 73).1 z.2 p2 th = w at hc e6
      simp only [zw_l] at hc
      rw [e6] at hc
      exact ih _ _ _ _ _ _ _ _ _ _ _ _ _ _ _ _ _ _ _ _ _ _ _ (i + 1) c r e2 hi2 ⟨g4, g2, (if_neg h6).symm, hk⟩ (fun y => absurd y h6) hc hr
    have e5 := g2.trans h6
    rw [if_pos e5] at hr
    simp only [one0, ↓reduceIte] at hr
    obtain ⟨u, w1, w2, w3, w4⟩ := ask_S (B3 := B.2.2.2.1) (B4 := B.2.2.2.2.1) (W := t.2.2.1) (X := t.2.2.2.1) (Y := t.2.2.2.2.1) (G := t.2.2.2.2.2.1) (Hd := t.2.2.2.2.2.2.1) (tv := t.2.2.2.2.2.2.2.1) (d := z.2) hK hM hB.1 hL hp2 hli h6 g4
    rw [fK_eq w1] at hr
    generalize hz8 : (zA B.2.2.2.1 B.2.2.2.2.1 S.1 S.2.1 S.2.2.1 V.1 V.2.1 V.2.2.1 73).1 z.2 p2 th = w at hc w2 w3 w4
    have hk2 : kp T0 w.2.2.2 := kp_tr hk (by rw [← hz8]; exact (kp_A 73).1 _ _ _)
    simp only [zw_l] at hc hr
    by_cases h7 : w.2.2.2.2.2.2.2.2 = 0
    case neg =>
      have e7 : ¬ u.2.2.2.2.2.2.2.2.1 = 0 := fun y => h7 (w2.symm.trans y)
      rw [if_neg e7] at hr
      simp only [↓reduceIte] at hr
      exact ih _ _ _ _ _ _ _ _ _ _ _ _ _ _ _ _ _ _ _ _ _ _ _ (i + 1) c r e2 hi2 ⟨w4, w2, (if_neg h7).symm, hk2⟩ (fun y => absurd y h7) hc hr
    have e7 := w2.trans h7
    rw [if_pos e7] at hr
    simp only [one0, ↓reduceIte] at hr
    rw [g3 h6, w3 h7] at hr
    obtain ⟨gc, a1, a2, a3, a4⟩ := hx h2
    obtain ⟨f1, a, f2, f3⟩ := find_eq (key := z.1) a2 a3 (by omega) (fun j hj => (a4 j hj).1) 41 0 0 rfl (Nat.zero_le _) (by omega)
    have f4 : fX0_placeOf F z.1 = nI a := f1.trans f3
    rw [f3] at hr
    unfold fX0_add at hc
    rw [f4, a2] at hc
    rw [a3] at hr
    rw [nI_clamp (show a < 2 ^ 31 by omega)] at hc hr
    by_cases h8 : nI a = nI gc
    · rw [if_pos h8] at hc hr
      have h9 : a = gc := (nI_eq (by omega) (by omega)).mp h8
      refine ih _ _ _ _ _ _ _ _ _ _ _ _ _ _ _ _ _ _ _ _ _ _ _ (i + 1) c r e2 hi2 ⟨w4, w2, (if_pos h7).symm, hk2⟩ (fun _ => ⟨gc + 1, by omega, nI_1 gc, nI_1 gc, fun j hj => ?_⟩) hc hr
      dsimp only
      by_cases hj2 : j = a
      · subst hj2
        rw [pk_uLs, pk_uLs, pk_us, pk_us, pk_us, pk_us, pk_uLs, pk_uLs, pk_uLs, pk_uLs, pk_us, pk_us]
        exact ⟨rfl, rfl, rfl, rfl⟩
      · rw [pk_uLn hj2, pk_uLn hj2, pk_un hj2, pk_un hj2, pk_un hj2, pk_un hj2, pk_uLn hj2, pk_uLn hj2, pk_uLn hj2, pk_uLn hj2, pk_un hj2, pk_un hj2]
        exact a4 j (by omega)
    · rw [if_neg h8] at hc hr
      have h9 : a < gc := by
        rcases Nat.lt_or_ge a gc with y | y
        · exact y
        · exact absurd (by rw [show a = gc from by omega]) h8
      obtain ⟨-, b2, b3, -⟩ := a4 a h9
      refine ih _ _ _ _ _ _ _ _ _ _ _ _ _ _ _ _ _ _ _ _ _ _ _ (i + 1) c r e2 hi2 ⟨w4, w2, (if_pos h7).symm, hk2⟩ (fun _ => ⟨gc, by omega, rfl, rfl, fun j hj => ?_⟩) hc hr
      dsimp only
      by_cases hj2 : j = a
      · subst hj2
        rw [pk_us, pk_us, pk_uLs, pk_uLs, b2, b3]
        exact ⟨(a4 j hj).1, rfl, rfl, (a4 j hj).2.2.2⟩
      · rw [pk_un hj2, pk_un hj2, pk_uLn hj2, pk_uLn hj2]
        exact a4 j hj
set_option maxHeartbeats 1000000 in
theorem eqn_group (h : zRel B S V O G T B0 B1 B2 B3 B4 B5 K0 K1 K2 K3 K4 E0 U1 U2 U3 U4 U5 G0 G1 G2 G3 G4 nt k sn vn on g m rs rv ro) (hm : m + 2000 ≤ 2000000) {p1 : Int32} {p2 : Int32} {q : Int32 × Bool × dG × dF × (Nat → Int64) × (Nat → Int64) × dT} {r : Int32 × Int32 × (Nat → Int64) × (Nat → Int32) × (Nat → Int64) × (Nat → Int32) × (Nat → Int64) × (Nat → Int32) × (Nat → Int64) × (Nat → Int32) × (Nat → Int32) × Int32 × (Nat → Int32) × (Nat → Int32) × (Nat → Int32) × (Nat → Int32) × (Nat → Int64) × Int64 × Int32 × Int32 × Int32 × Int32 × Int32 × Int32 × Int32} (hq : fX3_group B S V G F T p1 p2 = q) (hr : fX4_group B1 B3 B4 B5 K0 K1 K2 K3 K4 E0 M0 M1 M2 M3 M4 M5 M6 M7 U0 U1 U2 U3 U4 U5 G0 G1 G2 G3 G4 N0 N1 N2 N3 p1 p2 = r) : q.1 = r.1 ∧ ∃ nt2 k2 sn2 vn2 on2 g2 m2 : Nat, ∃ rs2 rv2 ro2 : Nat → Nat, m2 ≤ m + 2000 ∧ zRel B (S.1, S.2.1, S.2.2.1, q.2.2.2.2.1, S.2.2.2.2) (V.1, V.2.1, V.2.2.1, q.2.2.2.2.2.1, V.2.2.2.2) O q.2.2.1 q.2.2.2.2.2.2 B0 B1 B2 B3 B4 B5 K0 K1 K2 K3 K4 r.2.2.2.2.2.2.2.2.2.2.1 r.2.2.2.2.2.2.2.2.2.2.2.2.2.2.2.2.2.2.2.2.2.2.1 r.2.2.2.2.2.2.2.2.2.2.2.2.2.2.2.2.2.2.2.2.1 r.2.2.2.2.2.2.2.2.2.2.2.2.2.2.2.2.2.2.2.2.2.1 r.2.2.2.2.2.2.2.2.2.2.2.2.2.2.2.2.2.2.2.2.2.2.2.1 r.2.2.2.2.2.2.2.2.2.2.2.2.2.2.2.2.2.2.2.2.2.2.2.2 r.2.1 r.2.2.1 r.2.2.2.1 r.2.2.2.2.1 r.2.2.2.2.2.1 nt2 k2 sn2 vn2 on2 g2 m2 rs2 rv2 ro2 := by
  obtain rfl := h.1.2.2.2.2.1
  obtain rfl := h.1.2.2.2.2.2.1
  obtain rfl := h.1.2.2.1
  unfold fX3_group at hq
  unfold fX4_group at hr
  by_cases h1 : fX1_has S p1 = 0
  · rw [if_pos h1] at hq
    rw [if_pos ((h.hasS p1).mp h1)] at hr
    subst hq; subst hr
    exact ⟨rfl, nt, k, sn, vn, on, g, m, rs, rv, ro, Nat.le_add_right _ _, h⟩
  rw [if_neg h1] at hq
  rw [if_neg (fun z => h1 ((h.hasS p1).mpr z))] at hr
  by_cases h2 : fX1_has S p2 = 0
  · rw [if_pos h2] at hq
    rw [if_pos ((h.hasS p2).mp h2)] at hr
    subst hq; subst hr
    exact ⟨rfl, nt, k, sn, vn, on, g, m, rs, rv, ro, Nat.le_add_right _ _, h⟩
  rw [if_neg h2] at hq
  rw [if_neg (fun z => h2 ((h.hasS p2).mpr z))] at hr
  by_cases hm3 : T.2.2.1 < 2000
  case neg =>
    rw [open0 hm3, zw_l, if_pos (show ((0 : Int32), T).1 = 0 from rfl)] at hq
    rw [if_neg (fun z => hm3 (by rw [h.2.2.1.2.2.1]; exact z))] at hr
    subst hq; subst hr
    exact ⟨rfl, nt, k, sn, vn, on, g, m, rs, rv, ro, Nat.le_add_right _ _, h⟩
  rw [open1 hm3, zw_l, if_neg (show ¬ ((1 : Int32), ((0, T.2.1, T.2.2.1, T.2.2.2.1, T.2.2.2.2.1, 0) : dT)).1 = 0 from (show ¬ (1 : Int32) = 0 from by decide))] at hq
  rw [if_pos (show U3 < 2000 by rw [← h.2.2.1.2.2.1]; exact hm3), zw_l] at hr
  have hs := sim_start (T := T) h.2.2.2.1 h.2.2.1.2.2.2.2.2 h.2.2.1.2.2.1 h.2.2.1.2.1 (x := T.2.2.2.1) (y := T.2.2.2.2.1)

  rw [zw_l] at hq
  have hk40 : k ≤ 40 := Nat.le_trans h.1.1.2.1 h.1.1.1
  generalize hc : fX3_group_loop B S V p1 p2 41 (fX0_clear F) S.2.2.2.1 V.2.2.2.1 ((1 : Int32), ((0, T.2.1, T.2.2.1, T.2.2.2.1, T.2.2.2.2.1, 0) : dT)).2 0 = c at hq
  generalize hc2 : fX4_group_loop B.2.1 B.2.2.2.1 B.2.2.2.2.1 K1 K2 K3 K4 B5 p1 p2 41 N0 N1 N2 N3 E0 M0 M1 M2 M3 M4 M5 M6 fX4_startsCall.1 fX4_startsCall.2 U2 U3 0 1 0 = r2 at hr
  obtain ⟨hz, hv⟩ := group_eq (T0 := (0, T.2.1, T.2.2.1, T.2.2.2.1, T.2.2.2.2.1, 0)) h.1.1 h.2.1.1 h.2.1.2.1 hm h.1.2.2.2.2.2.2 (dz_hasIn h1 h.2.1.1.2.2.2.1 h.2.1.1.1) (dz_hasIn h2 h.2.1.1.2.2.2.1 h.2.1.1.1) 41 _ _ _ _ _ _ _ _ _ _ _ _ _ _ _ _ _ _ _ _ _ _ _ 0 c r2 rfl (Nat.zero_le _) ⟨hs, rfl, rfl, kp_r⟩ (fun _ => ⟨0, Nat.zero_le _, rfl, rfl, (fun j hj => absurd hj (Nat.not_lt_zero j))⟩) hc hc2
  by_cases h5 : c.2.2.2.2.2.2.2.2 = 0
  · have e5 := hz.2.1.trans h5
    rw [zw_l, if_pos (hf0 h5)] at hq
    rw [zw_l, if_neg (zL_1 hz h5), zw_l, ends0 e5, zw_l] at hr
    obtain ⟨gc, a1, a2, a3, a4⟩ := hv h5
    subst hq; subst hr
    refine ⟨a2.trans a3.symm, nt, k, sn, vn, on, gc, rel_ok (d := (c.2.1, c.2.2.1, c.2.2.2)) (B9 := B) (G9 := c.1) h hz.1 hz.2.2.2 h.1 ⟨by omega, a2, a3, fun j hj => ?_⟩⟩
    have v := groupc (N0 := r2.1) (N1 := r2.2.1) (N2 := r2.2.2.1) (N3 := r2.2.2.2.1) a3 (by omega) 41 G1 G2 G3 G4 0 0 rfl (Nat.zero_le _) (by omega) (fun j hj => absurd hj (Nat.not_lt_zero j)) j hj
    have w := a4 j hj
    exact ⟨w.1.trans v.1.symm, w.2.1.trans v.2.1.symm, w.2.2.1.trans v.2.2.1.symm, w.2.2.2.trans v.2.2.2.symm⟩
  · have e5 : ¬ r2.2.2.2.2.2.2.2.2.2.2.2.2.1 = 0 := fun y => h5 (hz.2.1.symm.trans y)
    rw [zw_l, if_neg (hf1 h5), zw_l] at hq
    rw [zw_l, if_pos (zL_no hz h5), ends1 e5, zw_l] at hr
    subst hq; subst hr
    exact ⟨congrArg ((-10) - ·) hz.2.1.symm, nt, k, sn, vn, on, g, rel_fell (d := (c.2.1, c.2.2.1, c.2.2.2)) (B9 := B) h hz.1 hz.2.2.2 hz.2.1 h.1 h.2.2.2.2⟩
end ZY
