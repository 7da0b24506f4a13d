/-! scale -/
section ZW
variable {B : dB} {S : dS} {V : dV} {O : dO} {G : dG} {F : dF} {T : dT} {B0 : Int32} {B1 : Int32} {B2 : Int64} {B3 : (Nat → Int64)} {B4 : (Nat → Int64)} {B5 : (Nat → Int32)} {K0 : (Nat → Int32)} {K1 : (Nat → Int32)} {K2 : (Nat → Int32)} {K3 : (Nat → Int32)} {K4 : (Nat → Int64)} {E0 : (Nat → Int32)} {U1 : Int32} {U2 : Int32} {U3 : Int32} {U4 : Int32} {U5 : Int32} {G0 : Int32} {G1 : (Nat → Int64)} {G2 : (Nat → Int32)} {G3 : (Nat → Int64)} {G4 : (Nat → Int32)} {B6 : (Nat → Int32)} {M0 : Int32} {M1 : (Nat → Int32)} {M2 : (Nat → Int32)} {M3 : (Nat → Int32)} {M4 : (Nat → Int32)} {M5 : (Nat → Int64)} {M6 : Int64} {M7 : Int32} {U0 : Int32} {N0 : (Nat → Int64)} {N1 : (Nat → Int32)} {N2 : (Nat → Int64)} {N3 : (Nat → Int32)} {nt k sn vn on g m : Nat} {rs rv ro : Nat → Nat}
set_option maxHeartbeats 2000000 in
theorem eqn_scale (h : zRel B S V O G T B0 B1 B2 B3 B4 B5 K0 K1 K2 K3 K4 E0 U1 U2 U3 U4 U5 G0 G1 G2 G3 G4 nt k sn vn on g m rs rv ro) (hm : m + 2000 ≤ 2000000) {p1 : Int32} {p2 : Int32} {p3 : Int32} {q : Int32 × dS × (Nat → Int64) × dT} {r : Int32 × (Nat → Int32) × (Nat → Int32) × (Nat → Int32) × (Nat → Int32) × (Nat → Int64) × (Nat → Int32) × Int32 × (Nat → Int32) × (Nat → Int32) × (Nat → Int32) × (Nat → Int32) × (Nat → Int64) × Int64 × Int32 × Int32 × Int32 × Int32 × Int32 × Int32 × Int32} (hq : fX3_scale B S V T p1 p2 p3 = q) (hr : fX4_scale B0 B3 B4 K0 K1 K2 K3 K4 E0 M0 M1 M2 M3 M4 M5 M6 M7 U0 U1 U2 U3 U4 U5 p1 p2 p3 = r) : q.1 = r.1 ∧ ∃ nt2 k2 sn2 vn2 on2 g2 m2 : Nat, ∃ rs2 rv2 ro2 : Nat → Nat, m2 ≤ m + 2000 ∧ zRel B q.2.1 (V.1, V.2.1, V.2.2.1, q.2.2.1, V.2.2.2.2) O G q.2.2.2 B0 B1 B2 B3 B4 B5 r.2.1 r.2.2.1 r.2.2.2.1 r.2.2.2.2.1 r.2.2.2.2.2.1 r.2.2.2.2.2.2.1 r.2.2.2.2.2.2.2.2.2.2.2.2.2.2.2.2.2.2.1 r.2.2.2.2.2.2.2.2.2.2.2.2.2.2.2.2.1 r.2.2.2.2.2.2.2.2.2.2.2.2.2.2.2.2.2.1 r.2.2.2.2.2.2.2.2.2.2.2.2.2.2.2.2.2.2.2.1 r.2.2.2.2.2.2.2.2.2.2.2.2.2.2.2.2.2.2.2.2 G0 G1 G2 G3 G4 nt2 k2 sn2 vn2 on2 g2 m2 rs2 rv2 ro2 := by
  obtain rfl := h.1.2.2.2.2.1
  obtain rfl := h.1.2.2.2.2.2.1
  have hK := h.2.1.1
  have e0 : K0 (0 : Int32).toNatClampNeg = nI sn := h.2.1.2.2.1
  unfold fX3_scale at hq
  unfold fX4_scale at hr
  rw [zw_l] at hr
  by_cases h1 : fX3_canMakeScale B S V p1 p2 p3 = 0
  · rw [if_pos h1] at hq
    rw [if_pos ((canS h p1 p2 p3).mp h1)] at hr
    subst hq; subst hr
    exact ⟨rfl, nt, k, sn, vn, on, g, m, rs, rv, ro, Nat.le_add_right _ _, h⟩
  rw [if_neg h1] at hq
  rw [if_neg (fun z => h1 ((canS h p1 p2 p3).mpr z))] at hr
  rw [e0] at hr
  by_cases h2 : fX1_isFull S = 0
  case neg =>
    rw [if_neg h2] at hq
    rw [if_pos (Classical.not_not.mp (fun z => h2 ((full_iff hK.2.2.2.1 hK.1).mpr z)))] at hr
    subst hq; subst hr
    exact ⟨rfl, nt, k, sn, vn, on, g, m, rs, rv, ro, Nat.le_add_right _ _, h⟩
  have h3 := (full_iff hK.2.2.2.1 hK.1).mp h2
  have hlt := (dz_notFull h2 hK.2.2.2.1 hK.1).1
  rw [if_pos h2] at hq
  rw [if_neg h3] at hr
  have cv := cond_S h h1
  by_cases h9 : p1 = 9
  case neg =>
    rw [if_neg h9] at hq
    rw [if_neg h9, if_neg h9] at hr
    by_cases h8 : p1 = 8
    · rw [if_pos h8] at hq hr
      rw [make_eq hK.2.2.2.1 hlt] at hq
      rw [made_eq (s := 0) (so := 0) rfl (by decide) h.2.1.2.2.1 hlt] at hr
      rw [zw_l] at hq hr
      subst hq; subst hr
      exact ⟨rfl, nt, k, sn + 1, vn, on, g, m, updN rs sn (sn + vn + on), rv, ro, Nat.le_add_right _ _, rel_S h hlt cv.1 cv.2 (fun z => absurd (h8.symm.trans z) (by decide))⟩
    · rw [if_neg h8] at hq hr
      rw [make_eq hK.2.2.2.1 hlt] at hq
      rw [made_eq (s := 0) (so := 0) rfl (by decide) h.2.1.2.2.1 hlt] at hr
      rw [zw_l] at hq hr
      subst hq; subst hr
      exact ⟨rfl, nt, k, sn + 1, vn, on, g, m, updN rs sn (sn + vn + on), rv, ro, Nat.le_add_right _ _, rel_S h hlt cv.1 cv.2 (fun _ => rfl)⟩
  subst h9
  have c9 := dz_can9 h1 rfl
  rw [if_pos (show (9 : Int32) = 9 from rfl)] at hq
  rw [if_pos (show (9 : Int32) = 9 from rfl)] at hr
  obtain ⟨v, hq2⟩ : ∃ v, fX3_makeNow B S V T p2 p3 = v := ⟨_, rfl⟩
  rw [hq2, zw_l] at hq
  unfold fX3_makeNow at hq2
  by_cases hm3 : T.2.2.1 < 2000
  case neg =>
    rw [open0 hm3, zw_l, if_pos (show ((0 : Int32), T).1 = 0 from rfl)] at hq2
    rw [if_neg (fun z => hm3 (by rw [h.2.2.1.2.2.1]; exact z))] at hr
    subst hq2
    subst hq; subst hr
    exact ⟨rfl, nt, k, sn, vn, on, g, m, rs, rv, ro, Nat.le_add_right _ _, h⟩
  rw [open1 hm3, zw_l, if_neg (show ¬ ((1 : Int32), ((0, T.2.1, T.2.2.1, T.2.2.2.1, T.2.2.2.2.1, 0) : dT)).1 = 0 from (show ¬ (1 : Int32) = 0 from by decide))] at hq2
  rw [if_pos (show U3 < 2000 by rw [← h.2.2.1.2.2.1]; exact hm3), if_pos (show (9 : Int32) = 9 from rfl), zw_l] at hr
  have hs := sim_start (T := T) h.2.2.2.1 h.2.2.1.2.2.2.2.2 h.2.2.1.2.2.1 h.2.2.1.2.1 (x := T.2.2.2.1) (y := T.2.2.2.2.1)
  have hs0 : mSim S V K4 sn vn (m + 2000) (S.2.2.2.1, V.2.2.2.1, ((1 : Int32), ((0, T.2.1, T.2.2.1, T.2.2.2.1, T.2.2.2.2.1, 0) : dT)).2) E0 fX4_startsCall.2 U2 U3 := hs
  obtain ⟨t, g1, g2, g3, g4⟩ := ask_S (B3 := B.2.2.2.1) (B4 := B.2.2.2.2.1) (W := M1) (X := M2) (Y := M3) (G := M4) (Hd := M5) (tv := M6) (d := (S.2.2.2.1, V.2.2.2.1, ((1 : Int32), ((0, T.2.1, T.2.2.1, T.2.2.2.1, T.2.2.2.2.1, 0) : dT)).2)) h.2.1.1 h.2.1.2.1 h.1.1.1 hm (dz_hasIn c9.1 h.2.1.1.2.2.2.1 h.2.1.1.1) (dz_thingIn c9.2 h.1.1.2.2.1 h.1.1.1) rfl hs0
  generalize hz : (zA B.2.2.2.1 B.2.2.2.2.1 S.1 S.2.1 S.2.2.1 V.1 V.2.1 V.2.2.1 73).1 (S.2.2.2.1, V.2.2.2.1, ((1 : Int32), ((0, T.2.1, T.2.2.1, T.2.2.2.1, T.2.2.2.2.1, 0) : dT)).2) p2 p3 = z at hq2 g2 g3 g4
  have hk : kp (0, T.2.1, T.2.2.1, T.2.2.2.1, T.2.2.2.2.1, 0) z.2.2.2 := by rw [← hz]; exact (kp_A 73).1 _ _ _
  have hu := fK_eq g1
  by_cases h5 : z.2.2.2.2.2.2.2.2 = 0
  · have e5 := g2.trans h5
    rw [zw_l, if_pos (hf0 h5), make_eq (S := (S.1, S.2.1, S.2.2.1, z.2.1, S.2.2.2.2)) hK.2.2.2.1 hlt, zw_l] at hq2
    rw [if_pos e5] at hu
    rw [hu, zw_l, ends0 (show ((1 : Int32), t).2.2.2.2.2.2.2.2.2.1 = 0 from e5), zw_l, if_pos (show (0 : Int32) ≤ 1 from by decide), made_eq (s := 0) (so := 0) rfl (by decide) h.2.1.2.2.1 hlt, zw_l, show ((1 : Int32), t).2.2.2.2.2.2.2.2.1 = z.1 from g3 h5] at hr
    obtain ⟨m2, rs2, rv2, ro2, hm2, h9⟩ := rel_ok (d := z.2) (B9 := B) h g4 hk h.1 h.2.2.2.2
    subst hq2; subst hq; subst hr
    exact ⟨rfl, nt, k, sn + 1, vn, on, g, m2, updN rs2 sn (sn + vn + on), rv2, ro2, hm2, rel_S h9 hlt cv.1 cv.2 (fun z => absurd z (by decide))⟩
  · have e5 : ¬ t.2.2.2.2.2.2.2.2.1 = 0 := fun y => h5 (g2.symm.trans y)
    have hneg : ¬ (0 : Int32) ≤ (-10) - t.2.2.2.2.2.2.2.2.1 := by
      rw [g2]
      rcases hk.2.2 (Or.inl rfl) with y | y | y | y | y
      · exact absurd y h5
      · rw [show z.2.2.2.2.2.2.2.2 = 1 from y]; decide
      · rw [show z.2.2.2.2.2.2.2.2 = 2 from y]; decide
      · rw [show z.2.2.2.2.2.2.2.2 = 3 from y]; decide
      · rw [show z.2.2.2.2.2.2.2.2 = 4 from y]; decide
    rw [zw_l, if_neg (hf1 h5), zw_l] at hq2
    rw [if_neg e5] at hu
    rw [hu, zw_l, ends1 (show ¬ ((0 : Int32), t).2.2.2.2.2.2.2.2.2.1 = 0 from e5), zw_l, if_neg (fun y => hneg y)] at hr
    subst hq2; subst hq; subst hr
    exact ⟨congrArg ((-10) - ·) g2.symm, nt, k, sn, vn, on, g, rel_fell (d := z.2) (B9 := B) h g4 hk g2 h.1 h.2.2.2.2⟩
end ZW
