/-! the calls that ask: tell, sum, sift -/
section ZV
variable {B : dB} {S : dS} {V : dV} {O : dO} {G : dG} {F : dF} {T : dT} {B0 : Int32} {B1 : Int32} {B2 : Int64} {B3 : (Nat → Int64)} {B4 : (Nat → Int64)} {B5 : (Nat → Int32)} {K0 : (Nat → Int32)} {K1 : (Nat → Int32)} {K2 : (Nat → Int32)} {K3 : (Nat → Int32)} {K4 : (Nat → Int64)} {E0 : (Nat → Int32)} {U1 : Int32} {U2 : Int32} {U3 : Int32} {U4 : Int32} {U5 : Int32} {G0 : Int32} {G1 : (Nat → Int64)} {G2 : (Nat → Int32)} {G3 : (Nat → Int64)} {G4 : (Nat → Int32)} {B6 : (Nat → Int32)} {M0 : Int32} {M1 : (Nat → Int32)} {M2 : (Nat → Int32)} {M3 : (Nat → Int32)} {M4 : (Nat → Int32)} {M5 : (Nat → Int64)} {M6 : Int64} {M7 : Int32} {U0 : Int32} {N0 : (Nat → Int64)} {N1 : (Nat → Int32)} {N2 : (Nat → Int64)} {N3 : (Nat → Int32)} {nt k sn vn on g m : Nat} {rs rv ro : Nat → Nat}
theorem rel_after (h : zRel B S V O G T B0 B1 B2 B3 B4 B5 K0 K1 K2 K3 K4 E0 U1 U2 U3 U4 U5 G0 G1 G2 G3 G4 nt k sn vn on g m rs rv ro) {d : dY} {E : Nat → Int32} {a9 ev mt : Int32} {B9 : dB} {b1 : Int32} {b2 : Int64} {b5 : Nat → Int32} {k9 : Nat} {G9 : dG} {c0 : Int32} {c1 : Nat → Int64} {c2 : Nat → Int32} {c3 : Nat → Int64} {c4 : Nat → Int32} {g9 : Nat} {u3 u4 u5 : Int32} {T2 : dT} (hs : mSim S V K4 sn vn (m + 2000) d E a9 ev mt) (hB : dz_B B9 nt k9 ∧ B9.1 = B0 ∧ B9.2.1 = b1 ∧ B9.2.2.1 = b2 ∧ B9.2.2.2.1 = B3 ∧ B9.2.2.2.2.1 = B4 ∧ ∀ j, j < k9 → B9.2.2.2.2.2.1 j = b5 j) (hG : g9 ≤ 40 ∧ G9.2.2.2.2 = nI g9 ∧ c0 = nI g9 ∧ (∀ j, j < g9 → G9.1 j = c1 j ∧ G9.2.1 j = c2 j ∧ G9.2.2.1 j = c3 j ∧ G9.2.2.2.1 j = c4 j)) (t1 : T2.1 = a9) (t2 : T2.2.1 = ev) (t3 : T2.2.2.1 = u3) (t4 : T2.2.2.2.1 = u4) (t5 : T2.2.2.2.2.1 = u5) : ∃ m2 : Nat, ∃ rs2 rv2 ro2 : Nat → Nat, m2 ≤ m + 2000 ∧ zRel B9 (S.1, S.2.1, S.2.2.1, d.1, S.2.2.2.2) (V.1, V.2.1, V.2.2.1, d.2.1, V.2.2.2.2) O G9 T2 B0 b1 b2 B3 B4 b5 K0 K1 K2 K3 K4 E a9 ev u3 u4 u5 c0 c1 c2 c3 c4 nt k9 sn vn on g9 m2 rs2 rv2 ro2 := by
  obtain ⟨-, -, -, m2, h1, h2, h3⟩ := sim_end hs
  exact ⟨m2, rs, rv, ro, h1, hB, h.2.1, ⟨t1, t2, t3, t4, t5, h2⟩, h3, hG⟩
theorem rel_ok (h : zRel B S V O G T B0 B1 B2 B3 B4 B5 K0 K1 K2 K3 K4 E0 U1 U2 U3 U4 U5 G0 G1 G2 G3 G4 nt k sn vn on g m rs rv ro) {d : dY} {E : Nat → Int32} {a9 ev mt : Int32} {B9 : dB} {b1 : Int32} {b2 : Int64} {b5 : Nat → Int32} {k9 : Nat} {G9 : dG} {c0 : Int32} {c1 : Nat → Int64} {c2 : Nat → Int32} {c3 : Nat → Int64} {c4 : Nat → Int32} {g9 : Nat} (hs : mSim S V K4 sn vn (m + 2000) d E a9 ev mt) (hk : kp (0, T.2.1, T.2.2.1, T.2.2.2.1, T.2.2.2.2.1, 0) d.2.2) (hB : dz_B B9 nt k9 ∧ B9.1 = B0 ∧ B9.2.1 = b1 ∧ B9.2.2.1 = b2 ∧ B9.2.2.2.1 = B3 ∧ B9.2.2.2.2.1 = B4 ∧ ∀ j, j < k9 → B9.2.2.2.2.2.1 j = b5 j) (hG : g9 ≤ 40 ∧ G9.2.2.2.2 = nI g9 ∧ c0 = nI g9 ∧ (∀ j, j < g9 → G9.1 j = c1 j ∧ G9.2.1 j = c2 j ∧ G9.2.2.1 j = c3 j ∧ G9.2.2.2.1 j = c4 j)) : ∃ m2 : Nat, ∃ rs2 rv2 ro2 : Nat → Nat, m2 ≤ m + 2000 ∧ zRel B9 (S.1, S.2.1, S.2.2.1, d.1, S.2.2.2.2) (V.1, V.2.1, V.2.2.1, d.2.1, V.2.2.2.2) O G9 d.2.2 B0 b1 b2 B3 B4 b5 K0 K1 K2 K3 K4 E a9 ev mt U4 U5 c0 c1 c2 c3 c4 nt k9 sn vn on g9 m2 rs2 rv2 ro2 :=
  rel_after h hs hB hG hs.1 hs.2.1 hs.2.2.1 (hk.1.trans h.2.2.1.2.2.2.1) (hk.2.1.trans h.2.2.1.2.2.2.2.1)
theorem rel_fell (h : zRel B S V O G T B0 B1 B2 B3 B4 B5 K0 K1 K2 K3 K4 E0 U1 U2 U3 U4 U5 G0 G1 G2 G3 G4 nt k sn vn on g m rs rv ro) {d : dY} {E : Nat → Int32} {a9 ev mt : Int32} {B9 : dB} {b1 : Int32} {b2 : Int64} {b5 : Nat → Int32} {k9 : Nat} {G9 : dG} {c0 : Int32} {c1 : Nat → Int64} {c2 : Nat → Int32} {c3 : Nat → Int64} {c4 : Nat → Int32} {g9 : Nat} (hs : mSim S V K4 sn vn (m + 2000) d E a9 ev mt) (hk : kp (0, T.2.1, T.2.2.1, T.2.2.2.1, T.2.2.2.2.1, 0) d.2.2) {u5 : Int32} (e5 : u5 = d.2.2.2.2.2.2.2) (hB : dz_B B9 nt k9 ∧ B9.1 = B0 ∧ B9.2.1 = b1 ∧ B9.2.2.1 = b2 ∧ B9.2.2.2.1 = B3 ∧ B9.2.2.2.2.1 = B4 ∧ ∀ j, j < k9 → B9.2.2.2.2.2.1 j = b5 j) (hG : g9 ≤ 40 ∧ G9.2.2.2.2 = nI g9 ∧ c0 = nI g9 ∧ (∀ j, j < g9 → G9.1 j = c1 j ∧ G9.2.1 j = c2 j ∧ G9.2.2.1 j = c3 j ∧ G9.2.2.2.1 j = c4 j)) : ∃ m2 : Nat, ∃ rs2 rv2 ro2 : Nat → Nat, m2 ≤ m + 2000 ∧ zRel B9 (S.1, S.2.1, S.2.2.1, d.1, S.2.2.2.2) (V.1, V.2.1, V.2.2.1, d.2.1, V.2.2.2.2) O G9 (fX2_endFailedCall d.2.2).2 B0 b1 b2 B3 B4 b5 K0 K1 K2 K3 K4 E a9 ev (mt + 1) (U4 + 1) u5 c0 c1 c2 c3 c4 nt k9 sn vn on g9 m2 rs2 rv2 ro2 :=
  rel_after h hs hB hG hs.1 hs.2.1 (congrArg (· + 1) hs.2.2.1) (congrArg (· + 1) (hk.1.trans h.2.2.1.2.2.2.1)) e5.symm
set_option maxHeartbeats 1000000 in
theorem eqn_tell (h : zRel B S V O G T B0 B1 B2 B3 B4 B5 K0 K1 K2 K3 K4 E0 U1 U2 U3 U4 U5 G0 G1 G2 G3 G4 nt k sn vn on g m rs rv ro) (hm : m + 2000 ≤ 2000000) {p1 : Int32} {p2 : Int32} {q : Int32 × Int64 × (Nat → Int64) × (Nat → Int64) × dT} {r : Int32 × Int64 × (Nat → Int32) × Int32 × (Nat → Int32) × (Nat → Int32) × (Nat → Int32) × (Nat → Int32) × (Nat → Int64) × Int64 × Int32 × Int32 × Int32 × Int32 × Int32 × Int32 × Int32} (hq : fX3_tell B S V T p1 p2 = q) (hr : fX4_tell B0 B2 B3 B4 K0 K1 K2 K3 K4 E0 M0 M1 M2 M3 M4 M5 M6 M7 U0 U1 U2 U3 U4 U5 p1 p2 = r) : q.1 = r.1 ∧ ∃ nt2 k2 sn2 vn2 on2 g2 m2 : Nat, ∃ rs2 rv2 ro2 : Nat → Nat, m2 ≤ m + 2000 ∧ zRel (B.1, B.2.1, q.2.1, B.2.2.2.1, B.2.2.2.2.1, B.2.2.2.2.2.1, B.2.2.2.2.2.2) (S.1, S.2.1, S.2.2.1, q.2.2.1, S.2.2.2.2) (V.1, V.2.1, V.2.2.1, q.2.2.2.1, V.2.2.2.2) O G q.2.2.2.2 B0 B1 r.2.1 B3 B4 B5 K0 K1 K2 K3 K4 r.2.2.1 r.2.2.2.2.2.2.2.2.2.2.2.2.2.2.1 r.2.2.2.2.2.2.2.2.2.2.2.2.1 r.2.2.2.2.2.2.2.2.2.2.2.2.2.1 r.2.2.2.2.2.2.2.2.2.2.2.2.2.2.2.1 r.2.2.2.2.2.2.2.2.2.2.2.2.2.2.2.2 G0 G1 G2 G3 G4 nt2 k2 sn2 vn2 on2 g2 m2 rs2 rv2 ro2 := by
  obtain rfl := h.1.2.2.2.2.1
  obtain rfl := h.1.2.2.2.2.2.1
  unfold fX3_tell at hq
  unfold fX4_tell at hr
  by_cases h1 : fX1_has S p1 = 0
  · rw [if_pos h1] at hq
    rw [if_pos ((h.hasS p1).mp h1)] at hr
    subst hq; subst hr
    exact ⟨rfl, nt, k, sn, vn, on, g, m, rs, rv, ro, Nat.le_add_right _ _, h⟩
  rw [if_neg h1] at hq
  rw [if_neg (fun z => h1 ((h.hasS p1).mpr z))] at hr
  by_cases h2 : fX3_isThing B p2 = 0
  · rw [if_pos h2] at hq
    rw [if_pos ((h.thing p2).mp h2)] at hr
    subst hq; subst hr
    exact ⟨rfl, nt, k, sn, vn, on, g, m, rs, rv, ro, Nat.le_add_right _ _, h⟩
  rw [if_neg h2] at hq
  rw [if_neg (fun z => h2 ((h.thing p2).mpr z))] at hr
  by_cases hm3 : T.2.2.1 < 2000
  case neg =>
    rw [open0 hm3, zw_l, if_pos (show ((0 : Int32), T).1 = 0 from rfl)] at hq
    rw [if_neg (fun z => hm3 (by rw [h.2.2.1.2.2.1]; exact z))] at hr
    subst hq; subst hr
    exact ⟨rfl, nt, k, sn, vn, on, g, m, rs, rv, ro, Nat.le_add_right _ _, h⟩
  rw [open1 hm3, zw_l, if_neg (show ¬ ((1 : Int32), ((0, T.2.1, T.2.2.1, T.2.2.2.1, T.2.2.2.2.1, 0) : dT)).1 = 0 from (show ¬ (1 : Int32) = 0 from by decide))] at hq
  rw [if_pos (show U3 < 2000 by rw [← h.2.2.1.2.2.1]; exact hm3), zw_l] at hr
  have hs := sim_start (T := T) h.2.2.2.1 h.2.2.1.2.2.2.2.2 h.2.2.1.2.2.1 h.2.2.1.2.1 (x := T.2.2.2.1) (y := T.2.2.2.2.1)

  have hs0 : mSim S V K4 sn vn (m + 2000) (S.2.2.2.1, V.2.2.2.1, ((1 : Int32), ((0, T.2.1, T.2.2.1, T.2.2.2.1, T.2.2.2.2.1, 0) : dT)).2) E0 fX4_startsCall.2 U2 U3 := hs
  obtain ⟨t, g1, g2, g3, g4⟩ := ask_S (B3 := B.2.2.2.1) (B4 := B.2.2.2.2.1) (W := M1) (X := M2) (Y := M3) (G := M4) (Hd := M5) (tv := M6) (d := (S.2.2.2.1, V.2.2.2.1, ((1 : Int32), ((0, T.2.1, T.2.2.1, T.2.2.2.1, T.2.2.2.2.1, 0) : dT)).2)) h.2.1.1 h.2.1.2.1 h.1.1.1 hm (dz_hasIn h1 h.2.1.1.2.2.2.1 h.2.1.1.1) (dz_thingIn h2 h.1.1.2.2.1 h.1.1.1) rfl hs0
  generalize hz : (zA B.2.2.2.1 B.2.2.2.2.1 S.1 S.2.1 S.2.2.1 V.1 V.2.1 V.2.2.1 73).1 (S.2.2.2.1, V.2.2.2.1, ((1 : Int32), ((0, T.2.1, T.2.2.1, T.2.2.2.1, T.2.2.2.2.1, 0) : dT)).2) p1 p2 = z at hq g2 g3 g4
  have hk : kp (0, T.2.1, T.2.2.1, T.2.2.2.1, T.2.2.2.2.1, 0) z.2.2.2 := by rw [← hz]; exact (kp_A 73).1 _ _ _
  have hu := fK_eq g1
  by_cases h5 : z.2.2.2.2.2.2.2.2 = 0
  · have e5 := g2.trans h5
    rw [zw_l, if_pos (hf0 h5)] at hq
    rw [if_pos e5] at hu
    rw [hu, zw_l, if_neg (show ¬ ((1 : Int32), t).1 = 0 from (show ¬ (1 : Int32) = 0 from by decide)), ends0 (show ((1 : Int32), t).2.2.2.2.2.2.2.2.2.1 = 0 from e5), zw_l] at hr
    subst hq; subst hr
    exact ⟨rfl, nt, k, sn, vn, on, g, rel_ok (d := z.2) (B9 := (B.1, B.2.1, z.1, B.2.2.2.1, B.2.2.2.2.1, B.2.2.2.2.2.1, B.2.2.2.2.2.2)) h g4 hk ⟨h.1.1, h.1.2.1, h.1.2.2.1, (g3 h5).symm, rfl, rfl, h.1.2.2.2.2.2.2⟩ h.2.2.2.2⟩
  · have e5 : ¬ t.2.2.2.2.2.2.2.2.1 = 0 := fun y => h5 (g2.symm.trans y)
    rw [zw_l, if_neg (hf1 h5), zw_l] at hq
    rw [if_neg e5] at hu
    rw [hu, zw_l, if_pos (show ((0 : Int32), t).1 = 0 from rfl), ends1 (show ¬ ((0 : Int32), t).2.2.2.2.2.2.2.2.2.1 = 0 from e5), zw_l] at hr
    subst hq; subst hr
    exact ⟨congrArg ((-10) - ·) g2.symm, nt, k, sn, vn, on, g, rel_fell (d := z.2) (B9 := B) h g4 hk g2 h.1 h.2.2.2.2⟩
/-- class and reference between two turns of a loop that asks -/
def zL (S : dS) (V : dV) (K4 : Nat → Int64) (sn vn L : Nat) (T0 : dT) (d : dY) (E : Nat → Int32) (sd a ev mt go : Int32) : Prop := mSim S V K4 sn vn L d E a ev mt ∧ sd = d.2.2.2.2.2.2.2 ∧ go = (if d.2.2.2.2.2.2.2 = 0 then 1 else 0) ∧ kp T0 d.2.2
theorem zL_go {L : Nat} {T0 : dT} {d : dY} {E : Nat → Int32} {sd a ev mt go : Int32} (h : zL S V K4 sn vn L T0 d E sd a ev mt go) (h0 : d.2.2.2.2.2.2.2 = 0) : go = 1 := h.2.2.1.trans (if_pos h0)
theorem zL_no {L : Nat} {T0 : dT} {d : dY} {E : Nat → Int32} {sd a ev mt go : Int32} (h : zL S V K4 sn vn L T0 d E sd a ev mt go) (h0 : ¬ d.2.2.2.2.2.2.2 = 0) : go = 0 := h.2.2.1.trans (if_neg h0)
theorem zL_1 {L : Nat} {T0 : dT} {d : dY} {E : Nat → Int32} {sd a ev mt go : Int32} (h : zL S V K4 sn vn L T0 d E sd a ev mt go) (h0 : d.2.2.2.2.2.2.2 = 0) : ¬ go = 0 := by rw [zL_go h h0]; decide

set_option maxHeartbeats 1000000 in
theorem sum_eq {B : dB} {S : dS} {V : dV} {O : dO} {B5 K1 K2 K3 : Nat → Int32} {K4 : Nat → Int64} {nt k sn vn on L : Nat} {rs rv ro : Nat → Nat} {T0 : dT} {p1 : Int32} (hB : dz_B B nt k) (hK : dz_K S V O sn vn on rs rv ro) (hM : mTab S V O K1 K2 K3 sn vn on) (hL : L ≤ 2000000) (h5 : ∀ j, j < k → B.2.2.2.2.2.1 j = B5 j) (hp : vp_in p1 sn) : ∀ (n : Nat) (S3 V3 : Nat → Int64) (T : dT) (E : Nat → Int32) (M0 : Int32) (M1 M2 M3 M4 : Nat → Int32) (M5 : Nat → Int64) (M6 : Int64) (M7 U0 U2 U3 : Int32) (x2 y2 : Int64) (x4 x5 : Int32) (i : Nat) (c : (Nat → Int64) × (Nat → Int64) × dT × Int64) (r : (Nat → Int32) × Int32 × (Nat → Int32) × (Nat → Int32) × (Nat → Int32) × (Nat → Int32) × (Nat → Int64) × Int64 × Int32 × Int32 × Int32 × Int32 × Int64 × Int32), x5 = nI i → i ≤ k → zL S V K4 sn vn L T0 (S3, V3, T) E M7 U0 U2 U3 x4 → (T.2.2.2.2.2 = 0 → x2 = y2) → fX3_sum_loop B S V p1 n S3 V3 T x2 x5 = c → fX4_sum_loop B.2.1 B.2.2.2.1 B.2.2.2.2.1 K1 K2 K3 K4 B5 p1 n E M0 M1 M2 M3 M4 M5 M6 M7 U0 U2 U3 y2 x4 x5 = r → zL S V K4 sn vn L T0 (c.1, c.2.1, c.2.2.1) r.1 r.2.2.2.2.2.2.2.2.1 r.2.2.2.2.2.2.2.2.2.1 r.2.2.2.2.2.2.2.2.2.2.1 r.2.2.2.2.2.2.2.2.2.2.2.1 r.2.2.2.2.2.2.2.2.2.2.2.2.2 ∧ (c.2.2.1.2.2.2.2.2 = 0 → c.2.2.2 = r.2.2.2.2.2.2.2.2.2.2.2.2.1) := by
  intro n
  induction n with
  | zero =>
    intro S3 V3 T E M0 M1 M2 M3 M4 M5 M6 M7 U0 U2 U3 x2 y2 x4 x5 i c r e hi hz hx hc hr
    rw [fX3_sum_loop] at hc; rw [fX4_sum_loop] at hr
    subst hc; subst hr
    exact ⟨hz, hx⟩
  | succ n ih =>
    intro S3 V3 T E M0 M1 M2 M3 M4 M5 M6 M7 U0 U2 U3 x2 y2 x4 x5 i c r e hi hz hx hc hr
    rw [fX3_sum_loop] at hc; rw [fX4_sum_loop] at hr
    by_cases h1 : B.2.1 ≤ x5
    · rw [if_pos h1] at hc hr
      subst hc; subst hr
      exact ⟨hz, hx⟩
    rw [if_neg h1] at hc hr
    by_cases h2 : T.2.2.2.2.2 = 0
    case neg =>
      rw [if_neg (hf1 h2)] at hc
      rw [if_pos (zL_no hz h2)] at hr
      subst hc; subst hr
      exact ⟨hz, hx⟩
    rw [if_pos (hf0 h2)] at hc
    rw [if_neg (zL_1 hz h2)] at hr
    have hi2 := dz_lk hB e h1 hi
    have hl : B5 x5.toNatClampNeg = B.2.2.2.2.2.1 x5.toNatClampNeg := by
      rw [e, nI_clamp (by have := hB.1; have := hB.2.1; omega)]; exact (h5 i hi2).symm
    rw [hl] at hr
    obtain ⟨t, g1, g2, g3, g4⟩ := ask_S (B3 := B.2.2.2.1) (B4 := B.2.2.2.2.1) (W := M1) (X := M2) (Y := M3) (G := M4) (Hd := M5) (tv := M6) (d := (S3, V3, T)) hK hM hB.1 hL hp (dz_li hB e hi h1) h2 hz.1
    simp only [zw_l] at hc hr
    rw [fK_eq g1] at hr
    generalize hz9 : (zA B.2.2.2.1 B.2.2.2.2.1 S.1 S.2.1 S.2.2.1 V.1 V.2.1 V.2.2.1 73).1 (S3, V3, T) p1 (B.2.2.2.2.2.1 x5.toNatClampNeg) = z at hc g2 g3 g4
    have hk : kp T0 z.2.2.2 := kp_tr hz.2.2.2 (by rw [← hz9]; exact (kp_A 73).1 _ _ _)
    have e2 : x5 + 1 = nI (i + 1) := by rw [e]; exact nI_1 i
    by_cases h6 : z.2.2.2.2.2.2.2.2 = 0
    · have e5 := g2.trans h6
      rw [if_pos e5] at hr
      simp only [one0, ↓reduceIte] at hr
      exact ih _ _ _ _ _ _ _ _ _ _ _ _ _ _ _ _ _ _ _ (i + 1) c r e2 hi2 ⟨g4, g2, (if_pos h6).symm, hk⟩ (fun _ => by rw [hx h2, g3 h6]) hc hr
    · have e5 : ¬ t.2.2.2.2.2.2.2.2.1 = 0 := fun y => h6 (g2.symm.trans y)
      rw [if_neg e5] at hr
      simp only [↓reduceIte] at hr
      exact ih _ _ _ _ _ _ _ _ _ _ _ _ _ _ _ _ _ _ _ (i + 1) c r e2 hi2 ⟨g4, g2, (if_neg h6).symm, hk⟩ (fun y => absurd y h6) hc hr
set_option maxHeartbeats 1000000 in
theorem eqn_sum (h : zRel B S V O G T B0 B1 B2 B3 B4 B5 K0 K1 K2 K3 K4 E0 U1 U2 U3 U4 U5 G0 G1 G2 G3 G4 nt k sn vn on g m rs rv ro) (hm : m + 2000 ≤ 2000000) {p1 : Int32} {q : Int32 × Int64 × (Nat → Int64) × (Nat → Int64) × dT} {r : Int32 × Int64 × (Nat → Int32) × Int32 × (Nat → Int32) × (Nat → Int32) × (Nat → Int32) × (Nat → Int32) × (Nat → Int64) × Int64 × Int32 × Int32 × Int32 × Int32 × Int32 × Int32 × Int32} (hq : fX3_sum B S V T p1 = q) (hr : fX4_sum B1 B2 B3 B4 B5 K0 K1 K2 K3 K4 E0 M0 M1 M2 M3 M4 M5 M6 M7 U0 U1 U2 U3 U4 U5 p1 = r) : q.1 = r.1 ∧ ∃ nt2 k2 sn2 vn2 on2 g2 m2 : Nat, ∃ rs2 rv2 ro2 : Nat → Nat, m2 ≤ m + 2000 ∧ zRel (B.1, B.2.1, q.2.1, B.2.2.2.1, B.2.2.2.2.1, B.2.2.2.2.2.1, B.2.2.2.2.2.2) (S.1, S.2.1, S.2.2.1, q.2.2.1, S.2.2.2.2) (V.1, V.2.1, V.2.2.1, q.2.2.2.1, V.2.2.2.2) O G q.2.2.2.2 B0 B1 r.2.1 B3 B4 B5 K0 K1 K2 K3 K4 r.2.2.1 r.2.2.2.2.2.2.2.2.2.2.2.2.2.2.1 r.2.2.2.2.2.2.2.2.2.2.2.2.1 r.2.2.2.2.2.2.2.2.2.2.2.2.2.1 r.2.2.2.2.2.2.2.2.2.2.2.2.2.2.2.1 r.2.2.2.2.2.2.2.2.2.2.2.2.2.2.2.2 G0 G1 G2 G3 G4 nt2 k2 sn2 vn2 on2 g2 m2 rs2 rv2 ro2 := by
  obtain rfl := h.1.2.2.2.2.1
  obtain rfl := h.1.2.2.2.2.2.1
  obtain rfl := h.1.2.2.1
  unfold fX3_sum at hq
  unfold fX4_sum at hr
  by_cases h1 : fX1_has S p1 = 0
  · rw [if_pos h1] at hq
    rw [if_pos ((h.hasS p1).mp h1)] at hr
    subst hq; subst hr
    exact ⟨rfl, nt, k, sn, vn, on, g, m, rs, rv, ro, Nat.le_add_right _ _, h⟩
  rw [if_neg h1] at hq
  rw [if_neg (fun z => h1 ((h.hasS p1).mpr z))] at hr
  by_cases hm3 : T.2.2.1 < 2000
  case neg =>
    rw [open0 hm3, zw_l, if_pos (show ((0 : Int32), T).1 = 0 from rfl)] at hq
    rw [if_neg (fun z => hm3 (by rw [h.2.2.1.2.2.1]; exact z))] at hr
    subst hq; subst hr
    exact ⟨rfl, nt, k, sn, vn, on, g, m, rs, rv, ro, Nat.le_add_right _ _, h⟩
  rw [open1 hm3, zw_l, if_neg (show ¬ ((1 : Int32), ((0, T.2.1, T.2.2.1, T.2.2.2.1, T.2.2.2.2.1, 0) : dT)).1 = 0 from (show ¬ (1 : Int32) = 0 from by decide))] at hq
  rw [if_pos (show U3 < 2000 by rw [← h.2.2.1.2.2.1]; exact hm3), zw_l] at hr
  have hs := sim_start (T := T) h.2.2.2.1 h.2.2.1.2.2.2.2.2 h.2.2.1.2.2.1 h.2.2.1.2.1 (x := T.2.2.2.1) (y := T.2.2.2.2.1)

  generalize hc : fX3_sum_loop B S V p1 41 S.2.2.2.1 V.2.2.2.1 ((1 : Int32), ((0, T.2.1, T.2.2.1, T.2.2.2.1, T.2.2.2.2.1, 0) : dT)).2 0 0 = c at hq
  generalize hc2 : fX4_sum_loop B.2.1 B.2.2.2.1 B.2.2.2.2.1 K1 K2 K3 K4 B5 p1 41 E0 M0 M1 M2 M3 M4 M5 M6 fX4_startsCall.1 fX4_startsCall.2 U2 U3 0 1 0 = r2 at hr
  obtain ⟨hz, hv⟩ := sum_eq (T0 := (0, T.2.1, T.2.2.1, T.2.2.2.1, T.2.2.2.2.1, 0)) h.1.1 h.2.1.1 h.2.1.2.1 hm h.1.2.2.2.2.2.2 (dz_hasIn h1 h.2.1.1.2.2.2.1 h.2.1.1.1) 41 _ _ _ _ _ _ _ _ _ _ _ _ _ _ _ _ _ _ _ 0 c r2 rfl (Nat.zero_le _) ⟨hs, rfl, rfl, kp_r⟩ (fun _ => rfl) hc hc2
  by_cases h5 : c.2.2.1.2.2.2.2.2 = 0
  · have e5 := hz.2.1.trans h5
    rw [zw_l, if_pos (hf0 h5)] at hq
    rw [zw_l, if_neg (zL_1 hz h5), ends0 e5, zw_l] at hr
    subst hq; subst hr
    exact ⟨rfl, nt, k, sn, vn, on, g, rel_ok (d := (c.1, c.2.1, c.2.2.1)) (B9 := (B.1, B.2.1, c.2.2.2, B.2.2.2.1, B.2.2.2.2.1, B.2.2.2.2.2.1, B.2.2.2.2.2.2)) h hz.1 hz.2.2.2 ⟨h.1.1, h.1.2.1, rfl, hv h5, rfl, rfl, h.1.2.2.2.2.2.2⟩ h.2.2.2.2⟩
  · have e5 : ¬ r2.2.2.2.2.2.2.2.2.1 = 0 := fun y => h5 (hz.2.1.symm.trans y)
    rw [zw_l, if_neg (hf1 h5), zw_l] at hq
    rw [zw_l, if_pos (zL_no hz h5), ends1 e5, zw_l] at hr
    subst hq; subst hr
    exact ⟨congrArg ((-10) - ·) hz.2.1.symm, nt, k, sn, vn, on, g, rel_fell (d := (c.1, c.2.1, c.2.2.1)) (B9 := B) h hz.1 hz.2.2.2 hz.2.1 h.1 h.2.2.2.2⟩
set_option maxHeartbeats 1000000 in
theorem sift_eq {B : dB} {S : dS} {V : dV} {O : dO} {B5 K1 K2 K3 : Nat → Int32} {K4 : Nat → Int64} {nt k sn vn on L : Nat} {rs rv ro : Nat → Nat} {T0 : dT} {p1 : Int32} (hB : dz_B B nt k) (hK : dz_K S V O sn vn on rs rv ro) (hM : mTab S V O K1 K2 K3 sn vn on) (hL : L ≤ 2000000) (h5 : ∀ j, j < k → B.2.2.2.2.2.1 j = B5 j) (hp : vp_in p1 vn) : ∀ (n : Nat) (B6 D6 : Nat → Int32) (S3 V3 : Nat → Int64) (T : dT) (E : Nat → Int32) (M0 : Int32) (M1 M2 M3 M4 : Nat → Int32) (M5 : Nat → Int64) (M6 : Int64) (M7 U0 U2 U3 : Int32) (x2 y2 : Int32) (x4 x5 : Int32) (i : Nat) (c : (Nat → Int32) × (Nat → Int64) × (Nat → Int64) × dT × Int32) (r : (Nat → Int32) × (Nat → Int32) × Int32 × (Nat → Int32) × (Nat → Int32) × (Nat → Int32) × (Nat → Int32) × (Nat → Int64) × Int64 × Int32 × Int32 × Int32 × Int32 × Int32 × Int32), x5 = nI i → i ≤ k → zL S V K4 sn vn L T0 (S3, V3, T) E M7 U0 U2 U3 x4 → (T.2.2.2.2.2 = 0 → ∃ c0 : Nat, c0 ≤ i ∧ x2 = nI c0 ∧ y2 = nI c0 ∧ ∀ j, j < c0 → B6 j = D6 j ∧ ∃ t : Nat, t < nt ∧ B6 j = nI t) → fX3_sift_loop B S V p1 n B6 S3 V3 T x2 x5 = c → fX4_sift_loop B.2.1 B.2.2.2.1 B.2.2.2.2.1 K1 K2 K3 K4 B5 p1 n D6 E M0 M1 M2 M3 M4 M5 M6 M7 U0 U2 U3 y2 x4 x5 = r → zL S V K4 sn vn L T0 (c.2.1, c.2.2.1, c.2.2.2.1) r.2.1 r.2.2.2.2.2.2.2.2.2.1 r.2.2.2.2.2.2.2.2.2.2.1 r.2.2.2.2.2.2.2.2.2.2.2.1 r.2.2.2.2.2.2.2.2.2.2.2.2.1 r.2.2.2.2.2.2.2.2.2.2.2.2.2.2 ∧ (c.2.2.2.1.2.2.2.2.2 = 0 → ∃ c0 : Nat, c0 ≤ k ∧ c.2.2.2.2 = nI c0 ∧ r.2.2.2.2.2.2.2.2.2.2.2.2.2.1 = nI c0 ∧ ∀ j, j < c0 → c.1 j = r.1 j ∧ ∃ t : Nat, t < nt ∧ c.1 j = nI t) := by
  intro n
  induction n with
  | zero =>
    intro B6 D6 S3 V3 T E M0 M1 M2 M3 M4 M5 M6 M7 U0 U2 U3 x2 y2 x4 x5 i c r e hi hz hx hc hr
    rw [fX3_sift_loop] at hc; rw [fX4_sift_loop] at hr
    subst hc; subst hr
    refine ⟨hz, fun y => ?_⟩
    obtain ⟨c0, a1, a2⟩ := hx y
    exact ⟨c0, Nat.le_trans a1 hi, a2⟩
  | succ n ih =>
    intro B6 D6 S3 V3 T E M0 M1 M2 M3 M4 M5 M6 M7 U0 U2 U3 x2 y2 x4 x5 i c r e hi hz hx hc hr
    rw [fX3_sift_loop] at hc; rw [fX4_sift_loop] at hr
    by_cases h1 : B.2.1 ≤ x5
    · rw [if_pos h1] at hc hr
      subst hc; subst hr
      refine ⟨hz, fun y => ?_⟩
      obtain ⟨c0, a1, a2⟩ := hx y
      exact ⟨c0, Nat.le_trans a1 hi, a2⟩
    rw [if_neg h1] at hc hr
    by_cases h2 : T.2.2.2.2.2 = 0
    case neg =>
      rw [if_neg (hf1 h2)] at hc
      rw [if_pos (zL_no hz h2)] at hr
      subst hc; subst hr
      exact ⟨hz, fun y => absurd y h2⟩
    rw [if_pos (hf0 h2)] at hc
    rw [if_neg (zL_1 hz h2)] at hr
    have hi2 := dz_lk hB e h1 hi
    have hk40 : k ≤ 40 := Nat.le_trans hB.2.1 hB.1
    have hl : B5 x5.toNatClampNeg = B.2.2.2.2.2.1 x5.toNatClampNeg := by
      rw [e, nI_clamp (by omega)]; exact (h5 i hi2).symm
    have hl2 : ∃ t : Nat, t < nt ∧ B.2.2.2.2.2.1 x5.toNatClampNeg = nI t := by
      rw [e, nI_clamp (by omega)]; exact hB.2.2.2.2 i hi2
    rw [hl] at hr
    obtain ⟨t, g1, g2, g3, g4⟩ := ask_V (B3 := B.2.2.2.1) (B4 := B.2.2.2.2.1) (W := M1) (X := M2) (Y := M3) (G := M4) (Hd := M5) (tv := M6) (d := (S3, V3, T)) hK hM hB.1 hL hp (dz_li hB e hi h1) h2 hz.1
    simp only [zw_l] at hc hr
    rw [fK_eq g1] at hr
    have hb := bb_V (ce := B.2.2.2.1) (rw := B.2.2.2.2.1) (sk := S.1) (sa := S.2.1) (sb := S.2.2.1) (vk := V.1) (va := V.2.1) (vb := V.2.2.1) 73 (S3, V3, T) p1 (B.2.2.2.2.2.1 x5.toNatClampNeg)
    generalize hz9 : (zA B.2.2.2.1 B.2.2.2.2.1 S.1 S.2.1 S.2.2.1 V.1 V.2.1 V.2.2.1 73).2 (S3, V3, T) p1 (B.2.2.2.2.2.1 x5.toNatClampNeg) = z at hc g2 g3 g4 hb
    have hk : kp T0 z.2.2.2 := kp_tr hz.2.2.2 (by rw [← hz9]; exact (kp_A 73).2 _ _ _)
    have e2 : x5 + 1 = nI (i + 1) := by rw [e]; exact nI_1 i
    by_cases h6 : z.2.2.2.2.2.2.2.2 = 0
    · have e5 := g2.trans h6
      rw [if_pos e5] at hr
      simp only [one0, ↓reduceIte, lg_cmp_eq] at hr
      rw [g3 h6] at hr
      obtain ⟨c0, a1, a2, a3, a4⟩ := hx h2
      by_cases h7 : z.1 = 0
      · rw [if_pos h7] at hc
        rw [if_neg (fun y => ((bool64 hb).2.1.mp y) h7)] at hr
        exact ih _ _ _ _ _ _ _ _ _ _ _ _ _ _ _ _ _ _ _ _ _ (i + 1) c r e2 hi2 ⟨g4, g2, (if_pos h6).symm, hk⟩ (fun _ => ⟨c0, by omega, a2, a3, a4⟩) hc hr
      · rw [if_neg h7] at hc
        rw [if_pos ((bool64 hb).2.1.mpr h7)] at hr
        refine ih _ _ _ _ _ _ _ _ _ _ _ _ _ _ _ _ _ _ _ _ _ (i + 1) c r e2 hi2 ⟨g4, g2, (if_pos h6).symm, hk⟩ (fun _ => ⟨c0 + 1, by omega, by rw [a2]; exact nI_1 c0, by rw [a3]; exact nI_1 c0, fun j hj => ?_⟩) hc hr
        rw [a2, a3, nI_clamp (by omega)]
        by_cases hj2 : j = c0
        · subst hj2; rw [pk_us, pk_us]; exact ⟨rfl, hl2⟩
        · rw [pk_un hj2, pk_un hj2]; exact a4 j (by omega)
    · have e5 : ¬ t.2.2.2.2.2.2.2.2.1 = 0 := fun y => h6 (g2.symm.trans y)
      rw [if_neg e5] at hr
      simp only [↓reduceIte] at hr
      by_cases h7 : z.1 = 0
      · rw [if_pos h7] at hc
        exact ih _ _ _ _ _ _ _ _ _ _ _ _ _ _ _ _ _ _ _ _ _ (i + 1) c r e2 hi2 ⟨g4, g2, (if_neg h6).symm, hk⟩ (fun y => absurd y h6) hc hr
      · rw [if_neg h7] at hc
        exact ih _ _ _ _ _ _ _ _ _ _ _ _ _ _ _ _ _ _ _ _ _ (i + 1) c r e2 hi2 ⟨g4, g2, (if_neg h6).symm, hk⟩ (fun y => absurd y h6) hc hr
theorem siftc {B6 : Nat → Int32} {y : Int32} {c : Nat} (hy : y = nI c) (hc : c ≤ 40) : ∀ (n : Nat) (f : Nat → Int32) (x : Int32) (i : Nat), x = nI i → i ≤ c → c ≤ i + n → (∀ j, j < i → f j = B6 j) → ∀ j : Nat, j < c → fX4_sift_copy B6 y n f x j = B6 j := by
  intro n
  induction n with
  | zero =>
    intro f x i e hi hn hf j hj
    exact hf j (by omega)
  | succ n ih =>
    intro f x i e hi hn hf j hj
    rw [fX4_sift_copy]
    by_cases h1 : y ≤ x
    · rw [if_pos h1]
      rw [hy, e, nI_leI (by omega) (by omega)] at h1
      exact hf j (by omega)
    · rw [if_neg h1]
      have h2 : i < c := by
        rcases Nat.lt_or_ge i c with z | z
        · exact z
        · exact absurd (by rw [hy, e]; exact nI_le z (by omega)) h1
      refine ih _ _ (i + 1) (by rw [e]; exact nI_1 i) (by omega) (by omega) (fun j2 hj2 => ?_) j hj
      rw [e, nI_clamp (by omega)]
      by_cases hji : j2 = i
      · subst hji; rw [pk_us]
      · rw [pk_un hji]; exact hf j2 (by omega)
theorem takec {f f2 : Nat → Int32} {x : Int32} {c : Nat} (e : x = nI c) (hc : c ≤ 40) {j : Nat} (hj : j < c) : va_cpy f2 f (0 : Int32).toNatClampNeg (0 : Int32).toNatClampNeg x.toNatClampNeg j = f2 j := by
  rw [e, nI_clamp (by omega), show (0 : Int32).toNatClampNeg = 0 from rfl, pk_cpy_in (Nat.zero_le _) (by omega), Nat.zero_add, Nat.sub_zero]
set_option maxHeartbeats 1000000 in
theorem eqn_sift (h : zRel B S V O G T B0 B1 B2 B3 B4 B5 K0 K1 K2 K3 K4 E0 U1 U2 U3 U4 U5 G0 G1 G2 G3 G4 nt k sn vn on g m rs rv ro) (hm : m + 2000 ≤ 2000000) {p1 : Int32} {q : Int32 × Int32 × (Nat → Int32) × (Nat → Int32) × (Nat → Int64) × (Nat → Int64) × dT} {r : Int32 × Int32 × (Nat → Int32) × (Nat → Int32) × (Nat → Int32) × Int32 × (Nat → Int32) × (Nat → Int32) × (Nat → Int32) × (Nat → Int32) × (Nat → Int64) × Int64 × Int32 × Int32 × Int32 × Int32 × Int32 × Int32 × Int32} (hq : fX3_sift B S V T p1 = q) (hr : fX4_sift B1 B2 B3 B4 B5 B6 K0 K1 K2 K3 K4 E0 M0 M1 M2 M3 M4 M5 M6 M7 U0 U1 U2 U3 U4 U5 p1 = r) : q.1 = r.1 ∧ ∃ nt2 k2 sn2 vn2 on2 g2 m2 : Nat, ∃ rs2 rv2 ro2 : Nat → Nat, m2 ≤ m + 2000 ∧ zRel (B.1, q.2.1, B.2.2.1, B.2.2.2.1, B.2.2.2.2.1, q.2.2.1, q.2.2.2.1) (S.1, S.2.1, S.2.2.1, q.2.2.2.2.1, S.2.2.2.2) (V.1, V.2.1, V.2.2.1, q.2.2.2.2.2.1, V.2.2.2.2) O G q.2.2.2.2.2.2 B0 r.2.1 B2 B3 B4 r.2.2.1 K0 K1 K2 K3 K4 r.2.2.2.2.1 r.2.2.2.2.2.2.2.2.2.2.2.2.2.2.2.2.1 r.2.2.2.2.2.2.2.2.2.2.2.2.2.2.1 r.2.2.2.2.2.2.2.2.2.2.2.2.2.2.2.1 r.2.2.2.2.2.2.2.2.2.2.2.2.2.2.2.2.2.1 r.2.2.2.2.2.2.2.2.2.2.2.2.2.2.2.2.2.2 G0 G1 G2 G3 G4 nt2 k2 sn2 vn2 on2 g2 m2 rs2 rv2 ro2 := by
  obtain rfl := h.1.2.2.2.2.1
  obtain rfl := h.1.2.2.2.2.2.1
  obtain rfl := h.1.2.2.1
  unfold fX3_sift at hq
  unfold fX4_sift at hr
  by_cases h1 : fX1_has V p1 = 0
  · rw [if_pos h1] at hq
    rw [if_pos ((h.hasV p1).mp h1)] at hr
    subst hq; subst hr
    exact ⟨rfl, nt, k, sn, vn, on, g, m, rs, rv, ro, Nat.le_add_right _ _, h⟩
  rw [if_neg h1] at hq
  rw [if_neg (fun z => h1 ((h.hasV p1).mpr z))] at hr
  by_cases hm3 : T.2.2.1 < 2000
  case neg =>
    rw [open0 hm3, zw_l, if_pos (show ((0 : Int32), T).1 = 0 from rfl)] at hq
    rw [if_neg (fun z => hm3 (by rw [h.2.2.1.2.2.1]; exact z))] at hr
    subst hq; subst hr
    exact ⟨rfl, nt, k, sn, vn, on, g, m, rs, rv, ro, Nat.le_add_right _ _, h⟩
  rw [open1 hm3, zw_l, if_neg (show ¬ ((1 : Int32), ((0, T.2.1, T.2.2.1, T.2.2.2.1, T.2.2.2.2.1, 0) : dT)).1 = 0 from (show ¬ (1 : Int32) = 0 from by decide))] at hq
  rw [if_pos (show U3 < 2000 by rw [← h.2.2.1.2.2.1]; exact hm3), zw_l] at hr
  have hs := sim_start (T := T) h.2.2.2.1 h.2.2.1.2.2.2.2.2 h.2.2.1.2.2.1 h.2.2.1.2.1 (x := T.2.2.2.1) (y := T.2.2.2.2.1)

  generalize hc : fX3_sift_loop B S V p1 41 B.2.2.2.2.2.2 S.2.2.2.1 V.2.2.2.1 ((1 : Int32), ((0, T.2.1, T.2.2.1, T.2.2.2.1, T.2.2.2.2.1, 0) : dT)).2 0 0 = c at hq
  generalize hc2 : fX4_sift_loop B.2.1 B.2.2.2.1 B.2.2.2.2.1 K1 K2 K3 K4 B5 p1 41 B6 E0 M0 M1 M2 M3 M4 M5 M6 fX4_startsCall.1 fX4_startsCall.2 U2 U3 0 1 0 = r2 at hr
  obtain ⟨hz, hv⟩ := sift_eq (T0 := (0, T.2.1, T.2.2.1, T.2.2.2.1, T.2.2.2.2.1, 0)) h.1.1 h.2.1.1 h.2.1.2.1 hm h.1.2.2.2.2.2.2 (dz_hasIn h1 h.2.1.1.2.2.2.2.1 h.2.1.1.2.1) 41 _ _ _ _ _ _ _ _ _ _ _ _ _ _ _ _ _ _ _ _ _ 0 c r2 rfl (Nat.zero_le _) ⟨hs, rfl, rfl, kp_r⟩ (fun _ => ⟨0, Nat.zero_le _, rfl, rfl, fun j hj => absurd hj (Nat.not_lt_zero j)⟩) hc hc2
  by_cases h5 : c.2.2.2.1.2.2.2.2.2 = 0
  · have e5 := hz.2.1.trans h5
    rw [zw_l, if_pos (hf0 h5), zw_l] at hq
    rw [zw_l, if_neg (zL_1 hz h5), zw_l, ends0 e5, zw_l] at hr
    obtain ⟨c0, a1, a2, a3, a4⟩ := hv h5
    have hk40 : c0 ≤ 40 := Nat.le_trans a1 (Nat.le_trans h.1.1.2.1 h.1.1.1)
    subst hq; subst hr
    refine ⟨a2.trans a3.symm, nt, c0, sn, vn, on, g, rel_ok (d := (c.2.1, c.2.2.1, c.2.2.2.1)) (B9 := (B.1, c.2.2.2.2, B.2.2.1, B.2.2.2.1, B.2.2.2.2.1, (fX3_takeDraft B.2.2.2.2.2.1 c.1 c.2.2.2.2).2, c.1)) h hz.1 hz.2.2.2 ⟨⟨h.1.1.1, Nat.le_trans a1 h.1.1.2.1, h.1.1.2.2.1, a2, fun j hj => ?_⟩, h.1.2.1, a2.trans a3.symm, h.1.2.2.2.1, rfl, rfl, fun j hj => ?_⟩ h.2.2.2.2⟩
    · show ∃ t : Nat, t < nt ∧ va_cpy c.1 B.2.2.2.2.2.1 _ _ c.2.2.2.2.toNatClampNeg j = nI t
      rw [takec a2 hk40 hj]; exact (a4 j hj).2
    · show va_cpy c.1 B.2.2.2.2.2.1 _ _ c.2.2.2.2.toNatClampNeg j = fX4_sift_copy r2.1 r2.2.2.2.2.2.2.2.2.2.2.2.2.2.1 41 B5 0 j
      rw [takec a2 hk40 hj, siftc a3 hk40 41 B5 0 0 rfl (Nat.zero_le _) (by omega) (fun j hj => absurd hj (Nat.not_lt_zero j)) j hj]
      exact (a4 j hj).1
  · have e5 : ¬ r2.2.2.2.2.2.2.2.2.2.1 = 0 := fun y => h5 (hz.2.1.symm.trans y)
    rw [zw_l, if_neg (hf1 h5), zw_l] at hq
    rw [zw_l, if_pos (zL_no hz h5), ends1 e5, zw_l] at hr
    subst hq; subst hr
    exact ⟨congrArg ((-10) - ·) hz.2.1.symm, nt, k, sn, vn, on, g, rel_fell (d := (c.2.1, c.2.2.1, c.2.2.2.1)) (B9 := (B.1, B.2.1, B.2.2.1, B.2.2.2.1, B.2.2.2.2.1, B.2.2.2.2.2.1, c.1)) h hz.1 hz.2.2.2 hz.2.1 h.1 h.2.2.2.2⟩
end ZV
