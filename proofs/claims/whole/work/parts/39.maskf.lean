/-! ask as a function: the end of its turns -/
noncomputable def fX4_ask (B3 B4 : Nat → Int64) (K1 K2 K3 : Nat → Int32) (K4 : Nat → Int64) (E0 : (Nat → Int32)) (M1 : (Nat → Int32)) (M2 : (Nat → Int32)) (M3 : (Nat → Int32)) (M4 : (Nat → Int32)) (M5 : (Nat → Int64)) (M6 : Int64) (U0 : Int32) (U2 : Int32) (U3 : Int32) (p1 p2 p3 p4 : Int32) : Int32 × mY := (if (Classical.epsilon (fun t : mY => mAsk B3 B4 K1 K2 K3 K4 E0 M1 M2 M3 M4 M5 M6 U0 U2 U3 p1 p2 p3 p4 t)).2.2.2.2.2.2.2.2.1 = 0 then 1 else 0, Classical.epsilon (fun t : mY => mAsk B3 B4 K1 K2 K3 K4 E0 M1 M2 M3 M4 M5 M6 U0 U2 U3 p1 p2 p3 p4 t))
theorem fK_eq {B3 : (Nat → Int64)} {B4 : (Nat → Int64)} {K1 : (Nat → Int32)} {K2 : (Nat → Int32)} {K3 : (Nat → Int32)} {K4 : (Nat → Int64)} {E0 : (Nat → Int32)} {M1 : (Nat → Int32)} {M2 : (Nat → Int32)} {M3 : (Nat → Int32)} {M4 : (Nat → Int32)} {M5 : (Nat → Int64)} {M6 : Int64} {U0 : Int32} {U2 : Int32} {U3 : Int32} {p1 p2 p3 p4 : Int32} {t : mY} (h : mAsk B3 B4 K1 K2 K3 K4 E0 M1 M2 M3 M4 M5 M6 U0 U2 U3 p1 p2 p3 p4 t) : fX4_ask B3 B4 K1 K2 K3 K4 E0 M1 M2 M3 M4 M5 M6 U0 U2 U3 p1 p2 p3 p4 = (if t.2.2.2.2.2.2.2.2.1 = 0 then 1 else 0, t) := by
  have h2 : mAsk B3 B4 K1 K2 K3 K4 E0 M1 M2 M3 M4 M5 M6 U0 U2 U3 p1 p2 p3 p4 (Classical.epsilon (fun t : mY => mAsk B3 B4 K1 K2 K3 K4 E0 M1 M2 M3 M4 M5 M6 U0 U2 U3 p1 p2 p3 p4 t)) := Classical.epsilon_spec (p := fun t : mY => mAsk B3 B4 K1 K2 K3 K4 E0 M1 M2 M3 M4 M5 M6 U0 U2 U3 p1 p2 p3 p4 t) ⟨t, h⟩
  have e : Classical.epsilon (fun t : mY => mAsk B3 B4 K1 K2 K3 K4 E0 M1 M2 M3 M4 M5 M6 U0 U2 U3 p1 p2 p3 p4 t) = t := mR.fn h2.1 h.1 h2.2 h.2
  unfold fX4_ask
  rw [e]
set_option maxHeartbeats 4000000 in
theorem kX4_askK {l : Launch} {D : va_G} {cI cL : ClassId} {b : Nat → Nat} {B0 : Int32} {B1 : Int32} {B2 : Int64} {B3 : (Nat → Int64)} {B4 : (Nat → Int64)} {B5 : (Nat → Int32)} {B6 : (Nat → Int32)} {K0 : (Nat → Int32)} {K1 : (Nat → Int32)} {K2 : (Nat → Int32)} {K3 : (Nat → Int32)} {K4 : (Nat → Int64)} {E0 : (Nat → Int32)} {M0 : Int32} {M1 : (Nat → Int32)} {M2 : (Nat → Int32)} {M3 : (Nat → Int32)} {M4 : (Nat → Int32)} {M5 : (Nat → Int64)} {M6 : Int64} {M7 : Int32} {U0 : Int32} {U1 : Int32} {U2 : Int32} {U3 : Int32} {U4 : Int32} {U5 : Int32} {G0 : Int32} {G1 : (Nat → Int64)} {G2 : (Nat → Int32)} {G3 : (Nat → Int64)} {G4 : (Nat → Int32)} {N0 : (Nat → Int64)} {N1 : (Nat → Int32)} {N2 : (Nat → Int64)} {N3 : (Nat → Int32)} {p1 p2 p3 p4 : Int32} {q : Int32 × mY} (hy1 : ∃ t, mAsk B3 B4 K1 K2 K3 K4 E0 M1 M2 M3 M4 M5 M6 U0 U2 U3 p1 p2 p3 p4 t) (hF : fX4_ask B3 B4 K1 K2 K3 K4 E0 M1 M2 M3 M4 M5 M6 U0 U2 U3 p1 p2 p3 p4 = q) : zw_Mi l yX4_ask cX4_ask 8 .boolean D (zw_tys cI cL) (zw_rm 3 75) [.ref (b 0), .int p1, .int p2, .int p3, .int p4] (wM cI cL b B0 B1 B2 B3 B4 B5 B6 K0 K1 K2 K3 K4 E0 M0 M1 M2 M3 M4 M5 M6 M7 U0 U1 U2 U3 U4 U5 G0 G1 G2 G3 G4 N0 N1 N2 N3) (wM cI cL b B0 B1 B2 B3 B4 B5 B6 K0 K1 K2 K3 K4 q.2.1 q.2.2.1 q.2.2.2.1 q.2.2.2.2.1 q.2.2.2.2.2.1 q.2.2.2.2.2.2.1 q.2.2.2.2.2.2.2.1 q.2.2.2.2.2.2.2.2.1 q.2.2.2.2.2.2.2.2.2.1 q.2.2.2.2.2.2.2.2.2.2.1 U1 q.2.2.2.2.2.2.2.2.2.2.2.1 q.2.2.2.2.2.2.2.2.2.2.2.2 U4 U5 G0 G1 G2 G3 G4 N0 N1 N2 N3) q.1 := by
  obtain ⟨t, ht⟩ := hy1
  have e := fK_eq ht
  rw [hF] at e
  subst e
  exact kX4_ask ht rfl
/-- J holds of the counts, and what is made may be asked and leaves J -/
def mJ (B3 B4 : Nat → Int64) (K1 K2 K3 : Nat → Int32) (K4 : Nat → Int64) (J : (Nat → Int32) → Int32 → Int32 → Int32 → Prop) (sn vn on nt : Nat) : Prop :=
  (∀ (E0 : (Nat → Int32)) (M1 : (Nat → Int32)) (M2 : (Nat → Int32)) (M3 : (Nat → Int32)) (M4 : (Nat → Int32)) (M5 : (Nat → Int64)) (M6 : Int64) (U0 : Int32) (U2 : Int32) (U3 : Int32) (k x : Int32), J E0 U0 U2 U3 → vp_in k sn → vp_in x nt → ∃ t, mAsk B3 B4 K1 K2 K3 K4 E0 M1 M2 M3 M4 M5 M6 U0 U2 U3 0 k x x t ∧ J t.1 t.2.2.2.2.2.2.2.2.2.1 t.2.2.2.2.2.2.2.2.2.2.1 t.2.2.2.2.2.2.2.2.2.2.2) ∧
  (∀ (E0 : (Nat → Int32)) (M1 : (Nat → Int32)) (M2 : (Nat → Int32)) (M3 : (Nat → Int32)) (M4 : (Nat → Int32)) (M5 : (Nat → Int64)) (M6 : Int64) (U0 : Int32) (U2 : Int32) (U3 : Int32) (k x : Int32), J E0 U0 U2 U3 → vp_in k vn → vp_in x nt → ∃ t, mAsk B3 B4 K1 K2 K3 K4 E0 M1 M2 M3 M4 M5 M6 U0 U2 U3 1 k x x t ∧ J t.1 t.2.2.2.2.2.2.2.2.2.1 t.2.2.2.2.2.2.2.2.2.2.1 t.2.2.2.2.2.2.2.2.2.2.2) ∧
  (∀ (E0 : (Nat → Int32)) (M1 : (Nat → Int32)) (M2 : (Nat → Int32)) (M3 : (Nat → Int32)) (M4 : (Nat → Int32)) (M5 : (Nat → Int64)) (M6 : Int64) (U0 : Int32) (U2 : Int32) (U3 : Int32) (k x y : Int32), J E0 U0 U2 U3 → vp_in k on → vp_in x nt → vp_in y nt → ∃ t, mAsk B3 B4 K1 K2 K3 K4 E0 M1 M2 M3 M4 M5 M6 U0 U2 U3 2 k x y t ∧ J t.1 t.2.2.2.2.2.2.2.2.2.1 t.2.2.2.2.2.2.2.2.2.2.1 t.2.2.2.2.2.2.2.2.2.2.2)
theorem mJ_ex0 {B3 : (Nat → Int64)} {B4 : (Nat → Int64)} {K1 : (Nat → Int32)} {K2 : (Nat → Int32)} {K3 : (Nat → Int32)} {K4 : (Nat → Int64)} {E0 : (Nat → Int32)} {M1 : (Nat → Int32)} {M2 : (Nat → Int32)} {M3 : (Nat → Int32)} {M4 : (Nat → Int32)} {M5 : (Nat → Int64)} {M6 : Int64} {U0 : Int32} {U2 : Int32} {U3 : Int32} {J : (Nat → Int32) → Int32 → Int32 → Int32 → Prop} {sn vn on nt : Nat} {k x : Int32} (H : mJ B3 B4 K1 K2 K3 K4 J sn vn on nt) (hJ : J E0 U0 U2 U3) (hk : vp_in k sn) (hx : vp_in x nt) : ∃ t, mAsk B3 B4 K1 K2 K3 K4 E0 M1 M2 M3 M4 M5 M6 U0 U2 U3 0 k x x t := by
  obtain ⟨t, h, -⟩ := H.1 E0 M1 M2 M3 M4 M5 M6 U0 U2 U3 k x hJ hk hx
  exact ⟨t, h⟩
theorem mJ_st0 {B3 : (Nat → Int64)} {B4 : (Nat → Int64)} {K1 : (Nat → Int32)} {K2 : (Nat → Int32)} {K3 : (Nat → Int32)} {K4 : (Nat → Int64)} {E0 : (Nat → Int32)} {M1 : (Nat → Int32)} {M2 : (Nat → Int32)} {M3 : (Nat → Int32)} {M4 : (Nat → Int32)} {M5 : (Nat → Int64)} {M6 : Int64} {U0 : Int32} {U2 : Int32} {U3 : Int32} {J : (Nat → Int32) → Int32 → Int32 → Int32 → Prop} {sn vn on nt : Nat} {k x : Int32} {q : Int32 × mY} (H : mJ B3 B4 K1 K2 K3 K4 J sn vn on nt) (hJ : J E0 U0 U2 U3) (hk : vp_in k sn) (hx : vp_in x nt) (hF : fX4_ask B3 B4 K1 K2 K3 K4 E0 M1 M2 M3 M4 M5 M6 U0 U2 U3 0 k x x = q) : J q.2.1 q.2.2.2.2.2.2.2.2.2.2.1 q.2.2.2.2.2.2.2.2.2.2.2.1 q.2.2.2.2.2.2.2.2.2.2.2.2 := by
  obtain ⟨t, h, h2⟩ := H.1 E0 M1 M2 M3 M4 M5 M6 U0 U2 U3 k x hJ hk hx
  have e := fK_eq h
  rw [hF] at e
  subst e
  exact h2
theorem mJ_ex1 {B3 : (Nat → Int64)} {B4 : (Nat → Int64)} {K1 : (Nat → Int32)} {K2 : (Nat → Int32)} {K3 : (Nat → Int32)} {K4 : (Nat → Int64)} {E0 : (Nat → Int32)} {M1 : (Nat → Int32)} {M2 : (Nat → Int32)} {M3 : (Nat → Int32)} {M4 : (Nat → Int32)} {M5 : (Nat → Int64)} {M6 : Int64} {U0 : Int32} {U2 : Int32} {U3 : Int32} {J : (Nat → Int32) → Int32 → Int32 → Int32 → Prop} {sn vn on nt : Nat} {k x : Int32} (H : mJ B3 B4 K1 K2 K3 K4 J sn vn on nt) (hJ : J E0 U0 U2 U3) (hk : vp_in k vn) (hx : vp_in x nt) : ∃ t, mAsk B3 B4 K1 K2 K3 K4 E0 M1 M2 M3 M4 M5 M6 U0 U2 U3 1 k x x t := by
  obtain ⟨t, h, -⟩ := H.2.1 E0 M1 M2 M3 M4 M5 M6 U0 U2 U3 k x hJ hk hx
  exact ⟨t, h⟩
theorem mJ_st1 {B3 : (Nat → Int64)} {B4 : (Nat → Int64)} {K1 : (Nat → Int32)} {K2 : (Nat → Int32)} {K3 : (Nat → Int32)} {K4 : (Nat → Int64)} {E0 : (Nat → Int32)} {M1 : (Nat → Int32)} {M2 : (Nat → Int32)} {M3 : (Nat → Int32)} {M4 : (Nat → Int32)} {M5 : (Nat → Int64)} {M6 : Int64} {U0 : Int32} {U2 : Int32} {U3 : Int32} {J : (Nat → Int32) → Int32 → Int32 → Int32 → Prop} {sn vn on nt : Nat} {k x : Int32} {q : Int32 × mY} (H : mJ B3 B4 K1 K2 K3 K4 J sn vn on nt) (hJ : J E0 U0 U2 U3) (hk : vp_in k vn) (hx : vp_in x nt) (hF : fX4_ask B3 B4 K1 K2 K3 K4 E0 M1 M2 M3 M4 M5 M6 U0 U2 U3 1 k x x = q) : J q.2.1 q.2.2.2.2.2.2.2.2.2.2.1 q.2.2.2.2.2.2.2.2.2.2.2.1 q.2.2.2.2.2.2.2.2.2.2.2.2 := by
  obtain ⟨t, h, h2⟩ := H.2.1 E0 M1 M2 M3 M4 M5 M6 U0 U2 U3 k x hJ hk hx
  have e := fK_eq h
  rw [hF] at e
  subst e
  exact h2
theorem mJ_ex2 {B3 : (Nat → Int64)} {B4 : (Nat → Int64)} {K1 : (Nat → Int32)} {K2 : (Nat → Int32)} {K3 : (Nat → Int32)} {K4 : (Nat → Int64)} {E0 : (Nat → Int32)} {M1 : (Nat → Int32)} {M2 : (Nat → Int32)} {M3 : (Nat → Int32)} {M4 : (Nat → Int32)} {M5 : (Nat → Int64)} {M6 : Int64} {U0 : Int32} {U2 : Int32} {U3 : Int32} {J : (Nat → Int32) → Int32 → Int32 → Int32 → Prop} {sn vn on nt : Nat} {k x y : Int32} (H : mJ B3 B4 K1 K2 K3 K4 J sn vn on nt) (hJ : J E0 U0 U2 U3) (hk : vp_in k on) (hx : vp_in x nt) (hv : vp_in y nt) : ∃ t, mAsk B3 B4 K1 K2 K3 K4 E0 M1 M2 M3 M4 M5 M6 U0 U2 U3 2 k x y t := by
  obtain ⟨t, h, -⟩ := H.2.2 E0 M1 M2 M3 M4 M5 M6 U0 U2 U3 k x y hJ hk hx hv
  exact ⟨t, h⟩
theorem mJ_st2 {B3 : (Nat → Int64)} {B4 : (Nat → Int64)} {K1 : (Nat → Int32)} {K2 : (Nat → Int32)} {K3 : (Nat → Int32)} {K4 : (Nat → Int64)} {E0 : (Nat → Int32)} {M1 : (Nat → Int32)} {M2 : (Nat → Int32)} {M3 : (Nat → Int32)} {M4 : (Nat → Int32)} {M5 : (Nat → Int64)} {M6 : Int64} {U0 : Int32} {U2 : Int32} {U3 : Int32} {J : (Nat → Int32) → Int32 → Int32 → Int32 → Prop} {sn vn on nt : Nat} {k x y : Int32} {q : Int32 × mY} (H : mJ B3 B4 K1 K2 K3 K4 J sn vn on nt) (hJ : J E0 U0 U2 U3) (hk : vp_in k on) (hx : vp_in x nt) (hv : vp_in y nt) (hF : fX4_ask B3 B4 K1 K2 K3 K4 E0 M1 M2 M3 M4 M5 M6 U0 U2 U3 2 k x y = q) : J q.2.1 q.2.2.2.2.2.2.2.2.2.2.1 q.2.2.2.2.2.2.2.2.2.2.2.1 q.2.2.2.2.2.2.2.2.2.2.2.2 := by
  obtain ⟨t, h, h2⟩ := H.2.2 E0 M1 M2 M3 M4 M5 M6 U0 U2 U3 k x y hJ hk hx hv
  have e := fK_eq h
  rw [hF] at e
  subst e
  exact h2
theorem dm_toz {x y : Int32} {f : Nat → Int32} {n k : Nat} (h : dm_B x y f n k) : dz_B (x, y, 0, (fun _ => 0), (fun _ => 0), f, (fun _ => 0)) n k := h
theorem dm_lk {x y z : Int32} {f : Nat → Int32} {nt k i : Nat} (hB : dm_B x y f nt k) (e : z = nI i) (h : ¬ y ≤ z) (hi : i ≤ k) : i < k := dz_lk (dm_toz hB) e h hi
theorem dm_lk2 {x y z : Int32} {f : Nat → Int32} {nt k i : Nat} (hB : dm_B x y f nt k) (e : z = nI i) (h : ¬ y ≤ z) (hi : i ≤ k + 1) : i < k := dz_lk2 (dm_toz hB) e h hi
theorem dm_ixl {x y z : Int32} {f : Nat → Int32} {nt k i : Nat} (hB : dm_B x y f nt k) (e : z = nI i) (hi : i ≤ k) (h : ¬ y ≤ z) : vp_in z 40 := dz_ixl (dm_toz hB) e hi h
theorem dm_ixd {x y z v : Int32} {f : Nat → Int32} {nt k i j : Nat} (hB : dm_B x y f nt k) (e : z = nI i) (hi : i ≤ k) (h : ¬ y ≤ z) (ev : v = nI j) (hj : j ≤ i) : vp_in v 40 := dz_ixd (dm_toz hB) e hi h ev hj
theorem dm_li {x y z : Int32} {f : Nat → Int32} {nt k i : Nat} (hB : dm_B x y f nt k) (e : z = nI i) (hi : i ≤ k) (h : ¬ y ≤ z) : vp_in (f z.toNatClampNeg) nt := dz_li (dm_toz hB) e hi h
theorem dm_is {K0 : Nat → Int32} {s x : Int32} {n : Nat} (h : ¬ fX4_is K0 s x = 0) (e : K0 s.toNatClampNeg = nI n) (hn : n ≤ 24) : vp_in x n := by
  unfold fX4_is at h
  rw [e] at h
  obtain ⟨j, hj, rfl⟩ := dm_in0 (by omega) h
  exact vp_in_nI hj (by omega)
theorem dm_thingIn {x y : Int32} {f : Nat → Int32} {v : Int32} {nt k : Nat} (hB : dm_B x y f nt k) (h : ¬ fX4_isThing x v = 0) : vp_in v nt := by
  obtain ⟨j, hj, rfl⟩ := dm_isThing h hB.2.2.1 hB.1
  exact vp_in_nI hj (by have := hB.1; omega)
/-- how many the reference has made -/
def dm_K (K0 : Nat → Int32) (sn vn on : Nat) : Prop := sn ≤ 24 ∧ vn ≤ 24 ∧ on ≤ 24 ∧ K0 (0 : Int32).toNatClampNeg = nI sn ∧ K0 (1 : Int32).toNatClampNeg = nI vn ∧ K0 (2 : Int32).toNatClampNeg = nI on
theorem dm_made {K0 : Nat → Int32} {s : Int32} {j n : Nat} (hs : s = nI j) (hj : j < 3) (e : K0 s.toNatClampNeg = nI n) (hn : n ≤ 24) (h : ¬ K0 s.toNatClampNeg = 24) : vp_in (24 * s + K0 s.toNatClampNeg) 72 := by
  have h2 : n < 24 := by
    rcases Nat.lt_or_ge n 24 with h3 | h3
    · exact h3
    · exact absurd (by rw [e, show n = 24 from by omega]; rfl) h
  rw [e, hs, show (24 : Int32) = nI 24 from rfl, pk_mul, nI_add]
  exact vp_in_nI (by omega) (by decide)
theorem dm_cnt1 {x : Int32} (h : x = 1) : vp_in (x - 1) 3 := by subst h; exact vp_in_iff.mpr ⟨by decide, by decide⟩
theorem dm_cnt2 {x : Int32} (h : x = 2) : vp_in (x - 1) 3 := by subst h; exact vp_in_iff.mpr ⟨by decide, by decide⟩
theorem dm_cnt3 {x : Int32} (h : x = 3) : vp_in (x - 1) 3 := by subst h; exact vp_in_iff.mpr ⟨by decide, by decide⟩
theorem st_J {J : (Nat → Int32) → Int32 → Int32 → Int32 → Prop} {E0 : Nat → Int32} {U2 U3 : Int32} {q : Int32 × Int32} (e : fX4_startsCall = q) (h : J E0 0 U2 U3) : J E0 q.2 U2 U3 := by subst e; exact h
theorem dm_s3 {s : Int32} {j : Nat} (hs : s = nI j) (hj : j < 3) : vp_in s 3 := by rw [hs]; exact vp_in_nI hj (by decide)
