/-! sort -/
section ZX
variable {B : dB} {S : dS} {V : dV} {O : dO} {G : dG} {F : dF} {T : dT} {B0 : Int32} {B1 : Int32} {B2 : Int64} {B3 : (Nat → Int64)} {B4 : (Nat → Int64)} {B5 : (Nat → Int32)} {K0 : (Nat → Int32)} {K1 : (Nat → Int32)} {K2 : (Nat → Int32)} {K3 : (Nat → Int32)} {K4 : (Nat → Int64)} {E0 : (Nat → Int32)} {U1 : Int32} {U2 : Int32} {U3 : Int32} {U4 : Int32} {U5 : Int32} {G0 : Int32} {G1 : (Nat → Int64)} {G2 : (Nat → Int32)} {G3 : (Nat → Int64)} {G4 : (Nat → Int32)} {B6 : (Nat → Int32)} {M0 : Int32} {M1 : (Nat → Int32)} {M2 : (Nat → Int32)} {M3 : (Nat → Int32)} {M4 : (Nat → Int32)} {M5 : (Nat → Int64)} {M6 : Int64} {M7 : Int32} {U0 : Int32} {N0 : (Nat → Int64)} {N1 : (Nat → Int32)} {N2 : (Nat → Int64)} {N3 : (Nat → Int32)} {nt k sn vn on g m : Nat} {rs rv ro : Nat → Nat}
theorem one64 {x : Int32} : (x.toInt64 = 1 ↔ x = 1) := by
  constructor
  · intro h
    have e : x.toInt64.toInt = 1 := by rw [h]; rfl
    rw [Int32.toInt_toInt64] at e
    exact Int32.toInt_inj.mp (by rw [e]; rfl)
  · intro h; rw [h]; rfl
theorem in_nI9 {x : Int32} {n : Nat} (h : vp_in x n) : ∃ t : Nat, t < n ∧ x = nI t := by
  have h0 : ¬ x < 0 := fun z => h (Or.inl z)
  obtain ⟨j, hj, rfl⟩ := nI_of h0
  refine ⟨j, ?_, rfl⟩
  rcases Nat.lt_or_ge j n with z | z
  · exact z
  · exact absurd (Or.inr (by rw [nI_clamp hj]; exact z)) h
theorem dead_O0 {ce rw : Nat → Int64} {sk sa sb vk va vb ok oa ob : Nat → Int32} {d : dY} {i x y : Int32} (h : ¬ d.2.2.2.2.2.2.2 = 0) (n : Nat) : (zO ce rw sk sa sb vk va vb ok oa ob (n + 1) d i x y).1 = 0 := by
  show (bO _ _ _ ok oa ob d i x y).1 = 0
  unfold bO zw_l
  rw [ba_dead h]
  rfl
theorem move_dead {p1 x3 : Int32} {n : Nat} {B6 : Nat → Int32} {S3 V3 : Nat → Int64} {x4 : Int32} (h : ¬ T.2.2.2.2.2 = 0) : ((fX3_moveForward_loop B S V O p1 x3 n B6 S3 V3 T x4).2.1, (fX3_moveForward_loop B S V O p1 x3 n B6 S3 V3 T x4).2.2.1, (fX3_moveForward_loop B S V O p1 x3 n B6 S3 V3 T x4).2.2.2.1) = (S3, V3, T) := by
  cases n with
  | zero => rfl
  | succ n =>
    rw [fX3_moveForward_loop]
    by_cases h1 : x4 ≤ 0
    · rw [if_pos h1]
    · rw [if_neg h1]
      simp only [zw_l]
      have e1 := dead_O0 (ce := B.2.2.2.1) (rw := B.2.2.2.2.1) (sk := S.1) (sa := S.2.1) (sb := S.2.2.1) (vk := V.1) (va := V.2.1) (vb := V.2.2.1) (ok := O.1) (oa := O.2.1) (ob := O.2.2.1) (d := (S3, V3, T)) (i := p1) (x := B6 (x4 - 1).toNatClampNeg) (y := x3) h 72
      have e2 := dead_O (ce := B.2.2.2.1) (rw := B.2.2.2.2.1) (sk := S.1) (sa := S.2.1) (sb := S.2.2.1) (vk := V.1) (va := V.2.1) (vb := V.2.2.1) (ok := O.1) (oa := O.2.1) (ob := O.2.2.1) (d := (S3, V3, T)) (i := p1) (x := B6 (x4 - 1).toNatClampNeg) (y := x3) h 73
      generalize zO B.2.2.2.1 B.2.2.2.2.1 S.1 S.2.1 S.2.2.1 V.1 V.2.1 V.2.2.1 O.1 O.2.1 O.2.2.1 73 (S3, V3, T) p1 (B6 (x4 - 1).toNatClampNeg) x3 = z at e1 e2
      rw [show z.1 = 0 from e1, if_neg (show ¬ (0 : Int32) = 1 by decide)]
      exact e2
theorem move_stop {ce rw : Nat → Int64} {p1 : Int32} (n : Nat) (B6 E : Nat → Int32) (M0 : Int32) (M1 M2 M3 M4 : Nat → Int32) (M5 : Nat → Int64) (M6 : Int64) (M7 U0 U2 U3 x2 x3 x5 : Int32) : fX4_sort_move ce rw K1 K2 K3 K4 p1 n B6 E M0 M1 M2 M3 M4 M5 M6 M7 U0 U2 U3 x2 x3 x5 0 = (B6, E, M0, M1, M2, M3, M4, M5, M6, M7, U0, U2, U3, x2, x3) := by
  cases n with
  | zero => rfl
  | succ n =>
    rw [fX4_sort_move]
    by_cases h1 : x5 ≤ 0
    · rw [if_pos h1]
    · rw [if_neg h1, if_pos rfl]
set_option maxHeartbeats 1000000 in
theorem move_eq {B : dB} {S : dS} {V : dV} {O : dO} {B5 K1 K2 K3 : Nat → Int32} {K4 : Nat → Int64} {nt k sn vn on L : Nat} {rs rv ro : Nat → Nat} {T0 : dT} {p1 : Int32} (hB : dz_B B nt k) (hK : dz_K S V O sn vn on rs rv ro) (hM : mTab S V O K1 K2 K3 sn vn on) (hL : L ≤ 2000000) (h5 : ∀ j, j < k → B.2.2.2.2.2.1 j = B5 j) (hp : vp_in p1 on) {mv : Int32} (hmv : vp_in mv nt) : ∀ (n : Nat) (B6 D6 : Nat → Int32) (S3 V3 : Nat → Int64) (T : dT) (E : Nat → Int32) (M0 : Int32) (M1 M2 M3 M4 : Nat → Int32) (M5 : Nat → Int64) (M6 : Int64) (M7 U0 U2 U3 : Int32) (y2 go x4 : Int32) (pl : Nat) (c : (Nat → Int32) × (Nat → Int64) × (Nat → Int64) × dT × Int32) (r : ((Nat → Int32) × (Nat → Int32) × Int32 × (Nat → Int32) × (Nat → Int32) × (Nat → Int32) × (Nat → Int32) × (Nat → Int64) × Int64 × Int32 × Int32 × Int32 × Int32 × Int32 × Int32)), x4 = nI pl → pl < k → pl ≤ n → T.2.2.2.2.2 = 0 → zL S V K4 sn vn L T0 (S3, V3, T) E M7 U0 U2 U3 go → (∀ j, j < k → vp_in (B6 j) nt) → (∀ j, j < k → D6 j = upd B6 pl mv j) → fX3_moveForward_loop B S V O p1 mv n B6 S3 V3 T x4 = c → fX4_sort_move B.2.2.2.1 B.2.2.2.2.1 K1 K2 K3 K4 p1 (n + 1) D6 E M0 M1 M2 M3 M4 M5 M6 M7 U0 U2 U3 y2 go x4 1 = r → zL S V K4 sn vn L T0 (c.2.1, c.2.2.1, c.2.2.2.1) r.2.1 r.2.2.2.2.2.2.2.2.2.1 r.2.2.2.2.2.2.2.2.2.2.1 r.2.2.2.2.2.2.2.2.2.2.2.1 r.2.2.2.2.2.2.2.2.2.2.2.2.1 r.2.2.2.2.2.2.2.2.2.2.2.2.2.2 ∧ (c.2.2.2.1.2.2.2.2.2 = 0 → ∃ q : Nat, q ≤ pl ∧ c.2.2.2.2 = nI q ∧ (∀ j, j < k → vp_in (c.1 j) nt) ∧ (∀ j, j < k → r.1 j = upd c.1 q mv j) ∧ r.2.2.2.2.2.2.2.2.2.2.2.2.2.1 = y2 + nI (pl - q)) := by
  intro n
  induction n with
  | zero =>
    intro B6 D6 S3 V3 T E M0 M1 M2 M3 M4 M5 M6 M7 U0 U2 U3 y2 go x4 pl c r e hpk hpn h2 hz hd hD hc hr
    have hp0 : pl = 0 := by omega
    subst hp0
    rw [fX3_moveForward_loop] at hc
    rw [fX4_sort_move, if_pos (show x4 ≤ 0 by rw [e]; decide)] at hr
    subst hc; subst hr
    exact ⟨hz, fun _ => ⟨0, Nat.le_refl _, e, hd, hD, (Int32.add_zero _).symm⟩⟩
  | succ n ih =>
    intro B6 D6 S3 V3 T E M0 M1 M2 M3 M4 M5 M6 M7 U0 U2 U3 y2 go x4 pl c r e hpk hpn h2 hz hd hD hc hr
    have hk40 : k ≤ 40 := Nat.le_trans hB.2.1 hB.1
    rw [fX3_moveForward_loop] at hc
    rw [fX4_sort_move] at hr
    by_cases h1 : x4 ≤ 0
    · have hp0 : pl = 0 := by
        rw [e] at h1
        have := (nI_leI (a := pl) (b := 0) (by omega) (by decide)).mp h1
        omega
      subst hp0
      rw [if_pos h1] at hc hr
      subst hc; subst hr
      exact ⟨hz, fun _ => ⟨0, Nat.le_refl _, e, hd, hD, (Int32.add_zero _).symm⟩⟩
    obtain ⟨p, rfl, e1, e2⟩ := dz_pred e (by omega) h1
    have c1 : (x4 - 1).toNatClampNeg = p := by rw [e1, nI_clamp (by omega)]
    have c2 : x4.toNatClampNeg = p + 1 := by rw [e, nI_clamp (by omega)]
    have d1 : D6 p = B6 p := by rw [hD p (by omega), pk_un (by omega)]
    have d2 : D6 (p + 1) = mv := by rw [hD (p + 1) hpk, pk_us]
    rw [if_neg h1, c1, c2] at hc
    rw [if_neg h1, if_neg (show ¬ (1 : Int32) = 0 by decide), c1, c2, d1, d2] at hr
    obtain ⟨t, g1, g2, g3, g4⟩ := ask_O (B3 := B.2.2.2.1) (B4 := B.2.2.2.2.1) (W := M1) (X := M2) (Y := M3) (G := M4) (Hd := M5) (tv := M6) (d := (S3, V3, T)) hK hM hB.1 hL hp (hd p (by omega)) hmv h2 hz.1
    simp only [zw_l] at hc hr
    rw [fK_eq g1] at hr
    generalize hz9 : zO B.2.2.2.1 B.2.2.2.2.1 S.1 S.2.1 S.2.2.1 V.1 V.2.1 V.2.2.1 O.1 O.2.1 O.2.2.1 73 (S3, V3, T) p1 (B6 p) mv = z at hc g2 g3 g4
    have hk : kp T0 z.2.2.2 := kp_tr hz.2.2.2 (by rw [← hz9]; exact kp_O 73 _ _ _ _)
    by_cases h6 : z.2.2.2.2.2.2.2.2 = 0
    · have e5 := g2.trans h6
      rw [if_pos e5] at hr
      simp only [one0, ↓reduceIte, lg_cmp_eq] at hr
      rw [g3 h6] at hr
      by_cases h7 : z.1 = 1
      · rw [if_pos h7] at hc
        rw [if_pos (one64.mpr h7)] at hr
        have hD2 : ∀ j, j < k → upd (upd D6 (p + 1) (B6 p)) p mv j = upd (upd B6 (p + 1) (B6 p)) p mv j := by
          intro j hj
          by_cases hj1 : j = p
          · subst hj1; rw [pk_us, pk_us]
          · rw [pk_un hj1, pk_un hj1]
            by_cases hj2 : j = p + 1
            · subst hj2; rw [pk_us, pk_us]
            · rw [pk_un hj2, pk_un hj2, hD j hj, pk_un hj2]
        obtain ⟨a1, a2⟩ := ih _ _ _ _ _ _ _ _ _ _ _ _ _ _ _ _ _ _ _ _ p c r e2 (by omega) (by omega) h6 ⟨g4, g2, (if_pos h6).symm, hk⟩ (dz_up hd (hd p (by omega))) hD2 hc hr
        refine ⟨a1, fun y => ?_⟩
        obtain ⟨q, b1, b2, b3, b4, b5⟩ := a2 y
        refine ⟨q, by omega, b2, b3, b4, ?_⟩
        rw [b5, show p + 1 - q = (p - q) + 1 from by omega, nI_succ, Int32.add_assoc, Int32.add_comm 1]
      · rw [if_neg h7] at hc
        rw [if_neg (fun y => h7 (one64.mp y)), move_stop] at hr
        subst hc; subst hr
        exact ⟨⟨g4, g2, (if_pos h6).symm, hk⟩, fun _ => ⟨p + 1, Nat.le_refl _, e, hd, hD, by rw [Nat.sub_self]; exact (Int32.add_zero _).symm⟩⟩
    · have e5 : ¬ t.2.2.2.2.2.2.2.2.1 = 0 := fun y => h6 (g2.symm.trans y)
      rw [if_neg e5] at hr
      simp only [↓reduceIte] at hr
      rw [move_stop] at hr
      by_cases h7 : z.1 = 1
      · rw [if_pos h7] at hc
        have e9 := move_dead (B := B) (S := S) (V := V) (O := O) (T := z.2.2.2) (p1 := p1) (x3 := mv) (n := n) (B6 := upd B6 (p + 1) (B6 p)) (S3 := z.2.1) (V3 := z.2.2.1) (x4 := x4 + -1) h6
        rw [hc] at e9
        subst hr
        rw [e9]
        have e10 : c.2.2.2.1 = z.2.2.2 := congrArg (fun w : dY => w.2.2) e9
        exact ⟨⟨g4, g2, (if_neg h6).symm, hk⟩, fun y => absurd (by rw [← e10]; exact y) h6⟩
      · rw [if_neg h7] at hc
        subst hc; subst hr
        exact ⟨⟨g4, g2, (if_neg h6).symm, hk⟩, fun y => absurd y h6⟩
set_option maxHeartbeats 1000000 in
theorem sort_eq {B : dB} {S : dS} {V : dV} {O : dO} {B5 K1 K2 K3 : Nat → Int32} {K4 : Nat → Int64} {nt k sn vn on L : Nat} {rs rv ro : Nat → Nat} {T0 : dT} {p1 : Int32} (hB : dz_B B nt k) (hK : dz_K S V O sn vn on rs rv ro) (hM : mTab S V O K1 K2 K3 sn vn on) (hL : L ≤ 2000000) (h5 : ∀ j, j < k → B.2.2.2.2.2.1 j = B5 j) (hp : vp_in p1 on) : ∀ (n : Nat) (B6 D6 : Nat → Int32) (S3 V3 : Nat → Int64) (T : dT) (E : Nat → Int32) (M0 : Int32) (M1 M2 M3 M4 : Nat → Int32) (M5 : Nat → Int64) (M6 : Int64) (M7 U0 U2 U3 : Int32) (x2 y2 go x4 : Int32) (i : Nat) (c : (Nat → Int32) × (Nat → Int64) × (Nat → Int64) × dT × Int32) (r : ((Nat → Int32) × (Nat → Int32) × Int32 × (Nat → Int32) × (Nat → Int32) × (Nat → Int32) × (Nat → Int32) × (Nat → Int64) × Int64 × Int32 × Int32 × Int32 × Int32 × Int32 × Int32)), x4 = nI i → i ≤ k + 1 → zL S V K4 sn vn L T0 (S3, V3, T) E M7 U0 U2 U3 go → (T.2.2.2.2.2 = 0 → x2 = y2 ∧ (∀ j, j < k → B6 j = D6 j) ∧ ∀ j, j < k → vp_in (B6 j) nt) → fX3_sort_loop B S V O p1 n B6 S3 V3 T x2 x4 = c → fX4_sort_loop B.2.1 B.2.2.2.1 B.2.2.2.2.1 K1 K2 K3 K4 p1 n D6 E M0 M1 M2 M3 M4 M5 M6 M7 U0 U2 U3 y2 go x4 = r → zL S V K4 sn vn L T0 (c.2.1, c.2.2.1, c.2.2.2.1) r.2.1 r.2.2.2.2.2.2.2.2.2.1 r.2.2.2.2.2.2.2.2.2.2.1 r.2.2.2.2.2.2.2.2.2.2.2.1 r.2.2.2.2.2.2.2.2.2.2.2.2.1 r.2.2.2.2.2.2.2.2.2.2.2.2.2.2 ∧ (c.2.2.2.1.2.2.2.2.2 = 0 → c.2.2.2.2 = r.2.2.2.2.2.2.2.2.2.2.2.2.2.1 ∧ (∀ j, j < k → c.1 j = r.1 j) ∧ ∀ j, j < k → vp_in (c.1 j) nt) := by
  intro n
  induction n with
  | zero =>
    intro B6 D6 S3 V3 T E M0 M1 M2 M3 M4 M5 M6 M7 U0 U2 U3 x2 y2 go x4 i c r e hi hz hx hc hr
    rw [fX3_sort_loop] at hc; rw [fX4_sort_loop] at hr
    subst hc; subst hr
    exact ⟨hz, hx⟩
  | succ n ih =>
    intro B6 D6 S3 V3 T E M0 M1 M2 M3 M4 M5 M6 M7 U0 U2 U3 x2 y2 go x4 i c r e hi hz hx hc hr
    rw [fX3_sort_loop] at hc; rw [fX4_sort_loop] at hr
    by_cases h1 : B.2.1 ≤ x4
    · rw [if_pos h1] at hc hr
      subst hc; subst hr
      exact ⟨hz, hx⟩
    rw [if_neg h1] at hc hr
    by_cases h2 : T.2.2.2.2.2 = 0
    case neg =>
      rw [if_neg (hf1 h2)] at hc
      rw [if_pos (zL_no hz h2)] at hr
      subst hc; subst hr
      exact ⟨hz, hx⟩
    rw [if_pos (hf0 h2)] at hc
    rw [if_neg (zL_1 hz h2)] at hr
    have hi2 := dz_lk2 hB e h1 hi
    have hk40 : k ≤ 40 := Nat.le_trans hB.2.1 hB.1
    have c2 : x4.toNatClampNeg = i := by rw [e, nI_clamp (by omega)]
    obtain ⟨x1, x3, x5⟩ := hx h2
    unfold fX3_moveForward at hc
    rw [c2] at hc
    generalize hc3 : fX3_moveForward_loop B S V O p1 (B6 i) 41 B6 S3 V3 T x4 = c3 at hc
    generalize hr3 : fX4_sort_move B.2.2.2.1 B.2.2.2.2.1 K1 K2 K3 K4 p1 42 D6 E M0 M1 M2 M3 M4 M5 M6 M7 U0 U2 U3 y2 go x4 1 = r3 at hr
    obtain ⟨a1, a2⟩ := move_eq (T0 := T0) hB hK hM hL h5 hp (x5 i hi2) 41 B6 D6 _ _ _ _ _ _ _ _ _ _ _ _ _ _ _ _ _ _ i c3 r3 e hi2 (by omega) h2 hz x5 (fun j hj => by
      by_cases hj2 : j = i
      · subst hj2; rw [pk_us]; exact (x3 j hj).symm
      · rw [pk_un hj2]; exact (x3 j hj).symm) hc3 hr3
    simp only [zw_l] at hc hr
    have e2 : x4 + 1 = nI (i + 1) := by rw [e]; exact nI_1 i
    refine ih _ _ _ _ _ _ _ _ _ _ _ _ _ _ _ _ _ _ _ _ _ (i + 1) c r e2 (by omega) a1 (fun y => ?_) hc hr
    obtain ⟨q, b1, b2, b3, b4, b5⟩ := a2 y
    refine ⟨?_, fun j hj => ?_, fun j hj => ?_⟩
    · rw [b5, b2, e, pk_sub b1, x1]
    · rw [b2, nI_clamp (by omega)]; exact (b4 j hj).symm
    · rw [b2, nI_clamp (by omega)]; exact dz_up b3 (x5 i hi2) j hj
theorem sortc {B6 : Nat → Int32} {y : Int32} {c : Nat} (hy : y = nI c) (hc : c ≤ 40) : ∀ (n : Nat) (f : Nat → Int32) (x : Int32) (i : Nat), x = nI i → i ≤ c → c ≤ i + n → (∀ j, j < i → f j = B6 j) → ∀ j : Nat, j < c → fX4_sort_copy y B6 n f x j = B6 j := by
  intro n
  induction n with
  | zero =>
    intro f x i e hi hn hf j hj
    exact hf j (by omega)
  | succ n ih =>
    intro f x i e hi hn hf j hj
    rw [fX4_sort_copy]
    by_cases h1 : y ≤ x
    · rw [if_pos h1]
      rw [hy, e, nI_leI (by omega) (by omega)] at h1
      exact hf j (by omega)
    · rw [if_neg h1]
      have h2 : i < c := by
        rcases Nat.lt_or_ge i c with z | z
        · exact z
        · exact absurd (by rw [hy, e]; exact nI_le z (by omega)) h1
      refine ih _ _ (i + 1) (by rw [e]; exact nI_1 i) (by omega) (by omega) (fun j2 hj2 => ?_) j hj
      rw [e, nI_clamp (by omega)]
      by_cases hji : j2 = i
      · subst hji; rw [pk_us]
      · rw [pk_un hji]; exact hf j2 (by omega)
theorem sortb {B6 : Nat → Int32} {y : Int32} {c : Nat} (hy : y = nI c) (hc : c ≤ 40) : ∀ (n : Nat) (f : Nat → Int32) (x : Int32) (i : Nat), x = nI i → i ≤ c → c ≤ i + n → (∀ j, j < i → f j = B6 j) → ∀ j : Nat, j < c → fX4_sort_back y B6 1 n f x j = B6 j := by
  intro n
  induction n with
  | zero =>
    intro f x i e hi hn hf j hj
    exact hf j (by omega)
  | succ n ih =>
    intro f x i e hi hn hf j hj
    rw [fX4_sort_back]
    by_cases h1 : y ≤ x
    · rw [if_pos h1]
      rw [hy, e, nI_leI (by omega) (by omega)] at h1
      exact hf j (by omega)
    · rw [if_neg h1, if_neg (show ¬ (1 : Int32) = 0 by decide)]
      have h2 : i < c := by
        rcases Nat.lt_or_ge i c with z | z
        · exact z
        · exact absurd (by rw [hy, e]; exact nI_le z (by omega)) h1
      refine ih _ _ (i + 1) (by rw [e]; exact nI_1 i) (by omega) (by omega) (fun j2 hj2 => ?_) j hj
      rw [e, nI_clamp (by omega)]
      by_cases hji : j2 = i
      · subst hji; rw [pk_us]
      · rw [pk_un hji]; exact hf j2 (by omega)
theorem sortb0 {B6 f : Nat → Int32} {y x : Int32} (n : Nat) : fX4_sort_back y B6 0 n f x = f := by
  cases n with
  | zero => rfl
  | succ n =>
    rw [fX4_sort_back]
    by_cases h1 : y ≤ x
    · rw [if_pos h1]
    · rw [if_neg h1, if_pos rfl]
set_option maxHeartbeats 1000000 in
theorem eqn_sort (h : zRel B S V O G T B0 B1 B2 B3 B4 B5 K0 K1 K2 K3 K4 E0 U1 U2 U3 U4 U5 G0 G1 G2 G3 G4 nt k sn vn on g m rs rv ro) (hm : m + 2000 ≤ 2000000) {p1 : Int32} {q : Int32 × Int32 × (Nat → Int32) × (Nat → Int32) × (Nat → Int64) × (Nat → Int64) × dT} {r : Int32 × (Nat → Int32) × (Nat → Int32) × (Nat → Int32) × Int32 × (Nat → Int32) × (Nat → Int32) × (Nat → Int32) × (Nat → Int32) × (Nat → Int64) × Int64 × Int32 × Int32 × Int32 × Int32 × Int32 × Int32 × Int32} (hq : fX3_sort B S V O T p1 = q) (hr : fX4_sort B1 B2 B3 B4 B5 B6 K0 K1 K2 K3 K4 E0 M0 M1 M2 M3 M4 M5 M6 M7 U0 U1 U2 U3 U4 U5 p1 = r) : q.1 = r.1 ∧ ∃ nt2 k2 sn2 vn2 on2 g2 m2 : Nat, ∃ rs2 rv2 ro2 : Nat → Nat, m2 ≤ m + 2000 ∧ zRel (B.1, q.2.1, B.2.2.1, B.2.2.2.1, B.2.2.2.2.1, q.2.2.1, q.2.2.2.1) (S.1, S.2.1, S.2.2.1, q.2.2.2.2.1, S.2.2.2.2) (V.1, V.2.1, V.2.2.1, q.2.2.2.2.2.1, V.2.2.2.2) O G q.2.2.2.2.2.2 B0 B1 B2 B3 B4 r.2.1 K0 K1 K2 K3 K4 r.2.2.2.1 r.2.2.2.2.2.2.2.2.2.2.2.2.2.2.2.1 r.2.2.2.2.2.2.2.2.2.2.2.2.2.1 r.2.2.2.2.2.2.2.2.2.2.2.2.2.2.1 r.2.2.2.2.2.2.2.2.2.2.2.2.2.2.2.2.1 r.2.2.2.2.2.2.2.2.2.2.2.2.2.2.2.2.2 G0 G1 G2 G3 G4 nt2 k2 sn2 vn2 on2 g2 m2 rs2 rv2 ro2 := by
  obtain rfl := h.1.2.2.2.2.1
  obtain rfl := h.1.2.2.2.2.2.1
  obtain rfl := h.1.2.2.1
  unfold fX3_sort at hq
  unfold fX4_sort at hr
  by_cases h1 : fX1_has O p1 = 0
  · rw [if_pos h1] at hq
    rw [if_pos ((h.hasO p1).mp h1)] at hr
    subst hq; subst hr
    exact ⟨rfl, nt, k, sn, vn, on, g, m, rs, rv, ro, Nat.le_add_right _ _, h⟩
  rw [if_neg h1] at hq
  rw [if_neg (fun z => h1 ((h.hasO p1).mpr z))] at hr
  by_cases hm3 : T.2.2.1 < 2000
  case neg =>
    rw [open0 hm3, zw_l, if_pos (show ((0 : Int32), T).1 = 0 from rfl)] at hq
    rw [if_neg (fun z => hm3 (by rw [h.2.2.1.2.2.1]; exact z))] at hr
    subst hq; subst hr
    exact ⟨rfl, nt, k, sn, vn, on, g, m, rs, rv, ro, Nat.le_add_right _ _, h⟩
  rw [open1 hm3, zw_l, if_neg (show ¬ ((1 : Int32), ((0, T.2.1, T.2.2.1, T.2.2.2.1, T.2.2.2.2.1, 0) : dT)).1 = 0 from (show ¬ (1 : Int32) = 0 from by decide))] at hq
  rw [if_pos (show U3 < 2000 by rw [← h.2.2.1.2.2.1]; exact hm3), zw_l] at hr
  have hs := sim_start (T := T) h.2.2.2.1 h.2.2.1.2.2.2.2.2 h.2.2.1.2.2.1 h.2.2.1.2.1 (x := T.2.2.2.1) (y := T.2.2.2.2.1)

  rw [zw_l] at hr
  have hk40 : k ≤ 40 := Nat.le_trans h.1.1.2.1 h.1.1.1
  have hkk := h.1.1.2.2.2.1
  generalize hc : fX3_sort_loop B S V O p1 41 (va_cpy B.2.2.2.2.2.1 B.2.2.2.2.2.2 (0 : Int32).toNatClampNeg (0 : Int32).toNatClampNeg B.2.1.toNatClampNeg) S.2.2.2.1 V.2.2.2.1 ((1 : Int32), ((0, T.2.1, T.2.2.1, T.2.2.2.1, T.2.2.2.2.1, 0) : dT)).2 0 1 = c at hq
  generalize hc2 : fX4_sort_loop B.2.1 B.2.2.2.1 B.2.2.2.2.1 K1 K2 K3 K4 p1 41 (fX4_sort_copy B.2.1 B5 41 B6 0) E0 M0 M1 M2 M3 M4 M5 M6 fX4_startsCall.1 fX4_startsCall.2 U2 U3 0 1 1 = r2 at hr
  obtain ⟨hz, hv⟩ := sort_eq (T0 := (0, T.2.1, T.2.2.1, T.2.2.2.1, T.2.2.2.2.1, 0)) h.1.1 h.2.1.1 h.2.1.2.1 hm h.1.2.2.2.2.2.2 (dz_hasIn h1 h.2.1.1.2.2.2.2.2.1 h.2.1.1.2.2.1) 41 _ _ _ _ _ _ _ _ _ _ _ _ _ _ _ _ _ _ _ _ _ 1 c r2 rfl (by omega) ⟨hs, rfl, rfl, kp_r⟩ (fun _ => ⟨rfl, fun j hj => by rw [takec hkk hk40 hj, sortc hkk hk40 41 B6 0 0 rfl (Nat.zero_le _) (by omega) (fun j hj => absurd hj (Nat.not_lt_zero j)) j hj]; exact h.1.2.2.2.2.2.2 j hj, dz_cpd h.1.1⟩) hc hc2
  by_cases h5 : c.2.2.2.1.2.2.2.2.2 = 0
  · have e5 := hz.2.1.trans h5
    rw [zw_l, if_pos (hf0 h5), zw_l] at hq
    rw [zw_l, zw_l, ends0 e5, zw_l, zL_go hz h5] at hr
    obtain ⟨a1, a2, a3⟩ := hv h5
    subst hq; subst hr
    refine ⟨a1, nt, k, sn, vn, on, g, rel_ok (d := (c.2.1, c.2.2.1, c.2.2.2.1)) (B9 := (B.1, B.2.1, B.2.2.1, B.2.2.2.1, B.2.2.2.2.1, (fX3_takeDraft B.2.2.2.2.2.1 c.1 B.2.1).2, c.1)) h hz.1 hz.2.2.2 ⟨⟨h.1.1.1, h.1.1.2.1, h.1.1.2.2.1, hkk, fun j hj => ?_⟩, h.1.2.1, rfl, h.1.2.2.2.1, rfl, rfl, fun j hj => ?_⟩ h.2.2.2.2⟩
    · show ∃ t : Nat, t < nt ∧ va_cpy c.1 B.2.2.2.2.2.1 _ _ B.2.1.toNatClampNeg j = nI t
      rw [takec hkk hk40 hj]; exact in_nI9 (a3 j hj)
    · show va_cpy c.1 B.2.2.2.2.2.1 _ _ B.2.1.toNatClampNeg j = fX4_sort_back B.2.1 r2.1 1 41 B5 0 j
      rw [takec hkk hk40 hj, sortb hkk hk40 41 B5 0 0 rfl (Nat.zero_le _) (by omega) (fun j hj => absurd hj (Nat.not_lt_zero j)) j hj]
      exact a2 j hj
  · have e5 : ¬ r2.2.2.2.2.2.2.2.2.2.1 = 0 := fun y => h5 (hz.2.1.symm.trans y)
    rw [zw_l, if_neg (hf1 h5), zw_l] at hq
    rw [zw_l, zw_l, ends1 e5, zw_l, zL_no hz h5, sortb0] at hr
    subst hq; subst hr
    exact ⟨congrArg ((-10) - ·) hz.2.1.symm, nt, k, sn, vn, on, g, rel_fell (d := (c.2.1, c.2.2.1, c.2.2.2.1)) (B9 := (B.1, B.2.1, B.2.2.1, B.2.2.2.1, B.2.2.2.2.1, B.2.2.2.2.2.1, c.1)) h hz.1 hz.2.2.2 hz.2.1 h.1 h.2.2.2.2⟩
end ZX
