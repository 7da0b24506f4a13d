def fX4_sort_copy (B1 : Int32) (B5 : Nat → Int32) : Nat → (Nat → Int32) → Int32 → (Nat → Int32)
  | 0, B6, _ => B6
  | n + 1, B6, x2 => (if B1 ≤ x2 then B6 else fX4_sort_copy B1 B5 n (upd B6 x2.toNatClampNeg (B5 x2.toNatClampNeg)) (x2 + 1))
set_option maxHeartbeats 4000000 in
set_option maxRecDepth 100000 in
theorem kX4_sort_copy {p : Program} {l : Launch} {e : Env} {s : State} {m : MethodId} {args : Array Value} {below : List Frame} {meth : Method} {c : Code} {A : Nat → Prop} {Q : State → Prop} {D : va_G} {cI cL : ClassId} {b : Nat → Nat} {B0 : Int32} {B1 : Int32} {B2 : Int64} {B3 : (Nat → Int64)} {B4 : (Nat → Int64)} {B5 : (Nat → Int32)} {K0 : (Nat → Int32)} {K1 : (Nat → Int32)} {K2 : (Nat → Int32)} {K3 : (Nat → Int32)} {K4 : (Nat → Int64)} {E0 : (Nat → Int32)} {M0 : Int32} {M1 : (Nat → Int32)} {M2 : (Nat → Int32)} {M3 : (Nat → Int32)} {M4 : (Nat → Int32)} {M5 : (Nat → Int64)} {M6 : Int64} {M7 : Int32} {U0 : Int32} {U1 : Int32} {U2 : Int32} {U3 : Int32} {U4 : Int32} {U5 : Int32} {G0 : Int32} {G1 : (Nat → Int64)} {G2 : (Nat → Int32)} {G3 : (Nat → Int64)} {G4 : (Nat → Int32)} {N0 : (Nat → Int64)} {N1 : (Nat → Int32)} {N2 : (Nat → Int64)} {N3 : (Nat → Int32)} {p1 : Int32} (C : zw_C p s m args c D (zw_tys cI cL) A RX4 cX4_sort 8) : ∀ (n : Nat) (B6 : (Nat → Int32)) (x2 : Int32) (q : (Nat → Int32)), (∃ i j0 : Nat, x2 = nI i ∧ B1 = nI j0 ∧ j0 ≤ 40 ∧ i ≤ j0 ∧ j0 < i + n) → fX4_sort_copy B1 B5 n B6 x2 = q → (zw_W p l e (zw_rm 4 102) s m args below meth c D A 8 Q 0 0 (wM cI cL b B0 B1 B2 B3 B4 B5 q K0 K1 K2 K3 K4 E0 M0 M1 M2 M3 M4 M5 M6 M7 U0 U1 U2 U3 U4 U5 G0 G1 G2 G3 G4 N0 N1 N2 N3) 56 [(0, .ref (b 0)), (1, .int p1)] []) → zw_W p l e (zw_rm 4 102) s m args below meth c D A 8 Q 0 0 (wM cI cL b B0 B1 B2 B3 B4 B5 B6 K0 K1 K2 K3 K4 E0 M0 M1 M2 M3 M4 M5 M6 M7 U0 U1 U2 U3 U4 U5 G0 G1 G2 G3 G4 N0 N1 N2 N3) 30 [(0, .ref (b 0)), (1, .int p1), (2, .int x2)] [] := by
  intro n
  induction n with
  | zero =>
    intro B6 x2 q hI hF kx
    obtain ⟨i, j0, -, -, -, h3, h4⟩ := hI; exact absurd h4 (by omega)
  | succ n ih =>
    intro B6 x2 q hI hF kx
    obtain ⟨i, j0, z2, g2, g1, hi, hn⟩ := hI
    rw [fX4_sort_copy] at hF
    refine zw_iload_n C dX4_sort_30 2 rfl rfl ?_
    refine zw_aload_n C dX4_sort_31 0 rfl rfl ?_
    refine zw_get C FX4 0 3 (v := .int B1) rfl (by decide) lkX4_88 rfl dX4_sort_32 ?_
    refine zw_icmp_ge C 56 dX4_sort_35 (by decide) (fun h1 => ?_) (fun h1 => ?_)
    · rw [if_pos h1] at hF
      subst hF
      exact zw_locals [0, 1] rfl kx
    · rw [if_neg h1] at hF
      refine zw_aload_n C dX4_sort_38 0 rfl rfl ?_
      refine zw_get C FX4 0 31 (v := .ref (b 19)) rfl (by decide) lkX4_65 rfl dX4_sort_39 ?_
      refine zw_iload_n C dX4_sort_42 2 rfl rfl ?_
      refine zw_aload_n C dX4_sort_43 0 rfl rfl ?_
      refine zw_get C FX4 0 4 (v := .ref (b 3)) rfl (by decide) lkX4_16 rfl dX4_sort_44 ?_
      refine zw_iload_n C dX4_sort_47 2 rfl rfl ?_
      refine zw_iald C 3 0 (f := B5) (i := x2) rfl rfl (by rw [z2]; exact vp_in_nI (by have := dz_lt1 g2 z2 (by assumption) hi g1; omega) (by decide)) dX4_sort_48 ?_
      refine zw_iast C 19 0 (f := B6) (i := x2) (ws2 := (wM cI cL b B0 B1 B2 B3 B4 B5 (upd B6 x2.toNatClampNeg (B5 x2.toNatClampNeg)) K0 K1 K2 K3 K4 E0 M0 M1 M2 M3 M4 M5 M6 M7 U0 U1 U2 U3 U4 U5 G0 G1 G2 G3 G4 N0 N1 N2 N3)) rfl rfl (by rw [z2]; exact vp_in_nI (by have := dz_lt1 g2 z2 (by assumption) hi g1; omega) (by decide)) rfl dX4_sort_49 ?_
      refine zw_iinc C (j := 2) (v := x2 + 1) dX4_sort_50 rfl rfl (by decide) rfl ?_
      refine zw_goto C 30 dX4_sort_53 (by decide) ?_
      refine zw_locals [1, 2, 0] (lv2 := [(0, .ref (b 0)), (1, .int p1), (2, .int (x2 + 1))]) rfl ?_
      exact ih (upd B6 x2.toNatClampNeg (B5 x2.toNatClampNeg)) (x2 + 1) q ⟨i + 1, j0, by rw [z2]; exact nI_1 i, g2, g1, dz_lt1 g2 z2 (by assumption) hi g1, by omega⟩ hF kx
theorem dm_l2 {x y : Int32} {f : Nat → Int32} {nt k : Nat} (hB : dm_B x y f nt k) : ∃ i j0 : Nat, (0 : Int32) = nI i ∧ y = nI j0 ∧ j0 ≤ 40 ∧ i ≤ j0 ∧ j0 < i + 41 := dm_p2 hB ⟨k, Nat.le_refl _, hB.2.2.2.1⟩
theorem dm_fu {x : Int32} {a n : Nat} (h : (x = 0 ∧ 0 < n + 1) ∨ a + 1 < n + 1) (hx : ¬ x = 0) : a + 1 < n + 1 := h.elim (fun z => absurd z.1 hx) id
theorem dm_and {P Q : Prop} (h : P ∧ Q) : P ∧ Q := h
theorem dm_cpl {B1 : Int32} {B5 : Nat → Int32} {nt k : Nat} (hk : k ≤ 40) (hB1 : B1 = nI k) (h5 : ∀ j, j < k → vp_in (B5 j) nt) : ∀ (n : Nat) (B6 : Nat → Int32) (x2 : Int32), (∃ i : Nat, x2 = nI i ∧ i ≤ k ∧ k < i + n ∧ ∀ j, j < i → vp_in (B6 j) nt) → ∀ j, j < k → vp_in (fX4_sort_copy B1 B5 n B6 x2 j) nt := by
  intro n
  induction n with
  | zero => intro B6 x2 hI; obtain ⟨i, -, h3, h4, -⟩ := hI; exact absurd h4 (by omega)
  | succ n ih =>
    intro B6 x2 hI
    obtain ⟨i, e, hi, hn, hv⟩ := hI
    rw [fX4_sort_copy]
    by_cases h1 : B1 ≤ x2
    · rw [if_pos h1]
      have h2 : k ≤ i := by
        rw [hB1, e] at h1
        exact (nI_leI (by omega) (by omega)).mp h1
      intro j hj
      exact hv j (by omega)
    · rw [if_neg h1]
      have h2 := dz_lt1 hB1 e h1 hi hk
      refine ih _ _ ⟨i + 1, by rw [e]; exact nI_1 i, h2, by omega, ?_⟩
      intro j hj
      rw [e, nI_clamp (by omega)]
      by_cases hji : j = i
      · subst hji; rw [pk_us]; exact h5 j (by omega)
      · rw [pk_un hji]; exact hv j (by omega)
theorem dm_cpv {x y : Int32} {B5 B6 q : Nat → Int32} {nt k : Nat} (hB : dm_B x y B5 nt k) (h : fX4_sort_copy y B5 41 B6 0 = q) : ∀ j, j < k → vp_in (q j) nt := by
  subst h
  have := hB.1; have := hB.2.1
  refine dm_cpl (by omega) hB.2.2.2.1 (fun j hj => ?_) 41 B6 0 ⟨0, rfl, Nat.zero_le _, by omega, fun j hj => absurd hj (Nat.not_lt_zero j)⟩
  obtain ⟨t, ht, e⟩ := hB.2.2.2.2 j hj
  rw [e]; exact vp_in_nI ht (by omega)
noncomputable def fX4_sort_move (B3 B4 : Nat → Int64) (K1 K2 K3 : Nat → Int32) (K4 : Nat → Int64) (p1 : Int32) : Nat → (Nat → Int32) → (Nat → Int32) → Int32 → (Nat → Int32) → (Nat → Int32) → (Nat → Int32) → (Nat → Int32) → (Nat → Int64) → Int64 → Int32 → Int32 → Int32 → Int32 → Int32 → Int32 → Int32 → Int32 → (Nat → Int32) × (Nat → Int32) × Int32 × (Nat → Int32) × (Nat → Int32) × (Nat → Int32) × (Nat → Int32) × (Nat → Int64) × Int64 × Int32 × Int32 × Int32 × Int32 × Int32 × Int32
  | 0, B6, E0, M0, M1, M2, M3, M4, M5, M6, M7, U0, U2, U3, x2, x3, _, _ => (B6, E0, M0, M1, M2, M3, M4, M5, M6, M7, U0, U2, U3, x2, x3)
  | n + 1, B6, E0, M0, M1, M2, M3, M4, M5, M6, M7, U0, U2, U3, x2, x3, x5, x6 => (if x5 ≤ 0 then (B6, E0, M0, M1, M2, M3, M4, M5, M6, M7, U0, U2, U3, x2, x3) else (if x6 = 0 then (B6, E0, M0, M1, M2, M3, M4, M5, M6, M7, U0, U2, U3, x2, x3) else (zw_l (fX4_ask B3 B4 K1 K2 K3 K4 E0 M1 M2 M3 M4 M5 M6 U0 U2 U3 2 p1 (B6 (x5 - 1).toNatClampNeg) (B6 x5.toNatClampNeg)) (fun q3 => (if q3.1 = 0 then fX4_sort_move B3 B4 K1 K2 K3 K4 p1 n B6 q3.2.1 q3.2.2.1 q3.2.2.2.1 q3.2.2.2.2.1 q3.2.2.2.2.2.1 q3.2.2.2.2.2.2.1 q3.2.2.2.2.2.2.2.1 q3.2.2.2.2.2.2.2.2.1 q3.2.2.2.2.2.2.2.2.2.1 q3.2.2.2.2.2.2.2.2.2.2.1 q3.2.2.2.2.2.2.2.2.2.2.2.1 q3.2.2.2.2.2.2.2.2.2.2.2.2 x2 q3.1 x5 0 else (if (lg_cmp q3.2.2.2.2.2.2.2.2.1 1) = 0 then fX4_sort_move B3 B4 K1 K2 K3 K4 p1 n (upd (upd B6 x5.toNatClampNeg (B6 (x5 - 1).toNatClampNeg)) (x5 - 1).toNatClampNeg (B6 x5.toNatClampNeg)) q3.2.1 q3.2.2.1 q3.2.2.2.1 q3.2.2.2.2.1 q3.2.2.2.2.2.1 q3.2.2.2.2.2.2.1 q3.2.2.2.2.2.2.2.1 q3.2.2.2.2.2.2.2.2.1 q3.2.2.2.2.2.2.2.2.2.1 q3.2.2.2.2.2.2.2.2.2.2.1 q3.2.2.2.2.2.2.2.2.2.2.2.1 q3.2.2.2.2.2.2.2.2.2.2.2.2 (x2 + 1) q3.1 (x5 + (-1)) 1 else fX4_sort_move B3 B4 K1 K2 K3 K4 p1 n B6 q3.2.1 q3.2.2.1 q3.2.2.2.1 q3.2.2.2.2.1 q3.2.2.2.2.2.1 q3.2.2.2.2.2.2.1 q3.2.2.2.2.2.2.2.1 q3.2.2.2.2.2.2.2.2.1 q3.2.2.2.2.2.2.2.2.2.1 q3.2.2.2.2.2.2.2.2.2.2.1 q3.2.2.2.2.2.2.2.2.2.2.2.1 q3.2.2.2.2.2.2.2.2.2.2.2.2 x2 q3.1 x5 0))))))
set_option maxHeartbeats 4000000 in
set_option maxRecDepth 100000 in
theorem kX4_sort_move {p : Program} {l : Launch} {e : Env} {s : State} {m : MethodId} {args : Array Value} {below : List Frame} {meth : Method} {c : Code} {A : Nat → Prop} {Q : State → Prop} {D : va_G} {cI cL : ClassId} {b : Nat → Nat} {B0 : Int32} {B1 : Int32} {B2 : Int64} {B3 : (Nat → Int64)} {B4 : (Nat → Int64)} {B5 : (Nat → Int32)} {K0 : (Nat → Int32)} {K1 : (Nat → Int32)} {K2 : (Nat → Int32)} {K3 : (Nat → Int32)} {K4 : (Nat → Int64)} {U1 : Int32} {U4 : Int32} {U5 : Int32} {G0 : Int32} {G1 : (Nat → Int64)} {G2 : (Nat → Int32)} {G3 : (Nat → Int64)} {G4 : (Nat → Int32)} {N0 : (Nat → Int64)} {N1 : (Nat → Int32)} {N2 : (Nat → Int64)} {N3 : (Nat → Int32)} {y4 : Int32} {p1 : Int32} {nt k sn vn on : Nat} {J : (Nat → Int32) → Int32 → Int32 → Int32 → Prop} (C : zw_C p s m args c D (zw_tys cI cL) A RX4 cX4_sort 8) (hy1 : dm_B B0 B1 B5 nt k) (hy2 : dm_K K0 sn vn on) (hy3 : mJ B3 B4 K1 K2 K3 K4 J sn vn on nt) (hp : vp_in p1 on) : ∀ (n : Nat) (B6 : (Nat → Int32)) (E0 : (Nat → Int32)) (M0 : Int32) (M1 : (Nat → Int32)) (M2 : (Nat → Int32)) (M3 : (Nat → Int32)) (M4 : (Nat → Int32)) (M5 : (Nat → Int64)) (M6 : Int64) (M7 : Int32) (U0 : Int32) (U2 : Int32) (U3 : Int32) (x2 : Int32) (x3 : Int32) (x5 : Int32) (x6 : Int32) (q : (Nat → Int32) × (Nat → Int32) × Int32 × (Nat → Int32) × (Nat → Int32) × (Nat → Int32) × (Nat → Int32) × (Nat → Int64) × Int64 × Int32 × Int32 × Int32 × Int32 × Int32 × Int32), (∃ a0 : Nat, x5 = nI a0 ∧ a0 < k ∧ (x6 = 0 ∨ x6 = 1) ∧ ((x6 = 0 ∧ 0 < n) ∨ a0 + 1 < n) ∧ J E0 U0 U2 U3 ∧ ∀ j, j < k → vp_in (B6 j) nt) → fX4_sort_move B3 B4 K1 K2 K3 K4 p1 n B6 E0 M0 M1 M2 M3 M4 M5 M6 M7 U0 U2 U3 x2 x3 x5 x6 = q → ((J q.2.1 q.2.2.2.2.2.2.2.2.2.2.1 q.2.2.2.2.2.2.2.2.2.2.2.1 q.2.2.2.2.2.2.2.2.2.2.2.2.1 ∧ ∀ j, j < k → vp_in (q.1 j) nt) → zw_W p l e (zw_rm 4 102) s m args below meth c D A 8 Q 0 0 (wM cI cL b B0 B1 B2 B3 B4 B5 q.1 K0 K1 K2 K3 K4 q.2.1 q.2.2.1 q.2.2.2.1 q.2.2.2.2.1 q.2.2.2.2.2.1 q.2.2.2.2.2.2.1 q.2.2.2.2.2.2.2.1 q.2.2.2.2.2.2.2.2.1 q.2.2.2.2.2.2.2.2.2.1 q.2.2.2.2.2.2.2.2.2.2.1 U1 q.2.2.2.2.2.2.2.2.2.2.2.1 q.2.2.2.2.2.2.2.2.2.2.2.2.1 U4 U5 G0 G1 G2 G3 G4 N0 N1 N2 N3) 186 [(0, .ref (b 0)), (1, .int p1), (4, .int y4), (2, .int q.2.2.2.2.2.2.2.2.2.2.2.2.2.1), (3, .int q.2.2.2.2.2.2.2.2.2.2.2.2.2.2)] []) → zw_W p l e (zw_rm 4 102) s m args below meth c D A 8 Q 0 0 (wM cI cL b B0 B1 B2 B3 B4 B5 B6 K0 K1 K2 K3 K4 E0 M0 M1 M2 M3 M4 M5 M6 M7 U0 U1 U2 U3 U4 U5 G0 G1 G2 G3 G4 N0 N1 N2 N3) 83 [(0, .ref (b 0)), (1, .int p1), (4, .int y4), (2, .int x2), (3, .int x3), (5, .int x5), (6, .int x6)] [] := by
  intro n
  induction n with
  | zero =>
    intro B6 E0 M0 M1 M2 M3 M4 M5 M6 M7 U0 U2 U3 x2 x3 x5 x6 q hI hF kx
    obtain ⟨a0, -, -, -, h4, -⟩ := hI; exact absurd h4 (by omega)
  | succ n ih =>
    intro B6 E0 M0 M1 M2 M3 M4 M5 M6 M7 U0 U2 U3 x2 x3 x5 x6 q hI hF kx
    obtain ⟨a0, z5, ha, h60, hn, hJ, hd⟩ := hI
    rw [fX4_sort_move] at hF
    refine zw_iload C dX4_sort_83 5 rfl ?_
    refine zw_if_le C 186 dX4_sort_85 (by decide) (fun h1 => ?_) (fun h1 => ?_)
    · rw [if_pos h1] at hF
      subst hF; dsimp only at kx
      exact zw_locals [0, 1, 2, 3, 4] rfl (kx ⟨by first | exact hJ | exact mJ_st2 (x := B6 (x5 - 1).toNatClampNeg) (y := B6 x5.toNatClampNeg) hy3 hJ hp (by obtain ⟨m, em, e5x, -⟩ := dz_pred z5 (by have := hy1.1; have := hy1.2.1; omega) (by assumption); rw [e5x, nI_clamp (by have := hy1.1; have := hy1.2.1; omega)]; exact hd m (by omega)) (by rw [z5, nI_clamp (by have := hy1.1; have := hy1.2.1; omega)]; exact hd a0 ha) (by assumption), hd⟩)
    · rw [if_neg h1] at hF
      refine zw_iload C dX4_sort_88 6 rfl ?_
      refine zw_if_eq C 186 dX4_sort_90 (by decide) (fun h2 => ?_) (fun h2 => ?_)
      · rw [if_pos h2] at hF
        subst hF; dsimp only at kx
        exact zw_locals [0, 1, 2, 3, 4] rfl (kx ⟨by first | exact hJ | exact mJ_st2 (x := B6 (x5 - 1).toNatClampNeg) (y := B6 x5.toNatClampNeg) hy3 hJ hp (by obtain ⟨m, em, e5x, -⟩ := dz_pred z5 (by have := hy1.1; have := hy1.2.1; omega) (by assumption); rw [e5x, nI_clamp (by have := hy1.1; have := hy1.2.1; omega)]; exact hd m (by omega)) (by rw [z5, nI_clamp (by have := hy1.1; have := hy1.2.1; omega)]; exact hd a0 ha) (by assumption), hd⟩)
      · rw [if_neg h2] at hF
        refine zw_aload_n C dX4_sort_93 0 rfl rfl ?_
        refine zw_iconst C (v := 2) dX4_sort_94 (by decide) ?_
        refine zw_iload_n C dX4_sort_95 1 rfl rfl ?_
        refine zw_aload_n C dX4_sort_96 0 rfl rfl ?_
        refine zw_get C FX4 0 31 (v := .ref (b 19)) rfl (by decide) lkX4_65 rfl dX4_sort_97 ?_
        refine zw_iload C dX4_sort_100 5 rfl ?_
        refine zw_iconst C (v := 1) dX4_sort_102 (by decide) ?_
        refine zw_isub C dX4_sort_103 ?_
        refine zw_iald C 19 0 (f := B6) (i := (x5 - 1)) rfl rfl (by obtain ⟨m, em, e5x, -⟩ := dz_pred z5 (by have := hy1.1; have := hy1.2.1; omega) (by assumption); rw [e5x]; exact vp_in_nI (by have := hy1.1; have := hy1.2.1; omega) (by decide)) dX4_sort_104 ?_
        refine zw_aload_n C dX4_sort_105 0 rfl rfl ?_
        refine zw_get C FX4 0 31 (v := .ref (b 19)) rfl (by decide) lkX4_65 rfl dX4_sort_106 ?_
        refine zw_iload C dX4_sort_109 5 rfl ?_
        refine zw_iald C 19 0 (f := B6) (i := x5) rfl rfl (by rw [z5]; exact vp_in_nI (by have := hy1.1; have := hy1.2.1; omega) (by decide)) dX4_sort_111 ?_
        obtain ⟨q3, e4⟩ : ∃ z, fX4_ask B3 B4 K1 K2 K3 K4 E0 M1 M2 M3 M4 M5 M6 U0 U2 U3 2 p1 (B6 (x5 - 1).toNatClampNeg) (B6 x5.toNatClampNeg) = z := ⟨_, rfl⟩
        rw [zw_l_eq e4] at hF
        refine zw_calli C kvX4_164 (kX4_askK (mJ_ex2 (x := B6 (x5 - 1).toNatClampNeg) (y := B6 x5.toNatClampNeg) hy3 hJ hp (by obtain ⟨m, em, e5x, -⟩ := dz_pred z5 (by have := hy1.1; have := hy1.2.1; omega) (by assumption); rw [e5x, nI_clamp (by have := hy1.1; have := hy1.2.1; omega)]; exact hd m (by omega)) (by rw [z5, nI_clamp (by have := hy1.1; have := hy1.2.1; omega)]; exact hd a0 ha)) e4) ⟨rfl, rfl, ⟨by decide, by decide⟩, by decide, by decide⟩ FX4 0 (As := [.int 2, .int p1, .int (B6 (x5 - 1).toNatClampNeg), .int (B6 x5.toNatClampNeg)]) (rest := []) rfl rfl rfl (Nat.le_of_ble_eq_true rfl) dX4_sort_112 ?_
        refine zw_istore_n C dX4_sort_115 rfl (by decide) rfl ?_
        refine zw_iload_n C dX4_sort_116 0 rfl rfl ?_
        refine zw_if_eq C 133 dX4_sort_117 (by decide) (fun h5 => ?_) (fun h5 => ?_)
        · rw [if_pos h5] at hF
          refine zw_iconst C (v := 0) dX4_sort_133 (by decide) ?_
          refine zw_istore C dX4_sort_134 (by decide) rfl ?_
          refine zw_iload C dX4_sort_136 0 rfl ?_
          refine zw_if_eq C 83 dX4_sort_138 (by decide) (fun _ => ?_) (fun h => absurd h (by decide))
          refine zw_locals [2, 3, 4, 5, 1, 6, 0] (lv2 := [(0, .ref (b 0)), (1, .int p1), (4, .int y4), (2, .int x2), (3, .int q3.1), (5, .int x5), (6, .int 0)]) rfl ?_
          exact ih B6 q3.2.1 q3.2.2.1 q3.2.2.2.1 q3.2.2.2.2.1 q3.2.2.2.2.2.1 q3.2.2.2.2.2.2.1 q3.2.2.2.2.2.2.2.1 q3.2.2.2.2.2.2.2.2.1 q3.2.2.2.2.2.2.2.2.2.1 q3.2.2.2.2.2.2.2.2.2.2.1 q3.2.2.2.2.2.2.2.2.2.2.2.1 q3.2.2.2.2.2.2.2.2.2.2.2.2 x2 q3.1 x5 0 q ⟨a0, z5, ha, Or.inl rfl, Or.inl ⟨rfl, by have := dm_fu hn (by assumption); omega⟩, mJ_st2 (x := B6 (x5 - 1).toNatClampNeg) (y := B6 x5.toNatClampNeg) hy3 hJ hp (by obtain ⟨m, em, e5x, -⟩ := dz_pred z5 (by have := hy1.1; have := hy1.2.1; omega) (by assumption); rw [e5x, nI_clamp (by have := hy1.1; have := hy1.2.1; omega)]; exact hd m (by omega)) (by rw [z5, nI_clamp (by have := hy1.1; have := hy1.2.1; omega)]; exact hd a0 ha) (by assumption), hd⟩ hF kx
        · rw [if_neg h5] at hF
          refine zw_aload_n C dX4_sort_120 1 rfl rfl ?_
          refine zw_get C FX4 0 17 (v := .long q3.2.2.2.2.2.2.2.2.1) rfl (by decide) lkX4_107 rfl dX4_sort_121 ?_
          refine zw_lconst C (v := 1) dX4_sort_124 (by decide) ?_
          refine zw_lcmp C dX4_sort_125 ?_
          refine zw_if_ne C 133 dX4_sort_126 (by decide) (fun h6 => ?_) (fun h6 => ?_)
          · rw [if_neg h6] at hF
            refine zw_iconst C (v := 0) dX4_sort_133 (by decide) ?_
            refine zw_istore C dX4_sort_134 (by decide) rfl ?_
            refine zw_iload C dX4_sort_136 0 rfl ?_
            refine zw_if_eq C 83 dX4_sort_138 (by decide) (fun _ => ?_) (fun h => absurd h (by decide))
            refine zw_locals [2, 3, 4, 5, 1, 6, 0] (lv2 := [(0, .ref (b 0)), (1, .int p1), (4, .int y4), (2, .int x2), (3, .int q3.1), (5, .int x5), (6, .int 0)]) rfl ?_
            exact ih B6 q3.2.1 q3.2.2.1 q3.2.2.2.1 q3.2.2.2.2.1 q3.2.2.2.2.2.1 q3.2.2.2.2.2.2.1 q3.2.2.2.2.2.2.2.1 q3.2.2.2.2.2.2.2.2.1 q3.2.2.2.2.2.2.2.2.2.1 q3.2.2.2.2.2.2.2.2.2.2.1 q3.2.2.2.2.2.2.2.2.2.2.2.1 q3.2.2.2.2.2.2.2.2.2.2.2.2 x2 q3.1 x5 0 q ⟨a0, z5, ha, Or.inl rfl, Or.inl ⟨rfl, by have := dm_fu hn (by assumption); omega⟩, mJ_st2 (x := B6 (x5 - 1).toNatClampNeg) (y := B6 x5.toNatClampNeg) hy3 hJ hp (by obtain ⟨m, em, e5x, -⟩ := dz_pred z5 (by have := hy1.1; have := hy1.2.1; omega) (by assumption); rw [e5x, nI_clamp (by have := hy1.1; have := hy1.2.1; omega)]; exact hd m (by omega)) (by rw [z5, nI_clamp (by have := hy1.1; have := hy1.2.1; omega)]; exact hd a0 ha) (by assumption), hd⟩ hF kx
          · rw [if_pos h6] at hF
            refine zw_iconst C (v := 1) dX4_sort_129 (by decide) ?_
            refine zw_goto C 134 dX4_sort_130 (by decide) ?_
            refine zw_istore C dX4_sort_134 (by decide) rfl ?_
            refine zw_iload C dX4_sort_136 0 rfl ?_
            refine zw_if_eq C 83 dX4_sort_138 (by decide) (fun h => absurd h (by decide)) (fun _ => ?_)
            refine zw_aload_n C dX4_sort_141 2 rfl rfl ?_
            refine zw_get C FX4 0 31 (v := .ref (b 19)) rfl (by decide) lkX4_65 rfl dX4_sort_142 ?_
            refine zw_iload C dX4_sort_145 6 rfl ?_
            refine zw_iald C 19 0 (f := B6) (i := x5) rfl rfl (by rw [z5]; exact vp_in_nI (by have := hy1.1; have := hy1.2.1; omega) (by decide)) dX4_sort_147 ?_
            refine zw_istore C dX4_sort_148 (by decide) rfl ?_
            refine zw_aload_n C dX4_sort_150 3 rfl rfl ?_
            refine zw_get C FX4 0 31 (v := .ref (b 19)) rfl (by decide) lkX4_65 rfl dX4_sort_151 ?_
            refine zw_iload C dX4_sort_154 7 rfl ?_
            refine zw_aload_n C dX4_sort_156 3 rfl rfl ?_
            refine zw_get C FX4 0 31 (v := .ref (b 19)) rfl (by decide) lkX4_65 rfl dX4_sort_157 ?_
            refine zw_iload C dX4_sort_160 7 rfl ?_
            refine zw_iconst C (v := 1) dX4_sort_162 (by decide) ?_
            refine zw_isub C dX4_sort_163 ?_
            refine zw_iald C 19 0 (f := B6) (i := (x5 - 1)) rfl rfl (by obtain ⟨m, em, e5x, -⟩ := dz_pred z5 (by have := hy1.1; have := hy1.2.1; omega) (by assumption); rw [e5x]; exact vp_in_nI (by have := hy1.1; have := hy1.2.1; omega) (by decide)) dX4_sort_164 ?_
            refine zw_iast C 19 0 (f := B6) (i := x5) (ws2 := (wM cI cL b B0 B1 B2 B3 B4 B5 (upd B6 x5.toNatClampNeg (B6 (x5 - 1).toNatClampNeg)) K0 K1 K2 K3 K4 q3.2.1 q3.2.2.1 q3.2.2.2.1 q3.2.2.2.2.1 q3.2.2.2.2.2.1 q3.2.2.2.2.2.2.1 q3.2.2.2.2.2.2.2.1 q3.2.2.2.2.2.2.2.2.1 q3.2.2.2.2.2.2.2.2.2.1 q3.2.2.2.2.2.2.2.2.2.2.1 U1 q3.2.2.2.2.2.2.2.2.2.2.2.1 q3.2.2.2.2.2.2.2.2.2.2.2.2 U4 U5 G0 G1 G2 G3 G4 N0 N1 N2 N3)) rfl rfl (by rw [z5]; exact vp_in_nI (by have := hy1.1; have := hy1.2.1; omega) (by decide)) rfl dX4_sort_165 ?_
            refine zw_aload_n C dX4_sort_166 3 rfl rfl ?_
            refine zw_get C FX4 0 31 (v := .ref (b 19)) rfl (by decide) lkX4_65 rfl dX4_sort_167 ?_
            refine zw_iload C dX4_sort_170 7 rfl ?_
            refine zw_iconst C (v := 1) dX4_sort_172 (by decide) ?_
            refine zw_isub C dX4_sort_173 ?_
            refine zw_iload C dX4_sort_174 0 rfl ?_
            refine zw_iast C 19 0 (f := (upd B6 x5.toNatClampNeg (B6 (x5 - 1).toNatClampNeg))) (i := (x5 - 1)) (ws2 := (wM cI cL b B0 B1 B2 B3 B4 B5 (upd (upd B6 x5.toNatClampNeg (B6 (x5 - 1).toNatClampNeg)) (x5 - 1).toNatClampNeg (B6 x5.toNatClampNeg)) K0 K1 K2 K3 K4 q3.2.1 q3.2.2.1 q3.2.2.2.1 q3.2.2.2.2.1 q3.2.2.2.2.2.1 q3.2.2.2.2.2.2.1 q3.2.2.2.2.2.2.2.1 q3.2.2.2.2.2.2.2.2.1 q3.2.2.2.2.2.2.2.2.2.1 q3.2.2.2.2.2.2.2.2.2.2.1 U1 q3.2.2.2.2.2.2.2.2.2.2.2.1 q3.2.2.2.2.2.2.2.2.2.2.2.2 U4 U5 G0 G1 G2 G3 G4 N0 N1 N2 N3)) rfl rfl (by obtain ⟨m, em, e5x, -⟩ := dz_pred z5 (by have := hy1.1; have := hy1.2.1; omega) (by assumption); rw [e5x]; exact vp_in_nI (by have := hy1.1; have := hy1.2.1; omega) (by decide)) rfl dX4_sort_176 ?_
            refine zw_iinc C (j := 7) (v := x5 + (-1)) dX4_sort_177 rfl rfl (by decide) rfl ?_
            refine zw_iinc C (j := 7) (v := x2 + 1) dX4_sort_180 rfl rfl (by decide) rfl ?_
            refine zw_goto C 83 dX4_sort_183 (by decide) ?_
            refine zw_locals [5, 6, 7, 0, 4, 1, 3] (lv2 := [(0, .ref (b 0)), (1, .int p1), (4, .int y4), (2, .int (x2 + 1)), (3, .int q3.1), (5, .int (x5 + (-1))), (6, .int 1)]) rfl ?_
            exact ih (upd (upd B6 x5.toNatClampNeg (B6 (x5 - 1).toNatClampNeg)) (x5 - 1).toNatClampNeg (B6 x5.toNatClampNeg)) q3.2.1 q3.2.2.1 q3.2.2.2.1 q3.2.2.2.2.1 q3.2.2.2.2.2.1 q3.2.2.2.2.2.2.1 q3.2.2.2.2.2.2.2.1 q3.2.2.2.2.2.2.2.2.1 q3.2.2.2.2.2.2.2.2.2.1 q3.2.2.2.2.2.2.2.2.2.2.1 q3.2.2.2.2.2.2.2.2.2.2.2.1 q3.2.2.2.2.2.2.2.2.2.2.2.2 (x2 + 1) q3.1 (x5 + (-1)) 1 q (by obtain ⟨m, em, e5x, e6x⟩ := dz_pred z5 (by have := hy1.1; have := hy1.2.1; omega) (by assumption); exact ⟨m, e6x, by omega, Or.inr rfl, Or.inr (by have := dm_fu hn (by assumption); omega), mJ_st2 (x := B6 (x5 - 1).toNatClampNeg) (y := B6 x5.toNatClampNeg) hy3 hJ hp (by obtain ⟨m, em, e5x, -⟩ := dz_pred z5 (by have := hy1.1; have := hy1.2.1; omega) (by assumption); rw [e5x, nI_clamp (by have := hy1.1; have := hy1.2.1; omega)]; exact hd m (by omega)) (by rw [z5, nI_clamp (by have := hy1.1; have := hy1.2.1; omega)]; exact hd a0 ha) (by assumption), dz_up (dz_up hd (by obtain ⟨m2, em2, e7x, -⟩ := dz_pred z5 (by have := hy1.1; have := hy1.2.1; omega) (by assumption); rw [e7x, nI_clamp (by have := hy1.1; have := hy1.2.1; omega)]; exact hd m2 (by omega))) (by rw [z5, nI_clamp (by have := hy1.1; have := hy1.2.1; omega)]; exact hd a0 ha)⟩) hF kx
noncomputable def fX4_sort_loop (B1 : Int32) (B3 B4 : Nat → Int64) (K1 K2 K3 : Nat → Int32) (K4 : Nat → Int64) (p1 : Int32) : Nat → (Nat → Int32) → (Nat → Int32) → Int32 → (Nat → Int32) → (Nat → Int32) → (Nat → Int32) → (Nat → Int32) → (Nat → Int64) → Int64 → Int32 → Int32 → Int32 → Int32 → Int32 → Int32 → Int32 → (Nat → Int32) × (Nat → Int32) × Int32 × (Nat → Int32) × (Nat → Int32) × (Nat → Int32) × (Nat → Int32) × (Nat → Int64) × Int64 × Int32 × Int32 × Int32 × Int32 × Int32 × Int32
  | 0, B6, E0, M0, M1, M2, M3, M4, M5, M6, M7, U0, U2, U3, x2, x3, _ => (B6, E0, M0, M1, M2, M3, M4, M5, M6, M7, U0, U2, U3, x2, x3)
  | n + 1, B6, E0, M0, M1, M2, M3, M4, M5, M6, M7, U0, U2, U3, x2, x3, x4 => (if B1 ≤ x4 then (B6, E0, M0, M1, M2, M3, M4, M5, M6, M7, U0, U2, U3, x2, x3) else (if x3 = 0 then (B6, E0, M0, M1, M2, M3, M4, M5, M6, M7, U0, U2, U3, x2, x3) else (zw_l (fX4_sort_move B3 B4 K1 K2 K3 K4 p1 42 B6 E0 M0 M1 M2 M3 M4 M5 M6 M7 U0 U2 U3 x2 x3 x4 1) (fun q3 => fX4_sort_loop B1 B3 B4 K1 K2 K3 K4 p1 n q3.1 q3.2.1 q3.2.2.1 q3.2.2.2.1 q3.2.2.2.2.1 q3.2.2.2.2.2.1 q3.2.2.2.2.2.2.1 q3.2.2.2.2.2.2.2.1 q3.2.2.2.2.2.2.2.2.1 q3.2.2.2.2.2.2.2.2.2.1 q3.2.2.2.2.2.2.2.2.2.2.1 q3.2.2.2.2.2.2.2.2.2.2.2.1 q3.2.2.2.2.2.2.2.2.2.2.2.2.1 q3.2.2.2.2.2.2.2.2.2.2.2.2.2.1 q3.2.2.2.2.2.2.2.2.2.2.2.2.2.2 (x4 + 1)))))
set_option maxHeartbeats 4000000 in
set_option maxRecDepth 100000 in
theorem kX4_sort_loop {p : Program} {l : Launch} {e : Env} {s : State} {m : MethodId} {args : Array Value} {below : List Frame} {meth : Method} {c : Code} {A : Nat → Prop} {Q : State → Prop} {D : va_G} {cI cL : ClassId} {b : Nat → Nat} {B0 : Int32} {B1 : Int32} {B2 : Int64} {B3 : (Nat → Int64)} {B4 : (Nat → Int64)} {B5 : (Nat → Int32)} {K0 : (Nat → Int32)} {K1 : (Nat → Int32)} {K2 : (Nat → Int32)} {K3 : (Nat → Int32)} {K4 : (Nat → Int64)} {U1 : Int32} {U4 : Int32} {U5 : Int32} {G0 : Int32} {G1 : (Nat → Int64)} {G2 : (Nat → Int32)} {G3 : (Nat → Int64)} {G4 : (Nat → Int32)} {N0 : (Nat → Int64)} {N1 : (Nat → Int32)} {N2 : (Nat → Int64)} {N3 : (Nat → Int32)} {p1 : Int32} {nt k sn vn on : Nat} {J : (Nat → Int32) → Int32 → Int32 → Int32 → Prop} (C : zw_C p s m args c D (zw_tys cI cL) A RX4 cX4_sort 8) (hy1 : dm_B B0 B1 B5 nt k) (hy2 : dm_K K0 sn vn on) (hy3 : mJ B3 B4 K1 K2 K3 K4 J sn vn on nt) (hp : vp_in p1 on) : ∀ (n : Nat) (B6 : (Nat → Int32)) (E0 : (Nat → Int32)) (M0 : Int32) (M1 : (Nat → Int32)) (M2 : (Nat → Int32)) (M3 : (Nat → Int32)) (M4 : (Nat → Int32)) (M5 : (Nat → Int64)) (M6 : Int64) (M7 : Int32) (U0 : Int32) (U2 : Int32) (U3 : Int32) (x2 : Int32) (x3 : Int32) (x4 : Int32) (q : (Nat → Int32) × (Nat → Int32) × Int32 × (Nat → Int32) × (Nat → Int32) × (Nat → Int32) × (Nat → Int32) × (Nat → Int64) × Int64 × Int32 × Int32 × Int32 × Int32 × Int32 × Int32), (∃ i : Nat, x4 = nI i ∧ i ≤ k + 1 ∧ k + 1 < i + n ∧ J E0 U0 U2 U3 ∧ ∀ j, j < k → vp_in (B6 j) nt) → fX4_sort_loop B1 B3 B4 K1 K2 K3 K4 p1 n B6 E0 M0 M1 M2 M3 M4 M5 M6 M7 U0 U2 U3 x2 x3 x4 = q → (zw_W p l e (zw_rm 4 102) s m args below meth c D A 8 Q 0 0 (wM cI cL b B0 B1 B2 B3 B4 B5 q.1 K0 K1 K2 K3 K4 q.2.1 q.2.2.1 q.2.2.2.1 q.2.2.2.2.1 q.2.2.2.2.2.1 q.2.2.2.2.2.2.1 q.2.2.2.2.2.2.2.1 q.2.2.2.2.2.2.2.2.1 q.2.2.2.2.2.2.2.2.2.1 q.2.2.2.2.2.2.2.2.2.2.1 U1 q.2.2.2.2.2.2.2.2.2.2.2.1 q.2.2.2.2.2.2.2.2.2.2.2.2.1 U4 U5 G0 G1 G2 G3 G4 N0 N1 N2 N3) 192 [(0, .ref (b 0)), (1, .int p1), (2, .int q.2.2.2.2.2.2.2.2.2.2.2.2.2.1), (3, .int q.2.2.2.2.2.2.2.2.2.2.2.2.2.2)] []) → zw_W p l e (zw_rm 4 102) s m args below meth c D A 8 Q 0 0 (wM cI cL b B0 B1 B2 B3 B4 B5 B6 K0 K1 K2 K3 K4 E0 M0 M1 M2 M3 M4 M5 M6 M7 U0 U1 U2 U3 U4 U5 G0 G1 G2 G3 G4 N0 N1 N2 N3) 63 [(0, .ref (b 0)), (1, .int p1), (2, .int x2), (3, .int x3), (4, .int x4)] [] := by
  intro n
  induction n with
  | zero =>
    intro B6 E0 M0 M1 M2 M3 M4 M5 M6 M7 U0 U2 U3 x2 x3 x4 q hI hF kx
    obtain ⟨i, -, h3, h4, -⟩ := hI; exact absurd h4 (by omega)
  | succ n ih =>
    intro B6 E0 M0 M1 M2 M3 M4 M5 M6 M7 U0 U2 U3 x2 x3 x4 q hI hF kx
    obtain ⟨i, z4, hi, hn, hJ, hd⟩ := hI
    rw [fX4_sort_loop] at hF
    refine zw_iload C dX4_sort_63 4 rfl ?_
    refine zw_aload_n C dX4_sort_65 0 rfl rfl ?_
    refine zw_get C FX4 0 3 (v := .int B1) rfl (by decide) lkX4_88 rfl dX4_sort_66 ?_
    refine zw_icmp_ge C 192 dX4_sort_69 (by decide) (fun h1 => ?_) (fun h1 => ?_)
    · rw [if_pos h1] at hF
      subst hF; dsimp only at kx
      exact zw_locals [0, 1, 2, 3] rfl kx
    · rw [if_neg h1] at hF
      refine zw_iload_n C dX4_sort_72 3 rfl rfl ?_
      refine zw_if_eq C 192 dX4_sort_73 (by decide) (fun h2 => ?_) (fun h2 => ?_)
      · rw [if_pos h2] at hF
        subst hF; dsimp only at kx
        exact zw_locals [0, 1, 2, 3] rfl kx
      · rw [if_neg h2] at hF
        refine zw_iload C dX4_sort_76 4 rfl ?_
        refine zw_istore C dX4_sort_78 (by decide) rfl ?_
        refine zw_iconst C (v := 1) dX4_sort_80 (by decide) ?_
        refine zw_istore C dX4_sort_81 (by decide) rfl ?_
        obtain ⟨q3, e4⟩ : ∃ z, fX4_sort_move B3 B4 K1 K2 K3 K4 p1 42 B6 E0 M0 M1 M2 M3 M4 M5 M6 M7 U0 U2 U3 x2 x3 x4 1 = z := ⟨_, rfl⟩
        rw [zw_l_eq e4] at hF
        refine zw_locals [2, 3, 6, 4, 5, 1, 0] (lv2 := [(0, .ref (b 0)), (1, .int p1), (4, .int x4), (2, .int x2), (3, .int x3), (5, .int x4), (6, .int 1)]) rfl ?_
        refine kX4_sort_move C hy1 hy2 hy3 hp 42 B6 E0 M0 M1 M2 M3 M4 M5 M6 M7 U0 U2 U3 x2 x3 x4 1 q3 ⟨i, z4, dm_lk2 hy1 z4 (by assumption) hi, Or.inr rfl, Or.inr (by have := dm_lk2 hy1 z4 (by assumption) hi; have := hy1.1; have := hy1.2.1; omega), hJ, hd⟩ e4 (fun e4p => ?_)
        refine zw_iinc C (j := 2) (v := x4 + 1) dX4_sort_186 rfl rfl (by decide) rfl ?_
        refine zw_goto C 63 dX4_sort_189 (by decide) ?_
        refine zw_locals [1, 2, 3, 4, 0] (lv2 := [(0, .ref (b 0)), (1, .int p1), (2, .int q3.2.2.2.2.2.2.2.2.2.2.2.2.2.1), (3, .int q3.2.2.2.2.2.2.2.2.2.2.2.2.2.2), (4, .int (x4 + 1))]) rfl ?_
        exact ih q3.1 q3.2.1 q3.2.2.1 q3.2.2.2.1 q3.2.2.2.2.1 q3.2.2.2.2.2.1 q3.2.2.2.2.2.2.1 q3.2.2.2.2.2.2.2.1 q3.2.2.2.2.2.2.2.2.1 q3.2.2.2.2.2.2.2.2.2.1 q3.2.2.2.2.2.2.2.2.2.2.1 q3.2.2.2.2.2.2.2.2.2.2.2.1 q3.2.2.2.2.2.2.2.2.2.2.2.2.1 q3.2.2.2.2.2.2.2.2.2.2.2.2.2.1 q3.2.2.2.2.2.2.2.2.2.2.2.2.2.2 (x4 + 1) q (by have h7 := dm_lk2 hy1 z4 (by assumption) hi; obtain ⟨hJ2, hd2⟩ := dm_and (by assumption); exact ⟨i + 1, by rw [z4]; exact nI_1 i, by omega, by omega, hJ2, hd2⟩) hF kx
def fX4_sort_back (B1 : Int32) (B6 : Nat → Int32) (y3 : Int32) : Nat → (Nat → Int32) → Int32 → (Nat → Int32)
  | 0, B5, _ => B5
  | n + 1, B5, x4 => (if B1 ≤ x4 then B5 else (if y3 = 0 then B5 else fX4_sort_back B1 B6 y3 n (upd B5 x4.toNatClampNeg (B6 x4.toNatClampNeg)) (x4 + 1)))
set_option maxHeartbeats 4000000 in
set_option maxRecDepth 100000 in
theorem kX4_sort_back {p : Program} {l : Launch} {e : Env} {s : State} {m : MethodId} {args : Array Value} {below : List Frame} {meth : Method} {c : Code} {A : Nat → Prop} {Q : State → Prop} {D : va_G} {cI cL : ClassId} {b : Nat → Nat} {B0 : Int32} {B1 : Int32} {B2 : Int64} {B3 : (Nat → Int64)} {B4 : (Nat → Int64)} {B6 : (Nat → Int32)} {K0 : (Nat → Int32)} {K1 : (Nat → Int32)} {K2 : (Nat → Int32)} {K3 : (Nat → Int32)} {K4 : (Nat → Int64)} {E0 : (Nat → Int32)} {M0 : Int32} {M1 : (Nat → Int32)} {M2 : (Nat → Int32)} {M3 : (Nat → Int32)} {M4 : (Nat → Int32)} {M5 : (Nat → Int64)} {M6 : Int64} {M7 : Int32} {U0 : Int32} {U1 : Int32} {U2 : Int32} {U3 : Int32} {U4 : Int32} {U5 : Int32} {G0 : Int32} {G1 : (Nat → Int64)} {G2 : (Nat → Int32)} {G3 : (Nat → Int64)} {G4 : (Nat → Int32)} {N0 : (Nat → Int64)} {N1 : (Nat → Int32)} {N2 : (Nat → Int64)} {N3 : (Nat → Int32)} {y2 : Int32} {y3 : Int32} (C : zw_C p s m args c D (zw_tys cI cL) A RX4 cX4_sort 8) : ∀ (n : Nat) (B5 : (Nat → Int32)) (x4 : Int32) (q : (Nat → Int32)), (∃ i j0 : Nat, x4 = nI i ∧ B1 = nI j0 ∧ j0 ≤ 40 ∧ i ≤ j0 ∧ j0 < i + n) → fX4_sort_back B1 B6 y3 n B5 x4 = q → (zw_W p l e (zw_rm 4 102) s m args below meth c D A 8 Q 0 0 (wM cI cL b B0 B1 B2 B3 B4 q B6 K0 K1 K2 K3 K4 E0 M0 M1 M2 M3 M4 M5 M6 M7 U0 U1 U2 U3 U4 U5 G0 G1 G2 G3 G4 N0 N1 N2 N3) 228 [(0, .ref (b 0)), (2, .int y2), (3, .int y3)] []) → zw_W p l e (zw_rm 4 102) s m args below meth c D A 8 Q 0 0 (wM cI cL b B0 B1 B2 B3 B4 B5 B6 K0 K1 K2 K3 K4 E0 M0 M1 M2 M3 M4 M5 M6 M7 U0 U1 U2 U3 U4 U5 G0 G1 G2 G3 G4 N0 N1 N2 N3) 195 [(0, .ref (b 0)), (2, .int y2), (3, .int y3), (4, .int x4)] [] := by
  intro n
  induction n with
  | zero =>
    intro B5 x4 q hI hF kx
    obtain ⟨i, j0, -, -, -, h3, h4⟩ := hI; exact absurd h4 (by omega)
  | succ n ih =>
    intro B5 x4 q hI hF kx
    obtain ⟨i, j0, z4, g2, g1, hi, hn⟩ := hI
    rw [fX4_sort_back] at hF
    refine zw_iload C dX4_sort_195 3 rfl ?_
    refine zw_aload_n C dX4_sort_197 0 rfl rfl ?_
    refine zw_get C FX4 0 3 (v := .int B1) rfl (by decide) lkX4_88 rfl dX4_sort_198 ?_
    refine zw_icmp_ge C 228 dX4_sort_201 (by decide) (fun h1 => ?_) (fun h1 => ?_)
    · rw [if_pos h1] at hF
      subst hF
      exact zw_locals [0, 1, 2] rfl kx
    · rw [if_neg h1] at hF
      refine zw_iload_n C dX4_sort_204 2 rfl rfl ?_
      refine zw_if_eq C 228 dX4_sort_205 (by decide) (fun h2 => ?_) (fun h2 => ?_)
      · rw [if_pos h2] at hF
        subst hF
        exact zw_locals [0, 1, 2] rfl kx
      · rw [if_neg h2] at hF
        refine zw_aload_n C dX4_sort_208 0 rfl rfl ?_
        refine zw_get C FX4 0 4 (v := .ref (b 3)) rfl (by decide) lkX4_16 rfl dX4_sort_209 ?_
        refine zw_iload C dX4_sort_212 3 rfl ?_
        refine zw_aload_n C dX4_sort_214 0 rfl rfl ?_
        refine zw_get C FX4 0 31 (v := .ref (b 19)) rfl (by decide) lkX4_65 rfl dX4_sort_215 ?_
        refine zw_iload C dX4_sort_218 3 rfl ?_
        refine zw_iald C 19 0 (f := B6) (i := x4) rfl rfl (by rw [z4]; exact vp_in_nI (by have := dz_lt1 g2 z4 (by assumption) hi g1; omega) (by decide)) dX4_sort_220 ?_
        refine zw_iast C 3 0 (f := B5) (i := x4) (ws2 := (wM cI cL b B0 B1 B2 B3 B4 (upd B5 x4.toNatClampNeg (B6 x4.toNatClampNeg)) B6 K0 K1 K2 K3 K4 E0 M0 M1 M2 M3 M4 M5 M6 M7 U0 U1 U2 U3 U4 U5 G0 G1 G2 G3 G4 N0 N1 N2 N3)) rfl rfl (by rw [z4]; exact vp_in_nI (by have := dz_lt1 g2 z4 (by assumption) hi g1; omega) (by decide)) rfl dX4_sort_221 ?_
        refine zw_iinc C (j := 3) (v := x4 + 1) dX4_sort_222 rfl rfl (by decide) rfl ?_
        refine zw_goto C 195 dX4_sort_225 (by decide) ?_
        refine zw_locals [1, 2, 3, 0] (lv2 := [(0, .ref (b 0)), (2, .int y2), (3, .int y3), (4, .int (x4 + 1))]) rfl ?_
        exact ih (upd B5 x4.toNatClampNeg (B6 x4.toNatClampNeg)) (x4 + 1) q ⟨i + 1, j0, by rw [z4]; exact nI_1 i, g2, g1, dz_lt1 g2 z4 (by assumption) hi g1, by omega⟩ hF kx
noncomputable def fX4_sort (B1 : Int32) (B2 : Int64) (B3 : (Nat → Int64)) (B4 : (Nat → Int64)) (B5 : (Nat → Int32)) (B6 : (Nat → Int32)) (K0 : (Nat → Int32)) (K1 : (Nat → Int32)) (K2 : (Nat → Int32)) (K3 : (Nat → Int32)) (K4 : (Nat → Int64)) (E0 : (Nat → Int32)) (M0 : Int32) (M1 : (Nat → Int32)) (M2 : (Nat → Int32)) (M3 : (Nat → Int32)) (M4 : (Nat → Int32)) (M5 : (Nat → Int64)) (M6 : Int64) (M7 : Int32) (U0 : Int32) (U1 : Int32) (U2 : Int32) (U3 : Int32) (U4 : Int32) (U5 : Int32) (p1 : Int32) : Int32 × (Nat → Int32) × (Nat → Int32) × (Nat → Int32) × Int32 × (Nat → Int32) × (Nat → Int32) × (Nat → Int32) × (Nat → Int32) × (Nat → Int64) × Int64 × Int32 × Int32 × Int32 × Int32 × Int32 × Int32 × Int32 := (if (fX4_is K0 2 p1) = 0 then ((-1), B5, B6, E0, M0, M1, M2, M3, M4, M5, M6, M7, U0, U2, U3, U1, U4, U5) else (if U3 < 2000 then (zw_l (fX4_startsCall) (fun q3 => (zw_l (fX4_sort_copy B1 B5 41 B6 0) (fun q5 => (zw_l (fX4_sort_loop B1 B3 B4 K1 K2 K3 K4 p1 41 q5 E0 M0 M1 M2 M3 M4 M5 M6 q3.1 q3.2 U2 U3 0 1 1) (fun q7 => (zw_l (fX4_sort_back B1 q7.1 q7.2.2.2.2.2.2.2.2.2.2.2.2.2.2 41 B5 0) (fun q9 => (zw_l (fX4_ends q7.2.2.2.2.2.2.2.2.2.1 q7.2.2.2.2.2.2.2.2.2.2.1 U1 q7.2.2.2.2.2.2.2.2.2.2.2.1 q7.2.2.2.2.2.2.2.2.2.2.2.2.1 U4 U5 q7.2.2.2.2.2.2.2.2.2.2.2.2.2.1) (fun q11 => (q11.1, q9, q7.1, q7.2.1, q7.2.2.1, q7.2.2.2.1, q7.2.2.2.2.1, q7.2.2.2.2.2.1, q7.2.2.2.2.2.2.1, q7.2.2.2.2.2.2.2.1, q7.2.2.2.2.2.2.2.2.1, q7.2.2.2.2.2.2.2.2.2.1, q7.2.2.2.2.2.2.2.2.2.2.1, q7.2.2.2.2.2.2.2.2.2.2.2.1, q11.2.2.1, q11.2.1, q11.2.2.2.1, q11.2.2.2.2))))))))))) else ((-2), B5, B6, E0, M0, M1, M2, M3, M4, M5, M6, M7, U0, U2, U3, U1, U4, U5)))
set_option maxHeartbeats 4000000 in
set_option maxRecDepth 100000 in
theorem kX4_sort {l : Launch} {D : va_G} {cI cL : ClassId} {b : Nat → Nat} {B0 : Int32} {B1 : Int32} {B2 : Int64} {B3 : (Nat → Int64)} {B4 : (Nat → Int64)} {B5 : (Nat → Int32)} {B6 : (Nat → Int32)} {K0 : (Nat → Int32)} {K1 : (Nat → Int32)} {K2 : (Nat → Int32)} {K3 : (Nat → Int32)} {K4 : (Nat → Int64)} {E0 : (Nat → Int32)} {M0 : Int32} {M1 : (Nat → Int32)} {M2 : (Nat → Int32)} {M3 : (Nat → Int32)} {M4 : (Nat → Int32)} {M5 : (Nat → Int64)} {M6 : Int64} {M7 : Int32} {U0 : Int32} {U1 : Int32} {U2 : Int32} {U3 : Int32} {U4 : Int32} {U5 : Int32} {G0 : Int32} {G1 : (Nat → Int64)} {G2 : (Nat → Int32)} {G3 : (Nat → Int64)} {G4 : (Nat → Int32)} {N0 : (Nat → Int64)} {N1 : (Nat → Int32)} {N2 : (Nat → Int64)} {N3 : (Nat → Int32)} {p1 : Int32} {q : Int32 × (Nat → Int32) × (Nat → Int32) × (Nat → Int32) × Int32 × (Nat → Int32) × (Nat → Int32) × (Nat → Int32) × (Nat → Int32) × (Nat → Int64) × Int64 × Int32 × Int32 × Int32 × Int32 × Int32 × Int32 × Int32} {nt k sn vn on : Nat} {J : (Nat → Int32) → Int32 → Int32 → Int32 → Prop} (hy1 : dm_B B0 B1 B5 nt k) (hy2 : dm_K K0 sn vn on) (hy3 : mJ B3 B4 K1 K2 K3 K4 J sn vn on nt) (hy4 : J E0 0 U2 U3) (hF : fX4_sort B1 B2 B3 B4 B5 B6 K0 K1 K2 K3 K4 E0 M0 M1 M2 M3 M4 M5 M6 M7 U0 U1 U2 U3 U4 U5 p1 = q) : zw_Mi l yX4_sort cX4_sort 8 .int D (zw_tys cI cL) (zw_rm 4 102) [.ref (b 0), .int p1] (wM cI cL b B0 B1 B2 B3 B4 B5 B6 K0 K1 K2 K3 K4 E0 M0 M1 M2 M3 M4 M5 M6 M7 U0 U1 U2 U3 U4 U5 G0 G1 G2 G3 G4 N0 N1 N2 N3) (wM cI cL b B0 B1 B2 B3 B4 q.2.1 q.2.2.1 K0 K1 K2 K3 K4 q.2.2.2.1 q.2.2.2.2.1 q.2.2.2.2.2.1 q.2.2.2.2.2.2.1 q.2.2.2.2.2.2.2.1 q.2.2.2.2.2.2.2.2.1 q.2.2.2.2.2.2.2.2.2.1 q.2.2.2.2.2.2.2.2.2.2.1 q.2.2.2.2.2.2.2.2.2.2.2.1 q.2.2.2.2.2.2.2.2.2.2.2.2.1 q.2.2.2.2.2.2.2.2.2.2.2.2.2.2.2.1 q.2.2.2.2.2.2.2.2.2.2.2.2.2.1 q.2.2.2.2.2.2.2.2.2.2.2.2.2.2.1 q.2.2.2.2.2.2.2.2.2.2.2.2.2.2.2.2.1 q.2.2.2.2.2.2.2.2.2.2.2.2.2.2.2.2.2 G0 G1 G2 G3 G4 N0 N1 N2 N3) q.1 := by
  unfold fX4_sort at hF
  refine zw_Mi_of (own := RX4) (by decide) rfl (Nat.le_of_ble_eq_true rfl) ?_
  intro p e s m args below meth c A C hr hlk
  refine zw_eq (lv2 := [(0, .ref (b 0)), (1, .int p1)]) rfl rfl rfl ?_
  refine zw_aload_n C dX4_sort_0 0 rfl rfl ?_
  refine zw_iconst C (v := 2) dX4_sort_1 (by decide) ?_
  refine zw_iload_n C dX4_sort_2 1 rfl rfl ?_
  refine zw_calli C kvX4_153 (kX4_is (vp_in_iff.mpr ⟨by decide, by decide⟩) rfl) ⟨rfl, rfl, ⟨by decide, by decide⟩, by decide, by decide⟩ FX4 0 (As := [.int 2, .int p1]) (rest := []) rfl rfl rfl (Nat.le_of_ble_eq_true rfl) dX4_sort_3 ?_
  refine zw_if_ne C 11 dX4_sort_6 (by decide) (fun h1 => ?_) (fun h1 => ?_)
  · rw [if_neg h1] at hF
    refine zw_aload_n C dX4_sort_11 0 rfl rfl ?_
    refine zw_get C FX4 0 22 (v := .int U3) rfl (by decide) lkX4_127 rfl dX4_sort_12 ?_
    refine zw_sipush C (v := 2000) dX4_sort_15 (by decide) ?_
    refine zw_icmp_lt C 24 dX4_sort_18 (by decide) (fun h2 => ?_) (fun h2 => ?_)
    · rw [if_pos h2] at hF
      refine zw_aload_n C dX4_sort_24 0 rfl rfl ?_
      obtain ⟨q3, e4⟩ : ∃ z, fX4_startsCall = z := ⟨_, rfl⟩
      rw [zw_l_eq e4] at hF
      refine zw_callv C kvX4_161 (kX4_startsCall e4) ⟨rfl, rfl, ⟨by decide, by decide⟩, by decide, by decide⟩ FX4 0 (As := []) (rest := []) rfl rfl rfl (Nat.le_of_ble_eq_true rfl) dX4_sort_25 ?_
      refine zw_iconst C (v := 0) dX4_sort_28 (by decide) ?_
      refine zw_istore_n C dX4_sort_29 rfl (by decide) rfl ?_
      obtain ⟨q5, e6⟩ : ∃ z, fX4_sort_copy B1 B5 41 B6 0 = z := ⟨_, rfl⟩
      rw [zw_l_eq e6] at hF
      refine zw_locals [1, 2, 0] (lv2 := [(0, .ref (b 0)), (1, .int p1), (2, .int 0)]) rfl ?_
      refine kX4_sort_copy C  41 B6 0 q5 (dm_l2 hy1) e6 ?_
      refine zw_iconst C (v := 0) dX4_sort_56 (by decide) ?_
      refine zw_istore_n C dX4_sort_57 rfl (by decide) rfl ?_
      refine zw_iconst C (v := 1) dX4_sort_58 (by decide) ?_
      refine zw_istore_n C dX4_sort_59 rfl (by decide) rfl ?_
      refine zw_iconst C (v := 1) dX4_sort_60 (by decide) ?_
      refine zw_istore C dX4_sort_61 (by decide) rfl ?_
      obtain ⟨q7, e8⟩ : ∃ z, fX4_sort_loop B1 B3 B4 K1 K2 K3 K4 p1 41 q5 E0 M0 M1 M2 M3 M4 M5 M6 q3.1 q3.2 U2 U3 0 1 1 = z := ⟨_, rfl⟩
      rw [zw_l_eq e8] at hF
      refine zw_locals [3, 4, 2, 1, 0] (lv2 := [(0, .ref (b 0)), (1, .int p1), (2, .int 0), (3, .int 1), (4, .int 1)]) rfl ?_
      refine kX4_sort_loop C hy1 hy2 hy3 (dm_is (by assumption) hy2.2.2.2.2.2 hy2.2.2.1) 41 q5 E0 M0 M1 M2 M3 M4 M5 M6 q3.1 q3.2 U2 U3 0 1 1 q7 ⟨1, rfl, by omega, by have := hy1.1; have := hy1.2.1; omega, st_J (by assumption) hy4, dm_cpv hy1 (by assumption)⟩ e8 ?_
      refine zw_iconst C (v := 0) dX4_sort_192 (by decide) ?_
      refine zw_istore C dX4_sort_193 (by decide) rfl ?_
      obtain ⟨q9, e10⟩ : ∃ z, fX4_sort_back B1 q7.1 q7.2.2.2.2.2.2.2.2.2.2.2.2.2.2 41 B5 0 = z := ⟨_, rfl⟩
      rw [zw_l_eq e10] at hF
      refine zw_locals [1, 3, 4, 0] (lv2 := [(0, .ref (b 0)), (2, .int q7.2.2.2.2.2.2.2.2.2.2.2.2.2.1), (3, .int q7.2.2.2.2.2.2.2.2.2.2.2.2.2.2), (4, .int 0)]) rfl ?_
      refine kX4_sort_back C  41 B5 0 q9 (dm_l2 hy1) e10 ?_
      refine zw_aload_n C dX4_sort_228 0 rfl rfl ?_
      refine zw_iload_n C dX4_sort_229 1 rfl rfl ?_
      obtain ⟨q11, e12⟩ : ∃ z, fX4_ends q7.2.2.2.2.2.2.2.2.2.1 q7.2.2.2.2.2.2.2.2.2.2.1 U1 q7.2.2.2.2.2.2.2.2.2.2.2.1 q7.2.2.2.2.2.2.2.2.2.2.2.2.1 U4 U5 q7.2.2.2.2.2.2.2.2.2.2.2.2.2.1 = z := ⟨_, rfl⟩
      rw [zw_l_eq e12] at hF
      refine zw_calli C kvX4_168 (kX4_ends e12) ⟨rfl, rfl, ⟨by decide, by decide⟩, by decide, by decide⟩ FX4 0 (As := [.int q7.2.2.2.2.2.2.2.2.2.2.2.2.2.1]) (rest := []) rfl rfl rfl (Nat.le_of_ble_eq_true rfl) dX4_sort_230 ?_
      subst hF; dsimp only
      exact zw_ireturn C hr hlk dX4_sort_233 rfl rfl
    · rw [if_neg h2] at hF
      refine zw_bipush C (v := (-2)) dX4_sort_21 (by decide) ?_
      subst hF; dsimp only
      exact zw_ireturn C hr hlk dX4_sort_23 rfl rfl
  · rw [if_pos h1] at hF
    refine zw_iconst C (v := (-1)) dX4_sort_9 (by decide) ?_
    subst hF; dsimp only
    exact zw_ireturn C hr hlk dX4_sort_10 rfl rfl
