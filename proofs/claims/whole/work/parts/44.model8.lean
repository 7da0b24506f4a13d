theorem dm_g40 {q x3 : Int32} {i k nt g : Nat} {x y z : Int32} {f : Nat → Int32} (hB : dm_B x y f nt k) (h : ∃ a g0 : Nat, q = nI a ∧ x3 = nI g0 ∧ g0 ≤ 40 ∧ a ≤ g0) (z3 : x3 = nI g) (hg : g ≤ i) (z5 : z = nI i) (hi : i ≤ k) (hb : ¬ y ≤ z) : vp_in q 40 := by
  obtain ⟨a, g0, e1, e2, h1, h2⟩ := h
  have h3 := dm_lk hB z5 hb hi
  have := hB.1; have := hB.2.1
  have h4 : g0 = g := (nI_eq (by omega) (by omega)).mp (e2.symm.trans z3)
  rw [e1]; exact vp_in_nI (by omega) (by decide)
def fX4_group_find (N0 : Nat → Int64) (y3 : Int32) (y6 : Int64) : Nat → Int32 → Int32
  | 0, x8 => x8
  | n + 1, x8 => (if y3 ≤ x8 then x8 else (if (lg_cmp (N0 x8.toNatClampNeg) y6) = 0 then x8 else fX4_group_find N0 y3 y6 n (x8 + 1)))
set_option maxHeartbeats 4000000 in
set_option maxRecDepth 100000 in
theorem kX4_group_find {p : Program} {l : Launch} {e : Env} {s : State} {m : MethodId} {args : Array Value} {below : List Frame} {meth : Method} {c : Code} {A : Nat → Prop} {Q : State → Prop} {D : va_G} {cI cL : ClassId} {b : Nat → Nat} {B0 : Int32} {B1 : Int32} {B2 : Int64} {B3 : (Nat → Int64)} {B4 : (Nat → Int64)} {B5 : (Nat → Int32)} {B6 : (Nat → Int32)} {K0 : (Nat → Int32)} {K1 : (Nat → Int32)} {K2 : (Nat → Int32)} {K3 : (Nat → Int32)} {K4 : (Nat → Int64)} {E0 : (Nat → Int32)} {M0 : Int32} {M1 : (Nat → Int32)} {M2 : (Nat → Int32)} {M3 : (Nat → Int32)} {M4 : (Nat → Int32)} {M5 : (Nat → Int64)} {M6 : Int64} {M7 : Int32} {U0 : Int32} {U1 : Int32} {U2 : Int32} {U3 : Int32} {U4 : Int32} {U5 : Int32} {G0 : Int32} {G1 : (Nat → Int64)} {G2 : (Nat → Int32)} {G3 : (Nat → Int64)} {G4 : (Nat → Int32)} {N0 : (Nat → Int64)} {N1 : (Nat → Int32)} {N2 : (Nat → Int64)} {N3 : (Nat → Int32)} {y3 : Int32} {y4 : Int32} {y5 : Int32} {y6 : Int64} {p1 p2 : Int32} (C : zw_C p s m args c D (zw_tys cI cL) A RX4 cX4_group 9) : ∀ (n : Nat) (x8 : Int32) (q : Int32), (∃ a0 g0 : Nat, x8 = nI a0 ∧ y3 = nI g0 ∧ g0 ≤ 40 ∧ a0 ≤ g0 ∧ g0 < a0 + n) → fX4_group_find N0 y3 y6 n x8 = q → ((∃ a0 g0 : Nat, q = nI a0 ∧ y3 = nI g0 ∧ g0 ≤ 40 ∧ a0 ≤ g0) → zw_W p l e (zw_rm 4 102) s m args below meth c D A 9 Q 0 0 (wM cI cL b B0 B1 B2 B3 B4 B5 B6 K0 K1 K2 K3 K4 E0 M0 M1 M2 M3 M4 M5 M6 M7 U0 U1 U2 U3 U4 U5 G0 G1 G2 G3 G4 N0 N1 N2 N3) 155 [(0, .ref (b 0)), (1, .int p1), (2, .int p2), (3, .int y3), (4, .int y4), (5, .int y5), (6, .long y6), (8, .int q)] []) → zw_W p l e (zw_rm 4 102) s m args below meth c D A 9 Q 0 0 (wM cI cL b B0 B1 B2 B3 B4 B5 B6 K0 K1 K2 K3 K4 E0 M0 M1 M2 M3 M4 M5 M6 M7 U0 U1 U2 U3 U4 U5 G0 G1 G2 G3 G4 N0 N1 N2 N3) 130 [(0, .ref (b 0)), (1, .int p1), (2, .int p2), (3, .int y3), (4, .int y4), (5, .int y5), (6, .long y6), (8, .int x8)] [] := by
  intro n
  induction n with
  | zero =>
    intro x8 q hI hF kx
    obtain ⟨i, j0, -, -, -, h3, h4⟩ := hI; exact absurd h4 (by omega)
  | succ n ih =>
    intro x8 q hI hF kx
    obtain ⟨a0, g0, z8, g2, g1, ha, hn⟩ := hI
    rw [fX4_group_find] at hF
    refine zw_iload C dX4_group_130 7 rfl ?_
    refine zw_iload_n C dX4_group_132 3 rfl rfl ?_
    refine zw_icmp_ge C 155 dX4_group_133 (by decide) (fun h1 => ?_) (fun h1 => ?_)
    · rw [if_pos h1] at hF
      subst hF
      exact zw_locals [0, 1, 2, 3, 4, 5, 6, 7] rfl (kx ⟨a0, g0, z8, g2, g1, ha⟩)
    · rw [if_neg h1] at hF
      refine zw_aload_n C dX4_group_136 0 rfl rfl ?_
      refine zw_get C FX4 0 32 (v := .ref (b 20)) rfl (by decide) lkX4_68 rfl dX4_group_137 ?_
      refine zw_iload C dX4_group_140 7 rfl ?_
      refine zw_lald C 20 1 (f := N0) (i := x8) rfl rfl (by rw [z8]; exact vp_in_nI (by have := dz_lt1 g2 z8 (by assumption) ha g1; omega) (by decide)) dX4_group_142 ?_
      refine zw_lload C dX4_group_143 6 rfl ?_
      refine zw_lcmp C dX4_group_145 ?_
      refine zw_if_eq C 155 dX4_group_146 (by decide) (fun h2 => ?_) (fun h2 => ?_)
      · rw [if_pos h2] at hF
        subst hF
        exact zw_locals [0, 1, 2, 3, 4, 5, 6, 7] rfl (kx ⟨a0, g0, z8, g2, g1, ha⟩)
      · rw [if_neg h2] at hF
        refine zw_iinc C (j := 7) (v := x8 + 1) dX4_group_149 rfl rfl (by decide) rfl ?_
        refine zw_goto C 130 dX4_group_152 (by decide) ?_
        refine zw_locals [1, 2, 3, 4, 5, 6, 7, 0] (lv2 := [(0, .ref (b 0)), (1, .int p1), (2, .int p2), (3, .int y3), (4, .int y4), (5, .int y5), (6, .long y6), (8, .int (x8 + 1))]) rfl ?_
        exact ih (x8 + 1) q ⟨a0 + 1, g0, by rw [z8]; exact nI_1 a0, g2, g1, dz_lt1 g2 z8 (by assumption) ha g1, by omega⟩ hF kx
noncomputable def fX4_group_loop (B1 : Int32) (B3 B4 : Nat → Int64) (K1 K2 K3 : Nat → Int32) (K4 : Nat → Int64) (B5 : Nat → Int32) (p1 p2 : Int32) : Nat → (Nat → Int64) → (Nat → Int32) → (Nat → Int64) → (Nat → Int32) → (Nat → Int32) → Int32 → (Nat → Int32) → (Nat → Int32) → (Nat → Int32) → (Nat → Int32) → (Nat → Int64) → Int64 → Int32 → Int32 → Int32 → Int32 → Int32 → Int32 → Int32 → (Nat → Int64) × (Nat → Int32) × (Nat → Int64) × (Nat → Int32) × (Nat → Int32) × Int32 × (Nat → Int32) × (Nat → Int32) × (Nat → Int32) × (Nat → Int32) × (Nat → Int64) × Int64 × Int32 × Int32 × Int32 × Int32 × Int32 × Int32
  | 0, N0, N1, N2, N3, E0, M0, M1, M2, M3, M4, M5, M6, M7, U0, U2, U3, x3, x4, _ => (N0, N1, N2, N3, E0, M0, M1, M2, M3, M4, M5, M6, M7, U0, U2, U3, x3, x4)
  | n + 1, N0, N1, N2, N3, E0, M0, M1, M2, M3, M4, M5, M6, M7, U0, U2, U3, x3, x4, x5 => (if B1 ≤ x5 then (N0, N1, N2, N3, E0, M0, M1, M2, M3, M4, M5, M6, M7, U0, U2, U3, x3, x4) else (if x4 = 0 then (N0, N1, N2, N3, E0, M0, M1, M2, M3, M4, M5, M6, M7, U0, U2, U3, x3, x4) else (zw_l (fX4_ask B3 B4 K1 K2 K3 K4 E0 M1 M2 M3 M4 M5 M6 U0 U2 U3 0 p1 (B5 x5.toNatClampNeg) (B5 x5.toNatClampNeg)) (fun q3 => (if q3.1 = 0 then fX4_group_loop B1 B3 B4 K1 K2 K3 K4 B5 p1 p2 n N0 N1 N2 N3 q3.2.1 q3.2.2.1 q3.2.2.2.1 q3.2.2.2.2.1 q3.2.2.2.2.2.1 q3.2.2.2.2.2.2.1 q3.2.2.2.2.2.2.2.1 q3.2.2.2.2.2.2.2.2.1 q3.2.2.2.2.2.2.2.2.2.1 q3.2.2.2.2.2.2.2.2.2.2.1 q3.2.2.2.2.2.2.2.2.2.2.2.1 q3.2.2.2.2.2.2.2.2.2.2.2.2 x3 0 (x5 + 1) else (zw_l (fX4_ask B3 B4 K1 K2 K3 K4 q3.2.1 q3.2.2.2.1 q3.2.2.2.2.1 q3.2.2.2.2.2.1 q3.2.2.2.2.2.2.1 q3.2.2.2.2.2.2.2.1 q3.2.2.2.2.2.2.2.2.1 q3.2.2.2.2.2.2.2.2.2.2.1 q3.2.2.2.2.2.2.2.2.2.2.2.1 q3.2.2.2.2.2.2.2.2.2.2.2.2 0 p2 (B5 x5.toNatClampNeg) (B5 x5.toNatClampNeg)) (fun q6 => (if q6.1 = 0 then fX4_group_loop B1 B3 B4 K1 K2 K3 K4 B5 p1 p2 n N0 N1 N2 N3 q6.2.1 q6.2.2.1 q6.2.2.2.1 q6.2.2.2.2.1 q6.2.2.2.2.2.1 q6.2.2.2.2.2.2.1 q6.2.2.2.2.2.2.2.1 q6.2.2.2.2.2.2.2.2.1 q6.2.2.2.2.2.2.2.2.2.1 q6.2.2.2.2.2.2.2.2.2.2.1 q6.2.2.2.2.2.2.2.2.2.2.2.1 q6.2.2.2.2.2.2.2.2.2.2.2.2 x3 0 (x5 + 1) else (zw_l (fX4_group_find N0 x3 q3.2.2.2.2.2.2.2.2.1 41 0) (fun q9 => (if q9 = x3 then fX4_group_loop B1 B3 B4 K1 K2 K3 K4 B5 p1 p2 n (vp_updL N0 q9.toNatClampNeg q3.2.2.2.2.2.2.2.2.1) (upd (upd N1 q9.toNatClampNeg 0) q9.toNatClampNeg (((upd N1 q9.toNatClampNeg 0) q9.toNatClampNeg) + 1)) (vp_updL (vp_updL N2 q9.toNatClampNeg 0) q9.toNatClampNeg (((vp_updL N2 q9.toNatClampNeg 0) q9.toNatClampNeg) + q6.2.2.2.2.2.2.2.2.1)) (upd N3 q9.toNatClampNeg (B5 x5.toNatClampNeg)) q6.2.1 q6.2.2.1 q6.2.2.2.1 q6.2.2.2.2.1 q6.2.2.2.2.2.1 q6.2.2.2.2.2.2.1 q6.2.2.2.2.2.2.2.1 q6.2.2.2.2.2.2.2.2.1 q6.2.2.2.2.2.2.2.2.2.1 q6.2.2.2.2.2.2.2.2.2.2.1 q6.2.2.2.2.2.2.2.2.2.2.2.1 q6.2.2.2.2.2.2.2.2.2.2.2.2 (x3 + 1) 1 (x5 + 1) else fX4_group_loop B1 B3 B4 K1 K2 K3 K4 B5 p1 p2 n N0 (upd N1 q9.toNatClampNeg ((N1 q9.toNatClampNeg) + 1)) (vp_updL N2 q9.toNatClampNeg ((N2 q9.toNatClampNeg) + q6.2.2.2.2.2.2.2.2.1)) N3 q6.2.1 q6.2.2.1 q6.2.2.2.1 q6.2.2.2.2.1 q6.2.2.2.2.2.1 q6.2.2.2.2.2.2.1 q6.2.2.2.2.2.2.2.1 q6.2.2.2.2.2.2.2.2.1 q6.2.2.2.2.2.2.2.2.2.1 q6.2.2.2.2.2.2.2.2.2.2.1 q6.2.2.2.2.2.2.2.2.2.2.2.1 q6.2.2.2.2.2.2.2.2.2.2.2.2 x3 1 (x5 + 1))))))))))))
set_option maxHeartbeats 4000000 in
set_option maxRecDepth 100000 in
theorem kX4_group_loop {p : Program} {l : Launch} {e : Env} {s : State} {m : MethodId} {args : Array Value} {below : List Frame} {meth : Method} {c : Code} {A : Nat → Prop} {Q : State → Prop} {D : va_G} {cI cL : ClassId} {b : Nat → Nat} {B0 : Int32} {B1 : Int32} {B2 : Int64} {B3 : (Nat → Int64)} {B4 : (Nat → Int64)} {B5 : (Nat → Int32)} {B6 : (Nat → Int32)} {K0 : (Nat → Int32)} {K1 : (Nat → Int32)} {K2 : (Nat → Int32)} {K3 : (Nat → Int32)} {K4 : (Nat → Int64)} {U1 : Int32} {U4 : Int32} {U5 : Int32} {G0 : Int32} {G1 : (Nat → Int64)} {G2 : (Nat → Int32)} {G3 : (Nat → Int64)} {G4 : (Nat → Int32)} {p1 p2 : Int32} {nt k sn vn on : Nat} {J : (Nat → Int32) → Int32 → Int32 → Int32 → Prop} (C : zw_C p s m args c D (zw_tys cI cL) A RX4 cX4_group 9) (hy1 : dm_B B0 B1 B5 nt k) (hy2 : dm_K K0 sn vn on) (hy3 : mJ B3 B4 K1 K2 K3 K4 J sn vn on nt) (hp : vp_in p1 sn) (hp2 : vp_in p2 sn) : ∀ (n : Nat) (N0 : (Nat → Int64)) (N1 : (Nat → Int32)) (N2 : (Nat → Int64)) (N3 : (Nat → Int32)) (E0 : (Nat → Int32)) (M0 : Int32) (M1 : (Nat → Int32)) (M2 : (Nat → Int32)) (M3 : (Nat → Int32)) (M4 : (Nat → Int32)) (M5 : (Nat → Int64)) (M6 : Int64) (M7 : Int32) (U0 : Int32) (U2 : Int32) (U3 : Int32) (x3 : Int32) (x4 : Int32) (x5 : Int32) (q : (Nat → Int64) × (Nat → Int32) × (Nat → Int64) × (Nat → Int32) × (Nat → Int32) × Int32 × (Nat → Int32) × (Nat → Int32) × (Nat → Int32) × (Nat → Int32) × (Nat → Int64) × Int64 × Int32 × Int32 × Int32 × Int32 × Int32 × Int32), (∃ i g : Nat, x5 = nI i ∧ x3 = nI g ∧ g ≤ i ∧ i ≤ k ∧ k < i + n ∧ J E0 U0 U2 U3) → fX4_group_loop B1 B3 B4 K1 K2 K3 K4 B5 p1 p2 n N0 N1 N2 N3 E0 M0 M1 M2 M3 M4 M5 M6 M7 U0 U2 U3 x3 x4 x5 = q → ((∃ j : Nat, j ≤ k ∧ q.2.2.2.2.2.2.2.2.2.2.2.2.2.2.2.2.1 = nI j) → zw_W p l e (zw_rm 4 102) s m args below meth c D A 9 Q 0 0 (wM cI cL b B0 B1 B2 B3 B4 B5 B6 K0 K1 K2 K3 K4 q.2.2.2.2.1 q.2.2.2.2.2.1 q.2.2.2.2.2.2.1 q.2.2.2.2.2.2.2.1 q.2.2.2.2.2.2.2.2.1 q.2.2.2.2.2.2.2.2.2.1 q.2.2.2.2.2.2.2.2.2.2.1 q.2.2.2.2.2.2.2.2.2.2.2.1 q.2.2.2.2.2.2.2.2.2.2.2.2.1 q.2.2.2.2.2.2.2.2.2.2.2.2.2.1 U1 q.2.2.2.2.2.2.2.2.2.2.2.2.2.2.1 q.2.2.2.2.2.2.2.2.2.2.2.2.2.2.2.1 U4 U5 G0 G1 G2 G3 G4 q.1 q.2.1 q.2.2.1 q.2.2.2.1) 234 [(0, .ref (b 0)), (1, .int p1), (2, .int p2), (3, .int q.2.2.2.2.2.2.2.2.2.2.2.2.2.2.2.2.1), (4, .int q.2.2.2.2.2.2.2.2.2.2.2.2.2.2.2.2.2)] []) → zw_W p l e (zw_rm 4 102) s m args below meth c D A 9 Q 0 0 (wM cI cL b B0 B1 B2 B3 B4 B5 B6 K0 K1 K2 K3 K4 E0 M0 M1 M2 M3 M4 M5 M6 M7 U0 U1 U2 U3 U4 U5 G0 G1 G2 G3 G4 N0 N1 N2 N3) 45 [(0, .ref (b 0)), (1, .int p1), (2, .int p2), (3, .int x3), (4, .int x4), (5, .int x5)] [] := by
  intro n
  induction n with
  | zero =>
    intro N0 N1 N2 N3 E0 M0 M1 M2 M3 M4 M5 M6 M7 U0 U2 U3 x3 x4 x5 q hI hF kx
    obtain ⟨i, g, -, -, -, h3, h4, -⟩ := hI; exact absurd h4 (by omega)
  | succ n ih =>
    intro N0 N1 N2 N3 E0 M0 M1 M2 M3 M4 M5 M6 M7 U0 U2 U3 x3 x4 x5 q hI hF kx
    obtain ⟨i, g, z5, z3, hg, hi, hn, hJ⟩ := hI
    rw [fX4_group_loop] at hF
    refine zw_iload C dX4_group_45 5 rfl ?_
    refine zw_aload_n C dX4_group_47 0 rfl rfl ?_
    refine zw_get C FX4 0 3 (v := .int B1) rfl (by decide) lkX4_88 rfl dX4_group_48 ?_
    refine zw_icmp_ge C 234 dX4_group_51 (by decide) (fun h1 => ?_) (fun h1 => ?_)
    · rw [if_pos h1] at hF
      subst hF; dsimp only at kx
      exact zw_locals [0, 1, 2, 3, 4] rfl (kx ⟨g, by omega, z3⟩)
    · rw [if_neg h1] at hF
      refine zw_iload C dX4_group_54 4 rfl ?_
      refine zw_if_eq C 234 dX4_group_56 (by decide) (fun h2 => ?_) (fun h2 => ?_)
      · rw [if_pos h2] at hF
        subst hF; dsimp only at kx
        exact zw_locals [0, 1, 2, 3, 4] rfl (kx ⟨g, by omega, z3⟩)
      · rw [if_neg h2] at hF
        refine zw_aload_n C dX4_group_59 0 rfl rfl ?_
        refine zw_iconst C (v := 0) dX4_group_60 (by decide) ?_
        refine zw_iload_n C dX4_group_61 1 rfl rfl ?_
        refine zw_aload_n C dX4_group_62 0 rfl rfl ?_
        refine zw_get C FX4 0 4 (v := .ref (b 3)) rfl (by decide) lkX4_16 rfl dX4_group_63 ?_
        refine zw_iload C dX4_group_66 5 rfl ?_
        refine zw_iald C 3 0 (f := B5) (i := x5) rfl rfl (dm_ixl hy1 z5 hi (by assumption)) dX4_group_68 ?_
        refine zw_aload_n C dX4_group_69 0 rfl rfl ?_
        refine zw_get C FX4 0 4 (v := .ref (b 3)) rfl (by decide) lkX4_16 rfl dX4_group_70 ?_
        refine zw_iload C dX4_group_73 5 rfl ?_
        refine zw_iald C 3 0 (f := B5) (i := x5) rfl rfl (dm_ixl hy1 z5 hi (by assumption)) dX4_group_75 ?_
        obtain ⟨q3, e4⟩ : ∃ z, fX4_ask B3 B4 K1 K2 K3 K4 E0 M1 M2 M3 M4 M5 M6 U0 U2 U3 0 p1 (B5 x5.toNatClampNeg) (B5 x5.toNatClampNeg) = z := ⟨_, rfl⟩
        rw [zw_l_eq e4] at hF
        refine zw_calli C kvX4_164 (kX4_askK (mJ_ex0 hy3 hJ hp (dm_li hy1 z5 hi (by assumption))) e4) ⟨rfl, rfl, ⟨by decide, by decide⟩, by decide, by decide⟩ FX4 0 (As := [.int 0, .int p1, .int (B5 x5.toNatClampNeg), .int (B5 x5.toNatClampNeg)]) (rest := []) rfl rfl rfl (Nat.le_of_ble_eq_true rfl) dX4_group_76 ?_
        refine zw_istore C dX4_group_79 (by decide) rfl ?_
        refine zw_aload_n C dX4_group_81 1 rfl rfl ?_
        refine zw_get C FX4 0 17 (v := .long q3.2.2.2.2.2.2.2.2.1) rfl (by decide) lkX4_107 rfl dX4_group_82 ?_
        refine zw_lstore C dX4_group_85 (by decide) rfl ?_
        refine zw_iload C dX4_group_87 1 rfl ?_
        refine zw_if_eq C 119 dX4_group_89 (by decide) (fun h5 => ?_) (fun h5 => ?_)
        · rw [if_pos h5] at hF
          refine zw_iconst C (v := 0) dX4_group_119 (by decide) ?_
          refine zw_istore C dX4_group_120 (by decide) rfl ?_
          refine zw_iload C dX4_group_122 0 rfl ?_
          refine zw_if_eq C 228 dX4_group_124 (by decide) (fun _ => ?_) (fun h => absurd h (by decide))
          refine zw_iinc C (j := 6) (v := x5 + 1) dX4_group_228 rfl rfl (by decide) rfl ?_
          refine zw_goto C 45 dX4_group_231 (by decide) ?_
          refine zw_locals [3, 4, 5, 6, 1, 0] (lv2 := [(0, .ref (b 0)), (1, .int p1), (2, .int p2), (3, .int x3), (4, .int 0), (5, .int (x5 + 1))]) rfl ?_
          exact ih N0 N1 N2 N3 q3.2.1 q3.2.2.1 q3.2.2.2.1 q3.2.2.2.2.1 q3.2.2.2.2.2.1 q3.2.2.2.2.2.2.1 q3.2.2.2.2.2.2.2.1 q3.2.2.2.2.2.2.2.2.1 q3.2.2.2.2.2.2.2.2.2.1 q3.2.2.2.2.2.2.2.2.2.2.1 q3.2.2.2.2.2.2.2.2.2.2.2.1 q3.2.2.2.2.2.2.2.2.2.2.2.2 x3 0 (x5 + 1) q ⟨i + 1, g, by rw [z5]; exact nI_1 i, z3, by omega, dm_lk hy1 z5 (by assumption) hi, by omega, mJ_st0 (q := q3) hy3 hJ hp (dm_li hy1 z5 hi (by assumption)) e4⟩ hF kx
        · rw [if_neg h5] at hF
          refine zw_aload_n C dX4_group_92 2 rfl rfl ?_
          refine zw_iconst C (v := 0) dX4_group_93 (by decide) ?_
          refine zw_iload_n C dX4_group_94 4 rfl rfl ?_
          refine zw_aload_n C dX4_group_95 2 rfl rfl ?_
          refine zw_get C FX4 0 4 (v := .ref (b 3)) rfl (by decide) lkX4_16 rfl dX4_group_96 ?_
          refine zw_iload C dX4_group_99 6 rfl ?_
          refine zw_iald C 3 0 (f := B5) (i := x5) rfl rfl (dm_ixl hy1 z5 hi (by assumption)) dX4_group_101 ?_
          refine zw_aload_n C dX4_group_102 2 rfl rfl ?_
          refine zw_get C FX4 0 4 (v := .ref (b 3)) rfl (by decide) lkX4_16 rfl dX4_group_103 ?_
          refine zw_iload C dX4_group_106 6 rfl ?_
          refine zw_iald C 3 0 (f := B5) (i := x5) rfl rfl (dm_ixl hy1 z5 hi (by assumption)) dX4_group_108 ?_
          obtain ⟨q6, e7⟩ : ∃ z, fX4_ask B3 B4 K1 K2 K3 K4 q3.2.1 q3.2.2.2.1 q3.2.2.2.2.1 q3.2.2.2.2.2.1 q3.2.2.2.2.2.2.1 q3.2.2.2.2.2.2.2.1 q3.2.2.2.2.2.2.2.2.1 q3.2.2.2.2.2.2.2.2.2.2.1 q3.2.2.2.2.2.2.2.2.2.2.2.1 q3.2.2.2.2.2.2.2.2.2.2.2.2 0 p2 (B5 x5.toNatClampNeg) (B5 x5.toNatClampNeg) = z := ⟨_, rfl⟩
          rw [zw_l_eq e7] at hF
          refine zw_calli C kvX4_164 (kX4_askK (mJ_ex0 hy3 (mJ_st0 (q := q3) hy3 hJ hp (dm_li hy1 z5 hi (by assumption)) e4) hp2 (dm_li hy1 z5 hi (by assumption))) e7) ⟨rfl, rfl, ⟨by decide, by decide⟩, by decide, by decide⟩ FX4 0 (As := [.int 0, .int p2, .int (B5 x5.toNatClampNeg), .int (B5 x5.toNatClampNeg)]) (rest := []) rfl rfl rfl (Nat.le_of_ble_eq_true rfl) dX4_group_109 ?_
          refine zw_if_eq C 119 dX4_group_112 (by decide) (fun h8 => ?_) (fun h8 => ?_)
          · rw [if_pos h8] at hF
            refine zw_iconst C (v := 0) dX4_group_119 (by decide) ?_
            refine zw_istore C dX4_group_120 (by decide) rfl ?_
            refine zw_iload C dX4_group_122 0 rfl ?_
            refine zw_if_eq C 228 dX4_group_124 (by decide) (fun _ => ?_) (fun h => absurd h (by decide))
            refine zw_iinc C (j := 6) (v := x5 + 1) dX4_group_228 rfl rfl (by decide) rfl ?_
            refine zw_goto C 45 dX4_group_231 (by decide) ?_
            refine zw_locals [3, 4, 5, 6, 1, 0] (lv2 := [(0, .ref (b 0)), (1, .int p1), (2, .int p2), (3, .int x3), (4, .int 0), (5, .int (x5 + 1))]) rfl ?_
            exact ih N0 N1 N2 N3 q6.2.1 q6.2.2.1 q6.2.2.2.1 q6.2.2.2.2.1 q6.2.2.2.2.2.1 q6.2.2.2.2.2.2.1 q6.2.2.2.2.2.2.2.1 q6.2.2.2.2.2.2.2.2.1 q6.2.2.2.2.2.2.2.2.2.1 q6.2.2.2.2.2.2.2.2.2.2.1 q6.2.2.2.2.2.2.2.2.2.2.2.1 q6.2.2.2.2.2.2.2.2.2.2.2.2 x3 0 (x5 + 1) q ⟨i + 1, g, by rw [z5]; exact nI_1 i, z3, by omega, dm_lk hy1 z5 (by assumption) hi, by omega, mJ_st0 (q := q6) hy3 (mJ_st0 (q := q3) hy3 hJ hp (dm_li hy1 z5 hi (by assumption)) e4) hp2 (dm_li hy1 z5 hi (by assumption)) e7⟩ hF kx
          · rw [if_neg h8] at hF
            refine zw_iconst C (v := 1) dX4_group_115 (by decide) ?_
            refine zw_goto C 120 dX4_group_116 (by decide) ?_
            refine zw_istore C dX4_group_120 (by decide) rfl ?_
            refine zw_iload C dX4_group_122 0 rfl ?_
            refine zw_if_eq C 228 dX4_group_124 (by decide) (fun h => absurd h (by decide)) (fun _ => ?_)
            refine zw_iconst C (v := 0) dX4_group_127 (by decide) ?_
            refine zw_istore C dX4_group_128 (by decide) rfl ?_
            obtain ⟨q9, e10⟩ : ∃ z, fX4_group_find N0 x3 q3.2.2.2.2.2.2.2.2.1 41 0 = z := ⟨_, rfl⟩
            rw [zw_l_eq e10] at hF
            refine zw_locals [3, 4, 5, 6, 1, 7, 2, 0] (lv2 := [(0, .ref (b 0)), (1, .int p1), (2, .int p2), (3, .int x3), (4, .int 1), (5, .int x5), (6, .long q3.2.2.2.2.2.2.2.2.1), (8, .int 0)]) rfl ?_
            refine kX4_group_find C  41 0 q9 ⟨0, g, rfl, z3, by have := hy1.1; have := hy1.2.1; omega, Nat.zero_le _, by have := hy1.1; have := hy1.2.1; omega⟩ e10 (fun e10p => ?_)
            refine zw_iload C dX4_group_155 7 rfl ?_
            refine zw_iload_n C dX4_group_157 3 rfl rfl ?_
            refine zw_icmp_ne C 203 dX4_group_158 (by decide) (fun h11 => ?_) (fun h11 => ?_)
            · rw [if_neg h11] at hF
              refine zw_aload_n C dX4_group_203 0 rfl rfl ?_
              refine zw_get C FX4 0 33 (v := .ref (b 21)) rfl (by decide) lkX4_71 rfl dX4_group_204 ?_
              refine zw_iload C dX4_group_207 7 rfl ?_
              refine zw_dup2_11 C dX4_group_209 rfl rfl ?_
              refine zw_iald C 21 0 (f := N1) (i := q9) rfl rfl (dm_g40 hy1 (by assumption) z3 hg z5 hi (by assumption)) dX4_group_210 ?_
              refine zw_iconst C (v := 1) dX4_group_211 (by decide) ?_
              refine zw_iadd C dX4_group_212 ?_
              refine zw_iast C 21 0 (f := N1) (i := q9) (ws2 := (wM cI cL b B0 B1 B2 B3 B4 B5 B6 K0 K1 K2 K3 K4 q6.2.1 q6.2.2.1 q6.2.2.2.1 q6.2.2.2.2.1 q6.2.2.2.2.2.1 q6.2.2.2.2.2.2.1 q6.2.2.2.2.2.2.2.1 q6.2.2.2.2.2.2.2.2.1 q6.2.2.2.2.2.2.2.2.2.1 q6.2.2.2.2.2.2.2.2.2.2.1 U1 q6.2.2.2.2.2.2.2.2.2.2.2.1 q6.2.2.2.2.2.2.2.2.2.2.2.2 U4 U5 G0 G1 G2 G3 G4 N0 (upd N1 q9.toNatClampNeg ((N1 q9.toNatClampNeg) + 1)) N2 N3)) rfl rfl (dm_g40 hy1 (by assumption) z3 hg z5 hi (by assumption)) rfl dX4_group_213 ?_
              refine zw_aload_n C dX4_group_214 0 rfl rfl ?_
              refine zw_get C FX4 0 34 (v := .ref (b 22)) rfl (by decide) lkX4_74 rfl dX4_group_215 ?_
              refine zw_iload C dX4_group_218 7 rfl ?_
              refine zw_dup2_11 C dX4_group_220 rfl rfl ?_
              refine zw_lald C 22 1 (f := N2) (i := q9) rfl rfl (dm_g40 hy1 (by assumption) z3 hg z5 hi (by assumption)) dX4_group_221 ?_
              refine zw_aload_n C dX4_group_222 0 rfl rfl ?_
              refine zw_get C FX4 0 17 (v := .long q6.2.2.2.2.2.2.2.2.1) rfl (by decide) lkX4_107 rfl dX4_group_223 ?_
              refine zw_ladd C dX4_group_226 ?_
              refine zw_last C 22 1 (f := N2) (i := q9) (ws2 := (wM cI cL b B0 B1 B2 B3 B4 B5 B6 K0 K1 K2 K3 K4 q6.2.1 q6.2.2.1 q6.2.2.2.1 q6.2.2.2.2.1 q6.2.2.2.2.2.1 q6.2.2.2.2.2.2.1 q6.2.2.2.2.2.2.2.1 q6.2.2.2.2.2.2.2.2.1 q6.2.2.2.2.2.2.2.2.2.1 q6.2.2.2.2.2.2.2.2.2.2.1 U1 q6.2.2.2.2.2.2.2.2.2.2.2.1 q6.2.2.2.2.2.2.2.2.2.2.2.2 U4 U5 G0 G1 G2 G3 G4 N0 (upd N1 q9.toNatClampNeg ((N1 q9.toNatClampNeg) + 1)) (vp_updL N2 q9.toNatClampNeg ((N2 q9.toNatClampNeg) + q6.2.2.2.2.2.2.2.2.1)) N3)) rfl rfl (dm_g40 hy1 (by assumption) z3 hg z5 hi (by assumption)) rfl dX4_group_227 ?_
              refine zw_iinc C (j := 5) (v := x5 + 1) dX4_group_228 rfl rfl (by decide) rfl ?_
              refine zw_goto C 45 dX4_group_231 (by decide) ?_
              refine zw_locals [1, 2, 3, 4, 5, 0] (lv2 := [(0, .ref (b 0)), (1, .int p1), (2, .int p2), (3, .int x3), (4, .int 1), (5, .int (x5 + 1))]) rfl ?_
              exact ih N0 (upd N1 q9.toNatClampNeg ((N1 q9.toNatClampNeg) + 1)) (vp_updL N2 q9.toNatClampNeg ((N2 q9.toNatClampNeg) + q6.2.2.2.2.2.2.2.2.1)) N3 q6.2.1 q6.2.2.1 q6.2.2.2.1 q6.2.2.2.2.1 q6.2.2.2.2.2.1 q6.2.2.2.2.2.2.1 q6.2.2.2.2.2.2.2.1 q6.2.2.2.2.2.2.2.2.1 q6.2.2.2.2.2.2.2.2.2.1 q6.2.2.2.2.2.2.2.2.2.2.1 q6.2.2.2.2.2.2.2.2.2.2.2.1 q6.2.2.2.2.2.2.2.2.2.2.2.2 x3 1 (x5 + 1) q ⟨i + 1, g, by rw [z5]; exact nI_1 i, z3, by omega, dm_lk hy1 z5 (by assumption) hi, by omega, mJ_st0 (q := q6) hy3 (mJ_st0 (q := q3) hy3 hJ hp (dm_li hy1 z5 hi (by assumption)) e4) hp2 (dm_li hy1 z5 hi (by assumption)) e7⟩ hF kx
            · rw [if_pos h11] at hF
              refine zw_aload_n C dX4_group_161 0 rfl rfl ?_
              refine zw_get C FX4 0 32 (v := .ref (b 20)) rfl (by decide) lkX4_68 rfl dX4_group_162 ?_
              refine zw_iload C dX4_group_165 7 rfl ?_
              refine zw_lload C dX4_group_167 6 rfl ?_
              refine zw_last C 20 1 (f := N0) (i := q9) (ws2 := (wM cI cL b B0 B1 B2 B3 B4 B5 B6 K0 K1 K2 K3 K4 q6.2.1 q6.2.2.1 q6.2.2.2.1 q6.2.2.2.2.1 q6.2.2.2.2.2.1 q6.2.2.2.2.2.2.1 q6.2.2.2.2.2.2.2.1 q6.2.2.2.2.2.2.2.2.1 q6.2.2.2.2.2.2.2.2.2.1 q6.2.2.2.2.2.2.2.2.2.2.1 U1 q6.2.2.2.2.2.2.2.2.2.2.2.1 q6.2.2.2.2.2.2.2.2.2.2.2.2 U4 U5 G0 G1 G2 G3 G4 (vp_updL N0 q9.toNatClampNeg q3.2.2.2.2.2.2.2.2.1) N1 N2 N3)) rfl rfl (dm_g40 hy1 (by assumption) z3 hg z5 hi (by assumption)) rfl dX4_group_169 ?_
              refine zw_aload_n C dX4_group_170 0 rfl rfl ?_
              refine zw_get C FX4 0 33 (v := .ref (b 21)) rfl (by decide) lkX4_71 rfl dX4_group_171 ?_
              refine zw_iload C dX4_group_174 7 rfl ?_
              refine zw_iconst C (v := 0) dX4_group_176 (by decide) ?_
              refine zw_iast C 21 0 (f := N1) (i := q9) (ws2 := (wM cI cL b B0 B1 B2 B3 B4 B5 B6 K0 K1 K2 K3 K4 q6.2.1 q6.2.2.1 q6.2.2.2.1 q6.2.2.2.2.1 q6.2.2.2.2.2.1 q6.2.2.2.2.2.2.1 q6.2.2.2.2.2.2.2.1 q6.2.2.2.2.2.2.2.2.1 q6.2.2.2.2.2.2.2.2.2.1 q6.2.2.2.2.2.2.2.2.2.2.1 U1 q6.2.2.2.2.2.2.2.2.2.2.2.1 q6.2.2.2.2.2.2.2.2.2.2.2.2 U4 U5 G0 G1 G2 G3 G4 (vp_updL N0 q9.toNatClampNeg q3.2.2.2.2.2.2.2.2.1) (upd N1 q9.toNatClampNeg 0) N2 N3)) rfl rfl (dm_g40 hy1 (by assumption) z3 hg z5 hi (by assumption)) rfl dX4_group_177 ?_
              refine zw_aload_n C dX4_group_178 0 rfl rfl ?_
              refine zw_get C FX4 0 34 (v := .ref (b 22)) rfl (by decide) lkX4_74 rfl dX4_group_179 ?_
              refine zw_iload C dX4_group_182 7 rfl ?_
              refine zw_lconst C (v := 0) dX4_group_184 (by decide) ?_
              refine zw_last C 22 1 (f := N2) (i := q9) (ws2 := (wM cI cL b B0 B1 B2 B3 B4 B5 B6 K0 K1 K2 K3 K4 q6.2.1 q6.2.2.1 q6.2.2.2.1 q6.2.2.2.2.1 q6.2.2.2.2.2.1 q6.2.2.2.2.2.2.1 q6.2.2.2.2.2.2.2.1 q6.2.2.2.2.2.2.2.2.1 q6.2.2.2.2.2.2.2.2.2.1 q6.2.2.2.2.2.2.2.2.2.2.1 U1 q6.2.2.2.2.2.2.2.2.2.2.2.1 q6.2.2.2.2.2.2.2.2.2.2.2.2 U4 U5 G0 G1 G2 G3 G4 (vp_updL N0 q9.toNatClampNeg q3.2.2.2.2.2.2.2.2.1) (upd N1 q9.toNatClampNeg 0) (vp_updL N2 q9.toNatClampNeg 0) N3)) rfl rfl (dm_g40 hy1 (by assumption) z3 hg z5 hi (by assumption)) rfl dX4_group_185 ?_
              refine zw_aload_n C dX4_group_186 0 rfl rfl ?_
              refine zw_get C FX4 0 35 (v := .ref (b 23)) rfl (by decide) lkX4_77 rfl dX4_group_187 ?_
              refine zw_iload C dX4_group_190 7 rfl ?_
              refine zw_aload_n C dX4_group_192 0 rfl rfl ?_
              refine zw_get C FX4 0 4 (v := .ref (b 3)) rfl (by decide) lkX4_16 rfl dX4_group_193 ?_
              refine zw_iload C dX4_group_196 5 rfl ?_
              refine zw_iald C 3 0 (f := B5) (i := x5) rfl rfl (dm_ixl hy1 z5 hi (by assumption)) dX4_group_198 ?_
              refine zw_iast C 23 0 (f := N3) (i := q9) (ws2 := (wM cI cL b B0 B1 B2 B3 B4 B5 B6 K0 K1 K2 K3 K4 q6.2.1 q6.2.2.1 q6.2.2.2.1 q6.2.2.2.2.1 q6.2.2.2.2.2.1 q6.2.2.2.2.2.2.1 q6.2.2.2.2.2.2.2.1 q6.2.2.2.2.2.2.2.2.1 q6.2.2.2.2.2.2.2.2.2.1 q6.2.2.2.2.2.2.2.2.2.2.1 U1 q6.2.2.2.2.2.2.2.2.2.2.2.1 q6.2.2.2.2.2.2.2.2.2.2.2.2 U4 U5 G0 G1 G2 G3 G4 (vp_updL N0 q9.toNatClampNeg q3.2.2.2.2.2.2.2.2.1) (upd N1 q9.toNatClampNeg 0) (vp_updL N2 q9.toNatClampNeg 0) (upd N3 q9.toNatClampNeg (B5 x5.toNatClampNeg)))) rfl rfl (dm_g40 hy1 (by assumption) z3 hg z5 hi (by assumption)) rfl dX4_group_199 ?_
              refine zw_iinc C (j := 3) (v := x3 + 1) dX4_group_200 rfl rfl (by decide) rfl ?_
              refine zw_aload_n C dX4_group_203 1 rfl rfl ?_
              refine zw_get C FX4 0 33 (v := .ref (b 21)) rfl (by decide) lkX4_71 rfl dX4_group_204 ?_
              refine zw_iload C dX4_group_207 7 rfl ?_
              refine zw_dup2_11 C dX4_group_209 rfl rfl ?_
              refine zw_iald C 21 0 (f := (upd N1 q9.toNatClampNeg 0)) (i := q9) rfl rfl (dm_g40 hy1 (by assumption) z3 hg z5 hi (by assumption)) dX4_group_210 ?_
              refine zw_iconst C (v := 1) dX4_group_211 (by decide) ?_
              refine zw_iadd C dX4_group_212 ?_
              refine zw_iast C 21 0 (f := (upd N1 q9.toNatClampNeg 0)) (i := q9) (ws2 := (wM cI cL b B0 B1 B2 B3 B4 B5 B6 K0 K1 K2 K3 K4 q6.2.1 q6.2.2.1 q6.2.2.2.1 q6.2.2.2.2.1 q6.2.2.2.2.2.1 q6.2.2.2.2.2.2.1 q6.2.2.2.2.2.2.2.1 q6.2.2.2.2.2.2.2.2.1 q6.2.2.2.2.2.2.2.2.2.1 q6.2.2.2.2.2.2.2.2.2.2.1 U1 q6.2.2.2.2.2.2.2.2.2.2.2.1 q6.2.2.2.2.2.2.2.2.2.2.2.2 U4 U5 G0 G1 G2 G3 G4 (vp_updL N0 q9.toNatClampNeg q3.2.2.2.2.2.2.2.2.1) (upd (upd N1 q9.toNatClampNeg 0) q9.toNatClampNeg (((upd N1 q9.toNatClampNeg 0) q9.toNatClampNeg) + 1)) (vp_updL N2 q9.toNatClampNeg 0) (upd N3 q9.toNatClampNeg (B5 x5.toNatClampNeg)))) rfl rfl (dm_g40 hy1 (by assumption) z3 hg z5 hi (by assumption)) rfl dX4_group_213 ?_
              refine zw_aload_n C dX4_group_214 1 rfl rfl ?_
              refine zw_get C FX4 0 34 (v := .ref (b 22)) rfl (by decide) lkX4_74 rfl dX4_group_215 ?_
              refine zw_iload C dX4_group_218 7 rfl ?_
              refine zw_dup2_11 C dX4_group_220 rfl rfl ?_
              refine zw_lald C 22 1 (f := (vp_updL N2 q9.toNatClampNeg 0)) (i := q9) rfl rfl (dm_g40 hy1 (by assumption) z3 hg z5 hi (by assumption)) dX4_group_221 ?_
              refine zw_aload_n C dX4_group_222 1 rfl rfl ?_
              refine zw_get C FX4 0 17 (v := .long q6.2.2.2.2.2.2.2.2.1) rfl (by decide) lkX4_107 rfl dX4_group_223 ?_
              refine zw_ladd C dX4_group_226 ?_
              refine zw_last C 22 1 (f := (vp_updL N2 q9.toNatClampNeg 0)) (i := q9) (ws2 := (wM cI cL b B0 B1 B2 B3 B4 B5 B6 K0 K1 K2 K3 K4 q6.2.1 q6.2.2.1 q6.2.2.2.1 q6.2.2.2.2.1 q6.2.2.2.2.2.1 q6.2.2.2.2.2.2.1 q6.2.2.2.2.2.2.2.1 q6.2.2.2.2.2.2.2.2.1 q6.2.2.2.2.2.2.2.2.2.1 q6.2.2.2.2.2.2.2.2.2.2.1 U1 q6.2.2.2.2.2.2.2.2.2.2.2.1 q6.2.2.2.2.2.2.2.2.2.2.2.2 U4 U5 G0 G1 G2 G3 G4 (vp_updL N0 q9.toNatClampNeg q3.2.2.2.2.2.2.2.2.1) (upd (upd N1 q9.toNatClampNeg 0) q9.toNatClampNeg (((upd N1 q9.toNatClampNeg 0) q9.toNatClampNeg) + 1)) (vp_updL (vp_updL N2 q9.toNatClampNeg 0) q9.toNatClampNeg (((vp_updL N2 q9.toNatClampNeg 0) q9.toNatClampNeg) + q6.2.2.2.2.2.2.2.2.1)) (upd N3 q9.toNatClampNeg (B5 x5.toNatClampNeg)))) rfl rfl (dm_g40 hy1 (by assumption) z3 hg z5 hi (by assumption)) rfl dX4_group_227 ?_
              refine zw_iinc C (j := 5) (v := x5 + 1) dX4_group_228 rfl rfl (by decide) rfl ?_
              refine zw_goto C 45 dX4_group_231 (by decide) ?_
              refine zw_locals [2, 3, 4, 1, 5, 0] (lv2 := [(0, .ref (b 0)), (1, .int p1), (2, .int p2), (3, .int (x3 + 1)), (4, .int 1), (5, .int (x5 + 1))]) rfl ?_
              exact ih (vp_updL N0 q9.toNatClampNeg q3.2.2.2.2.2.2.2.2.1) (upd (upd N1 q9.toNatClampNeg 0) q9.toNatClampNeg (((upd N1 q9.toNatClampNeg 0) q9.toNatClampNeg) + 1)) (vp_updL (vp_updL N2 q9.toNatClampNeg 0) q9.toNatClampNeg (((vp_updL N2 q9.toNatClampNeg 0) q9.toNatClampNeg) + q6.2.2.2.2.2.2.2.2.1)) (upd N3 q9.toNatClampNeg (B5 x5.toNatClampNeg)) q6.2.1 q6.2.2.1 q6.2.2.2.1 q6.2.2.2.2.1 q6.2.2.2.2.2.1 q6.2.2.2.2.2.2.1 q6.2.2.2.2.2.2.2.1 q6.2.2.2.2.2.2.2.2.1 q6.2.2.2.2.2.2.2.2.2.1 q6.2.2.2.2.2.2.2.2.2.2.1 q6.2.2.2.2.2.2.2.2.2.2.2.1 q6.2.2.2.2.2.2.2.2.2.2.2.2 (x3 + 1) 1 (x5 + 1) q ⟨i + 1, g + 1, by rw [z5]; exact nI_1 i, by rw [z3]; exact nI_1 g, by omega, dm_lk hy1 z5 (by assumption) hi, by omega, mJ_st0 (q := q6) hy3 (mJ_st0 (q := q3) hy3 hJ hp (dm_li hy1 z5 hi (by assumption)) e4) hp2 (dm_li hy1 z5 hi (by assumption)) e7⟩ hF kx
def fX4_group_copy (N0 : Nat → Int64) (N1 : Nat → Int32) (N2 : Nat → Int64) (N3 : Nat → Int32) (y3 : Int32) : Nat → (Nat → Int64) → (Nat → Int32) → (Nat → Int64) → (Nat → Int32) → Int32 → (Nat → Int64) × (Nat → Int32) × (Nat → Int64) × (Nat → Int32)
  | 0, G1, G2, G3, G4, _ => (G1, G2, G3, G4)
  | n + 1, G1, G2, G3, G4, x5 => (if y3 ≤ x5 then (G1, G2, G3, G4) else fX4_group_copy N0 N1 N2 N3 y3 n (vp_updL G1 x5.toNatClampNeg (N0 x5.toNatClampNeg)) (upd G2 x5.toNatClampNeg (N1 x5.toNatClampNeg)) (vp_updL G3 x5.toNatClampNeg (N2 x5.toNatClampNeg)) (upd G4 x5.toNatClampNeg (N3 x5.toNatClampNeg)) (x5 + 1))
set_option maxHeartbeats 4000000 in
set_option maxRecDepth 100000 in
theorem kX4_group_copy {p : Program} {l : Launch} {e : Env} {s : State} {m : MethodId} {args : Array Value} {below : List Frame} {meth : Method} {c : Code} {A : Nat → Prop} {Q : State → Prop} {D : va_G} {cI cL : ClassId} {b : Nat → Nat} {B0 : Int32} {B1 : Int32} {B2 : Int64} {B3 : (Nat → Int64)} {B4 : (Nat → Int64)} {B5 : (Nat → Int32)} {B6 : (Nat → Int32)} {K0 : (Nat → Int32)} {K1 : (Nat → Int32)} {K2 : (Nat → Int32)} {K3 : (Nat → Int32)} {K4 : (Nat → Int64)} {E0 : (Nat → Int32)} {M0 : Int32} {M1 : (Nat → Int32)} {M2 : (Nat → Int32)} {M3 : (Nat → Int32)} {M4 : (Nat → Int32)} {M5 : (Nat → Int64)} {M6 : Int64} {M7 : Int32} {U0 : Int32} {U1 : Int32} {U2 : Int32} {U3 : Int32} {U4 : Int32} {U5 : Int32} {G0 : Int32} {N0 : (Nat → Int64)} {N1 : (Nat → Int32)} {N2 : (Nat → Int64)} {N3 : (Nat → Int32)} {y3 : Int32} (C : zw_C p s m args c D (zw_tys cI cL) A RX4 cX4_group 9) : ∀ (n : Nat) (G1 : (Nat → Int64)) (G2 : (Nat → Int32)) (G3 : (Nat → Int64)) (G4 : (Nat → Int32)) (x5 : Int32) (q : (Nat → Int64) × (Nat → Int32) × (Nat → Int64) × (Nat → Int32)), (∃ i j0 : Nat, x5 = nI i ∧ y3 = nI j0 ∧ j0 ≤ 40 ∧ i ≤ j0 ∧ j0 < i + n) → fX4_group_copy N0 N1 N2 N3 y3 n G1 G2 G3 G4 x5 = q → (zw_W p l e (zw_rm 4 102) s m args below meth c D A 9 Q 0 0 (wM cI cL b B0 B1 B2 B3 B4 B5 B6 K0 K1 K2 K3 K4 E0 M0 M1 M2 M3 M4 M5 M6 M7 U0 U1 U2 U3 U4 U5 G0 q.1 q.2.1 q.2.2.1 q.2.2.2 N0 N1 N2 N3) 315 [(0, .ref (b 0)), (3, .int y3)] []) → zw_W p l e (zw_rm 4 102) s m args below meth c D A 9 Q 0 0 (wM cI cL b B0 B1 B2 B3 B4 B5 B6 K0 K1 K2 K3 K4 E0 M0 M1 M2 M3 M4 M5 M6 M7 U0 U1 U2 U3 U4 U5 G0 G1 G2 G3 G4 N0 N1 N2 N3) 247 [(0, .ref (b 0)), (3, .int y3), (5, .int x5)] [] := by
  intro n
  induction n with
  | zero =>
    intro G1 G2 G3 G4 x5 q hI hF kx
    obtain ⟨i, j0, -, -, -, h3, h4⟩ := hI; exact absurd h4 (by omega)
  | succ n ih =>
    intro G1 G2 G3 G4 x5 q hI hF kx
    obtain ⟨i, j0, z5, g2, g1, hi, hn⟩ := hI
    rw [fX4_group_copy] at hF
    refine zw_iload C dX4_group_247 2 rfl ?_
    refine zw_iload_n C dX4_group_249 1 rfl rfl ?_
    refine zw_icmp_ge C 315 dX4_group_250 (by decide) (fun h1 => ?_) (fun h1 => ?_)
    · rw [if_pos h1] at hF
      subst hF; dsimp only at kx
      exact zw_locals [0, 1] rfl kx
    · rw [if_neg h1] at hF
      refine zw_aload_n C dX4_group_253 0 rfl rfl ?_
      refine zw_get C FX4 0 27 (v := .ref (b 15)) rfl (by decide) lkX4_53 rfl dX4_group_254 ?_
      refine zw_iload C dX4_group_257 2 rfl ?_
      refine zw_aload_n C dX4_group_259 0 rfl rfl ?_
      refine zw_get C FX4 0 32 (v := .ref (b 20)) rfl (by decide) lkX4_68 rfl dX4_group_260 ?_
      refine zw_iload C dX4_group_263 2 rfl ?_
      refine zw_lald C 20 1 (f := N0) (i := x5) rfl rfl (by rw [z5]; exact vp_in_nI (by have := dz_lt1 g2 z5 (by assumption) hi g1; omega) (by decide)) dX4_group_265 ?_
      refine zw_last C 15 1 (f := G1) (i := x5) (ws2 := (wM cI cL b B0 B1 B2 B3 B4 B5 B6 K0 K1 K2 K3 K4 E0 M0 M1 M2 M3 M4 M5 M6 M7 U0 U1 U2 U3 U4 U5 G0 (vp_updL G1 x5.toNatClampNeg (N0 x5.toNatClampNeg)) G2 G3 G4 N0 N1 N2 N3)) rfl rfl (by rw [z5]; exact vp_in_nI (by have := dz_lt1 g2 z5 (by assumption) hi g1; omega) (by decide)) rfl dX4_group_266 ?_
      refine zw_aload_n C dX4_group_267 0 rfl rfl ?_
      refine zw_get C FX4 0 28 (v := .ref (b 16)) rfl (by decide) lkX4_56 rfl dX4_group_268 ?_
      refine zw_iload C dX4_group_271 2 rfl ?_
      refine zw_aload_n C dX4_group_273 0 rfl rfl ?_
      refine zw_get C FX4 0 33 (v := .ref (b 21)) rfl (by decide) lkX4_71 rfl dX4_group_274 ?_
      refine zw_iload C dX4_group_277 2 rfl ?_
      refine zw_iald C 21 0 (f := N1) (i := x5) rfl rfl (by rw [z5]; exact vp_in_nI (by have := dz_lt1 g2 z5 (by assumption) hi g1; omega) (by decide)) dX4_group_279 ?_
      refine zw_iast C 16 0 (f := G2) (i := x5) (ws2 := (wM cI cL b B0 B1 B2 B3 B4 B5 B6 K0 K1 K2 K3 K4 E0 M0 M1 M2 M3 M4 M5 M6 M7 U0 U1 U2 U3 U4 U5 G0 (vp_updL G1 x5.toNatClampNeg (N0 x5.toNatClampNeg)) (upd G2 x5.toNatClampNeg (N1 x5.toNatClampNeg)) G3 G4 N0 N1 N2 N3)) rfl rfl (by rw [z5]; exact vp_in_nI (by have := dz_lt1 g2 z5 (by assumption) hi g1; omega) (by decide)) rfl dX4_group_280 ?_
      refine zw_aload_n C dX4_group_281 0 rfl rfl ?_
      refine zw_get C FX4 0 29 (v := .ref (b 17)) rfl (by decide) lkX4_59 rfl dX4_group_282 ?_
      refine zw_iload C dX4_group_285 2 rfl ?_
      refine zw_aload_n C dX4_group_287 0 rfl rfl ?_
      refine zw_get C FX4 0 34 (v := .ref (b 22)) rfl (by decide) lkX4_74 rfl dX4_group_288 ?_
      refine zw_iload C dX4_group_291 2 rfl ?_
      refine zw_lald C 22 1 (f := N2) (i := x5) rfl rfl (by rw [z5]; exact vp_in_nI (by have := dz_lt1 g2 z5 (by assumption) hi g1; omega) (by decide)) dX4_group_293 ?_
      refine zw_last C 17 1 (f := G3) (i := x5) (ws2 := (wM cI cL b B0 B1 B2 B3 B4 B5 B6 K0 K1 K2 K3 K4 E0 M0 M1 M2 M3 M4 M5 M6 M7 U0 U1 U2 U3 U4 U5 G0 (vp_updL G1 x5.toNatClampNeg (N0 x5.toNatClampNeg)) (upd G2 x5.toNatClampNeg (N1 x5.toNatClampNeg)) (vp_updL G3 x5.toNatClampNeg (N2 x5.toNatClampNeg)) G4 N0 N1 N2 N3)) rfl rfl (by rw [z5]; exact vp_in_nI (by have := dz_lt1 g2 z5 (by assumption) hi g1; omega) (by decide)) rfl dX4_group_294 ?_
      refine zw_aload_n C dX4_group_295 0 rfl rfl ?_
      refine zw_get C FX4 0 30 (v := .ref (b 18)) rfl (by decide) lkX4_62 rfl dX4_group_296 ?_
      refine zw_iload C dX4_group_299 2 rfl ?_
      refine zw_aload_n C dX4_group_301 0 rfl rfl ?_
      refine zw_get C FX4 0 35 (v := .ref (b 23)) rfl (by decide) lkX4_77 rfl dX4_group_302 ?_
      refine zw_iload C dX4_group_305 2 rfl ?_
      refine zw_iald C 23 0 (f := N3) (i := x5) rfl rfl (by rw [z5]; exact vp_in_nI (by have := dz_lt1 g2 z5 (by assumption) hi g1; omega) (by decide)) dX4_group_307 ?_
      refine zw_iast C 18 0 (f := G4) (i := x5) (ws2 := (wM cI cL b B0 B1 B2 B3 B4 B5 B6 K0 K1 K2 K3 K4 E0 M0 M1 M2 M3 M4 M5 M6 M7 U0 U1 U2 U3 U4 U5 G0 (vp_updL G1 x5.toNatClampNeg (N0 x5.toNatClampNeg)) (upd G2 x5.toNatClampNeg (N1 x5.toNatClampNeg)) (vp_updL G3 x5.toNatClampNeg (N2 x5.toNatClampNeg)) (upd G4 x5.toNatClampNeg (N3 x5.toNatClampNeg)) N0 N1 N2 N3)) rfl rfl (by rw [z5]; exact vp_in_nI (by have := dz_lt1 g2 z5 (by assumption) hi g1; omega) (by decide)) rfl dX4_group_308 ?_
      refine zw_iinc C (j := 2) (v := x5 + 1) dX4_group_309 rfl rfl (by decide) rfl ?_
      refine zw_goto C 247 dX4_group_312 (by decide) ?_
      refine zw_locals [1, 2, 0] (lv2 := [(0, .ref (b 0)), (3, .int y3), (5, .int (x5 + 1))]) rfl ?_
      exact ih (vp_updL G1 x5.toNatClampNeg (N0 x5.toNatClampNeg)) (upd G2 x5.toNatClampNeg (N1 x5.toNatClampNeg)) (vp_updL G3 x5.toNatClampNeg (N2 x5.toNatClampNeg)) (upd G4 x5.toNatClampNeg (N3 x5.toNatClampNeg)) (x5 + 1) q ⟨i + 1, j0, by rw [z5]; exact nI_1 i, g2, g1, dz_lt1 g2 z5 (by assumption) hi g1, by omega⟩ hF kx
noncomputable def fX4_group (B1 : Int32) (B3 : (Nat → Int64)) (B4 : (Nat → Int64)) (B5 : (Nat → Int32)) (K0 : (Nat → Int32)) (K1 : (Nat → Int32)) (K2 : (Nat → Int32)) (K3 : (Nat → Int32)) (K4 : (Nat → Int64)) (E0 : (Nat → Int32)) (M0 : Int32) (M1 : (Nat → Int32)) (M2 : (Nat → Int32)) (M3 : (Nat → Int32)) (M4 : (Nat → Int32)) (M5 : (Nat → Int64)) (M6 : Int64) (M7 : Int32) (U0 : Int32) (U1 : Int32) (U2 : Int32) (U3 : Int32) (U4 : Int32) (U5 : Int32) (G0 : Int32) (G1 : (Nat → Int64)) (G2 : (Nat → Int32)) (G3 : (Nat → Int64)) (G4 : (Nat → Int32)) (N0 : (Nat → Int64)) (N1 : (Nat → Int32)) (N2 : (Nat → Int64)) (N3 : (Nat → Int32)) (p1 : Int32) (p2 : Int32) : Int32 × Int32 × (Nat → Int64) × (Nat → Int32) × (Nat → Int64) × (Nat → Int32) × (Nat → Int64) × (Nat → Int32) × (Nat → Int64) × (Nat → Int32) × (Nat → Int32) × Int32 × (Nat → Int32) × (Nat → Int32) × (Nat → Int32) × (Nat → Int32) × (Nat → Int64) × Int64 × Int32 × Int32 × Int32 × Int32 × Int32 × Int32 × Int32 := (if (fX4_is K0 0 p1) = 0 then ((-1), G0, G1, G2, G3, G4, N0, N1, N2, N3, E0, M0, M1, M2, M3, M4, M5, M6, M7, U0, U2, U3, U1, U4, U5) else (if (fX4_is K0 0 p2) = 0 then ((-1), G0, G1, G2, G3, G4, N0, N1, N2, N3, E0, M0, M1, M2, M3, M4, M5, M6, M7, U0, U2, U3, U1, U4, U5) else (if U3 < 2000 then (zw_l (fX4_startsCall) (fun q4 => (zw_l (fX4_group_loop B1 B3 B4 K1 K2 K3 K4 B5 p1 p2 41 N0 N1 N2 N3 E0 M0 M1 M2 M3 M4 M5 M6 q4.1 q4.2 U2 U3 0 1 0) (fun q6 => (if q6.2.2.2.2.2.2.2.2.2.2.2.2.2.2.2.2.2 = 0 then (zw_l (fX4_ends q6.2.2.2.2.2.2.2.2.2.2.2.2.1 q6.2.2.2.2.2.2.2.2.2.2.2.2.2.1 U1 q6.2.2.2.2.2.2.2.2.2.2.2.2.2.2.1 q6.2.2.2.2.2.2.2.2.2.2.2.2.2.2.2.1 U4 U5 q6.2.2.2.2.2.2.2.2.2.2.2.2.2.2.2.2.1) (fun q9 => (q9.1, G0, G1, G2, G3, G4, q6.1, q6.2.1, q6.2.2.1, q6.2.2.2.1, q6.2.2.2.2.1, q6.2.2.2.2.2.1, q6.2.2.2.2.2.2.1, q6.2.2.2.2.2.2.2.1, q6.2.2.2.2.2.2.2.2.1, q6.2.2.2.2.2.2.2.2.2.1, q6.2.2.2.2.2.2.2.2.2.2.1, q6.2.2.2.2.2.2.2.2.2.2.2.1, q6.2.2.2.2.2.2.2.2.2.2.2.2.1, q6.2.2.2.2.2.2.2.2.2.2.2.2.2.1, q6.2.2.2.2.2.2.2.2.2.2.2.2.2.2.1, q9.2.2.1, q9.2.1, q9.2.2.2.1, q9.2.2.2.2))) else (zw_l (fX4_group_copy q6.1 q6.2.1 q6.2.2.1 q6.2.2.2.1 q6.2.2.2.2.2.2.2.2.2.2.2.2.2.2.2.2.1 41 G1 G2 G3 G4 0) (fun q11 => (zw_l (fX4_ends q6.2.2.2.2.2.2.2.2.2.2.2.2.1 q6.2.2.2.2.2.2.2.2.2.2.2.2.2.1 U1 q6.2.2.2.2.2.2.2.2.2.2.2.2.2.2.1 q6.2.2.2.2.2.2.2.2.2.2.2.2.2.2.2.1 U4 U5 q6.2.2.2.2.2.2.2.2.2.2.2.2.2.2.2.2.1) (fun q13 => (q13.1, q6.2.2.2.2.2.2.2.2.2.2.2.2.2.2.2.2.1, q11.1, q11.2.1, q11.2.2.1, q11.2.2.2, q6.1, q6.2.1, q6.2.2.1, q6.2.2.2.1, q6.2.2.2.2.1, q6.2.2.2.2.2.1, q6.2.2.2.2.2.2.1, q6.2.2.2.2.2.2.2.1, q6.2.2.2.2.2.2.2.2.1, q6.2.2.2.2.2.2.2.2.2.1, q6.2.2.2.2.2.2.2.2.2.2.1, q6.2.2.2.2.2.2.2.2.2.2.2.1, q6.2.2.2.2.2.2.2.2.2.2.2.2.1, q6.2.2.2.2.2.2.2.2.2.2.2.2.2.1, q6.2.2.2.2.2.2.2.2.2.2.2.2.2.2.1, q13.2.2.1, q13.2.1, q13.2.2.2.1, q13.2.2.2.2)))))))))) else ((-2), G0, G1, G2, G3, G4, N0, N1, N2, N3, E0, M0, M1, M2, M3, M4, M5, M6, M7, U0, U2, U3, U1, U4, U5))))
set_option maxHeartbeats 4000000 in
set_option maxRecDepth 100000 in
theorem kX4_group {l : Launch} {D : va_G} {cI cL : ClassId} {b : Nat → Nat} {B0 : Int32} {B1 : Int32} {B2 : Int64} {B3 : (Nat → Int64)} {B4 : (Nat → Int64)} {B5 : (Nat → Int32)} {B6 : (Nat → Int32)} {K0 : (Nat → Int32)} {K1 : (Nat → Int32)} {K2 : (Nat → Int32)} {K3 : (Nat → Int32)} {K4 : (Nat → Int64)} {E0 : (Nat → Int32)} {M0 : Int32} {M1 : (Nat → Int32)} {M2 : (Nat → Int32)} {M3 : (Nat → Int32)} {M4 : (Nat → Int32)} {M5 : (Nat → Int64)} {M6 : Int64} {M7 : Int32} {U0 : Int32} {U1 : Int32} {U2 : Int32} {U3 : Int32} {U4 : Int32} {U5 : Int32} {G0 : Int32} {G1 : (Nat → Int64)} {G2 : (Nat → Int32)} {G3 : (Nat → Int64)} {G4 : (Nat → Int32)} {N0 : (Nat → Int64)} {N1 : (Nat → Int32)} {N2 : (Nat → Int64)} {N3 : (Nat → Int32)} {p1 : Int32} {p2 : Int32} {q : Int32 × Int32 × (Nat → Int64) × (Nat → Int32) × (Nat → Int64) × (Nat → Int32) × (Nat → Int64) × (Nat → Int32) × (Nat → Int64) × (Nat → Int32) × (Nat → Int32) × Int32 × (Nat → Int32) × (Nat → Int32) × (Nat → Int32) × (Nat → Int32) × (Nat → Int64) × Int64 × Int32 × Int32 × Int32 × Int32 × Int32 × Int32 × Int32} {nt k sn vn on : Nat} {J : (Nat → Int32) → Int32 → Int32 → Int32 → Prop} (hy1 : dm_B B0 B1 B5 nt k) (hy2 : dm_K K0 sn vn on) (hy3 : mJ B3 B4 K1 K2 K3 K4 J sn vn on nt) (hy4 : J E0 0 U2 U3) (hF : fX4_group B1 B3 B4 B5 K0 K1 K2 K3 K4 E0 M0 M1 M2 M3 M4 M5 M6 M7 U0 U1 U2 U3 U4 U5 G0 G1 G2 G3 G4 N0 N1 N2 N3 p1 p2 = q) : zw_Mi l yX4_group cX4_group 9 .int D (zw_tys cI cL) (zw_rm 4 102) [.ref (b 0), .int p1, .int p2] (wM cI cL b B0 B1 B2 B3 B4 B5 B6 K0 K1 K2 K3 K4 E0 M0 M1 M2 M3 M4 M5 M6 M7 U0 U1 U2 U3 U4 U5 G0 G1 G2 G3 G4 N0 N1 N2 N3) (wM cI cL b B0 B1 B2 B3 B4 B5 B6 K0 K1 K2 K3 K4 q.2.2.2.2.2.2.2.2.2.2.1 q.2.2.2.2.2.2.2.2.2.2.2.1 q.2.2.2.2.2.2.2.2.2.2.2.2.1 q.2.2.2.2.2.2.2.2.2.2.2.2.2.1 q.2.2.2.2.2.2.2.2.2.2.2.2.2.2.1 q.2.2.2.2.2.2.2.2.2.2.2.2.2.2.2.1 q.2.2.2.2.2.2.2.2.2.2.2.2.2.2.2.2.1 q.2.2.2.2.2.2.2.2.2.2.2.2.2.2.2.2.2.1 q.2.2.2.2.2.2.2.2.2.2.2.2.2.2.2.2.2.2.1 q.2.2.2.2.2.2.2.2.2.2.2.2.2.2.2.2.2.2.2.1 q.2.2.2.2.2.2.2.2.2.2.2.2.2.2.2.2.2.2.2.2.2.2.1 q.2.2.2.2.2.2.2.2.2.2.2.2.2.2.2.2.2.2.2.2.1 q.2.2.2.2.2.2.2.2.2.2.2.2.2.2.2.2.2.2.2.2.2.1 q.2.2.2.2.2.2.2.2.2.2.2.2.2.2.2.2.2.2.2.2.2.2.2.1 q.2.2.2.2.2.2.2.2.2.2.2.2.2.2.2.2.2.2.2.2.2.2.2.2 q.2.1 q.2.2.1 q.2.2.2.1 q.2.2.2.2.1 q.2.2.2.2.2.1 q.2.2.2.2.2.2.1 q.2.2.2.2.2.2.2.1 q.2.2.2.2.2.2.2.2.1 q.2.2.2.2.2.2.2.2.2.1) q.1 := by
  unfold fX4_group at hF
  refine zw_Mi_of (own := RX4) (by decide) rfl (Nat.le_of_ble_eq_true rfl) ?_
  intro p e s m args below meth c A C hr hlk
  refine zw_eq (lv2 := [(0, .ref (b 0)), (1, .int p1), (2, .int p2)]) rfl rfl rfl ?_
  refine zw_aload_n C dX4_group_0 0 rfl rfl ?_
  refine zw_iconst C (v := 0) dX4_group_1 (by decide) ?_
  refine zw_iload_n C dX4_group_2 1 rfl rfl ?_
  refine zw_calli C kvX4_153 (kX4_is (vp_in_iff.mpr ⟨by decide, by decide⟩) rfl) ⟨rfl, rfl, ⟨by decide, by decide⟩, by decide, by decide⟩ FX4 0 (As := [.int 0, .int p1]) (rest := []) rfl rfl rfl (Nat.le_of_ble_eq_true rfl) dX4_group_3 ?_
  refine zw_if_eq C 18 dX4_group_6 (by decide) (fun h1 => ?_) (fun h1 => ?_)
  · rw [if_pos h1] at hF
    refine zw_iconst C (v := (-1)) dX4_group_18 (by decide) ?_
    subst hF; dsimp only
    exact zw_ireturn C hr hlk dX4_group_19 rfl rfl
  · rw [if_neg h1] at hF
    refine zw_aload_n C dX4_group_9 0 rfl rfl ?_
    refine zw_iconst C (v := 0) dX4_group_10 (by decide) ?_
    refine zw_iload_n C dX4_group_11 2 rfl rfl ?_
    refine zw_calli C kvX4_153 (kX4_is (vp_in_iff.mpr ⟨by decide, by decide⟩) rfl) ⟨rfl, rfl, ⟨by decide, by decide⟩, by decide, by decide⟩ FX4 0 (As := [.int 0, .int p2]) (rest := []) rfl rfl rfl (Nat.le_of_ble_eq_true rfl) dX4_group_12 ?_
    refine zw_if_ne C 20 dX4_group_15 (by decide) (fun h2 => ?_) (fun h2 => ?_)
    · rw [if_neg h2] at hF
      refine zw_aload_n C dX4_group_20 0 rfl rfl ?_
      refine zw_get C FX4 0 22 (v := .int U3) rfl (by decide) lkX4_127 rfl dX4_group_21 ?_
      refine zw_sipush C (v := 2000) dX4_group_24 (by decide) ?_
      refine zw_icmp_lt C 33 dX4_group_27 (by decide) (fun h3 => ?_) (fun h3 => ?_)
      · rw [if_pos h3] at hF
        refine zw_aload_n C dX4_group_33 0 rfl rfl ?_
        obtain ⟨q4, e5⟩ : ∃ z, fX4_startsCall = z := ⟨_, rfl⟩
        rw [zw_l_eq e5] at hF
        refine zw_callv C kvX4_161 (kX4_startsCall e5) ⟨rfl, rfl, ⟨by decide, by decide⟩, by decide, by decide⟩ FX4 0 (As := []) (rest := []) rfl rfl rfl (Nat.le_of_ble_eq_true rfl) dX4_group_34 ?_
        refine zw_iconst C (v := 0) dX4_group_37 (by decide) ?_
        refine zw_istore_n C dX4_group_38 rfl (by decide) rfl ?_
        refine zw_iconst C (v := 1) dX4_group_39 (by decide) ?_
        refine zw_istore C dX4_group_40 (by decide) rfl ?_
        refine zw_iconst C (v := 0) dX4_group_42 (by decide) ?_
        refine zw_istore C dX4_group_43 (by decide) rfl ?_
        obtain ⟨q6, e7⟩ : ∃ z, fX4_group_loop B1 B3 B4 K1 K2 K3 K4 B5 p1 p2 41 N0 N1 N2 N3 E0 M0 M1 M2 M3 M4 M5 M6 q4.1 q4.2 U2 U3 0 1 0 = z := ⟨_, rfl⟩
        rw [zw_l_eq e7] at hF
        refine zw_locals [3, 4, 5, 2, 1, 0] (lv2 := [(0, .ref (b 0)), (1, .int p1), (2, .int p2), (3, .int 0), (4, .int 1), (5, .int 0)]) rfl ?_
        refine kX4_group_loop C hy1 hy2 hy3 (dm_is (by assumption) hy2.2.2.2.1 hy2.1) (dm_is (by assumption) hy2.2.2.2.1 hy2.1) 41 N0 N1 N2 N3 E0 M0 M1 M2 M3 M4 M5 M6 q4.1 q4.2 U2 U3 0 1 0 q6 ⟨0, 0, rfl, rfl, Nat.le_refl _, Nat.zero_le _, by have := hy1.1; have := hy1.2.1; omega, st_J (by assumption) hy4⟩ e7 (fun e7p => ?_)
        refine zw_iload C dX4_group_234 4 rfl ?_
        refine zw_if_eq C 315 dX4_group_236 (by decide) (fun h8 => ?_) (fun h8 => ?_)
        · rw [if_pos h8] at hF
          refine zw_aload_n C dX4_group_315 0 rfl rfl ?_
          refine zw_iload_n C dX4_group_316 3 rfl rfl ?_
          obtain ⟨q9, e10⟩ : ∃ z, fX4_ends q6.2.2.2.2.2.2.2.2.2.2.2.2.1 q6.2.2.2.2.2.2.2.2.2.2.2.2.2.1 U1 q6.2.2.2.2.2.2.2.2.2.2.2.2.2.2.1 q6.2.2.2.2.2.2.2.2.2.2.2.2.2.2.2.1 U4 U5 q6.2.2.2.2.2.2.2.2.2.2.2.2.2.2.2.2.1 = z := ⟨_, rfl⟩
          rw [zw_l_eq e10] at hF
          refine zw_calli C kvX4_168 (kX4_ends e10) ⟨rfl, rfl, ⟨by decide, by decide⟩, by decide, by decide⟩ FX4 0 (As := [.int q6.2.2.2.2.2.2.2.2.2.2.2.2.2.2.2.2.1]) (rest := []) rfl rfl rfl (Nat.le_of_ble_eq_true rfl) dX4_group_317 ?_
          subst hF; dsimp only
          exact zw_ireturn C hr hlk dX4_group_320 rfl rfl
        · rw [if_neg h8] at hF
          refine zw_aload_n C dX4_group_239 0 rfl rfl ?_
          refine zw_iload_n C dX4_group_240 3 rfl rfl ?_
          refine zw_put C FX4 GX4 0 26 (v := .int q6.2.2.2.2.2.2.2.2.2.2.2.2.2.2.2.2.1) (ws2 := (wM cI cL b B0 B1 B2 B3 B4 B5 B6 K0 K1 K2 K3 K4 q6.2.2.2.2.1 q6.2.2.2.2.2.1 q6.2.2.2.2.2.2.1 q6.2.2.2.2.2.2.2.1 q6.2.2.2.2.2.2.2.2.1 q6.2.2.2.2.2.2.2.2.2.1 q6.2.2.2.2.2.2.2.2.2.2.1 q6.2.2.2.2.2.2.2.2.2.2.2.1 q6.2.2.2.2.2.2.2.2.2.2.2.2.1 q6.2.2.2.2.2.2.2.2.2.2.2.2.2.1 U1 q6.2.2.2.2.2.2.2.2.2.2.2.2.2.2.1 q6.2.2.2.2.2.2.2.2.2.2.2.2.2.2.2.1 U4 U5 q6.2.2.2.2.2.2.2.2.2.2.2.2.2.2.2.2.1 G1 G2 G3 G4 q6.1 q6.2.1 q6.2.2.1 q6.2.2.2.1)) rfl (by decide) lkX4_175 rfl rfl rfl (Nat.le_of_ble_eq_true rfl) rfl dX4_group_241 ?_
          refine zw_iconst C (v := 0) dX4_group_244 (by decide) ?_
          refine zw_istore C dX4_group_245 (by decide) rfl ?_
          obtain ⟨q11, e12⟩ : ∃ z, fX4_group_copy q6.1 q6.2.1 q6.2.2.1 q6.2.2.2.1 q6.2.2.2.2.2.2.2.2.2.2.2.2.2.2.2.2.1 41 G1 G2 G3 G4 0 = z := ⟨_, rfl⟩
          rw [zw_l_eq e12] at hF
          refine zw_locals [1, 4, 0] (lv2 := [(0, .ref (b 0)), (3, .int q6.2.2.2.2.2.2.2.2.2.2.2.2.2.2.2.2.1), (5, .int 0)]) rfl ?_
          refine kX4_group_copy C  41 G1 G2 G3 G4 0 q11 (dm_p2 hy1 (by assumption)) e12 ?_
          refine zw_aload_n C dX4_group_315 0 rfl rfl ?_
          refine zw_iload_n C dX4_group_316 1 rfl rfl ?_
          obtain ⟨q13, e14⟩ : ∃ z, fX4_ends q6.2.2.2.2.2.2.2.2.2.2.2.2.1 q6.2.2.2.2.2.2.2.2.2.2.2.2.2.1 U1 q6.2.2.2.2.2.2.2.2.2.2.2.2.2.2.1 q6.2.2.2.2.2.2.2.2.2.2.2.2.2.2.2.1 U4 U5 q6.2.2.2.2.2.2.2.2.2.2.2.2.2.2.2.2.1 = z := ⟨_, rfl⟩
          rw [zw_l_eq e14] at hF
          refine zw_calli C kvX4_168 (kX4_ends e14) ⟨rfl, rfl, ⟨by decide, by decide⟩, by decide, by decide⟩ FX4 0 (As := [.int q6.2.2.2.2.2.2.2.2.2.2.2.2.2.2.2.2.1]) (rest := []) rfl rfl rfl (Nat.le_of_ble_eq_true rfl) dX4_group_317 ?_
          subst hF; dsimp only
          exact zw_ireturn C hr hlk dX4_group_320 rfl rfl
      · rw [if_neg h3] at hF
        refine zw_bipush C (v := (-2)) dX4_group_30 (by decide) ?_
        subst hF; dsimp only
        exact zw_ireturn C hr hlk dX4_group_32 rfl rfl
    · rw [if_pos h2] at hF
      refine zw_iconst C (v := (-1)) dX4_group_18 (by decide) ?_
      subst hF; dsimp only
      exact zw_ireturn C hr hlk dX4_group_19 rfl rfl
