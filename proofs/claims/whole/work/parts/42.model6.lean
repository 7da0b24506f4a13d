/-! the list, the sums -/
def fX4_all_loop (B0 : Int32) : Nat → (Nat → Int32) → Int32 → (Nat → Int32)
  | 0, B5, _ => B5
  | n + 1, B5, x1 => (if B0 ≤ x1 then B5 else fX4_all_loop B0 n (upd B5 x1.toNatClampNeg x1) (x1 + 1))
set_option maxHeartbeats 4000000 in
set_option maxRecDepth 100000 in
theorem kX4_all_loop {p : Program} {l : Launch} {e : Env} {s : State} {m : MethodId} {args : Array Value} {below : List Frame} {meth : Method} {c : Code} {A : Nat → Prop} {Q : State → Prop} {D : va_G} {cI cL : ClassId} {b : Nat → Nat} {B0 : Int32} {B1 : Int32} {B2 : Int64} {B3 : (Nat → Int64)} {B4 : (Nat → Int64)} {B6 : (Nat → Int32)} {K0 : (Nat → Int32)} {K1 : (Nat → Int32)} {K2 : (Nat → Int32)} {K3 : (Nat → Int32)} {K4 : (Nat → Int64)} {E0 : (Nat → Int32)} {M0 : Int32} {M1 : (Nat → Int32)} {M2 : (Nat → Int32)} {M3 : (Nat → Int32)} {M4 : (Nat → Int32)} {M5 : (Nat → Int64)} {M6 : Int64} {M7 : Int32} {U0 : Int32} {U1 : Int32} {U2 : Int32} {U3 : Int32} {U4 : Int32} {U5 : Int32} {G0 : Int32} {G1 : (Nat → Int64)} {G2 : (Nat → Int32)} {G3 : (Nat → Int64)} {G4 : (Nat → Int32)} {N0 : (Nat → Int64)} {N1 : (Nat → Int32)} {N2 : (Nat → Int64)} {N3 : (Nat → Int32)} {nt : Nat} (C : zw_C p s m args c D (zw_tys cI cL) A RX4 cX4_all 2) (g1 : nt ≤ 40) (g2 : B0 = nI nt) : ∀ (n : Nat) (B5 : (Nat → Int32)) (x1 : Int32) (q : (Nat → Int32)), (∃ i : Nat, x1 = nI i ∧ i ≤ nt ∧ nt < i + n) → fX4_all_loop B0 n B5 x1 = q → (zw_W p l e (zw_rm 0 0) s m args below meth c D A 2 Q 0 0 (wM cI cL b B0 B1 B2 B3 B4 q B6 K0 K1 K2 K3 K4 E0 M0 M1 M2 M3 M4 M5 M6 M7 U0 U1 U2 U3 U4 U5 G0 G1 G2 G3 G4 N0 N1 N2 N3) 23 [(0, .ref (b 0))] []) → zw_W p l e (zw_rm 0 0) s m args below meth c D A 2 Q 0 0 (wM cI cL b B0 B1 B2 B3 B4 B5 B6 K0 K1 K2 K3 K4 E0 M0 M1 M2 M3 M4 M5 M6 M7 U0 U1 U2 U3 U4 U5 G0 G1 G2 G3 G4 N0 N1 N2 N3) 2 [(0, .ref (b 0)), (1, .int x1)] [] := by
  intro n
  induction n with
  | zero =>
    intro B5 x1 q hI hF kx
    obtain ⟨i, -, h3, h4⟩ := hI; exact absurd h4 (by omega)
  | succ n ih =>
    intro B5 x1 q hI hF kx
    obtain ⟨i, z1, hi, hn⟩ := hI
    rw [fX4_all_loop] at hF
    refine zw_iload_n C dX4_all_2 1 rfl rfl ?_
    refine zw_aload_n C dX4_all_3 0 rfl rfl ?_
    refine zw_get C FX4 0 0 (v := .int B0) rfl (by decide) lkX4_80 rfl dX4_all_4 ?_
    refine zw_icmp_ge C 23 dX4_all_7 (by decide) (fun h1 => ?_) (fun h1 => ?_)
    · rw [if_pos h1] at hF
      subst hF
      exact zw_locals [0] rfl kx
    · rw [if_neg h1] at hF
      refine zw_aload_n C dX4_all_10 0 rfl rfl ?_
      refine zw_get C FX4 0 4 (v := .ref (b 3)) rfl (by decide) lkX4_16 rfl dX4_all_11 ?_
      refine zw_iload_n C dX4_all_14 1 rfl rfl ?_
      refine zw_iload_n C dX4_all_15 1 rfl rfl ?_
      refine zw_iast C 3 0 (f := B5) (i := x1) (ws2 := (wM cI cL b B0 B1 B2 B3 B4 (upd B5 x1.toNatClampNeg x1) B6 K0 K1 K2 K3 K4 E0 M0 M1 M2 M3 M4 M5 M6 M7 U0 U1 U2 U3 U4 U5 G0 G1 G2 G3 G4 N0 N1 N2 N3)) rfl rfl (by rw [z1]; exact vp_in_nI (by have := dz_lt1 g2 z1 (by assumption) hi g1; omega) (by decide)) rfl dX4_all_16 ?_
      refine zw_iinc C (j := 1) (v := x1 + 1) dX4_all_17 rfl rfl (by decide) rfl ?_
      refine zw_goto C 2 dX4_all_20 (by decide) ?_
      refine zw_locals [1, 0] (lv2 := [(0, .ref (b 0)), (1, .int (x1 + 1))]) rfl ?_
      exact ih (upd B5 x1.toNatClampNeg x1) (x1 + 1) q ⟨i + 1, by rw [z1]; exact nI_1 i, dz_lt1 g2 z1 (by assumption) hi g1, by omega⟩ hF kx
def fX4_all (B0 : Int32) (B5 : (Nat → Int32)) : Int32 × Int32 × (Nat → Int32) := (zw_l (fX4_all_loop B0 41 B5 0) (fun q1 => (B0, B0, q1)))
set_option maxHeartbeats 4000000 in
set_option maxRecDepth 100000 in
theorem kX4_all {l : Launch} {D : va_G} {cI cL : ClassId} {b : Nat → Nat} {B0 : Int32} {B1 : Int32} {B2 : Int64} {B3 : (Nat → Int64)} {B4 : (Nat → Int64)} {B5 : (Nat → Int32)} {B6 : (Nat → Int32)} {K0 : (Nat → Int32)} {K1 : (Nat → Int32)} {K2 : (Nat → Int32)} {K3 : (Nat → Int32)} {K4 : (Nat → Int64)} {E0 : (Nat → Int32)} {M0 : Int32} {M1 : (Nat → Int32)} {M2 : (Nat → Int32)} {M3 : (Nat → Int32)} {M4 : (Nat → Int32)} {M5 : (Nat → Int64)} {M6 : Int64} {M7 : Int32} {U0 : Int32} {U1 : Int32} {U2 : Int32} {U3 : Int32} {U4 : Int32} {U5 : Int32} {G0 : Int32} {G1 : (Nat → Int64)} {G2 : (Nat → Int32)} {G3 : (Nat → Int64)} {G4 : (Nat → Int32)} {N0 : (Nat → Int64)} {N1 : (Nat → Int32)} {N2 : (Nat → Int64)} {N3 : (Nat → Int32)} {q : Int32 × Int32 × (Nat → Int32)} {nt k : Nat} (hy1 : dm_B B0 B1 B5 nt k) (hF : fX4_all B0 B5 = q) : zw_Mi l yX4_all cX4_all 2 .int D (zw_tys cI cL) (zw_rm 0 0) [.ref (b 0)] (wM cI cL b B0 B1 B2 B3 B4 B5 B6 K0 K1 K2 K3 K4 E0 M0 M1 M2 M3 M4 M5 M6 M7 U0 U1 U2 U3 U4 U5 G0 G1 G2 G3 G4 N0 N1 N2 N3) (wM cI cL b B0 q.2.1 B2 B3 B4 q.2.2 B6 K0 K1 K2 K3 K4 E0 M0 M1 M2 M3 M4 M5 M6 M7 U0 U1 U2 U3 U4 U5 G0 G1 G2 G3 G4 N0 N1 N2 N3) q.1 := by
  unfold fX4_all at hF
  refine zw_Mi_of (own := RX4) (by decide) rfl (Nat.le_of_ble_eq_true rfl) ?_
  intro p e s m args below meth c A C hr hlk
  refine zw_eq (lv2 := [(0, .ref (b 0))]) rfl rfl rfl ?_
  refine zw_iconst C (v := 0) dX4_all_0 (by decide) ?_
  refine zw_istore_n C dX4_all_1 rfl (by decide) rfl ?_
  obtain ⟨q1, e2⟩ : ∃ z, fX4_all_loop B0 41 B5 0 = z := ⟨_, rfl⟩
  rw [zw_l_eq e2] at hF
  refine zw_locals [1, 0] (lv2 := [(0, .ref (b 0)), (1, .int 0)]) rfl ?_
  refine kX4_all_loop C hy1.1 hy1.2.2.1 41 B5 0 q1 ⟨0, rfl, Nat.zero_le _, by have := hy1.1; omega⟩ e2 ?_
  refine zw_aload_n C dX4_all_23 0 rfl rfl ?_
  refine zw_aload_n C dX4_all_24 0 rfl rfl ?_
  refine zw_get C FX4 0 0 (v := .int B0) rfl (by decide) lkX4_80 rfl dX4_all_25 ?_
  refine zw_put C FX4 GX4 0 3 (v := .int B0) (ws2 := (wM cI cL b B0 B0 B2 B3 B4 q1 B6 K0 K1 K2 K3 K4 E0 M0 M1 M2 M3 M4 M5 M6 M7 U0 U1 U2 U3 U4 U5 G0 G1 G2 G3 G4 N0 N1 N2 N3)) rfl (by decide) lkX4_88 rfl rfl rfl (Nat.le_of_ble_eq_true rfl) rfl dX4_all_28 ?_
  refine zw_aload_n C dX4_all_31 0 rfl rfl ?_
  refine zw_get C FX4 0 3 (v := .int B0) rfl (by decide) lkX4_88 rfl dX4_all_32 ?_
  subst hF; dsimp only
  exact zw_ireturn C hr hlk dX4_all_35 rfl rfl
noncomputable def fX4_sum_loop (B1 : Int32) (B3 B4 : Nat → Int64) (K1 K2 K3 : Nat → Int32) (K4 : Nat → Int64) (B5 : Nat → Int32) (p1 : Int32) : Nat → (Nat → Int32) → Int32 → (Nat → Int32) → (Nat → Int32) → (Nat → Int32) → (Nat → Int32) → (Nat → Int64) → Int64 → Int32 → Int32 → Int32 → Int32 → Int64 → Int32 → Int32 → (Nat → Int32) × Int32 × (Nat → Int32) × (Nat → Int32) × (Nat → Int32) × (Nat → Int32) × (Nat → Int64) × Int64 × Int32 × Int32 × Int32 × Int32 × Int64 × Int32
  | 0, E0, M0, M1, M2, M3, M4, M5, M6, M7, U0, U2, U3, x2, x4, _ => (E0, M0, M1, M2, M3, M4, M5, M6, M7, U0, U2, U3, x2, x4)
  | n + 1, E0, M0, M1, M2, M3, M4, M5, M6, M7, U0, U2, U3, x2, x4, x5 => (if B1 ≤ x5 then (E0, M0, M1, M2, M3, M4, M5, M6, M7, U0, U2, U3, x2, x4) else (if x4 = 0 then (E0, M0, M1, M2, M3, M4, M5, M6, M7, U0, U2, U3, x2, x4) else (zw_l (fX4_ask B3 B4 K1 K2 K3 K4 E0 M1 M2 M3 M4 M5 M6 U0 U2 U3 0 p1 (B5 x5.toNatClampNeg) (B5 x5.toNatClampNeg)) (fun q3 => (if q3.1 = 0 then fX4_sum_loop B1 B3 B4 K1 K2 K3 K4 B5 p1 n q3.2.1 q3.2.2.1 q3.2.2.2.1 q3.2.2.2.2.1 q3.2.2.2.2.2.1 q3.2.2.2.2.2.2.1 q3.2.2.2.2.2.2.2.1 q3.2.2.2.2.2.2.2.2.1 q3.2.2.2.2.2.2.2.2.2.1 q3.2.2.2.2.2.2.2.2.2.2.1 q3.2.2.2.2.2.2.2.2.2.2.2.1 q3.2.2.2.2.2.2.2.2.2.2.2.2 (x2 + 0) q3.1 (x5 + 1) else fX4_sum_loop B1 B3 B4 K1 K2 K3 K4 B5 p1 n q3.2.1 q3.2.2.1 q3.2.2.2.1 q3.2.2.2.2.1 q3.2.2.2.2.2.1 q3.2.2.2.2.2.2.1 q3.2.2.2.2.2.2.2.1 q3.2.2.2.2.2.2.2.2.1 q3.2.2.2.2.2.2.2.2.2.1 q3.2.2.2.2.2.2.2.2.2.2.1 q3.2.2.2.2.2.2.2.2.2.2.2.1 q3.2.2.2.2.2.2.2.2.2.2.2.2 (x2 + q3.2.2.2.2.2.2.2.2.1) q3.1 (x5 + 1))))))
set_option maxHeartbeats 4000000 in
set_option maxRecDepth 100000 in
theorem kX4_sum_loop {p : Program} {l : Launch} {e : Env} {s : State} {m : MethodId} {args : Array Value} {below : List Frame} {meth : Method} {c : Code} {A : Nat → Prop} {Q : State → Prop} {D : va_G} {cI cL : ClassId} {b : Nat → Nat} {B0 : Int32} {B1 : Int32} {B2 : Int64} {B3 : (Nat → Int64)} {B4 : (Nat → Int64)} {B5 : (Nat → Int32)} {B6 : (Nat → Int32)} {K0 : (Nat → Int32)} {K1 : (Nat → Int32)} {K2 : (Nat → Int32)} {K3 : (Nat → Int32)} {K4 : (Nat → Int64)} {U1 : Int32} {U4 : Int32} {U5 : Int32} {G0 : Int32} {G1 : (Nat → Int64)} {G2 : (Nat → Int32)} {G3 : (Nat → Int64)} {G4 : (Nat → Int32)} {N0 : (Nat → Int64)} {N1 : (Nat → Int32)} {N2 : (Nat → Int64)} {N3 : (Nat → Int32)} {p1 : Int32} {nt k sn vn on : Nat} {J : (Nat → Int32) → Int32 → Int32 → Int32 → Prop} (C : zw_C p s m args c D (zw_tys cI cL) A RX4 cX4_sum 6) (hy1 : dm_B B0 B1 B5 nt k) (hy2 : dm_K K0 sn vn on) (hy3 : mJ B3 B4 K1 K2 K3 K4 J sn vn on nt) (hp : vp_in p1 sn) : ∀ (n : Nat) (E0 : (Nat → Int32)) (M0 : Int32) (M1 : (Nat → Int32)) (M2 : (Nat → Int32)) (M3 : (Nat → Int32)) (M4 : (Nat → Int32)) (M5 : (Nat → Int64)) (M6 : Int64) (M7 : Int32) (U0 : Int32) (U2 : Int32) (U3 : Int32) (x2 : Int64) (x4 : Int32) (x5 : Int32) (q : (Nat → Int32) × Int32 × (Nat → Int32) × (Nat → Int32) × (Nat → Int32) × (Nat → Int32) × (Nat → Int64) × Int64 × Int32 × Int32 × Int32 × Int32 × Int64 × Int32), (∃ i : Nat, x5 = nI i ∧ i ≤ k ∧ k < i + n ∧ J E0 U0 U2 U3) → fX4_sum_loop B1 B3 B4 K1 K2 K3 K4 B5 p1 n E0 M0 M1 M2 M3 M4 M5 M6 M7 U0 U2 U3 x2 x4 x5 = q → (zw_W p l e (zw_rm 4 102) s m args below meth c D A 6 Q 0 0 (wM cI cL b B0 B1 B2 B3 B4 B5 B6 K0 K1 K2 K3 K4 q.1 q.2.1 q.2.2.1 q.2.2.2.1 q.2.2.2.2.1 q.2.2.2.2.2.1 q.2.2.2.2.2.2.1 q.2.2.2.2.2.2.2.1 q.2.2.2.2.2.2.2.2.1 q.2.2.2.2.2.2.2.2.2.1 U1 q.2.2.2.2.2.2.2.2.2.2.1 q.2.2.2.2.2.2.2.2.2.2.2.1 U4 U5 G0 G1 G2 G3 G4 N0 N1 N2 N3) 94 [(0, .ref (b 0)), (1, .int p1), (2, .long q.2.2.2.2.2.2.2.2.2.2.2.2.1), (4, .int q.2.2.2.2.2.2.2.2.2.2.2.2.2)] []) → zw_W p l e (zw_rm 4 102) s m args below meth c D A 6 Q 0 0 (wM cI cL b B0 B1 B2 B3 B4 B5 B6 K0 K1 K2 K3 K4 E0 M0 M1 M2 M3 M4 M5 M6 M7 U0 U1 U2 U3 U4 U5 G0 G1 G2 G3 G4 N0 N1 N2 N3) 36 [(0, .ref (b 0)), (1, .int p1), (2, .long x2), (4, .int x4), (5, .int x5)] [] := by
  intro n
  induction n with
  | zero =>
    intro E0 M0 M1 M2 M3 M4 M5 M6 M7 U0 U2 U3 x2 x4 x5 q hI hF kx
    obtain ⟨i, -, h3, h4, -⟩ := hI; exact absurd h4 (by omega)
  | succ n ih =>
    intro E0 M0 M1 M2 M3 M4 M5 M6 M7 U0 U2 U3 x2 x4 x5 q hI hF kx
    obtain ⟨i, z5, hi, hn, hJ⟩ := hI
    rw [fX4_sum_loop] at hF
    refine zw_iload C dX4_sum_36 4 rfl ?_
    refine zw_aload_n C dX4_sum_38 0 rfl rfl ?_
    refine zw_get C FX4 0 3 (v := .int B1) rfl (by decide) lkX4_88 rfl dX4_sum_39 ?_
    refine zw_icmp_ge C 94 dX4_sum_42 (by decide) (fun h1 => ?_) (fun h1 => ?_)
    · rw [if_pos h1] at hF
      subst hF; dsimp only at kx
      exact zw_locals [0, 1, 2, 3] rfl kx
    · rw [if_neg h1] at hF
      refine zw_iload C dX4_sum_45 3 rfl ?_
      refine zw_if_eq C 94 dX4_sum_47 (by decide) (fun h2 => ?_) (fun h2 => ?_)
      · rw [if_pos h2] at hF
        subst hF; dsimp only at kx
        exact zw_locals [0, 1, 2, 3] rfl kx
      · rw [if_neg h2] at hF
        refine zw_aload_n C dX4_sum_50 0 rfl rfl ?_
        refine zw_iconst C (v := 0) dX4_sum_51 (by decide) ?_
        refine zw_iload_n C dX4_sum_52 1 rfl rfl ?_
        refine zw_aload_n C dX4_sum_53 0 rfl rfl ?_
        refine zw_get C FX4 0 4 (v := .ref (b 3)) rfl (by decide) lkX4_16 rfl dX4_sum_54 ?_
        refine zw_iload C dX4_sum_57 4 rfl ?_
        refine zw_iald C 3 0 (f := B5) (i := x5) rfl rfl (dm_ixl hy1 z5 hi (by assumption)) dX4_sum_59 ?_
        refine zw_aload_n C dX4_sum_60 0 rfl rfl ?_
        refine zw_get C FX4 0 4 (v := .ref (b 3)) rfl (by decide) lkX4_16 rfl dX4_sum_61 ?_
        refine zw_iload C dX4_sum_64 4 rfl ?_
        refine zw_iald C 3 0 (f := B5) (i := x5) rfl rfl (dm_ixl hy1 z5 hi (by assumption)) dX4_sum_66 ?_
        obtain ⟨q3, e4⟩ : ∃ z, fX4_ask B3 B4 K1 K2 K3 K4 E0 M1 M2 M3 M4 M5 M6 U0 U2 U3 0 p1 (B5 x5.toNatClampNeg) (B5 x5.toNatClampNeg) = z := ⟨_, rfl⟩
        rw [zw_l_eq e4] at hF
        refine zw_calli C kvX4_164 (kX4_askK (mJ_ex0 hy3 hJ hp (dm_li hy1 z5 hi (by assumption))) e4) ⟨rfl, rfl, ⟨by decide, by decide⟩, by decide, by decide⟩ FX4 0 (As := [.int 0, .int p1, .int (B5 x5.toNatClampNeg), .int (B5 x5.toNatClampNeg)]) (rest := []) rfl rfl rfl (Nat.le_of_ble_eq_true rfl) dX4_sum_67 ?_
        refine zw_istore C dX4_sum_70 (by decide) rfl ?_
        refine zw_lload_n C dX4_sum_72 3 rfl rfl ?_
        refine zw_iload C dX4_sum_73 0 rfl ?_
        refine zw_if_eq C 85 dX4_sum_75 (by decide) (fun h5 => ?_) (fun h5 => ?_)
        · rw [if_pos h5] at hF
          refine zw_lconst C (v := 0) dX4_sum_85 (by decide) ?_
          refine zw_ladd C dX4_sum_86 ?_
          refine zw_lstore_n C dX4_sum_87 rfl (by decide) rfl ?_
          refine zw_iinc C (j := 4) (v := x5 + 1) dX4_sum_88 rfl rfl (by decide) rfl ?_
          refine zw_goto C 36 dX4_sum_91 (by decide) ?_
          refine zw_locals [3, 4, 1, 2, 0] (lv2 := [(0, .ref (b 0)), (1, .int p1), (2, .long (x2 + 0)), (4, .int q3.1), (5, .int (x5 + 1))]) rfl ?_
          exact ih q3.2.1 q3.2.2.1 q3.2.2.2.1 q3.2.2.2.2.1 q3.2.2.2.2.2.1 q3.2.2.2.2.2.2.1 q3.2.2.2.2.2.2.2.1 q3.2.2.2.2.2.2.2.2.1 q3.2.2.2.2.2.2.2.2.2.1 q3.2.2.2.2.2.2.2.2.2.2.1 q3.2.2.2.2.2.2.2.2.2.2.2.1 q3.2.2.2.2.2.2.2.2.2.2.2.2 (x2 + 0) q3.1 (x5 + 1) q ⟨i + 1, by rw [z5]; exact nI_1 i, dm_lk hy1 z5 (by assumption) hi, by omega, mJ_st0 hy3 hJ hp (dm_li hy1 z5 hi (by assumption)) (by assumption)⟩ hF kx
        · rw [if_neg h5] at hF
          refine zw_aload_n C dX4_sum_78 1 rfl rfl ?_
          refine zw_get C FX4 0 17 (v := .long q3.2.2.2.2.2.2.2.2.1) rfl (by decide) lkX4_107 rfl dX4_sum_79 ?_
          refine zw_goto C 86 dX4_sum_82 (by decide) ?_
          refine zw_ladd C dX4_sum_86 ?_
          refine zw_lstore_n C dX4_sum_87 rfl (by decide) rfl ?_
          refine zw_iinc C (j := 4) (v := x5 + 1) dX4_sum_88 rfl rfl (by decide) rfl ?_
          refine zw_goto C 36 dX4_sum_91 (by decide) ?_
          refine zw_locals [3, 4, 1, 2, 0] (lv2 := [(0, .ref (b 0)), (1, .int p1), (2, .long (x2 + q3.2.2.2.2.2.2.2.2.1)), (4, .int q3.1), (5, .int (x5 + 1))]) rfl ?_
          exact ih q3.2.1 q3.2.2.1 q3.2.2.2.1 q3.2.2.2.2.1 q3.2.2.2.2.2.1 q3.2.2.2.2.2.2.1 q3.2.2.2.2.2.2.2.1 q3.2.2.2.2.2.2.2.2.1 q3.2.2.2.2.2.2.2.2.2.1 q3.2.2.2.2.2.2.2.2.2.2.1 q3.2.2.2.2.2.2.2.2.2.2.2.1 q3.2.2.2.2.2.2.2.2.2.2.2.2 (x2 + q3.2.2.2.2.2.2.2.2.1) q3.1 (x5 + 1) q ⟨i + 1, by rw [z5]; exact nI_1 i, dm_lk hy1 z5 (by assumption) hi, by omega, mJ_st0 hy3 hJ hp (dm_li hy1 z5 hi (by assumption)) (by assumption)⟩ hF kx
noncomputable def fX4_sum (B1 : Int32) (B2 : Int64) (B3 : (Nat → Int64)) (B4 : (Nat → Int64)) (B5 : (Nat → Int32)) (K0 : (Nat → Int32)) (K1 : (Nat → Int32)) (K2 : (Nat → Int32)) (K3 : (Nat → Int32)) (K4 : (Nat → Int64)) (E0 : (Nat → Int32)) (M0 : Int32) (M1 : (Nat → Int32)) (M2 : (Nat → Int32)) (M3 : (Nat → Int32)) (M4 : (Nat → Int32)) (M5 : (Nat → Int64)) (M6 : Int64) (M7 : Int32) (U0 : Int32) (U1 : Int32) (U2 : Int32) (U3 : Int32) (U4 : Int32) (U5 : Int32) (p1 : Int32) : Int32 × Int64 × (Nat → Int32) × Int32 × (Nat → Int32) × (Nat → Int32) × (Nat → Int32) × (Nat → Int32) × (Nat → Int64) × Int64 × Int32 × Int32 × Int32 × Int32 × Int32 × Int32 × Int32 := (if (fX4_is K0 0 p1) = 0 then ((-1), B2, E0, M0, M1, M2, M3, M4, M5, M6, M7, U0, U2, U3, U1, U4, U5) else (if U3 < 2000 then (zw_l (fX4_startsCall) (fun q3 => (zw_l (fX4_sum_loop B1 B3 B4 K1 K2 K3 K4 B5 p1 41 E0 M0 M1 M2 M3 M4 M5 M6 q3.1 q3.2 U2 U3 0 1 0) (fun q5 => (if q5.2.2.2.2.2.2.2.2.2.2.2.2.2 = 0 then (zw_l (fX4_ends q5.2.2.2.2.2.2.2.2.1 q5.2.2.2.2.2.2.2.2.2.1 U1 q5.2.2.2.2.2.2.2.2.2.2.1 q5.2.2.2.2.2.2.2.2.2.2.2.1 U4 U5 1) (fun q8 => (q8.1, B2, q5.1, q5.2.1, q5.2.2.1, q5.2.2.2.1, q5.2.2.2.2.1, q5.2.2.2.2.2.1, q5.2.2.2.2.2.2.1, q5.2.2.2.2.2.2.2.1, q5.2.2.2.2.2.2.2.2.1, q5.2.2.2.2.2.2.2.2.2.1, q5.2.2.2.2.2.2.2.2.2.2.1, q8.2.2.1, q8.2.1, q8.2.2.2.1, q8.2.2.2.2))) else (zw_l (fX4_ends q5.2.2.2.2.2.2.2.2.1 q5.2.2.2.2.2.2.2.2.2.1 U1 q5.2.2.2.2.2.2.2.2.2.2.1 q5.2.2.2.2.2.2.2.2.2.2.2.1 U4 U5 1) (fun q10 => (q10.1, q5.2.2.2.2.2.2.2.2.2.2.2.2.1, q5.1, q5.2.1, q5.2.2.1, q5.2.2.2.1, q5.2.2.2.2.1, q5.2.2.2.2.2.1, q5.2.2.2.2.2.2.1, q5.2.2.2.2.2.2.2.1, q5.2.2.2.2.2.2.2.2.1, q5.2.2.2.2.2.2.2.2.2.1, q5.2.2.2.2.2.2.2.2.2.2.1, q10.2.2.1, q10.2.1, q10.2.2.2.1, q10.2.2.2.2)))))))) else ((-2), B2, E0, M0, M1, M2, M3, M4, M5, M6, M7, U0, U2, U3, U1, U4, U5)))
set_option maxHeartbeats 4000000 in
set_option maxRecDepth 100000 in
theorem kX4_sum {l : Launch} {D : va_G} {cI cL : ClassId} {b : Nat → Nat} {B0 : Int32} {B1 : Int32} {B2 : Int64} {B3 : (Nat → Int64)} {B4 : (Nat → Int64)} {B5 : (Nat → Int32)} {B6 : (Nat → Int32)} {K0 : (Nat → Int32)} {K1 : (Nat → Int32)} {K2 : (Nat → Int32)} {K3 : (Nat → Int32)} {K4 : (Nat → Int64)} {E0 : (Nat → Int32)} {M0 : Int32} {M1 : (Nat → Int32)} {M2 : (Nat → Int32)} {M3 : (Nat → Int32)} {M4 : (Nat → Int32)} {M5 : (Nat → Int64)} {M6 : Int64} {M7 : Int32} {U0 : Int32} {U1 : Int32} {U2 : Int32} {U3 : Int32} {U4 : Int32} {U5 : Int32} {G0 : Int32} {G1 : (Nat → Int64)} {G2 : (Nat → Int32)} {G3 : (Nat → Int64)} {G4 : (Nat → Int32)} {N0 : (Nat → Int64)} {N1 : (Nat → Int32)} {N2 : (Nat → Int64)} {N3 : (Nat → Int32)} {p1 : Int32} {q : Int32 × Int64 × (Nat → Int32) × Int32 × (Nat → Int32) × (Nat → Int32) × (Nat → Int32) × (Nat → Int32) × (Nat → Int64) × Int64 × Int32 × Int32 × Int32 × Int32 × Int32 × Int32 × Int32} {nt k sn vn on : Nat} {J : (Nat → Int32) → Int32 → Int32 → Int32 → Prop} (hy1 : dm_B B0 B1 B5 nt k) (hy2 : dm_K K0 sn vn on) (hy3 : mJ B3 B4 K1 K2 K3 K4 J sn vn on nt) (hy4 : J E0 0 U2 U3) (hF : fX4_sum B1 B2 B3 B4 B5 K0 K1 K2 K3 K4 E0 M0 M1 M2 M3 M4 M5 M6 M7 U0 U1 U2 U3 U4 U5 p1 = q) : zw_Mi l yX4_sum cX4_sum 6 .int D (zw_tys cI cL) (zw_rm 4 102) [.ref (b 0), .int p1] (wM cI cL b B0 B1 B2 B3 B4 B5 B6 K0 K1 K2 K3 K4 E0 M0 M1 M2 M3 M4 M5 M6 M7 U0 U1 U2 U3 U4 U5 G0 G1 G2 G3 G4 N0 N1 N2 N3) (wM cI cL b B0 B1 q.2.1 B3 B4 B5 B6 K0 K1 K2 K3 K4 q.2.2.1 q.2.2.2.1 q.2.2.2.2.1 q.2.2.2.2.2.1 q.2.2.2.2.2.2.1 q.2.2.2.2.2.2.2.1 q.2.2.2.2.2.2.2.2.1 q.2.2.2.2.2.2.2.2.2.1 q.2.2.2.2.2.2.2.2.2.2.1 q.2.2.2.2.2.2.2.2.2.2.2.1 q.2.2.2.2.2.2.2.2.2.2.2.2.2.2.1 q.2.2.2.2.2.2.2.2.2.2.2.2.1 q.2.2.2.2.2.2.2.2.2.2.2.2.2.1 q.2.2.2.2.2.2.2.2.2.2.2.2.2.2.2.1 q.2.2.2.2.2.2.2.2.2.2.2.2.2.2.2.2 G0 G1 G2 G3 G4 N0 N1 N2 N3) q.1 := by
  unfold fX4_sum at hF
  refine zw_Mi_of (own := RX4) (by decide) rfl (Nat.le_of_ble_eq_true rfl) ?_
  intro p e s m args below meth c A C hr hlk
  refine zw_eq (lv2 := [(0, .ref (b 0)), (1, .int p1)]) rfl rfl rfl ?_
  refine zw_aload_n C dX4_sum_0 0 rfl rfl ?_
  refine zw_iconst C (v := 0) dX4_sum_1 (by decide) ?_
  refine zw_iload_n C dX4_sum_2 1 rfl rfl ?_
  refine zw_calli C kvX4_153 (kX4_is (vp_in_iff.mpr ⟨by decide, by decide⟩) rfl) ⟨rfl, rfl, ⟨by decide, by decide⟩, by decide, by decide⟩ FX4 0 (As := [.int 0, .int p1]) (rest := []) rfl rfl rfl (Nat.le_of_ble_eq_true rfl) dX4_sum_3 ?_
  refine zw_if_ne C 11 dX4_sum_6 (by decide) (fun h1 => ?_) (fun h1 => ?_)
  · rw [if_neg h1] at hF
    refine zw_aload_n C dX4_sum_11 0 rfl rfl ?_
    refine zw_get C FX4 0 22 (v := .int U3) rfl (by decide) lkX4_127 rfl dX4_sum_12 ?_
    refine zw_sipush C (v := 2000) dX4_sum_15 (by decide) ?_
    refine zw_icmp_lt C 24 dX4_sum_18 (by decide) (fun h2 => ?_) (fun h2 => ?_)
    · rw [if_pos h2] at hF
      refine zw_aload_n C dX4_sum_24 0 rfl rfl ?_
      obtain ⟨q3, e4⟩ : ∃ z, fX4_startsCall = z := ⟨_, rfl⟩
      rw [zw_l_eq e4] at hF
      refine zw_callv C kvX4_161 (kX4_startsCall e4) ⟨rfl, rfl, ⟨by decide, by decide⟩, by decide, by decide⟩ FX4 0 (As := []) (rest := []) rfl rfl rfl (Nat.le_of_ble_eq_true rfl) dX4_sum_25 ?_
      refine zw_lconst C (v := 0) dX4_sum_28 (by decide) ?_
      refine zw_lstore_n C dX4_sum_29 rfl (by decide) rfl ?_
      refine zw_iconst C (v := 1) dX4_sum_30 (by decide) ?_
      refine zw_istore C dX4_sum_31 (by decide) rfl ?_
      refine zw_iconst C (v := 0) dX4_sum_33 (by decide) ?_
      refine zw_istore C dX4_sum_34 (by decide) rfl ?_
      obtain ⟨q5, e6⟩ : ∃ z, fX4_sum_loop B1 B3 B4 K1 K2 K3 K4 B5 p1 41 E0 M0 M1 M2 M3 M4 M5 M6 q3.1 q3.2 U2 U3 0 1 0 = z := ⟨_, rfl⟩
      rw [zw_l_eq e6] at hF
      refine zw_locals [3, 4, 2, 1, 0] (lv2 := [(0, .ref (b 0)), (1, .int p1), (2, .long 0), (4, .int 1), (5, .int 0)]) rfl ?_
      refine kX4_sum_loop C hy1 hy2 hy3 (dm_is (by assumption) hy2.2.2.2.1 hy2.1) 41 E0 M0 M1 M2 M3 M4 M5 M6 q3.1 q3.2 U2 U3 0 1 0 q5 ⟨0, rfl, Nat.zero_le _, by have := hy1.1; have := hy1.2.1; omega, st_J (by assumption) hy4⟩ e6 ?_
      refine zw_aload_n C dX4_sum_94 0 rfl rfl ?_
      refine zw_iload C dX4_sum_95 3 rfl ?_
      refine zw_if_eq C 104 dX4_sum_97 (by decide) (fun h7 => ?_) (fun h7 => ?_)
      · rw [if_pos h7] at hF
        refine zw_aload_n C dX4_sum_104 0 rfl rfl ?_
        refine zw_get C FX4 0 25 (v := .long B2) rfl (by decide) lkX4_172 rfl dX4_sum_105 ?_
        refine zw_put C FX4 GX4 0 25 (v := .long B2) (ws2 := (wM cI cL b B0 B1 B2 B3 B4 B5 B6 K0 K1 K2 K3 K4 q5.1 q5.2.1 q5.2.2.1 q5.2.2.2.1 q5.2.2.2.2.1 q5.2.2.2.2.2.1 q5.2.2.2.2.2.2.1 q5.2.2.2.2.2.2.2.1 q5.2.2.2.2.2.2.2.2.1 q5.2.2.2.2.2.2.2.2.2.1 U1 q5.2.2.2.2.2.2.2.2.2.2.1 q5.2.2.2.2.2.2.2.2.2.2.2.1 U4 U5 G0 G1 G2 G3 G4 N0 N1 N2 N3)) rfl (by decide) lkX4_172 rfl rfl rfl (Nat.le_of_ble_eq_true rfl) rfl dX4_sum_108 ?_
        refine zw_aload_n C dX4_sum_111 0 rfl rfl ?_
        refine zw_iconst C (v := 1) dX4_sum_112 (by decide) ?_
        obtain ⟨q8, e9⟩ : ∃ z, fX4_ends q5.2.2.2.2.2.2.2.2.1 q5.2.2.2.2.2.2.2.2.2.1 U1 q5.2.2.2.2.2.2.2.2.2.2.1 q5.2.2.2.2.2.2.2.2.2.2.2.1 U4 U5 1 = z := ⟨_, rfl⟩
        rw [zw_l_eq e9] at hF
        refine zw_calli C kvX4_168 (kX4_ends e9) ⟨rfl, rfl, ⟨by decide, by decide⟩, by decide, by decide⟩ FX4 0 (As := [.int 1]) (rest := []) rfl rfl rfl (Nat.le_of_ble_eq_true rfl) dX4_sum_113 ?_
        subst hF; dsimp only
        exact zw_ireturn C hr hlk dX4_sum_116 rfl rfl
      · rw [if_neg h7] at hF
        refine zw_lload_n C dX4_sum_100 2 rfl rfl ?_
        refine zw_goto C 108 dX4_sum_101 (by decide) ?_
        refine zw_put C FX4 GX4 0 25 (v := .long q5.2.2.2.2.2.2.2.2.2.2.2.2.1) (ws2 := (wM cI cL b B0 B1 q5.2.2.2.2.2.2.2.2.2.2.2.2.1 B3 B4 B5 B6 K0 K1 K2 K3 K4 q5.1 q5.2.1 q5.2.2.1 q5.2.2.2.1 q5.2.2.2.2.1 q5.2.2.2.2.2.1 q5.2.2.2.2.2.2.1 q5.2.2.2.2.2.2.2.1 q5.2.2.2.2.2.2.2.2.1 q5.2.2.2.2.2.2.2.2.2.1 U1 q5.2.2.2.2.2.2.2.2.2.2.1 q5.2.2.2.2.2.2.2.2.2.2.2.1 U4 U5 G0 G1 G2 G3 G4 N0 N1 N2 N3)) rfl (by decide) lkX4_172 rfl rfl rfl (Nat.le_of_ble_eq_true rfl) rfl dX4_sum_108 ?_
        refine zw_aload_n C dX4_sum_111 0 rfl rfl ?_
        refine zw_iconst C (v := 1) dX4_sum_112 (by decide) ?_
        obtain ⟨q10, e11⟩ : ∃ z, fX4_ends q5.2.2.2.2.2.2.2.2.1 q5.2.2.2.2.2.2.2.2.2.1 U1 q5.2.2.2.2.2.2.2.2.2.2.1 q5.2.2.2.2.2.2.2.2.2.2.2.1 U4 U5 1 = z := ⟨_, rfl⟩
        rw [zw_l_eq e11] at hF
        refine zw_calli C kvX4_168 (kX4_ends e11) ⟨rfl, rfl, ⟨by decide, by decide⟩, by decide, by decide⟩ FX4 0 (As := [.int 1]) (rest := []) rfl rfl rfl (Nat.le_of_ble_eq_true rfl) dX4_sum_113 ?_
        subst hF; dsimp only
        exact zw_ireturn C hr hlk dX4_sum_116 rfl rfl
    · rw [if_neg h2] at hF
      refine zw_bipush C (v := (-2)) dX4_sum_21 (by decide) ?_
      subst hF; dsimp only
      exact zw_ireturn C hr hlk dX4_sum_23 rfl rfl
  · rw [if_pos h1] at hF
    refine zw_iconst C (v := (-1)) dX4_sum_9 (by decide) ?_
    subst hF; dsimp only
    exact zw_ireturn C hr hlk dX4_sum_10 rfl rfl
theorem dm_p2 {x y z : Int32} {f : Nat → Int32} {nt k : Nat} (hB : dm_B y z f nt k) (h : ∃ j : Nat, j ≤ k ∧ x = nI j) : ∃ i j0 : Nat, (0 : Int32) = nI i ∧ x = nI j0 ∧ j0 ≤ 40 ∧ i ≤ j0 ∧ j0 < i + 41 := by
  obtain ⟨j, hj, e⟩ := h
  have := hB.1; have := hB.2.1
  exact ⟨0, j, rfl, e, by omega, Nat.zero_le _, by omega⟩
noncomputable def fX4_sift_loop (B1 : Int32) (B3 B4 : Nat → Int64) (K1 K2 K3 : Nat → Int32) (K4 : Nat → Int64) (B5 : Nat → Int32) (p1 : Int32) : Nat → (Nat → Int32) → (Nat → Int32) → Int32 → (Nat → Int32) → (Nat → Int32) → (Nat → Int32) → (Nat → Int32) → (Nat → Int64) → Int64 → Int32 → Int32 → Int32 → Int32 → Int32 → Int32 → Int32 → (Nat → Int32) × (Nat → Int32) × Int32 × (Nat → Int32) × (Nat → Int32) × (Nat → Int32) × (Nat → Int32) × (Nat → Int64) × Int64 × Int32 × Int32 × Int32 × Int32 × Int32 × Int32
  | 0, B6, E0, M0, M1, M2, M3, M4, M5, M6, M7, U0, U2, U3, x2, x3, _ => (B6, E0, M0, M1, M2, M3, M4, M5, M6, M7, U0, U2, U3, x2, x3)
  | n + 1, B6, E0, M0, M1, M2, M3, M4, M5, M6, M7, U0, U2, U3, x2, x3, x4 => (if B1 ≤ x4 then (B6, E0, M0, M1, M2, M3, M4, M5, M6, M7, U0, U2, U3, x2, x3) else (if x3 = 0 then (B6, E0, M0, M1, M2, M3, M4, M5, M6, M7, U0, U2, U3, x2, x3) else (zw_l (fX4_ask B3 B4 K1 K2 K3 K4 E0 M1 M2 M3 M4 M5 M6 U0 U2 U3 1 p1 (B5 x4.toNatClampNeg) (B5 x4.toNatClampNeg)) (fun q3 => (if q3.1 = 0 then fX4_sift_loop B1 B3 B4 K1 K2 K3 K4 B5 p1 n B6 q3.2.1 q3.2.2.1 q3.2.2.2.1 q3.2.2.2.2.1 q3.2.2.2.2.2.1 q3.2.2.2.2.2.2.1 q3.2.2.2.2.2.2.2.1 q3.2.2.2.2.2.2.2.2.1 q3.2.2.2.2.2.2.2.2.2.1 q3.2.2.2.2.2.2.2.2.2.2.1 q3.2.2.2.2.2.2.2.2.2.2.2.1 q3.2.2.2.2.2.2.2.2.2.2.2.2 x2 q3.1 (x4 + 1) else (if (lg_cmp q3.2.2.2.2.2.2.2.2.1 1) = 0 then fX4_sift_loop B1 B3 B4 K1 K2 K3 K4 B5 p1 n (upd B6 x2.toNatClampNeg (B5 x4.toNatClampNeg)) q3.2.1 q3.2.2.1 q3.2.2.2.1 q3.2.2.2.2.1 q3.2.2.2.2.2.1 q3.2.2.2.2.2.2.1 q3.2.2.2.2.2.2.2.1 q3.2.2.2.2.2.2.2.2.1 q3.2.2.2.2.2.2.2.2.2.1 q3.2.2.2.2.2.2.2.2.2.2.1 q3.2.2.2.2.2.2.2.2.2.2.2.1 q3.2.2.2.2.2.2.2.2.2.2.2.2 (x2 + 1) q3.1 (x4 + 1) else fX4_sift_loop B1 B3 B4 K1 K2 K3 K4 B5 p1 n B6 q3.2.1 q3.2.2.1 q3.2.2.2.1 q3.2.2.2.2.1 q3.2.2.2.2.2.1 q3.2.2.2.2.2.2.1 q3.2.2.2.2.2.2.2.1 q3.2.2.2.2.2.2.2.2.1 q3.2.2.2.2.2.2.2.2.2.1 q3.2.2.2.2.2.2.2.2.2.2.1 q3.2.2.2.2.2.2.2.2.2.2.2.1 q3.2.2.2.2.2.2.2.2.2.2.2.2 x2 q3.1 (x4 + 1)))))))
set_option maxHeartbeats 4000000 in
set_option maxRecDepth 100000 in
theorem kX4_sift_loop {p : Program} {l : Launch} {e : Env} {s : State} {m : MethodId} {args : Array Value} {below : List Frame} {meth : Method} {c : Code} {A : Nat → Prop} {Q : State → Prop} {D : va_G} {cI cL : ClassId} {b : Nat → Nat} {B0 : Int32} {B1 : Int32} {B2 : Int64} {B3 : (Nat → Int64)} {B4 : (Nat → Int64)} {B5 : (Nat → Int32)} {K0 : (Nat → Int32)} {K1 : (Nat → Int32)} {K2 : (Nat → Int32)} {K3 : (Nat → Int32)} {K4 : (Nat → Int64)} {U1 : Int32} {U4 : Int32} {U5 : Int32} {G0 : Int32} {G1 : (Nat → Int64)} {G2 : (Nat → Int32)} {G3 : (Nat → Int64)} {G4 : (Nat → Int32)} {N0 : (Nat → Int64)} {N1 : (Nat → Int32)} {N2 : (Nat → Int64)} {N3 : (Nat → Int32)} {p1 : Int32} {nt k sn vn on : Nat} {J : (Nat → Int32) → Int32 → Int32 → Int32 → Prop} (C : zw_C p s m args c D (zw_tys cI cL) A RX4 cX4_sift 5) (hy1 : dm_B B0 B1 B5 nt k) (hy2 : dm_K K0 sn vn on) (hy3 : mJ B3 B4 K1 K2 K3 K4 J sn vn on nt) (hp : vp_in p1 vn) : ∀ (n : Nat) (B6 : (Nat → Int32)) (E0 : (Nat → Int32)) (M0 : Int32) (M1 : (Nat → Int32)) (M2 : (Nat → Int32)) (M3 : (Nat → Int32)) (M4 : (Nat → Int32)) (M5 : (Nat → Int64)) (M6 : Int64) (M7 : Int32) (U0 : Int32) (U2 : Int32) (U3 : Int32) (x2 : Int32) (x3 : Int32) (x4 : Int32) (q : (Nat → Int32) × (Nat → Int32) × Int32 × (Nat → Int32) × (Nat → Int32) × (Nat → Int32) × (Nat → Int32) × (Nat → Int64) × Int64 × Int32 × Int32 × Int32 × Int32 × Int32 × Int32), (∃ i j : Nat, x4 = nI i ∧ x2 = nI j ∧ j ≤ i ∧ i ≤ k ∧ k < i + n ∧ J E0 U0 U2 U3) → fX4_sift_loop B1 B3 B4 K1 K2 K3 K4 B5 p1 n B6 E0 M0 M1 M2 M3 M4 M5 M6 M7 U0 U2 U3 x2 x3 x4 = q → ((∃ j : Nat, j ≤ k ∧ q.2.2.2.2.2.2.2.2.2.2.2.2.2.1 = nI j) → zw_W p l e (zw_rm 4 102) s m args below meth c D A 5 Q 0 0 (wM cI cL b B0 B1 B2 B3 B4 B5 q.1 K0 K1 K2 K3 K4 q.2.1 q.2.2.1 q.2.2.2.1 q.2.2.2.2.1 q.2.2.2.2.2.1 q.2.2.2.2.2.2.1 q.2.2.2.2.2.2.2.1 q.2.2.2.2.2.2.2.2.1 q.2.2.2.2.2.2.2.2.2.1 q.2.2.2.2.2.2.2.2.2.2.1 U1 q.2.2.2.2.2.2.2.2.2.2.2.1 q.2.2.2.2.2.2.2.2.2.2.2.2.1 U4 U5 G0 G1 G2 G3 G4 N0 N1 N2 N3) 104 [(0, .ref (b 0)), (1, .int p1), (2, .int q.2.2.2.2.2.2.2.2.2.2.2.2.2.1), (3, .int q.2.2.2.2.2.2.2.2.2.2.2.2.2.2)] []) → zw_W p l e (zw_rm 4 102) s m args below meth c D A 5 Q 0 0 (wM cI cL b B0 B1 B2 B3 B4 B5 B6 K0 K1 K2 K3 K4 E0 M0 M1 M2 M3 M4 M5 M6 M7 U0 U1 U2 U3 U4 U5 G0 G1 G2 G3 G4 N0 N1 N2 N3) 35 [(0, .ref (b 0)), (1, .int p1), (2, .int x2), (3, .int x3), (4, .int x4)] [] := by
  intro n
  induction n with
  | zero =>
    intro B6 E0 M0 M1 M2 M3 M4 M5 M6 M7 U0 U2 U3 x2 x3 x4 q hI hF kx
    obtain ⟨i, j, -, -, -, h3, h4, -⟩ := hI; exact absurd h4 (by omega)
  | succ n ih =>
    intro B6 E0 M0 M1 M2 M3 M4 M5 M6 M7 U0 U2 U3 x2 x3 x4 q hI hF kx
    obtain ⟨i, j, z4, z2, hj, hi, hn, hJ⟩ := hI
    rw [fX4_sift_loop] at hF
    refine zw_iload C dX4_sift_35 4 rfl ?_
    refine zw_aload_n C dX4_sift_37 0 rfl rfl ?_
    refine zw_get C FX4 0 3 (v := .int B1) rfl (by decide) lkX4_88 rfl dX4_sift_38 ?_
    refine zw_icmp_ge C 104 dX4_sift_41 (by decide) (fun h1 => ?_) (fun h1 => ?_)
    · rw [if_pos h1] at hF
      subst hF; dsimp only at kx
      exact zw_locals [0, 1, 2, 3] rfl (kx ⟨j, by omega, z2⟩)
    · rw [if_neg h1] at hF
      refine zw_iload_n C dX4_sift_44 3 rfl rfl ?_
      refine zw_if_eq C 104 dX4_sift_45 (by decide) (fun h2 => ?_) (fun h2 => ?_)
      · rw [if_pos h2] at hF
        subst hF; dsimp only at kx
        exact zw_locals [0, 1, 2, 3] rfl (kx ⟨j, by omega, z2⟩)
      · rw [if_neg h2] at hF
        refine zw_aload_n C dX4_sift_48 0 rfl rfl ?_
        refine zw_iconst C (v := 1) dX4_sift_49 (by decide) ?_
        refine zw_iload_n C dX4_sift_50 1 rfl rfl ?_
        refine zw_aload_n C dX4_sift_51 0 rfl rfl ?_
        refine zw_get C FX4 0 4 (v := .ref (b 3)) rfl (by decide) lkX4_16 rfl dX4_sift_52 ?_
        refine zw_iload C dX4_sift_55 4 rfl ?_
        refine zw_iald C 3 0 (f := B5) (i := x4) rfl rfl (dm_ixl hy1 z4 hi (by assumption)) dX4_sift_57 ?_
        refine zw_aload_n C dX4_sift_58 0 rfl rfl ?_
        refine zw_get C FX4 0 4 (v := .ref (b 3)) rfl (by decide) lkX4_16 rfl dX4_sift_59 ?_
        refine zw_iload C dX4_sift_62 4 rfl ?_
        refine zw_iald C 3 0 (f := B5) (i := x4) rfl rfl (dm_ixl hy1 z4 hi (by assumption)) dX4_sift_64 ?_
        obtain ⟨q3, e4⟩ : ∃ z, fX4_ask B3 B4 K1 K2 K3 K4 E0 M1 M2 M3 M4 M5 M6 U0 U2 U3 1 p1 (B5 x4.toNatClampNeg) (B5 x4.toNatClampNeg) = z := ⟨_, rfl⟩
        rw [zw_l_eq e4] at hF
        refine zw_calli C kvX4_164 (kX4_askK (mJ_ex1 hy3 hJ hp (dm_li hy1 z4 hi (by assumption))) e4) ⟨rfl, rfl, ⟨by decide, by decide⟩, by decide, by decide⟩ FX4 0 (As := [.int 1, .int p1, .int (B5 x4.toNatClampNeg), .int (B5 x4.toNatClampNeg)]) (rest := []) rfl rfl rfl (Nat.le_of_ble_eq_true rfl) dX4_sift_65 ?_
        refine zw_istore_n C dX4_sift_68 rfl (by decide) rfl ?_
        refine zw_iload_n C dX4_sift_69 0 rfl rfl ?_
        refine zw_if_eq C 98 dX4_sift_70 (by decide) (fun h5 => ?_) (fun h5 => ?_)
        · rw [if_pos h5] at hF
          refine zw_iinc C (j := 4) (v := x4 + 1) dX4_sift_98 rfl rfl (by decide) rfl ?_
          refine zw_goto C 35 dX4_sift_101 (by decide) ?_
          refine zw_locals [2, 3, 4, 1, 0] (lv2 := [(0, .ref (b 0)), (1, .int p1), (2, .int x2), (3, .int q3.1), (4, .int (x4 + 1))]) rfl ?_
          exact ih B6 q3.2.1 q3.2.2.1 q3.2.2.2.1 q3.2.2.2.2.1 q3.2.2.2.2.2.1 q3.2.2.2.2.2.2.1 q3.2.2.2.2.2.2.2.1 q3.2.2.2.2.2.2.2.2.1 q3.2.2.2.2.2.2.2.2.2.1 q3.2.2.2.2.2.2.2.2.2.2.1 q3.2.2.2.2.2.2.2.2.2.2.2.1 q3.2.2.2.2.2.2.2.2.2.2.2.2 x2 q3.1 (x4 + 1) q ⟨i + 1, j, by rw [z4]; exact nI_1 i, z2, by omega, dm_lk hy1 z4 (by assumption) hi, by omega, mJ_st1 hy3 hJ hp (dm_li hy1 z4 hi (by assumption)) (by assumption)⟩ hF kx
        · rw [if_neg h5] at hF
          refine zw_aload_n C dX4_sift_73 1 rfl rfl ?_
          refine zw_get C FX4 0 17 (v := .long q3.2.2.2.2.2.2.2.2.1) rfl (by decide) lkX4_107 rfl dX4_sift_74 ?_
          refine zw_lconst C (v := 1) dX4_sift_77 (by decide) ?_
          refine zw_lcmp C dX4_sift_78 ?_
          refine zw_if_ne C 98 dX4_sift_79 (by decide) (fun h6 => ?_) (fun h6 => ?_)
          · rw [if_neg h6] at hF
            refine zw_iinc C (j := 4) (v := x4 + 1) dX4_sift_98 rfl rfl (by decide) rfl ?_
            refine zw_goto C 35 dX4_sift_101 (by decide) ?_
            refine zw_locals [2, 3, 4, 1, 0] (lv2 := [(0, .ref (b 0)), (1, .int p1), (2, .int x2), (3, .int q3.1), (4, .int (x4 + 1))]) rfl ?_
            exact ih B6 q3.2.1 q3.2.2.1 q3.2.2.2.1 q3.2.2.2.2.1 q3.2.2.2.2.2.1 q3.2.2.2.2.2.2.1 q3.2.2.2.2.2.2.2.1 q3.2.2.2.2.2.2.2.2.1 q3.2.2.2.2.2.2.2.2.2.1 q3.2.2.2.2.2.2.2.2.2.2.1 q3.2.2.2.2.2.2.2.2.2.2.2.1 q3.2.2.2.2.2.2.2.2.2.2.2.2 x2 q3.1 (x4 + 1) q ⟨i + 1, j, by rw [z4]; exact nI_1 i, z2, by omega, dm_lk hy1 z4 (by assumption) hi, by omega, mJ_st1 hy3 hJ hp (dm_li hy1 z4 hi (by assumption)) (by assumption)⟩ hF kx
          · rw [if_pos h6] at hF
            refine zw_aload_n C dX4_sift_82 1 rfl rfl ?_
            refine zw_get C FX4 0 31 (v := .ref (b 19)) rfl (by decide) lkX4_65 rfl dX4_sift_83 ?_
            refine zw_iload_n C dX4_sift_86 3 rfl rfl ?_
            refine zw_aload_n C dX4_sift_87 1 rfl rfl ?_
            refine zw_get C FX4 0 4 (v := .ref (b 3)) rfl (by decide) lkX4_16 rfl dX4_sift_88 ?_
            refine zw_iload C dX4_sift_91 4 rfl ?_
            refine zw_iald C 3 0 (f := B5) (i := x4) rfl rfl (dm_ixl hy1 z4 hi (by assumption)) dX4_sift_93 ?_
            refine zw_iast C 19 0 (f := B6) (i := x2) (ws2 := (wM cI cL b B0 B1 B2 B3 B4 B5 (upd B6 x2.toNatClampNeg (B5 x4.toNatClampNeg)) K0 K1 K2 K3 K4 q3.2.1 q3.2.2.1 q3.2.2.2.1 q3.2.2.2.2.1 q3.2.2.2.2.2.1 q3.2.2.2.2.2.2.1 q3.2.2.2.2.2.2.2.1 q3.2.2.2.2.2.2.2.2.1 q3.2.2.2.2.2.2.2.2.2.1 q3.2.2.2.2.2.2.2.2.2.2.1 U1 q3.2.2.2.2.2.2.2.2.2.2.2.1 q3.2.2.2.2.2.2.2.2.2.2.2.2 U4 U5 G0 G1 G2 G3 G4 N0 N1 N2 N3)) rfl rfl (dm_ixd hy1 z4 hi (by assumption) z2 hj) rfl dX4_sift_94 ?_
            refine zw_iinc C (j := 3) (v := x2 + 1) dX4_sift_95 rfl rfl (by decide) rfl ?_
            refine zw_iinc C (j := 4) (v := x4 + 1) dX4_sift_98 rfl rfl (by decide) rfl ?_
            refine zw_goto C 35 dX4_sift_101 (by decide) ?_
            refine zw_locals [3, 4, 1, 2, 0] (lv2 := [(0, .ref (b 0)), (1, .int p1), (2, .int (x2 + 1)), (3, .int q3.1), (4, .int (x4 + 1))]) rfl ?_
            exact ih (upd B6 x2.toNatClampNeg (B5 x4.toNatClampNeg)) q3.2.1 q3.2.2.1 q3.2.2.2.1 q3.2.2.2.2.1 q3.2.2.2.2.2.1 q3.2.2.2.2.2.2.1 q3.2.2.2.2.2.2.2.1 q3.2.2.2.2.2.2.2.2.1 q3.2.2.2.2.2.2.2.2.2.1 q3.2.2.2.2.2.2.2.2.2.2.1 q3.2.2.2.2.2.2.2.2.2.2.2.1 q3.2.2.2.2.2.2.2.2.2.2.2.2 (x2 + 1) q3.1 (x4 + 1) q ⟨i + 1, j + 1, by rw [z4]; exact nI_1 i, by rw [z2]; exact nI_1 j, by omega, dm_lk hy1 z4 (by assumption) hi, by omega, mJ_st1 hy3 hJ hp (dm_li hy1 z4 hi (by assumption)) (by assumption)⟩ hF kx
def fX4_sift_copy (B6 : Nat → Int32) (y2 : Int32) : Nat → (Nat → Int32) → Int32 → (Nat → Int32)
  | 0, B5, _ => B5
  | n + 1, B5, x4 => (if y2 ≤ x4 then B5 else fX4_sift_copy B6 y2 n (upd B5 x4.toNatClampNeg (B6 x4.toNatClampNeg)) (x4 + 1))
set_option maxHeartbeats 4000000 in
set_option maxRecDepth 100000 in
theorem kX4_sift_copy {p : Program} {l : Launch} {e : Env} {s : State} {m : MethodId} {args : Array Value} {below : List Frame} {meth : Method} {c : Code} {A : Nat → Prop} {Q : State → Prop} {D : va_G} {cI cL : ClassId} {b : Nat → Nat} {B0 : Int32} {B1 : Int32} {B2 : Int64} {B3 : (Nat → Int64)} {B4 : (Nat → Int64)} {B6 : (Nat → Int32)} {K0 : (Nat → Int32)} {K1 : (Nat → Int32)} {K2 : (Nat → Int32)} {K3 : (Nat → Int32)} {K4 : (Nat → Int64)} {E0 : (Nat → Int32)} {M0 : Int32} {M1 : (Nat → Int32)} {M2 : (Nat → Int32)} {M3 : (Nat → Int32)} {M4 : (Nat → Int32)} {M5 : (Nat → Int64)} {M6 : Int64} {M7 : Int32} {U0 : Int32} {U1 : Int32} {U2 : Int32} {U3 : Int32} {U4 : Int32} {U5 : Int32} {G0 : Int32} {G1 : (Nat → Int64)} {G2 : (Nat → Int32)} {G3 : (Nat → Int64)} {G4 : (Nat → Int32)} {N0 : (Nat → Int64)} {N1 : (Nat → Int32)} {N2 : (Nat → Int64)} {N3 : (Nat → Int32)} {y2 : Int32} (C : zw_C p s m args c D (zw_tys cI cL) A RX4 cX4_sift 5) : ∀ (n : Nat) (B5 : (Nat → Int32)) (x4 : Int32) (q : (Nat → Int32)), (∃ i j0 : Nat, x4 = nI i ∧ y2 = nI j0 ∧ j0 ≤ 40 ∧ i ≤ j0 ∧ j0 < i + n) → fX4_sift_copy B6 y2 n B5 x4 = q → (zw_W p l e (zw_rm 4 102) s m args below meth c D A 5 Q 0 0 (wM cI cL b B0 B1 B2 B3 B4 q B6 K0 K1 K2 K3 K4 E0 M0 M1 M2 M3 M4 M5 M6 M7 U0 U1 U2 U3 U4 U5 G0 G1 G2 G3 G4 N0 N1 N2 N3) 142 [(0, .ref (b 0)), (2, .int y2)] []) → zw_W p l e (zw_rm 4 102) s m args below meth c D A 5 Q 0 0 (wM cI cL b B0 B1 B2 B3 B4 B5 B6 K0 K1 K2 K3 K4 E0 M0 M1 M2 M3 M4 M5 M6 M7 U0 U1 U2 U3 U4 U5 G0 G1 G2 G3 G4 N0 N1 N2 N3) 116 [(0, .ref (b 0)), (2, .int y2), (4, .int x4)] [] := by
  intro n
  induction n with
  | zero =>
    intro B5 x4 q hI hF kx
    obtain ⟨i, j0, -, -, -, h3, h4⟩ := hI; exact absurd h4 (by omega)
  | succ n ih =>
    intro B5 x4 q hI hF kx
    obtain ⟨i, j0, z4, g2, g1, hi, hn⟩ := hI
    rw [fX4_sift_copy] at hF
    refine zw_iload C dX4_sift_116 2 rfl ?_
    refine zw_iload_n C dX4_sift_118 1 rfl rfl ?_
    refine zw_icmp_ge C 142 dX4_sift_119 (by decide) (fun h1 => ?_) (fun h1 => ?_)
    · rw [if_pos h1] at hF
      subst hF
      exact zw_locals [0, 1] rfl kx
    · rw [if_neg h1] at hF
      refine zw_aload_n C dX4_sift_122 0 rfl rfl ?_
      refine zw_get C FX4 0 4 (v := .ref (b 3)) rfl (by decide) lkX4_16 rfl dX4_sift_123 ?_
      refine zw_iload C dX4_sift_126 2 rfl ?_
      refine zw_aload_n C dX4_sift_128 0 rfl rfl ?_
      refine zw_get C FX4 0 31 (v := .ref (b 19)) rfl (by decide) lkX4_65 rfl dX4_sift_129 ?_
      refine zw_iload C dX4_sift_132 2 rfl ?_
      refine zw_iald C 19 0 (f := B6) (i := x4) rfl rfl (by rw [z4]; exact vp_in_nI (by have := dz_lt1 g2 z4 (by assumption) hi g1; omega) (by decide)) dX4_sift_134 ?_
      refine zw_iast C 3 0 (f := B5) (i := x4) (ws2 := (wM cI cL b B0 B1 B2 B3 B4 (upd B5 x4.toNatClampNeg (B6 x4.toNatClampNeg)) B6 K0 K1 K2 K3 K4 E0 M0 M1 M2 M3 M4 M5 M6 M7 U0 U1 U2 U3 U4 U5 G0 G1 G2 G3 G4 N0 N1 N2 N3)) rfl rfl (by rw [z4]; exact vp_in_nI (by have := dz_lt1 g2 z4 (by assumption) hi g1; omega) (by decide)) rfl dX4_sift_135 ?_
      refine zw_iinc C (j := 2) (v := x4 + 1) dX4_sift_136 rfl rfl (by decide) rfl ?_
      refine zw_goto C 116 dX4_sift_139 (by decide) ?_
      refine zw_locals [1, 2, 0] (lv2 := [(0, .ref (b 0)), (2, .int y2), (4, .int (x4 + 1))]) rfl ?_
      exact ih (upd B5 x4.toNatClampNeg (B6 x4.toNatClampNeg)) (x4 + 1) q ⟨i + 1, j0, by rw [z4]; exact nI_1 i, g2, g1, dz_lt1 g2 z4 (by assumption) hi g1, by omega⟩ hF kx
noncomputable def fX4_sift (B1 : Int32) (B2 : Int64) (B3 : (Nat → Int64)) (B4 : (Nat → Int64)) (B5 : (Nat → Int32)) (B6 : (Nat → Int32)) (K0 : (Nat → Int32)) (K1 : (Nat → Int32)) (K2 : (Nat → Int32)) (K3 : (Nat → Int32)) (K4 : (Nat → Int64)) (E0 : (Nat → Int32)) (M0 : Int32) (M1 : (Nat → Int32)) (M2 : (Nat → Int32)) (M3 : (Nat → Int32)) (M4 : (Nat → Int32)) (M5 : (Nat → Int64)) (M6 : Int64) (M7 : Int32) (U0 : Int32) (U1 : Int32) (U2 : Int32) (U3 : Int32) (U4 : Int32) (U5 : Int32) (p1 : Int32) : Int32 × Int32 × (Nat → Int32) × (Nat → Int32) × (Nat → Int32) × Int32 × (Nat → Int32) × (Nat → Int32) × (Nat → Int32) × (Nat → Int32) × (Nat → Int64) × Int64 × Int32 × Int32 × Int32 × Int32 × Int32 × Int32 × Int32 := (if (fX4_is K0 1 p1) = 0 then ((-1), B1, B5, B6, E0, M0, M1, M2, M3, M4, M5, M6, M7, U0, U2, U3, U1, U4, U5) else (if U3 < 2000 then (zw_l (fX4_startsCall) (fun q3 => (zw_l (fX4_sift_loop B1 B3 B4 K1 K2 K3 K4 B5 p1 41 B6 E0 M0 M1 M2 M3 M4 M5 M6 q3.1 q3.2 U2 U3 0 1 0) (fun q5 => (if q5.2.2.2.2.2.2.2.2.2.2.2.2.2.2 = 0 then (zw_l (fX4_ends q5.2.2.2.2.2.2.2.2.2.1 q5.2.2.2.2.2.2.2.2.2.2.1 U1 q5.2.2.2.2.2.2.2.2.2.2.2.1 q5.2.2.2.2.2.2.2.2.2.2.2.2.1 U4 U5 q5.2.2.2.2.2.2.2.2.2.2.2.2.2.1) (fun q8 => (q8.1, B1, B5, q5.1, q5.2.1, q5.2.2.1, q5.2.2.2.1, q5.2.2.2.2.1, q5.2.2.2.2.2.1, q5.2.2.2.2.2.2.1, q5.2.2.2.2.2.2.2.1, q5.2.2.2.2.2.2.2.2.1, q5.2.2.2.2.2.2.2.2.2.1, q5.2.2.2.2.2.2.2.2.2.2.1, q5.2.2.2.2.2.2.2.2.2.2.2.1, q8.2.2.1, q8.2.1, q8.2.2.2.1, q8.2.2.2.2))) else (zw_l (fX4_sift_copy q5.1 q5.2.2.2.2.2.2.2.2.2.2.2.2.2.1 41 B5 0) (fun q10 => (zw_l (fX4_ends q5.2.2.2.2.2.2.2.2.2.1 q5.2.2.2.2.2.2.2.2.2.2.1 U1 q5.2.2.2.2.2.2.2.2.2.2.2.1 q5.2.2.2.2.2.2.2.2.2.2.2.2.1 U4 U5 q5.2.2.2.2.2.2.2.2.2.2.2.2.2.1) (fun q12 => (q12.1, q5.2.2.2.2.2.2.2.2.2.2.2.2.2.1, q10, q5.1, q5.2.1, q5.2.2.1, q5.2.2.2.1, q5.2.2.2.2.1, q5.2.2.2.2.2.1, q5.2.2.2.2.2.2.1, q5.2.2.2.2.2.2.2.1, q5.2.2.2.2.2.2.2.2.1, q5.2.2.2.2.2.2.2.2.2.1, q5.2.2.2.2.2.2.2.2.2.2.1, q5.2.2.2.2.2.2.2.2.2.2.2.1, q12.2.2.1, q12.2.1, q12.2.2.2.1, q12.2.2.2.2)))))))))) else ((-2), B1, B5, B6, E0, M0, M1, M2, M3, M4, M5, M6, M7, U0, U2, U3, U1, U4, U5)))
set_option maxHeartbeats 4000000 in
set_option maxRecDepth 100000 in
theorem kX4_sift {l : Launch} {D : va_G} {cI cL : ClassId} {b : Nat → Nat} {B0 : Int32} {B1 : Int32} {B2 : Int64} {B3 : (Nat → Int64)} {B4 : (Nat → Int64)} {B5 : (Nat → Int32)} {B6 : (Nat → Int32)} {K0 : (Nat → Int32)} {K1 : (Nat → Int32)} {K2 : (Nat → Int32)} {K3 : (Nat → Int32)} {K4 : (Nat → Int64)} {E0 : (Nat → Int32)} {M0 : Int32} {M1 : (Nat → Int32)} {M2 : (Nat → Int32)} {M3 : (Nat → Int32)} {M4 : (Nat → Int32)} {M5 : (Nat → Int64)} {M6 : Int64} {M7 : Int32} {U0 : Int32} {U1 : Int32} {U2 : Int32} {U3 : Int32} {U4 : Int32} {U5 : Int32} {G0 : Int32} {G1 : (Nat → Int64)} {G2 : (Nat → Int32)} {G3 : (Nat → Int64)} {G4 : (Nat → Int32)} {N0 : (Nat → Int64)} {N1 : (Nat → Int32)} {N2 : (Nat → Int64)} {N3 : (Nat → Int32)} {p1 : Int32} {q : Int32 × Int32 × (Nat → Int32) × (Nat → Int32) × (Nat → Int32) × Int32 × (Nat → Int32) × (Nat → Int32) × (Nat → Int32) × (Nat → Int32) × (Nat → Int64) × Int64 × Int32 × Int32 × Int32 × Int32 × Int32 × Int32 × Int32} {nt k sn vn on : Nat} {J : (Nat → Int32) → Int32 → Int32 → Int32 → Prop} (hy1 : dm_B B0 B1 B5 nt k) (hy2 : dm_K K0 sn vn on) (hy3 : mJ B3 B4 K1 K2 K3 K4 J sn vn on nt) (hy4 : J E0 0 U2 U3) (hF : fX4_sift B1 B2 B3 B4 B5 B6 K0 K1 K2 K3 K4 E0 M0 M1 M2 M3 M4 M5 M6 M7 U0 U1 U2 U3 U4 U5 p1 = q) : zw_Mi l yX4_sift cX4_sift 5 .int D (zw_tys cI cL) (zw_rm 4 102) [.ref (b 0), .int p1] (wM cI cL b B0 B1 B2 B3 B4 B5 B6 K0 K1 K2 K3 K4 E0 M0 M1 M2 M3 M4 M5 M6 M7 U0 U1 U2 U3 U4 U5 G0 G1 G2 G3 G4 N0 N1 N2 N3) (wM cI cL b B0 q.2.1 B2 B3 B4 q.2.2.1 q.2.2.2.1 K0 K1 K2 K3 K4 q.2.2.2.2.1 q.2.2.2.2.2.1 q.2.2.2.2.2.2.1 q.2.2.2.2.2.2.2.1 q.2.2.2.2.2.2.2.2.1 q.2.2.2.2.2.2.2.2.2.1 q.2.2.2.2.2.2.2.2.2.2.1 q.2.2.2.2.2.2.2.2.2.2.2.1 q.2.2.2.2.2.2.2.2.2.2.2.2.1 q.2.2.2.2.2.2.2.2.2.2.2.2.2.1 q.2.2.2.2.2.2.2.2.2.2.2.2.2.2.2.2.1 q.2.2.2.2.2.2.2.2.2.2.2.2.2.2.1 q.2.2.2.2.2.2.2.2.2.2.2.2.2.2.2.1 q.2.2.2.2.2.2.2.2.2.2.2.2.2.2.2.2.2.1 q.2.2.2.2.2.2.2.2.2.2.2.2.2.2.2.2.2.2 G0 G1 G2 G3 G4 N0 N1 N2 N3) q.1 := by
  unfold fX4_sift at hF
  refine zw_Mi_of (own := RX4) (by decide) rfl (Nat.le_of_ble_eq_true rfl) ?_
  intro p e s m args below meth c A C hr hlk
  refine zw_eq (lv2 := [(0, .ref (b 0)), (1, .int p1)]) rfl rfl rfl ?_
  refine zw_aload_n C dX4_sift_0 0 rfl rfl ?_
  refine zw_iconst C (v := 1) dX4_sift_1 (by decide) ?_
  refine zw_iload_n C dX4_sift_2 1 rfl rfl ?_
  refine zw_calli C kvX4_153 (kX4_is (vp_in_iff.mpr ⟨by decide, by decide⟩) rfl) ⟨rfl, rfl, ⟨by decide, by decide⟩, by decide, by decide⟩ FX4 0 (As := [.int 1, .int p1]) (rest := []) rfl rfl rfl (Nat.le_of_ble_eq_true rfl) dX4_sift_3 ?_
  refine zw_if_ne C 11 dX4_sift_6 (by decide) (fun h1 => ?_) (fun h1 => ?_)
  · rw [if_neg h1] at hF
    refine zw_aload_n C dX4_sift_11 0 rfl rfl ?_
    refine zw_get C FX4 0 22 (v := .int U3) rfl (by decide) lkX4_127 rfl dX4_sift_12 ?_
    refine zw_sipush C (v := 2000) dX4_sift_15 (by decide) ?_
    refine zw_icmp_lt C 24 dX4_sift_18 (by decide) (fun h2 => ?_) (fun h2 => ?_)
    · rw [if_pos h2] at hF
      refine zw_aload_n C dX4_sift_24 0 rfl rfl ?_
      obtain ⟨q3, e4⟩ : ∃ z, fX4_startsCall = z := ⟨_, rfl⟩
      rw [zw_l_eq e4] at hF
      refine zw_callv C kvX4_161 (kX4_startsCall e4) ⟨rfl, rfl, ⟨by decide, by decide⟩, by decide, by decide⟩ FX4 0 (As := []) (rest := []) rfl rfl rfl (Nat.le_of_ble_eq_true rfl) dX4_sift_25 ?_
      refine zw_iconst C (v := 0) dX4_sift_28 (by decide) ?_
      refine zw_istore_n C dX4_sift_29 rfl (by decide) rfl ?_
      refine zw_iconst C (v := 1) dX4_sift_30 (by decide) ?_
      refine zw_istore_n C dX4_sift_31 rfl (by decide) rfl ?_
      refine zw_iconst C (v := 0) dX4_sift_32 (by decide) ?_
      refine zw_istore C dX4_sift_33 (by decide) rfl ?_
      obtain ⟨q5, e6⟩ : ∃ z, fX4_sift_loop B1 B3 B4 K1 K2 K3 K4 B5 p1 41 B6 E0 M0 M1 M2 M3 M4 M5 M6 q3.1 q3.2 U2 U3 0 1 0 = z := ⟨_, rfl⟩
      rw [zw_l_eq e6] at hF
      refine zw_locals [3, 4, 2, 1, 0] (lv2 := [(0, .ref (b 0)), (1, .int p1), (2, .int 0), (3, .int 1), (4, .int 0)]) rfl ?_
      refine kX4_sift_loop C hy1 hy2 hy3 (dm_is (by assumption) hy2.2.2.2.2.1 hy2.2.1) 41 B6 E0 M0 M1 M2 M3 M4 M5 M6 q3.1 q3.2 U2 U3 0 1 0 q5 ⟨0, 0, rfl, rfl, Nat.le_refl _, Nat.zero_le _, by have := hy1.1; have := hy1.2.1; omega, st_J (by assumption) hy4⟩ e6 (fun e6p => ?_)
      refine zw_iload_n C dX4_sift_104 3 rfl rfl ?_
      refine zw_if_eq C 142 dX4_sift_105 (by decide) (fun h7 => ?_) (fun h7 => ?_)
      · rw [if_pos h7] at hF
        refine zw_aload_n C dX4_sift_142 0 rfl rfl ?_
        refine zw_iload_n C dX4_sift_143 2 rfl rfl ?_
        obtain ⟨q8, e9⟩ : ∃ z, fX4_ends q5.2.2.2.2.2.2.2.2.2.1 q5.2.2.2.2.2.2.2.2.2.2.1 U1 q5.2.2.2.2.2.2.2.2.2.2.2.1 q5.2.2.2.2.2.2.2.2.2.2.2.2.1 U4 U5 q5.2.2.2.2.2.2.2.2.2.2.2.2.2.1 = z := ⟨_, rfl⟩
        rw [zw_l_eq e9] at hF
        refine zw_calli C kvX4_168 (kX4_ends e9) ⟨rfl, rfl, ⟨by decide, by decide⟩, by decide, by decide⟩ FX4 0 (As := [.int q5.2.2.2.2.2.2.2.2.2.2.2.2.2.1]) (rest := []) rfl rfl rfl (Nat.le_of_ble_eq_true rfl) dX4_sift_144 ?_
        subst hF; dsimp only
        exact zw_ireturn C hr hlk dX4_sift_147 rfl rfl
      · rw [if_neg h7] at hF
        refine zw_aload_n C dX4_sift_108 0 rfl rfl ?_
        refine zw_iload_n C dX4_sift_109 2 rfl rfl ?_
        refine zw_put C FX4 GX4 0 3 (v := .int q5.2.2.2.2.2.2.2.2.2.2.2.2.2.1) (ws2 := (wM cI cL b B0 q5.2.2.2.2.2.2.2.2.2.2.2.2.2.1 B2 B3 B4 B5 q5.1 K0 K1 K2 K3 K4 q5.2.1 q5.2.2.1 q5.2.2.2.1 q5.2.2.2.2.1 q5.2.2.2.2.2.1 q5.2.2.2.2.2.2.1 q5.2.2.2.2.2.2.2.1 q5.2.2.2.2.2.2.2.2.1 q5.2.2.2.2.2.2.2.2.2.1 q5.2.2.2.2.2.2.2.2.2.2.1 U1 q5.2.2.2.2.2.2.2.2.2.2.2.1 q5.2.2.2.2.2.2.2.2.2.2.2.2.1 U4 U5 G0 G1 G2 G3 G4 N0 N1 N2 N3)) rfl (by decide) lkX4_88 rfl rfl rfl (Nat.le_of_ble_eq_true rfl) rfl dX4_sift_110 ?_
        refine zw_iconst C (v := 0) dX4_sift_113 (by decide) ?_
        refine zw_istore C dX4_sift_114 (by decide) rfl ?_
        obtain ⟨q10, e11⟩ : ∃ z, fX4_sift_copy q5.1 q5.2.2.2.2.2.2.2.2.2.2.2.2.2.1 41 B5 0 = z := ⟨_, rfl⟩
        rw [zw_l_eq e11] at hF
        refine zw_locals [1, 3, 0] (lv2 := [(0, .ref (b 0)), (2, .int q5.2.2.2.2.2.2.2.2.2.2.2.2.2.1), (4, .int 0)]) rfl ?_
        refine kX4_sift_copy C  41 B5 0 q10 (dm_p2 hy1 (by assumption)) e11 ?_
        refine zw_aload_n C dX4_sift_142 0 rfl rfl ?_
        refine zw_iload_n C dX4_sift_143 1 rfl rfl ?_
        obtain ⟨q12, e13⟩ : ∃ z, fX4_ends q5.2.2.2.2.2.2.2.2.2.1 q5.2.2.2.2.2.2.2.2.2.2.1 U1 q5.2.2.2.2.2.2.2.2.2.2.2.1 q5.2.2.2.2.2.2.2.2.2.2.2.2.1 U4 U5 q5.2.2.2.2.2.2.2.2.2.2.2.2.2.1 = z := ⟨_, rfl⟩
        rw [zw_l_eq e13] at hF
        refine zw_calli C kvX4_168 (kX4_ends e13) ⟨rfl, rfl, ⟨by decide, by decide⟩, by decide, by decide⟩ FX4 0 (As := [.int q5.2.2.2.2.2.2.2.2.2.2.2.2.2.1]) (rest := []) rfl rfl rfl (Nat.le_of_ble_eq_true rfl) dX4_sift_144 ?_
        subst hF; dsimp only
        exact zw_ireturn C hr hlk dX4_sift_147 rfl rfl
    · rw [if_neg h2] at hF
      refine zw_bipush C (v := (-2)) dX4_sift_21 (by decide) ?_
      subst hF; dsimp only
      exact zw_ireturn C hr hlk dX4_sift_23 rfl rfl
  · rw [if_pos h1] at hF
    refine zw_iconst C (v := (-1)) dX4_sift_9 (by decide) ?_
    subst hF; dsimp only
    exact zw_ireturn C hr hlk dX4_sift_10 rfl rfl
