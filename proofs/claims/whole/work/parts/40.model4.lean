/-! making -/
def fX4_made (K0 : (Nat → Int32)) (K1 : (Nat → Int32)) (K2 : (Nat → Int32)) (K3 : (Nat → Int32)) (K4 : (Nat → Int64)) (E0 : (Nat → Int32)) (p1 : Int32) (p2 : Int32) (p3 : Int32) (p4 : Int32) (p5 : Int64) : Int32 × (Nat → Int32) × (Nat → Int32) × (Nat → Int32) × (Nat → Int32) × (Nat → Int64) × (Nat → Int32) := (((upd K0 p1.toNatClampNeg ((K0 p1.toNatClampNeg) + 1)) p1.toNatClampNeg) - 1, (upd K0 p1.toNatClampNeg ((K0 p1.toNatClampNeg) + 1)), (upd K1 ((24 * p1) + (K0 p1.toNatClampNeg)).toNatClampNeg p2), (upd K2 ((24 * p1) + (K0 p1.toNatClampNeg)).toNatClampNeg p3), (upd K3 ((24 * p1) + (K0 p1.toNatClampNeg)).toNatClampNeg p4), (vp_updL K4 ((24 * p1) + (K0 p1.toNatClampNeg)).toNatClampNeg p5), upd E0 ((24 * p1) + (K0 p1.toNatClampNeg)).toNatClampNeg 0)
set_option maxHeartbeats 4000000 in
set_option maxRecDepth 100000 in
theorem kX4_made {l : Launch} {D : va_G} {cI cL : ClassId} {b : Nat → Nat} {B0 : Int32} {B1 : Int32} {B2 : Int64} {B3 : (Nat → Int64)} {B4 : (Nat → Int64)} {B5 : (Nat → Int32)} {B6 : (Nat → Int32)} {K0 : (Nat → Int32)} {K1 : (Nat → Int32)} {K2 : (Nat → Int32)} {K3 : (Nat → Int32)} {K4 : (Nat → Int64)} {E0 : (Nat → Int32)} {M0 : Int32} {M1 : (Nat → Int32)} {M2 : (Nat → Int32)} {M3 : (Nat → Int32)} {M4 : (Nat → Int32)} {M5 : (Nat → Int64)} {M6 : Int64} {M7 : Int32} {U0 : Int32} {U1 : Int32} {U2 : Int32} {U3 : Int32} {U4 : Int32} {U5 : Int32} {G0 : Int32} {G1 : (Nat → Int64)} {G2 : (Nat → Int32)} {G3 : (Nat → Int64)} {G4 : (Nat → Int32)} {N0 : (Nat → Int64)} {N1 : (Nat → Int32)} {N2 : (Nat → Int64)} {N3 : (Nat → Int32)} {p1 : Int32} {p2 : Int32} {p3 : Int32} {p4 : Int32} {p5 : Int64} {q : Int32 × (Nat → Int32) × (Nat → Int32) × (Nat → Int32) × (Nat → Int32) × (Nat → Int64) × (Nat → Int32)} (hy1 : vp_in p1 3) (hy2 : vp_in (24 * p1 + K0 p1.toNatClampNeg) 72) (hF : fX4_made K0 K1 K2 K3 K4 E0 p1 p2 p3 p4 p5 = q) : zw_Mi l yX4_made cX4_made 8 .int D (zw_tys cI cL) (zw_rm 0 0) [.ref (b 0), .int p1, .int p2, .int p3, .int p4, .long p5] (wM cI cL b B0 B1 B2 B3 B4 B5 B6 K0 K1 K2 K3 K4 E0 M0 M1 M2 M3 M4 M5 M6 M7 U0 U1 U2 U3 U4 U5 G0 G1 G2 G3 G4 N0 N1 N2 N3) (wM cI cL b B0 B1 B2 B3 B4 B5 B6 q.2.1 q.2.2.1 q.2.2.2.1 q.2.2.2.2.1 q.2.2.2.2.2.1 q.2.2.2.2.2.2 M0 M1 M2 M3 M4 M5 M6 M7 U0 U1 U2 U3 U4 U5 G0 G1 G2 G3 G4 N0 N1 N2 N3) q.1 := by
  unfold fX4_made at hF
  refine zw_Mi_of (own := RX4) (by decide) rfl (Nat.le_of_ble_eq_true rfl) ?_
  intro p e s m args below meth c A C hr hlk
  refine zw_eq (lv2 := [(0, .ref (b 0)), (1, .int p1), (2, .int p2), (3, .int p3), (4, .int p4), (5, .long p5)]) rfl rfl rfl ?_
  refine zw_bipush C (v := 24) dX4_made_0 (by decide) ?_
  refine zw_iload_n C dX4_made_2 1 rfl rfl ?_
  refine zw_imul C dX4_made_3 ?_
  refine zw_aload_n C dX4_made_4 0 rfl rfl ?_
  refine zw_get C FX4 0 5 (v := .ref (b 4)) rfl (by decide) lkX4_20 rfl dX4_made_5 ?_
  refine zw_iload_n C dX4_made_8 1 rfl rfl ?_
  refine zw_iald C 4 0 (f := K0) (i := p1) rfl rfl hy1 dX4_made_9 ?_
  refine zw_iadd C dX4_made_10 ?_
  refine zw_istore C dX4_made_11 (by decide) rfl ?_
  refine zw_aload_n C dX4_made_13 1 rfl rfl ?_
  refine zw_get C FX4 0 6 (v := .ref (b 5)) rfl (by decide) lkX4_23 rfl dX4_made_14 ?_
  refine zw_iload C dX4_made_17 0 rfl ?_
  refine zw_iload_n C dX4_made_19 3 rfl rfl ?_
  refine zw_iast C 5 0 (f := K1) (i := ((24 * p1) + (K0 p1.toNatClampNeg))) (ws2 := (wM cI cL b B0 B1 B2 B3 B4 B5 B6 K0 (upd K1 ((24 * p1) + (K0 p1.toNatClampNeg)).toNatClampNeg p2) K2 K3 K4 E0 M0 M1 M2 M3 M4 M5 M6 M7 U0 U1 U2 U3 U4 U5 G0 G1 G2 G3 G4 N0 N1 N2 N3)) rfl rfl hy2 rfl dX4_made_20 ?_
  refine zw_aload_n C dX4_made_21 1 rfl rfl ?_
  refine zw_get C FX4 0 7 (v := .ref (b 6)) rfl (by decide) lkX4_26 rfl dX4_made_22 ?_
  refine zw_iload C dX4_made_25 0 rfl ?_
  refine zw_iload_n C dX4_made_27 4 rfl rfl ?_
  refine zw_iast C 6 0 (f := K2) (i := ((24 * p1) + (K0 p1.toNatClampNeg))) (ws2 := (wM cI cL b B0 B1 B2 B3 B4 B5 B6 K0 (upd K1 ((24 * p1) + (K0 p1.toNatClampNeg)).toNatClampNeg p2) (upd K2 ((24 * p1) + (K0 p1.toNatClampNeg)).toNatClampNeg p3) K3 K4 E0 M0 M1 M2 M3 M4 M5 M6 M7 U0 U1 U2 U3 U4 U5 G0 G1 G2 G3 G4 N0 N1 N2 N3)) rfl rfl hy2 rfl dX4_made_28 ?_
  refine zw_aload_n C dX4_made_29 1 rfl rfl ?_
  refine zw_get C FX4 0 8 (v := .ref (b 7)) rfl (by decide) lkX4_29 rfl dX4_made_30 ?_
  refine zw_iload C dX4_made_33 0 rfl ?_
  refine zw_iload C dX4_made_35 5 rfl ?_
  refine zw_iast C 7 0 (f := K3) (i := ((24 * p1) + (K0 p1.toNatClampNeg))) (ws2 := (wM cI cL b B0 B1 B2 B3 B4 B5 B6 K0 (upd K1 ((24 * p1) + (K0 p1.toNatClampNeg)).toNatClampNeg p2) (upd K2 ((24 * p1) + (K0 p1.toNatClampNeg)).toNatClampNeg p3) (upd K3 ((24 * p1) + (K0 p1.toNatClampNeg)).toNatClampNeg p4) K4 E0 M0 M1 M2 M3 M4 M5 M6 M7 U0 U1 U2 U3 U4 U5 G0 G1 G2 G3 G4 N0 N1 N2 N3)) rfl rfl hy2 rfl dX4_made_37 ?_
  refine zw_aload_n C dX4_made_38 1 rfl rfl ?_
  refine zw_get C FX4 0 9 (v := .ref (b 8)) rfl (by decide) lkX4_32 rfl dX4_made_39 ?_
  refine zw_iload C dX4_made_42 0 rfl ?_
  refine zw_lload C dX4_made_44 6 rfl ?_
  refine zw_last C 8 1 (f := K4) (i := ((24 * p1) + (K0 p1.toNatClampNeg))) (ws2 := (wM cI cL b B0 B1 B2 B3 B4 B5 B6 K0 (upd K1 ((24 * p1) + (K0 p1.toNatClampNeg)).toNatClampNeg p2) (upd K2 ((24 * p1) + (K0 p1.toNatClampNeg)).toNatClampNeg p3) (upd K3 ((24 * p1) + (K0 p1.toNatClampNeg)).toNatClampNeg p4) (vp_updL K4 ((24 * p1) + (K0 p1.toNatClampNeg)).toNatClampNeg p5) E0 M0 M1 M2 M3 M4 M5 M6 M7 U0 U1 U2 U3 U4 U5 G0 G1 G2 G3 G4 N0 N1 N2 N3)) rfl rfl hy2 rfl dX4_made_46 ?_
  refine zw_aload_n C dX4_made_47 1 rfl rfl ?_
  refine zw_get C FX4 0 10 (v := .ref (b 9)) rfl (by decide) lkX4_35 rfl dX4_made_48 ?_
  refine zw_iload C dX4_made_51 0 rfl ?_
  refine zw_iconst C (v := 0) dX4_made_53 (by decide) ?_
  refine zw_iast C 9 0 (f := E0) (i := ((24 * p1) + (K0 p1.toNatClampNeg))) (ws2 := (wM cI cL b B0 B1 B2 B3 B4 B5 B6 K0 (upd K1 ((24 * p1) + (K0 p1.toNatClampNeg)).toNatClampNeg p2) (upd K2 ((24 * p1) + (K0 p1.toNatClampNeg)).toNatClampNeg p3) (upd K3 ((24 * p1) + (K0 p1.toNatClampNeg)).toNatClampNeg p4) (vp_updL K4 ((24 * p1) + (K0 p1.toNatClampNeg)).toNatClampNeg p5) (upd E0 ((24 * p1) + (K0 p1.toNatClampNeg)).toNatClampNeg 0) M0 M1 M2 M3 M4 M5 M6 M7 U0 U1 U2 U3 U4 U5 G0 G1 G2 G3 G4 N0 N1 N2 N3)) rfl rfl hy2 rfl dX4_made_54 ?_
  refine zw_aload_n C dX4_made_55 1 rfl rfl ?_
  refine zw_get C FX4 0 5 (v := .ref (b 4)) rfl (by decide) lkX4_20 rfl dX4_made_56 ?_
  refine zw_iload_n C dX4_made_59 2 rfl rfl ?_
  refine zw_dup2_11 C dX4_made_60 rfl rfl ?_
  refine zw_iald C 4 0 (f := K0) (i := p1) rfl rfl hy1 dX4_made_61 ?_
  refine zw_iconst C (v := 1) dX4_made_62 (by decide) ?_
  refine zw_iadd C dX4_made_63 ?_
  refine zw_iast C 4 0 (f := K0) (i := p1) (ws2 := (wM cI cL b B0 B1 B2 B3 B4 B5 B6 (upd K0 p1.toNatClampNeg ((K0 p1.toNatClampNeg) + 1)) (upd K1 ((24 * p1) + (K0 p1.toNatClampNeg)).toNatClampNeg p2) (upd K2 ((24 * p1) + (K0 p1.toNatClampNeg)).toNatClampNeg p3) (upd K3 ((24 * p1) + (K0 p1.toNatClampNeg)).toNatClampNeg p4) (vp_updL K4 ((24 * p1) + (K0 p1.toNatClampNeg)).toNatClampNeg p5) (upd E0 ((24 * p1) + (K0 p1.toNatClampNeg)).toNatClampNeg 0) M0 M1 M2 M3 M4 M5 M6 M7 U0 U1 U2 U3 U4 U5 G0 G1 G2 G3 G4 N0 N1 N2 N3)) rfl rfl hy1 rfl dX4_made_64 ?_
  refine zw_aload_n C dX4_made_65 1 rfl rfl ?_
  refine zw_get C FX4 0 5 (v := .ref (b 4)) rfl (by decide) lkX4_20 rfl dX4_made_66 ?_
  refine zw_iload_n C dX4_made_69 2 rfl rfl ?_
  refine zw_iald C 4 0 (f := (upd K0 p1.toNatClampNeg ((K0 p1.toNatClampNeg) + 1))) (i := p1) rfl rfl hy1 dX4_made_70 ?_
  refine zw_iconst C (v := 1) dX4_made_71 (by decide) ?_
  refine zw_isub C dX4_made_72 ?_
  subst hF; dsimp only
  exact zw_ireturn C hr hlk dX4_made_73 rfl rfl
def fX4_count (B0 : Int32) (B1 : Int32) (K0 : (Nat → Int32)) (G0 : Int32) (U0 : Int32) (U1 : Int32) (U2 : Int32) (U3 : Int32) (U4 : Int32) (U5 : Int32) (p1 : Int32) : Int32 := (if p1 = 0 then B0 else (if p1 = 1 then K0 (p1 - 1).toNatClampNeg else (if p1 = 2 then K0 (p1 - 1).toNatClampNeg else (if p1 = 3 then K0 (p1 - 1).toNatClampNeg else (if p1 = 4 then B1 else (if p1 = 5 then G0 else (if p1 = 6 then U1 else (if p1 = 7 then U2 else (if p1 = 8 then U3 else (if p1 = 9 then U4 else (if p1 = 10 then U5 else (-1))))))))))))
set_option maxHeartbeats 4000000 in
set_option maxRecDepth 100000 in
theorem kX4_count {l : Launch} {D : va_G} {cI cL : ClassId} {b : Nat → Nat} {B0 : Int32} {B1 : Int32} {B2 : Int64} {B3 : (Nat → Int64)} {B4 : (Nat → Int64)} {B5 : (Nat → Int32)} {B6 : (Nat → Int32)} {K0 : (Nat → Int32)} {K1 : (Nat → Int32)} {K2 : (Nat → Int32)} {K3 : (Nat → Int32)} {K4 : (Nat → Int64)} {E0 : (Nat → Int32)} {M0 : Int32} {M1 : (Nat → Int32)} {M2 : (Nat → Int32)} {M3 : (Nat → Int32)} {M4 : (Nat → Int32)} {M5 : (Nat → Int64)} {M6 : Int64} {M7 : Int32} {U0 : Int32} {U1 : Int32} {U2 : Int32} {U3 : Int32} {U4 : Int32} {U5 : Int32} {G0 : Int32} {G1 : (Nat → Int64)} {G2 : (Nat → Int32)} {G3 : (Nat → Int64)} {G4 : (Nat → Int32)} {N0 : (Nat → Int64)} {N1 : (Nat → Int32)} {N2 : (Nat → Int64)} {N3 : (Nat → Int32)} {p1 : Int32} {q : Int32} (hF : fX4_count B0 B1 K0 G0 U0 U1 U2 U3 U4 U5 p1 = q) : zw_Mi l yX4_count cX4_count 2 .int D (zw_tys cI cL) (zw_rm 0 0) [.ref (b 0), .int p1] (wM cI cL b B0 B1 B2 B3 B4 B5 B6 K0 K1 K2 K3 K4 E0 M0 M1 M2 M3 M4 M5 M6 M7 U0 U1 U2 U3 U4 U5 G0 G1 G2 G3 G4 N0 N1 N2 N3) (wM cI cL b B0 B1 B2 B3 B4 B5 B6 K0 K1 K2 K3 K4 E0 M0 M1 M2 M3 M4 M5 M6 M7 U0 U1 U2 U3 U4 U5 G0 G1 G2 G3 G4 N0 N1 N2 N3) q := by
  unfold fX4_count at hF
  refine zw_Mi_of (own := RX4) (by decide) rfl (Nat.le_of_ble_eq_true rfl) ?_
  intro p e s m args below meth c A C hr hlk
  refine zw_eq (lv2 := [(0, .ref (b 0)), (1, .int p1)]) rfl rfl rfl ?_
  refine zw_iload_n C dX4_count_0 1 rfl rfl ?_
  by_cases h1 : p1 = 0
  · rw [if_pos h1] at hF
    refine zw_tableIn C 60 dX4_count_1 (by rw [h1]; decide) (by rw [h1]; decide) (by rw [h1]; rfl) (by decide) ?_
    refine zw_aload_n C dX4_count_60 0 rfl rfl ?_
    refine zw_get C FX4 0 0 (v := .int B0) rfl (by decide) lkX4_80 rfl dX4_count_61 ?_
    subst hF
    exact zw_ireturn C hr hlk dX4_count_64 rfl rfl
  rw [if_neg h1] at hF
  by_cases h2 : p1 = 1
  · rw [if_pos h2] at hF
    refine zw_tableIn C 65 dX4_count_1 (by rw [h2]; decide) (by rw [h2]; decide) (by rw [h2]; rfl) (by decide) ?_
    refine zw_aload_n C dX4_count_65 0 rfl rfl ?_
    refine zw_get C FX4 0 5 (v := .ref (b 4)) rfl (by decide) lkX4_20 rfl dX4_count_66 ?_
    refine zw_iload_n C dX4_count_69 1 rfl rfl ?_
    refine zw_iconst C (v := 1) dX4_count_70 (by decide) ?_
    refine zw_isub C dX4_count_71 ?_
    refine zw_iald C 4 0 (f := K0) (i := (p1 - 1)) rfl rfl (by first | exact dm_cnt1 (by assumption) | exact dm_cnt2 (by assumption) | exact dm_cnt3 (by assumption)) dX4_count_72 ?_
    subst hF
    exact zw_ireturn C hr hlk dX4_count_73 rfl rfl
  rw [if_neg h2] at hF
  by_cases h3 : p1 = 2
  · rw [if_pos h3] at hF
    refine zw_tableIn C 65 dX4_count_1 (by rw [h3]; decide) (by rw [h3]; decide) (by rw [h3]; rfl) (by decide) ?_
    refine zw_aload_n C dX4_count_65 0 rfl rfl ?_
    refine zw_get C FX4 0 5 (v := .ref (b 4)) rfl (by decide) lkX4_20 rfl dX4_count_66 ?_
    refine zw_iload_n C dX4_count_69 1 rfl rfl ?_
    refine zw_iconst C (v := 1) dX4_count_70 (by decide) ?_
    refine zw_isub C dX4_count_71 ?_
    refine zw_iald C 4 0 (f := K0) (i := (p1 - 1)) rfl rfl (by first | exact dm_cnt1 (by assumption) | exact dm_cnt2 (by assumption) | exact dm_cnt3 (by assumption)) dX4_count_72 ?_
    subst hF
    exact zw_ireturn C hr hlk dX4_count_73 rfl rfl
  rw [if_neg h3] at hF
  by_cases h4 : p1 = 3
  · rw [if_pos h4] at hF
    refine zw_tableIn C 65 dX4_count_1 (by rw [h4]; decide) (by rw [h4]; decide) (by rw [h4]; rfl) (by decide) ?_
    refine zw_aload_n C dX4_count_65 0 rfl rfl ?_
    refine zw_get C FX4 0 5 (v := .ref (b 4)) rfl (by decide) lkX4_20 rfl dX4_count_66 ?_
    refine zw_iload_n C dX4_count_69 1 rfl rfl ?_
    refine zw_iconst C (v := 1) dX4_count_70 (by decide) ?_
    refine zw_isub C dX4_count_71 ?_
    refine zw_iald C 4 0 (f := K0) (i := (p1 - 1)) rfl rfl (by first | exact dm_cnt1 (by assumption) | exact dm_cnt2 (by assumption) | exact dm_cnt3 (by assumption)) dX4_count_72 ?_
    subst hF
    exact zw_ireturn C hr hlk dX4_count_73 rfl rfl
  rw [if_neg h4] at hF
  by_cases h5 : p1 = 4
  · rw [if_pos h5] at hF
    refine zw_tableIn C 74 dX4_count_1 (by rw [h5]; decide) (by rw [h5]; decide) (by rw [h5]; rfl) (by decide) ?_
    refine zw_aload_n C dX4_count_74 0 rfl rfl ?_
    refine zw_get C FX4 0 3 (v := .int B1) rfl (by decide) lkX4_88 rfl dX4_count_75 ?_
    subst hF
    exact zw_ireturn C hr hlk dX4_count_78 rfl rfl
  rw [if_neg h5] at hF
  by_cases h6 : p1 = 5
  · rw [if_pos h6] at hF
    refine zw_tableIn C 79 dX4_count_1 (by rw [h6]; decide) (by rw [h6]; decide) (by rw [h6]; rfl) (by decide) ?_
    refine zw_aload_n C dX4_count_79 0 rfl rfl ?_
    refine zw_get C FX4 0 26 (v := .int G0) rfl (by decide) lkX4_175 rfl dX4_count_80 ?_
    subst hF
    exact zw_ireturn C hr hlk dX4_count_83 rfl rfl
  rw [if_neg h6] at hF
  by_cases h7 : p1 = 6
  · rw [if_pos h7] at hF
    refine zw_tableIn C 84 dX4_count_1 (by rw [h7]; decide) (by rw [h7]; decide) (by rw [h7]; rfl) (by decide) ?_
    refine zw_aload_n C dX4_count_84 0 rfl rfl ?_
    refine zw_get C FX4 0 20 (v := .int U1) rfl (by decide) lkX4_144 rfl dX4_count_85 ?_
    subst hF
    exact zw_ireturn C hr hlk dX4_count_88 rfl rfl
  rw [if_neg h7] at hF
  by_cases h8 : p1 = 7
  · rw [if_pos h8] at hF
    refine zw_tableIn C 89 dX4_count_1 (by rw [h8]; decide) (by rw [h8]; decide) (by rw [h8]; rfl) (by decide) ?_
    refine zw_aload_n C dX4_count_89 0 rfl rfl ?_
    refine zw_get C FX4 0 21 (v := .int U2) rfl (by decide) lkX4_101 rfl dX4_count_90 ?_
    subst hF
    exact zw_ireturn C hr hlk dX4_count_93 rfl rfl
  rw [if_neg h8] at hF
  by_cases h9 : p1 = 8
  · rw [if_pos h9] at hF
    refine zw_tableIn C 94 dX4_count_1 (by rw [h9]; decide) (by rw [h9]; decide) (by rw [h9]; rfl) (by decide) ?_
    refine zw_aload_n C dX4_count_94 0 rfl rfl ?_
    refine zw_get C FX4 0 22 (v := .int U3) rfl (by decide) lkX4_127 rfl dX4_count_95 ?_
    subst hF
    exact zw_ireturn C hr hlk dX4_count_98 rfl rfl
  rw [if_neg h9] at hF
  by_cases h10 : p1 = 9
  · rw [if_pos h10] at hF
    refine zw_tableIn C 99 dX4_count_1 (by rw [h10]; decide) (by rw [h10]; decide) (by rw [h10]; rfl) (by decide) ?_
    refine zw_aload_n C dX4_count_99 0 rfl rfl ?_
    refine zw_get C FX4 0 23 (v := .int U4) rfl (by decide) lkX4_147 rfl dX4_count_100 ?_
    subst hF
    exact zw_ireturn C hr hlk dX4_count_103 rfl rfl
  rw [if_neg h10] at hF
  by_cases h11 : p1 = 10
  · rw [if_pos h11] at hF
    refine zw_tableIn C 104 dX4_count_1 (by rw [h11]; decide) (by rw [h11]; decide) (by rw [h11]; rfl) (by decide) ?_
    refine zw_aload_n C dX4_count_104 0 rfl rfl ?_
    refine zw_get C FX4 0 24 (v := .int U5) rfl (by decide) lkX4_150 rfl dX4_count_105 ?_
    subst hF
    exact zw_ireturn C hr hlk dX4_count_108 rfl rfl
  rw [if_neg h11] at hF
  refine zw_tableOut C 109 dX4_count_1 (zw_tout (n := 10) (by decide) (fun k hk => by match k, hk with | 0, _ => exact h1 | 1, _ => exact h2 | 2, _ => exact h3 | 3, _ => exact h4 | 4, _ => exact h5 | 5, _ => exact h6 | 6, _ => exact h7 | 7, _ => exact h8 | 8, _ => exact h9 | 9, _ => exact h10 | 10, _ => exact h11 | k + 11, hk => exact absurd hk (by omega))) (by decide) ?_
  refine zw_iconst C (v := (-1)) dX4_count_109 (by decide) ?_
  subst hF
  exact zw_ireturn C hr hlk dX4_count_110 rfl rfl
def fX4_sieveOk (K0 : (Nat → Int32)) (p1 : Int32) (p2 : Int32) (p3 : Int32) : Int32 := (if (fX4_in p1 0 9) = 0 then 0 else (if (fX4_in p1 1 2) = 0 then (if (fX4_in p1 3 5) = 0 then (if p1 = 8 then (if (fX4_is K0 1 p2) = 0 then 0 else (if (fX4_in p1 4 5) = 0 then 1 else (if (fX4_is K0 1 p3) = 0 then 0 else 1))) else (if (fX4_in p1 4 5) = 0 then 1 else (if (fX4_is K0 1 p3) = 0 then 0 else 1))) else (if (fX4_is K0 1 p2) = 0 then 0 else (if (fX4_in p1 4 5) = 0 then 1 else (if (fX4_is K0 1 p3) = 0 then 0 else 1)))) else (if (fX4_is K0 0 p2) = 0 then 0 else (if (fX4_is K0 0 p3) = 0 then 0 else (if (fX4_in p1 3 5) = 0 then (if p1 = 8 then (if (fX4_is K0 1 p2) = 0 then 0 else (if (fX4_in p1 4 5) = 0 then 1 else (if (fX4_is K0 1 p3) = 0 then 0 else 1))) else (if (fX4_in p1 4 5) = 0 then 1 else (if (fX4_is K0 1 p3) = 0 then 0 else 1))) else (if (fX4_is K0 1 p2) = 0 then 0 else (if (fX4_in p1 4 5) = 0 then 1 else (if (fX4_is K0 1 p3) = 0 then 0 else 1))))))))
set_option maxHeartbeats 4000000 in
set_option maxRecDepth 100000 in
theorem kX4_sieveOk {p : Program} {l : Launch} {e : Env} {s : State} {m : MethodId} {args : Array Value} {below : List Frame} {meth : Method} {c : Code} {A : Nat → Prop} {Q : State → Prop} {D : va_G} {cI cL : ClassId} {b : Nat → Nat} {B0 : Int32} {B1 : Int32} {B2 : Int64} {B3 : (Nat → Int64)} {B4 : (Nat → Int64)} {B5 : (Nat → Int32)} {B6 : (Nat → Int32)} {K0 : (Nat → Int32)} {K1 : (Nat → Int32)} {K2 : (Nat → Int32)} {K3 : (Nat → Int32)} {K4 : (Nat → Int64)} {E0 : (Nat → Int32)} {M0 : Int32} {M1 : (Nat → Int32)} {M2 : (Nat → Int32)} {M3 : (Nat → Int32)} {M4 : (Nat → Int32)} {M5 : (Nat → Int64)} {M6 : Int64} {M7 : Int32} {U0 : Int32} {U1 : Int32} {U2 : Int32} {U3 : Int32} {U4 : Int32} {U5 : Int32} {G0 : Int32} {G1 : (Nat → Int64)} {G2 : (Nat → Int32)} {G3 : (Nat → Int64)} {G4 : (Nat → Int32)} {N0 : (Nat → Int64)} {N1 : (Nat → Int32)} {N2 : (Nat → Int64)} {N3 : (Nat → Int32)} {p1 : Int32} {p2 : Int32} {p3 : Int32} {r : Int32} (C : zw_C p s m args c D (zw_tys cI cL) A RX4 cX4_sieve 5) (hF : fX4_sieveOk K0 p1 p2 p3 = r) (kx : zw_W p l e (zw_rm 2 44) s m args below meth c D A 5 Q 0 0 (wM cI cL b B0 B1 B2 B3 B4 B5 B6 K0 K1 K2 K3 K4 E0 M0 M1 M2 M3 M4 M5 M6 M7 U0 U1 U2 U3 U4 U5 G0 G1 G2 G3 G4 N0 N1 N2 N3) 84 [(0, .ref (b 0)), (1, .int p1), (2, .int p2), (3, .int p3)] [.int r]) : zw_W p l e (zw_rm 2 44) s m args below meth c D A 5 Q 0 0 (wM cI cL b B0 B1 B2 B3 B4 B5 B6 K0 K1 K2 K3 K4 E0 M0 M1 M2 M3 M4 M5 M6 M7 U0 U1 U2 U3 U4 U5 G0 G1 G2 G3 G4 N0 N1 N2 N3) 0 [(0, .ref (b 0)), (1, .int p1), (2, .int p2), (3, .int p3)] [] := by
  unfold fX4_sieveOk at hF
  refine zw_iload_n C dX4_sieve_0 1 rfl rfl ?_
  refine zw_iconst C (v := 0) dX4_sieve_1 (by decide) ?_
  refine zw_bipush C (v := 9) dX4_sieve_2 (by decide) ?_
  refine zw_scalli C kvX4_84 (kX4_in rfl) ⟨rfl, rfl, ⟨by decide, by decide⟩, by decide, by decide⟩ (As := [.int p1, .int 0, .int 9]) (rest := []) rfl rfl (Nat.le_of_ble_eq_true rfl) dX4_sieve_4 ?_
  refine zw_if_eq C 83 dX4_sieve_7 (by decide) (fun h1 => ?_) (fun h1 => ?_)
  · rw [if_pos h1] at hF
    refine zw_iconst C (v := 0) dX4_sieve_83 (by decide) ?_
    subst hF; exact kx
  · rw [if_neg h1] at hF
    refine zw_iload_n C dX4_sieve_10 1 rfl rfl ?_
    refine zw_iconst C (v := 1) dX4_sieve_11 (by decide) ?_
    refine zw_iconst C (v := 2) dX4_sieve_12 (by decide) ?_
    refine zw_scalli C kvX4_84 (kX4_in rfl) ⟨rfl, rfl, ⟨by decide, by decide⟩, by decide, by decide⟩ (As := [.int p1, .int 1, .int 2]) (rest := []) rfl rfl (Nat.le_of_ble_eq_true rfl) dX4_sieve_13 ?_
    refine zw_if_eq C 37 dX4_sieve_16 (by decide) (fun h2 => ?_) (fun h2 => ?_)
    · rw [if_pos h2] at hF
      refine zw_iload_n C dX4_sieve_37 1 rfl rfl ?_
      refine zw_iconst C (v := 3) dX4_sieve_38 (by decide) ?_
      refine zw_iconst C (v := 5) dX4_sieve_39 (by decide) ?_
      refine zw_scalli C kvX4_84 (kX4_in rfl) ⟨rfl, rfl, ⟨by decide, by decide⟩, by decide, by decide⟩ (As := [.int p1, .int 3, .int 5]) (rest := []) rfl rfl (Nat.le_of_ble_eq_true rfl) dX4_sieve_40 ?_
      refine zw_if_ne C 52 dX4_sieve_43 (by decide) (fun h3 => ?_) (fun h3 => ?_)
      · rw [if_neg h3] at hF
        refine zw_aload_n C dX4_sieve_52 0 rfl rfl ?_
        refine zw_iconst C (v := 1) dX4_sieve_53 (by decide) ?_
        refine zw_iload_n C dX4_sieve_54 2 rfl rfl ?_
        refine zw_calli C kvX4_153 (kX4_is (vp_in_iff.mpr ⟨by decide, by decide⟩) rfl) ⟨rfl, rfl, ⟨by decide, by decide⟩, by decide, by decide⟩ FX4 0 (As := [.int 1, .int p2]) (rest := []) rfl rfl rfl (Nat.le_of_ble_eq_true rfl) dX4_sieve_55 ?_
        refine zw_if_eq C 83 dX4_sieve_58 (by decide) (fun h4 => ?_) (fun h4 => ?_)
        · rw [if_pos h4] at hF
          refine zw_iconst C (v := 0) dX4_sieve_83 (by decide) ?_
          subst hF; exact kx
        · rw [if_neg h4] at hF
          refine zw_iload_n C dX4_sieve_61 1 rfl rfl ?_
          refine zw_iconst C (v := 4) dX4_sieve_62 (by decide) ?_
          refine zw_iconst C (v := 5) dX4_sieve_63 (by decide) ?_
          refine zw_scalli C kvX4_84 (kX4_in rfl) ⟨rfl, rfl, ⟨by decide, by decide⟩, by decide, by decide⟩ (As := [.int p1, .int 4, .int 5]) (rest := []) rfl rfl (Nat.le_of_ble_eq_true rfl) dX4_sieve_64 ?_
          refine zw_if_eq C 79 dX4_sieve_67 (by decide) (fun h5 => ?_) (fun h5 => ?_)
          · rw [if_pos h5] at hF
            refine zw_iconst C (v := 1) dX4_sieve_79 (by decide) ?_
            refine zw_goto C 84 dX4_sieve_80 (by decide) ?_
            subst hF; exact kx
          · rw [if_neg h5] at hF
            refine zw_aload_n C dX4_sieve_70 0 rfl rfl ?_
            refine zw_iconst C (v := 1) dX4_sieve_71 (by decide) ?_
            refine zw_iload_n C dX4_sieve_72 3 rfl rfl ?_
            refine zw_calli C kvX4_153 (kX4_is (vp_in_iff.mpr ⟨by decide, by decide⟩) rfl) ⟨rfl, rfl, ⟨by decide, by decide⟩, by decide, by decide⟩ FX4 0 (As := [.int 1, .int p3]) (rest := []) rfl rfl rfl (Nat.le_of_ble_eq_true rfl) dX4_sieve_73 ?_
            refine zw_if_eq C 83 dX4_sieve_76 (by decide) (fun h6 => ?_) (fun h6 => ?_)
            · rw [if_pos h6] at hF
              refine zw_iconst C (v := 0) dX4_sieve_83 (by decide) ?_
              subst hF; exact kx
            · rw [if_neg h6] at hF
              refine zw_iconst C (v := 1) dX4_sieve_79 (by decide) ?_
              refine zw_goto C 84 dX4_sieve_80 (by decide) ?_
              subst hF; exact kx
      · rw [if_pos h3] at hF
        refine zw_iload_n C dX4_sieve_46 1 rfl rfl ?_
        refine zw_bipush C (v := 8) dX4_sieve_47 (by decide) ?_
        refine zw_icmp_ne C 61 dX4_sieve_49 (by decide) (fun h7 => ?_) (fun h7 => ?_)
        · rw [if_neg h7] at hF
          refine zw_iload_n C dX4_sieve_61 1 rfl rfl ?_
          refine zw_iconst C (v := 4) dX4_sieve_62 (by decide) ?_
          refine zw_iconst C (v := 5) dX4_sieve_63 (by decide) ?_
          refine zw_scalli C kvX4_84 (kX4_in rfl) ⟨rfl, rfl, ⟨by decide, by decide⟩, by decide, by decide⟩ (As := [.int p1, .int 4, .int 5]) (rest := []) rfl rfl (Nat.le_of_ble_eq_true rfl) dX4_sieve_64 ?_
          refine zw_if_eq C 79 dX4_sieve_67 (by decide) (fun h8 => ?_) (fun h8 => ?_)
          · rw [if_pos h8] at hF
            refine zw_iconst C (v := 1) dX4_sieve_79 (by decide) ?_
            refine zw_goto C 84 dX4_sieve_80 (by decide) ?_
            subst hF; exact kx
          · rw [if_neg h8] at hF
            refine zw_aload_n C dX4_sieve_70 0 rfl rfl ?_
            refine zw_iconst C (v := 1) dX4_sieve_71 (by decide) ?_
            refine zw_iload_n C dX4_sieve_72 3 rfl rfl ?_
            refine zw_calli C kvX4_153 (kX4_is (vp_in_iff.mpr ⟨by decide, by decide⟩) rfl) ⟨rfl, rfl, ⟨by decide, by decide⟩, by decide, by decide⟩ FX4 0 (As := [.int 1, .int p3]) (rest := []) rfl rfl rfl (Nat.le_of_ble_eq_true rfl) dX4_sieve_73 ?_
            refine zw_if_eq C 83 dX4_sieve_76 (by decide) (fun h9 => ?_) (fun h9 => ?_)
            · rw [if_pos h9] at hF
              refine zw_iconst C (v := 0) dX4_sieve_83 (by decide) ?_
              subst hF; exact kx
            · rw [if_neg h9] at hF
              refine zw_iconst C (v := 1) dX4_sieve_79 (by decide) ?_
              refine zw_goto C 84 dX4_sieve_80 (by decide) ?_
              subst hF; exact kx
        · rw [if_pos h7] at hF
          refine zw_aload_n C dX4_sieve_52 0 rfl rfl ?_
          refine zw_iconst C (v := 1) dX4_sieve_53 (by decide) ?_
          refine zw_iload_n C dX4_sieve_54 2 rfl rfl ?_
          refine zw_calli C kvX4_153 (kX4_is (vp_in_iff.mpr ⟨by decide, by decide⟩) rfl) ⟨rfl, rfl, ⟨by decide, by decide⟩, by decide, by decide⟩ FX4 0 (As := [.int 1, .int p2]) (rest := []) rfl rfl rfl (Nat.le_of_ble_eq_true rfl) dX4_sieve_55 ?_
          refine zw_if_eq C 83 dX4_sieve_58 (by decide) (fun h10 => ?_) (fun h10 => ?_)
          · rw [if_pos h10] at hF
            refine zw_iconst C (v := 0) dX4_sieve_83 (by decide) ?_
            subst hF; exact kx
          · rw [if_neg h10] at hF
            refine zw_iload_n C dX4_sieve_61 1 rfl rfl ?_
            refine zw_iconst C (v := 4) dX4_sieve_62 (by decide) ?_
            refine zw_iconst C (v := 5) dX4_sieve_63 (by decide) ?_
            refine zw_scalli C kvX4_84 (kX4_in rfl) ⟨rfl, rfl, ⟨by decide, by decide⟩, by decide, by decide⟩ (As := [.int p1, .int 4, .int 5]) (rest := []) rfl rfl (Nat.le_of_ble_eq_true rfl) dX4_sieve_64 ?_
            refine zw_if_eq C 79 dX4_sieve_67 (by decide) (fun h11 => ?_) (fun h11 => ?_)
            · rw [if_pos h11] at hF
              refine zw_iconst C (v := 1) dX4_sieve_79 (by decide) ?_
              refine zw_goto C 84 dX4_sieve_80 (by decide) ?_
              subst hF; exact kx
            · rw [if_neg h11] at hF
              refine zw_aload_n C dX4_sieve_70 0 rfl rfl ?_
              refine zw_iconst C (v := 1) dX4_sieve_71 (by decide) ?_
              refine zw_iload_n C dX4_sieve_72 3 rfl rfl ?_
              refine zw_calli C kvX4_153 (kX4_is (vp_in_iff.mpr ⟨by decide, by decide⟩) rfl) ⟨rfl, rfl, ⟨by decide, by decide⟩, by decide, by decide⟩ FX4 0 (As := [.int 1, .int p3]) (rest := []) rfl rfl rfl (Nat.le_of_ble_eq_true rfl) dX4_sieve_73 ?_
              refine zw_if_eq C 83 dX4_sieve_76 (by decide) (fun h12 => ?_) (fun h12 => ?_)
              · rw [if_pos h12] at hF
                refine zw_iconst C (v := 0) dX4_sieve_83 (by decide) ?_
                subst hF; exact kx
              · rw [if_neg h12] at hF
                refine zw_iconst C (v := 1) dX4_sieve_79 (by decide) ?_
                refine zw_goto C 84 dX4_sieve_80 (by decide) ?_
                subst hF; exact kx
    · rw [if_neg h2] at hF
      refine zw_aload_n C dX4_sieve_19 0 rfl rfl ?_
      refine zw_iconst C (v := 0) dX4_sieve_20 (by decide) ?_
      refine zw_iload_n C dX4_sieve_21 2 rfl rfl ?_
      refine zw_calli C kvX4_153 (kX4_is (vp_in_iff.mpr ⟨by decide, by decide⟩) rfl) ⟨rfl, rfl, ⟨by decide, by decide⟩, by decide, by decide⟩ FX4 0 (As := [.int 0, .int p2]) (rest := []) rfl rfl rfl (Nat.le_of_ble_eq_true rfl) dX4_sieve_22 ?_
      refine zw_if_eq C 83 dX4_sieve_25 (by decide) (fun h13 => ?_) (fun h13 => ?_)
      · rw [if_pos h13] at hF
        refine zw_iconst C (v := 0) dX4_sieve_83 (by decide) ?_
        subst hF; exact kx
      · rw [if_neg h13] at hF
        refine zw_aload_n C dX4_sieve_28 0 rfl rfl ?_
        refine zw_iconst C (v := 0) dX4_sieve_29 (by decide) ?_
        refine zw_iload_n C dX4_sieve_30 3 rfl rfl ?_
        refine zw_calli C kvX4_153 (kX4_is (vp_in_iff.mpr ⟨by decide, by decide⟩) rfl) ⟨rfl, rfl, ⟨by decide, by decide⟩, by decide, by decide⟩ FX4 0 (As := [.int 0, .int p3]) (rest := []) rfl rfl rfl (Nat.le_of_ble_eq_true rfl) dX4_sieve_31 ?_
        refine zw_if_eq C 83 dX4_sieve_34 (by decide) (fun h14 => ?_) (fun h14 => ?_)
        · rw [if_pos h14] at hF
          refine zw_iconst C (v := 0) dX4_sieve_83 (by decide) ?_
          subst hF; exact kx
        · rw [if_neg h14] at hF
          refine zw_iload_n C dX4_sieve_37 1 rfl rfl ?_
          refine zw_iconst C (v := 3) dX4_sieve_38 (by decide) ?_
          refine zw_iconst C (v := 5) dX4_sieve_39 (by decide) ?_
          refine zw_scalli C kvX4_84 (kX4_in rfl) ⟨rfl, rfl, ⟨by decide, by decide⟩, by decide, by decide⟩ (As := [.int p1, .int 3, .int 5]) (rest := []) rfl rfl (Nat.le_of_ble_eq_true rfl) dX4_sieve_40 ?_
          refine zw_if_ne C 52 dX4_sieve_43 (by decide) (fun h15 => ?_) (fun h15 => ?_)
          · rw [if_neg h15] at hF
            refine zw_aload_n C dX4_sieve_52 0 rfl rfl ?_
            refine zw_iconst C (v := 1) dX4_sieve_53 (by decide) ?_
            refine zw_iload_n C dX4_sieve_54 2 rfl rfl ?_
            refine zw_calli C kvX4_153 (kX4_is (vp_in_iff.mpr ⟨by decide, by decide⟩) rfl) ⟨rfl, rfl, ⟨by decide, by decide⟩, by decide, by decide⟩ FX4 0 (As := [.int 1, .int p2]) (rest := []) rfl rfl rfl (Nat.le_of_ble_eq_true rfl) dX4_sieve_55 ?_
            refine zw_if_eq C 83 dX4_sieve_58 (by decide) (fun h16 => ?_) (fun h16 => ?_)
            · rw [if_pos h16] at hF
              refine zw_iconst C (v := 0) dX4_sieve_83 (by decide) ?_
              subst hF; exact kx
            · rw [if_neg h16] at hF
              refine zw_iload_n C dX4_sieve_61 1 rfl rfl ?_
              refine zw_iconst C (v := 4) dX4_sieve_62 (by decide) ?_
              refine zw_iconst C (v := 5) dX4_sieve_63 (by decide) ?_
              refine zw_scalli C kvX4_84 (kX4_in rfl) ⟨rfl, rfl, ⟨by decide, by decide⟩, by decide, by decide⟩ (As := [.int p1, .int 4, .int 5]) (rest := []) rfl rfl (Nat.le_of_ble_eq_true rfl) dX4_sieve_64 ?_
              refine zw_if_eq C 79 dX4_sieve_67 (by decide) (fun h17 => ?_) (fun h17 => ?_)
              · rw [if_pos h17] at hF
                refine zw_iconst C (v := 1) dX4_sieve_79 (by decide) ?_
                refine zw_goto C 84 dX4_sieve_80 (by decide) ?_
                subst hF; exact kx
              · rw [if_neg h17] at hF
                refine zw_aload_n C dX4_sieve_70 0 rfl rfl ?_
                refine zw_iconst C (v := 1) dX4_sieve_71 (by decide) ?_
                refine zw_iload_n C dX4_sieve_72 3 rfl rfl ?_
                refine zw_calli C kvX4_153 (kX4_is (vp_in_iff.mpr ⟨by decide, by decide⟩) rfl) ⟨rfl, rfl, ⟨by decide, by decide⟩, by decide, by decide⟩ FX4 0 (As := [.int 1, .int p3]) (rest := []) rfl rfl rfl (Nat.le_of_ble_eq_true rfl) dX4_sieve_73 ?_
                refine zw_if_eq C 83 dX4_sieve_76 (by decide) (fun h18 => ?_) (fun h18 => ?_)
                · rw [if_pos h18] at hF
                  refine zw_iconst C (v := 0) dX4_sieve_83 (by decide) ?_
                  subst hF; exact kx
                · rw [if_neg h18] at hF
                  refine zw_iconst C (v := 1) dX4_sieve_79 (by decide) ?_
                  refine zw_goto C 84 dX4_sieve_80 (by decide) ?_
                  subst hF; exact kx
          · rw [if_pos h15] at hF
            refine zw_iload_n C dX4_sieve_46 1 rfl rfl ?_
            refine zw_bipush C (v := 8) dX4_sieve_47 (by decide) ?_
            refine zw_icmp_ne C 61 dX4_sieve_49 (by decide) (fun h19 => ?_) (fun h19 => ?_)
            · rw [if_neg h19] at hF
              refine zw_iload_n C dX4_sieve_61 1 rfl rfl ?_
              refine zw_iconst C (v := 4) dX4_sieve_62 (by decide) ?_
              refine zw_iconst C (v := 5) dX4_sieve_63 (by decide) ?_
              refine zw_scalli C kvX4_84 (kX4_in rfl) ⟨rfl, rfl, ⟨by decide, by decide⟩, by decide, by decide⟩ (As := [.int p1, .int 4, .int 5]) (rest := []) rfl rfl (Nat.le_of_ble_eq_true rfl) dX4_sieve_64 ?_
              refine zw_if_eq C 79 dX4_sieve_67 (by decide) (fun h20 => ?_) (fun h20 => ?_)
              · rw [if_pos h20] at hF
                refine zw_iconst C (v := 1) dX4_sieve_79 (by decide) ?_
                refine zw_goto C 84 dX4_sieve_80 (by decide) ?_
                subst hF; exact kx
              · rw [if_neg h20] at hF
                refine zw_aload_n C dX4_sieve_70 0 rfl rfl ?_
                refine zw_iconst C (v := 1) dX4_sieve_71 (by decide) ?_
                refine zw_iload_n C dX4_sieve_72 3 rfl rfl ?_
                refine zw_calli C kvX4_153 (kX4_is (vp_in_iff.mpr ⟨by decide, by decide⟩) rfl) ⟨rfl, rfl, ⟨by decide, by decide⟩, by decide, by decide⟩ FX4 0 (As := [.int 1, .int p3]) (rest := []) rfl rfl rfl (Nat.le_of_ble_eq_true rfl) dX4_sieve_73 ?_
                refine zw_if_eq C 83 dX4_sieve_76 (by decide) (fun h21 => ?_) (fun h21 => ?_)
                · rw [if_pos h21] at hF
                  refine zw_iconst C (v := 0) dX4_sieve_83 (by decide) ?_
                  subst hF; exact kx
                · rw [if_neg h21] at hF
                  refine zw_iconst C (v := 1) dX4_sieve_79 (by decide) ?_
                  refine zw_goto C 84 dX4_sieve_80 (by decide) ?_
                  subst hF; exact kx
            · rw [if_pos h19] at hF
              refine zw_aload_n C dX4_sieve_52 0 rfl rfl ?_
              refine zw_iconst C (v := 1) dX4_sieve_53 (by decide) ?_
              refine zw_iload_n C dX4_sieve_54 2 rfl rfl ?_
              refine zw_calli C kvX4_153 (kX4_is (vp_in_iff.mpr ⟨by decide, by decide⟩) rfl) ⟨rfl, rfl, ⟨by decide, by decide⟩, by decide, by decide⟩ FX4 0 (As := [.int 1, .int p2]) (rest := []) rfl rfl rfl (Nat.le_of_ble_eq_true rfl) dX4_sieve_55 ?_
              refine zw_if_eq C 83 dX4_sieve_58 (by decide) (fun h22 => ?_) (fun h22 => ?_)
              · rw [if_pos h22] at hF
                refine zw_iconst C (v := 0) dX4_sieve_83 (by decide) ?_
                subst hF; exact kx
              · rw [if_neg h22] at hF
                refine zw_iload_n C dX4_sieve_61 1 rfl rfl ?_
                refine zw_iconst C (v := 4) dX4_sieve_62 (by decide) ?_
                refine zw_iconst C (v := 5) dX4_sieve_63 (by decide) ?_
                refine zw_scalli C kvX4_84 (kX4_in rfl) ⟨rfl, rfl, ⟨by decide, by decide⟩, by decide, by decide⟩ (As := [.int p1, .int 4, .int 5]) (rest := []) rfl rfl (Nat.le_of_ble_eq_true rfl) dX4_sieve_64 ?_
                refine zw_if_eq C 79 dX4_sieve_67 (by decide) (fun h23 => ?_) (fun h23 => ?_)
                · rw [if_pos h23] at hF
                  refine zw_iconst C (v := 1) dX4_sieve_79 (by decide) ?_
                  refine zw_goto C 84 dX4_sieve_80 (by decide) ?_
                  subst hF; exact kx
                · rw [if_neg h23] at hF
                  refine zw_aload_n C dX4_sieve_70 0 rfl rfl ?_
                  refine zw_iconst C (v := 1) dX4_sieve_71 (by decide) ?_
                  refine zw_iload_n C dX4_sieve_72 3 rfl rfl ?_
                  refine zw_calli C kvX4_153 (kX4_is (vp_in_iff.mpr ⟨by decide, by decide⟩) rfl) ⟨rfl, rfl, ⟨by decide, by decide⟩, by decide, by decide⟩ FX4 0 (As := [.int 1, .int p3]) (rest := []) rfl rfl rfl (Nat.le_of_ble_eq_true rfl) dX4_sieve_73 ?_
                  refine zw_if_eq C 83 dX4_sieve_76 (by decide) (fun h24 => ?_) (fun h24 => ?_)
                  · rw [if_pos h24] at hF
                    refine zw_iconst C (v := 0) dX4_sieve_83 (by decide) ?_
                    subst hF; exact kx
                  · rw [if_neg h24] at hF
                    refine zw_iconst C (v := 1) dX4_sieve_79 (by decide) ?_
                    refine zw_goto C 84 dX4_sieve_80 (by decide) ?_
                    subst hF; exact kx
def fX4_sieve (K0 : (Nat → Int32)) (K1 : (Nat → Int32)) (K2 : (Nat → Int32)) (K3 : (Nat → Int32)) (K4 : (Nat → Int64)) (E0 : (Nat → Int32)) (p1 : Int32) (p2 : Int32) (p3 : Int32) : Int32 × (Nat → Int32) × (Nat → Int32) × (Nat → Int32) × (Nat → Int32) × (Nat → Int64) × (Nat → Int32) := (zw_l (fX4_sieveOk K0 p1 p2 p3) (fun q1 => (if q1 = 0 then ((-1), K0, K1, K2, K3, K4, E0) else (if (K0 (1 : Int32).toNatClampNeg) = 24 then ((-2), K0, K1, K2, K3, K4, E0) else (zw_l (fX4_made K0 K1 K2 K3 K4 E0 1 p1 p2 p3 0) (fun q5 => (q5.1, q5.2.1, q5.2.2.1, q5.2.2.2.1, q5.2.2.2.2.1, q5.2.2.2.2.2.1, q5.2.2.2.2.2.2)))))))
set_option maxHeartbeats 4000000 in
set_option maxRecDepth 100000 in
theorem kX4_sieve {l : Launch} {D : va_G} {cI cL : ClassId} {b : Nat → Nat} {B0 : Int32} {B1 : Int32} {B2 : Int64} {B3 : (Nat → Int64)} {B4 : (Nat → Int64)} {B5 : (Nat → Int32)} {B6 : (Nat → Int32)} {K0 : (Nat → Int32)} {K1 : (Nat → Int32)} {K2 : (Nat → Int32)} {K3 : (Nat → Int32)} {K4 : (Nat → Int64)} {E0 : (Nat → Int32)} {M0 : Int32} {M1 : (Nat → Int32)} {M2 : (Nat → Int32)} {M3 : (Nat → Int32)} {M4 : (Nat → Int32)} {M5 : (Nat → Int64)} {M6 : Int64} {M7 : Int32} {U0 : Int32} {U1 : Int32} {U2 : Int32} {U3 : Int32} {U4 : Int32} {U5 : Int32} {G0 : Int32} {G1 : (Nat → Int64)} {G2 : (Nat → Int32)} {G3 : (Nat → Int64)} {G4 : (Nat → Int32)} {N0 : (Nat → Int64)} {N1 : (Nat → Int32)} {N2 : (Nat → Int64)} {N3 : (Nat → Int32)} {p1 : Int32} {p2 : Int32} {p3 : Int32} {q : Int32 × (Nat → Int32) × (Nat → Int32) × (Nat → Int32) × (Nat → Int32) × (Nat → Int64) × (Nat → Int32)} {sn vn on : Nat} (hy1 : dm_K K0 sn vn on) (hF : fX4_sieve K0 K1 K2 K3 K4 E0 p1 p2 p3 = q) : zw_Mi l yX4_sieve cX4_sieve 5 .int D (zw_tys cI cL) (zw_rm 2 44) [.ref (b 0), .int p1, .int p2, .int p3] (wM cI cL b B0 B1 B2 B3 B4 B5 B6 K0 K1 K2 K3 K4 E0 M0 M1 M2 M3 M4 M5 M6 M7 U0 U1 U2 U3 U4 U5 G0 G1 G2 G3 G4 N0 N1 N2 N3) (wM cI cL b B0 B1 B2 B3 B4 B5 B6 q.2.1 q.2.2.1 q.2.2.2.1 q.2.2.2.2.1 q.2.2.2.2.2.1 q.2.2.2.2.2.2 M0 M1 M2 M3 M4 M5 M6 M7 U0 U1 U2 U3 U4 U5 G0 G1 G2 G3 G4 N0 N1 N2 N3) q.1 := by
  unfold fX4_sieve at hF
  refine zw_Mi_of (own := RX4) (by decide) rfl (Nat.le_of_ble_eq_true rfl) ?_
  intro p e s m args below meth c A C hr hlk
  refine zw_eq (lv2 := [(0, .ref (b 0)), (1, .int p1), (2, .int p2), (3, .int p3)]) rfl rfl rfl ?_
  obtain ⟨q1, e2⟩ : ∃ z, fX4_sieveOk K0 p1 p2 p3 = z := ⟨_, rfl⟩
  rw [zw_l_eq e2] at hF
  refine kX4_sieveOk C e2 ?_
  refine zw_istore C dX4_sieve_84 (by decide) rfl ?_
  refine zw_iload C dX4_sieve_86 0 rfl ?_
  refine zw_if_ne C 95 dX4_sieve_88 (by decide) (fun h3 => ?_) (fun h3 => ?_)
  · rw [if_neg h3] at hF
    refine zw_aload_n C dX4_sieve_95 1 rfl rfl ?_
    refine zw_get C FX4 0 5 (v := .ref (b 4)) rfl (by decide) lkX4_20 rfl dX4_sieve_96 ?_
    refine zw_iconst C (v := 1) dX4_sieve_99 (by decide) ?_
    refine zw_iald C 4 0 (f := K0) (i := 1) rfl rfl (vp_in_iff.mpr ⟨by decide, by decide⟩) dX4_sieve_100 ?_
    refine zw_bipush C (v := 24) dX4_sieve_101 (by decide) ?_
    refine zw_icmp_ne C 111 dX4_sieve_103 (by decide) (fun h4 => ?_) (fun h4 => ?_)
    · rw [if_neg h4] at hF
      refine zw_aload_n C dX4_sieve_111 1 rfl rfl ?_
      refine zw_iconst C (v := 1) dX4_sieve_112 (by decide) ?_
      refine zw_iload_n C dX4_sieve_113 2 rfl rfl ?_
      refine zw_iload_n C dX4_sieve_114 3 rfl rfl ?_
      refine zw_iload_n C dX4_sieve_115 4 rfl rfl ?_
      refine zw_lconst C (v := 0) dX4_sieve_116 (by decide) ?_
      obtain ⟨q5, e6⟩ : ∃ z, fX4_made K0 K1 K2 K3 K4 E0 1 p1 p2 p3 0 = z := ⟨_, rfl⟩
      rw [zw_l_eq e6] at hF
      refine zw_calli C kvX4_157 (kX4_made (vp_in_iff.mpr ⟨by decide, by decide⟩) (dm_made (j := 1) rfl (by decide) hy1.2.2.2.2.1 hy1.2.1 (by assumption)) e6) ⟨rfl, rfl, ⟨by decide, by decide⟩, by decide, by decide⟩ FX4 0 (As := [.int 1, .int p1, .int p2, .int p3, .long 0]) (rest := []) rfl rfl rfl (Nat.le_of_ble_eq_true rfl) dX4_sieve_117 ?_
      subst hF; dsimp only
      exact zw_ireturn C hr hlk dX4_sieve_120 rfl rfl
    · rw [if_pos h4] at hF
      refine zw_bipush C (v := (-2)) dX4_sieve_106 (by decide) ?_
      refine zw_goto C 120 dX4_sieve_108 (by decide) ?_
      subst hF; dsimp only
      exact zw_ireturn C hr hlk dX4_sieve_120 rfl rfl
  · rw [if_pos h3] at hF
    refine zw_iconst C (v := (-1)) dX4_sieve_91 (by decide) ?_
    refine zw_goto C 120 dX4_sieve_92 (by decide) ?_
    subst hF; dsimp only
    exact zw_ireturn C hr hlk dX4_sieve_120 rfl rfl
def fX4_orderOk (K0 : (Nat → Int32)) (p1 : Int32) (p2 : Int32) (p3 : Int32) : Int32 := (if (fX4_in p1 0 5) = 0 then 0 else (if p1 = 0 then (if (fX4_is K0 0 p2) = 0 then 0 else (if (fX4_in p1 1 2) = 0 then (if p1 = 2 then (if (fX4_is K0 2 p3) = 0 then 0 else (if p1 = 3 then (if (fX4_is K0 1 p2) = 0 then 0 else 1) else 1)) else (if p1 = 3 then (if (fX4_is K0 1 p2) = 0 then 0 else 1) else 1)) else (if (fX4_is K0 2 p2) = 0 then 0 else (if p1 = 2 then (if (fX4_is K0 2 p3) = 0 then 0 else (if p1 = 3 then (if (fX4_is K0 1 p2) = 0 then 0 else 1) else 1)) else (if p1 = 3 then (if (fX4_is K0 1 p2) = 0 then 0 else 1) else 1))))) else (if (fX4_in p1 1 2) = 0 then (if p1 = 2 then (if (fX4_is K0 2 p3) = 0 then 0 else (if p1 = 3 then (if (fX4_is K0 1 p2) = 0 then 0 else 1) else 1)) else (if p1 = 3 then (if (fX4_is K0 1 p2) = 0 then 0 else 1) else 1)) else (if (fX4_is K0 2 p2) = 0 then 0 else (if p1 = 2 then (if (fX4_is K0 2 p3) = 0 then 0 else (if p1 = 3 then (if (fX4_is K0 1 p2) = 0 then 0 else 1) else 1)) else (if p1 = 3 then (if (fX4_is K0 1 p2) = 0 then 0 else 1) else 1))))))
set_option maxHeartbeats 4000000 in
set_option maxRecDepth 100000 in
theorem kX4_orderOk {p : Program} {l : Launch} {e : Env} {s : State} {m : MethodId} {args : Array Value} {below : List Frame} {meth : Method} {c : Code} {A : Nat → Prop} {Q : State → Prop} {D : va_G} {cI cL : ClassId} {b : Nat → Nat} {B0 : Int32} {B1 : Int32} {B2 : Int64} {B3 : (Nat → Int64)} {B4 : (Nat → Int64)} {B5 : (Nat → Int32)} {B6 : (Nat → Int32)} {K0 : (Nat → Int32)} {K1 : (Nat → Int32)} {K2 : (Nat → Int32)} {K3 : (Nat → Int32)} {K4 : (Nat → Int64)} {E0 : (Nat → Int32)} {M0 : Int32} {M1 : (Nat → Int32)} {M2 : (Nat → Int32)} {M3 : (Nat → Int32)} {M4 : (Nat → Int32)} {M5 : (Nat → Int64)} {M6 : Int64} {M7 : Int32} {U0 : Int32} {U1 : Int32} {U2 : Int32} {U3 : Int32} {U4 : Int32} {U5 : Int32} {G0 : Int32} {G1 : (Nat → Int64)} {G2 : (Nat → Int32)} {G3 : (Nat → Int64)} {G4 : (Nat → Int32)} {N0 : (Nat → Int64)} {N1 : (Nat → Int32)} {N2 : (Nat → Int64)} {N3 : (Nat → Int32)} {p1 : Int32} {p2 : Int32} {p3 : Int32} {r : Int32} (C : zw_C p s m args c D (zw_tys cI cL) A RX4 cX4_order 5) (hF : fX4_orderOk K0 p1 p2 p3 = r) (kx : zw_W p l e (zw_rm 2 44) s m args below meth c D A 5 Q 0 0 (wM cI cL b B0 B1 B2 B3 B4 B5 B6 K0 K1 K2 K3 K4 E0 M0 M1 M2 M3 M4 M5 M6 M7 U0 U1 U2 U3 U4 U5 G0 G1 G2 G3 G4 N0 N1 N2 N3) 73 [(0, .ref (b 0)), (1, .int p1), (2, .int p2), (3, .int p3)] [.int r]) : zw_W p l e (zw_rm 2 44) s m args below meth c D A 5 Q 0 0 (wM cI cL b B0 B1 B2 B3 B4 B5 B6 K0 K1 K2 K3 K4 E0 M0 M1 M2 M3 M4 M5 M6 M7 U0 U1 U2 U3 U4 U5 G0 G1 G2 G3 G4 N0 N1 N2 N3) 0 [(0, .ref (b 0)), (1, .int p1), (2, .int p2), (3, .int p3)] [] := by
  unfold fX4_orderOk at hF
  refine zw_iload_n C dX4_order_0 1 rfl rfl ?_
  refine zw_iconst C (v := 0) dX4_order_1 (by decide) ?_
  refine zw_iconst C (v := 5) dX4_order_2 (by decide) ?_
  refine zw_scalli C kvX4_84 (kX4_in rfl) ⟨rfl, rfl, ⟨by decide, by decide⟩, by decide, by decide⟩ (As := [.int p1, .int 0, .int 5]) (rest := []) rfl rfl (Nat.le_of_ble_eq_true rfl) dX4_order_3 ?_
  refine zw_if_eq C 72 dX4_order_6 (by decide) (fun h1 => ?_) (fun h1 => ?_)
  · rw [if_pos h1] at hF
    refine zw_iconst C (v := 0) dX4_order_72 (by decide) ?_
    subst hF; exact kx
  · rw [if_neg h1] at hF
    refine zw_iload_n C dX4_order_9 1 rfl rfl ?_
    refine zw_if_ne C 22 dX4_order_10 (by decide) (fun h2 => ?_) (fun h2 => ?_)
    · rw [if_neg h2] at hF
      refine zw_iload_n C dX4_order_22 1 rfl rfl ?_
      refine zw_iconst C (v := 1) dX4_order_23 (by decide) ?_
      refine zw_iconst C (v := 2) dX4_order_24 (by decide) ?_
      refine zw_scalli C kvX4_84 (kX4_in rfl) ⟨rfl, rfl, ⟨by decide, by decide⟩, by decide, by decide⟩ (As := [.int p1, .int 1, .int 2]) (rest := []) rfl rfl (Nat.le_of_ble_eq_true rfl) dX4_order_25 ?_
      refine zw_if_eq C 40 dX4_order_28 (by decide) (fun h3 => ?_) (fun h3 => ?_)
      · rw [if_pos h3] at hF
        refine zw_iload_n C dX4_order_40 1 rfl rfl ?_
        refine zw_iconst C (v := 2) dX4_order_41 (by decide) ?_
        refine zw_icmp_ne C 54 dX4_order_42 (by decide) (fun h4 => ?_) (fun h4 => ?_)
        · rw [if_neg h4] at hF
          refine zw_iload_n C dX4_order_54 1 rfl rfl ?_
          refine zw_iconst C (v := 3) dX4_order_55 (by decide) ?_
          refine zw_icmp_ne C 68 dX4_order_56 (by decide) (fun h5 => ?_) (fun h5 => ?_)
          · rw [if_neg h5] at hF
            refine zw_iconst C (v := 1) dX4_order_68 (by decide) ?_
            refine zw_goto C 73 dX4_order_69 (by decide) ?_
            subst hF; exact kx
          · rw [if_pos h5] at hF
            refine zw_aload_n C dX4_order_59 0 rfl rfl ?_
            refine zw_iconst C (v := 1) dX4_order_60 (by decide) ?_
            refine zw_iload_n C dX4_order_61 2 rfl rfl ?_
            refine zw_calli C kvX4_153 (kX4_is (vp_in_iff.mpr ⟨by decide, by decide⟩) rfl) ⟨rfl, rfl, ⟨by decide, by decide⟩, by decide, by decide⟩ FX4 0 (As := [.int 1, .int p2]) (rest := []) rfl rfl rfl (Nat.le_of_ble_eq_true rfl) dX4_order_62 ?_
            refine zw_if_eq C 72 dX4_order_65 (by decide) (fun h6 => ?_) (fun h6 => ?_)
            · rw [if_pos h6] at hF
              refine zw_iconst C (v := 0) dX4_order_72 (by decide) ?_
              subst hF; exact kx
            · rw [if_neg h6] at hF
              refine zw_iconst C (v := 1) dX4_order_68 (by decide) ?_
              refine zw_goto C 73 dX4_order_69 (by decide) ?_
              subst hF; exact kx
        · rw [if_pos h4] at hF
          refine zw_aload_n C dX4_order_45 0 rfl rfl ?_
          refine zw_iconst C (v := 2) dX4_order_46 (by decide) ?_
          refine zw_iload_n C dX4_order_47 3 rfl rfl ?_
          refine zw_calli C kvX4_153 (kX4_is (vp_in_iff.mpr ⟨by decide, by decide⟩) rfl) ⟨rfl, rfl, ⟨by decide, by decide⟩, by decide, by decide⟩ FX4 0 (As := [.int 2, .int p3]) (rest := []) rfl rfl rfl (Nat.le_of_ble_eq_true rfl) dX4_order_48 ?_
          refine zw_if_eq C 72 dX4_order_51 (by decide) (fun h7 => ?_) (fun h7 => ?_)
          · rw [if_pos h7] at hF
            refine zw_iconst C (v := 0) dX4_order_72 (by decide) ?_
            subst hF; exact kx
          · rw [if_neg h7] at hF
            refine zw_iload_n C dX4_order_54 1 rfl rfl ?_
            refine zw_iconst C (v := 3) dX4_order_55 (by decide) ?_
            refine zw_icmp_ne C 68 dX4_order_56 (by decide) (fun h8 => ?_) (fun h8 => ?_)
            · rw [if_neg h8] at hF
              refine zw_iconst C (v := 1) dX4_order_68 (by decide) ?_
              refine zw_goto C 73 dX4_order_69 (by decide) ?_
              subst hF; exact kx
            · rw [if_pos h8] at hF
              refine zw_aload_n C dX4_order_59 0 rfl rfl ?_
              refine zw_iconst C (v := 1) dX4_order_60 (by decide) ?_
              refine zw_iload_n C dX4_order_61 2 rfl rfl ?_
              refine zw_calli C kvX4_153 (kX4_is (vp_in_iff.mpr ⟨by decide, by decide⟩) rfl) ⟨rfl, rfl, ⟨by decide, by decide⟩, by decide, by decide⟩ FX4 0 (As := [.int 1, .int p2]) (rest := []) rfl rfl rfl (Nat.le_of_ble_eq_true rfl) dX4_order_62 ?_
              refine zw_if_eq C 72 dX4_order_65 (by decide) (fun h9 => ?_) (fun h9 => ?_)
              · rw [if_pos h9] at hF
                refine zw_iconst C (v := 0) dX4_order_72 (by decide) ?_
                subst hF; exact kx
              · rw [if_neg h9] at hF
                refine zw_iconst C (v := 1) dX4_order_68 (by decide) ?_
                refine zw_goto C 73 dX4_order_69 (by decide) ?_
                subst hF; exact kx
      · rw [if_neg h3] at hF
        refine zw_aload_n C dX4_order_31 0 rfl rfl ?_
        refine zw_iconst C (v := 2) dX4_order_32 (by decide) ?_
        refine zw_iload_n C dX4_order_33 2 rfl rfl ?_
        refine zw_calli C kvX4_153 (kX4_is (vp_in_iff.mpr ⟨by decide, by decide⟩) rfl) ⟨rfl, rfl, ⟨by decide, by decide⟩, by decide, by decide⟩ FX4 0 (As := [.int 2, .int p2]) (rest := []) rfl rfl rfl (Nat.le_of_ble_eq_true rfl) dX4_order_34 ?_
        refine zw_if_eq C 72 dX4_order_37 (by decide) (fun h10 => ?_) (fun h10 => ?_)
        · rw [if_pos h10] at hF
          refine zw_iconst C (v := 0) dX4_order_72 (by decide) ?_
          subst hF; exact kx
        · rw [if_neg h10] at hF
          refine zw_iload_n C dX4_order_40 1 rfl rfl ?_
          refine zw_iconst C (v := 2) dX4_order_41 (by decide) ?_
          refine zw_icmp_ne C 54 dX4_order_42 (by decide) (fun h11 => ?_) (fun h11 => ?_)
          · rw [if_neg h11] at hF
            refine zw_iload_n C dX4_order_54 1 rfl rfl ?_
            refine zw_iconst C (v := 3) dX4_order_55 (by decide) ?_
            refine zw_icmp_ne C 68 dX4_order_56 (by decide) (fun h12 => ?_) (fun h12 => ?_)
            · rw [if_neg h12] at hF
              refine zw_iconst C (v := 1) dX4_order_68 (by decide) ?_
              refine zw_goto C 73 dX4_order_69 (by decide) ?_
              subst hF; exact kx
            · rw [if_pos h12] at hF
              refine zw_aload_n C dX4_order_59 0 rfl rfl ?_
              refine zw_iconst C (v := 1) dX4_order_60 (by decide) ?_
              refine zw_iload_n C dX4_order_61 2 rfl rfl ?_
              refine zw_calli C kvX4_153 (kX4_is (vp_in_iff.mpr ⟨by decide, by decide⟩) rfl) ⟨rfl, rfl, ⟨by decide, by decide⟩, by decide, by decide⟩ FX4 0 (As := [.int 1, .int p2]) (rest := []) rfl rfl rfl (Nat.le_of_ble_eq_true rfl) dX4_order_62 ?_
              refine zw_if_eq C 72 dX4_order_65 (by decide) (fun h13 => ?_) (fun h13 => ?_)
              · rw [if_pos h13] at hF
                refine zw_iconst C (v := 0) dX4_order_72 (by decide) ?_
                subst hF; exact kx
              · rw [if_neg h13] at hF
                refine zw_iconst C (v := 1) dX4_order_68 (by decide) ?_
                refine zw_goto C 73 dX4_order_69 (by decide) ?_
                subst hF; exact kx
          · rw [if_pos h11] at hF
            refine zw_aload_n C dX4_order_45 0 rfl rfl ?_
            refine zw_iconst C (v := 2) dX4_order_46 (by decide) ?_
            refine zw_iload_n C dX4_order_47 3 rfl rfl ?_
            refine zw_calli C kvX4_153 (kX4_is (vp_in_iff.mpr ⟨by decide, by decide⟩) rfl) ⟨rfl, rfl, ⟨by decide, by decide⟩, by decide, by decide⟩ FX4 0 (As := [.int 2, .int p3]) (rest := []) rfl rfl rfl (Nat.le_of_ble_eq_true rfl) dX4_order_48 ?_
            refine zw_if_eq C 72 dX4_order_51 (by decide) (fun h14 => ?_) (fun h14 => ?_)
            · rw [if_pos h14] at hF
              refine zw_iconst C (v := 0) dX4_order_72 (by decide) ?_
              subst hF; exact kx
            · rw [if_neg h14] at hF
              refine zw_iload_n C dX4_order_54 1 rfl rfl ?_
              refine zw_iconst C (v := 3) dX4_order_55 (by decide) ?_
              refine zw_icmp_ne C 68 dX4_order_56 (by decide) (fun h15 => ?_) (fun h15 => ?_)
              · rw [if_neg h15] at hF
                refine zw_iconst C (v := 1) dX4_order_68 (by decide) ?_
                refine zw_goto C 73 dX4_order_69 (by decide) ?_
                subst hF; exact kx
              · rw [if_pos h15] at hF
                refine zw_aload_n C dX4_order_59 0 rfl rfl ?_
                refine zw_iconst C (v := 1) dX4_order_60 (by decide) ?_
                refine zw_iload_n C dX4_order_61 2 rfl rfl ?_
                refine zw_calli C kvX4_153 (kX4_is (vp_in_iff.mpr ⟨by decide, by decide⟩) rfl) ⟨rfl, rfl, ⟨by decide, by decide⟩, by decide, by decide⟩ FX4 0 (As := [.int 1, .int p2]) (rest := []) rfl rfl rfl (Nat.le_of_ble_eq_true rfl) dX4_order_62 ?_
                refine zw_if_eq C 72 dX4_order_65 (by decide) (fun h16 => ?_) (fun h16 => ?_)
                · rw [if_pos h16] at hF
                  refine zw_iconst C (v := 0) dX4_order_72 (by decide) ?_
                  subst hF; exact kx
                · rw [if_neg h16] at hF
                  refine zw_iconst C (v := 1) dX4_order_68 (by decide) ?_
                  refine zw_goto C 73 dX4_order_69 (by decide) ?_
                  subst hF; exact kx
    · rw [if_pos h2] at hF
      refine zw_aload_n C dX4_order_13 0 rfl rfl ?_
      refine zw_iconst C (v := 0) dX4_order_14 (by decide) ?_
      refine zw_iload_n C dX4_order_15 2 rfl rfl ?_
      refine zw_calli C kvX4_153 (kX4_is (vp_in_iff.mpr ⟨by decide, by decide⟩) rfl) ⟨rfl, rfl, ⟨by decide, by decide⟩, by decide, by decide⟩ FX4 0 (As := [.int 0, .int p2]) (rest := []) rfl rfl rfl (Nat.le_of_ble_eq_true rfl) dX4_order_16 ?_
      refine zw_if_eq C 72 dX4_order_19 (by decide) (fun h17 => ?_) (fun h17 => ?_)
      · rw [if_pos h17] at hF
        refine zw_iconst C (v := 0) dX4_order_72 (by decide) ?_
        subst hF; exact kx
      · rw [if_neg h17] at hF
        refine zw_iload_n C dX4_order_22 1 rfl rfl ?_
        refine zw_iconst C (v := 1) dX4_order_23 (by decide) ?_
        refine zw_iconst C (v := 2) dX4_order_24 (by decide) ?_
        refine zw_scalli C kvX4_84 (kX4_in rfl) ⟨rfl, rfl, ⟨by decide, by decide⟩, by decide, by decide⟩ (As := [.int p1, .int 1, .int 2]) (rest := []) rfl rfl (Nat.le_of_ble_eq_true rfl) dX4_order_25 ?_
        refine zw_if_eq C 40 dX4_order_28 (by decide) (fun h18 => ?_) (fun h18 => ?_)
        · rw [if_pos h18] at hF
          refine zw_iload_n C dX4_order_40 1 rfl rfl ?_
          refine zw_iconst C (v := 2) dX4_order_41 (by decide) ?_
          refine zw_icmp_ne C 54 dX4_order_42 (by decide) (fun h19 => ?_) (fun h19 => ?_)
          · rw [if_neg h19] at hF
            refine zw_iload_n C dX4_order_54 1 rfl rfl ?_
            refine zw_iconst C (v := 3) dX4_order_55 (by decide) ?_
            refine zw_icmp_ne C 68 dX4_order_56 (by decide) (fun h20 => ?_) (fun h20 => ?_)
            · rw [if_neg h20] at hF
              refine zw_iconst C (v := 1) dX4_order_68 (by decide) ?_
              refine zw_goto C 73 dX4_order_69 (by decide) ?_
              subst hF; exact kx
            · rw [if_pos h20] at hF
              refine zw_aload_n C dX4_order_59 0 rfl rfl ?_
              refine zw_iconst C (v := 1) dX4_order_60 (by decide) ?_
              refine zw_iload_n C dX4_order_61 2 rfl rfl ?_
              refine zw_calli C kvX4_153 (kX4_is (vp_in_iff.mpr ⟨by decide, by decide⟩) rfl) ⟨rfl, rfl, ⟨by decide, by decide⟩, by decide, by decide⟩ FX4 0 (As := [.int 1, .int p2]) (rest := []) rfl rfl rfl (Nat.le_of_ble_eq_true rfl) dX4_order_62 ?_
              refine zw_if_eq C 72 dX4_order_65 (by decide) (fun h21 => ?_) (fun h21 => ?_)
              · rw [if_pos h21] at hF
                refine zw_iconst C (v := 0) dX4_order_72 (by decide) ?_
                subst hF; exact kx
              · rw [if_neg h21] at hF
                refine zw_iconst C (v := 1) dX4_order_68 (by decide) ?_
                refine zw_goto C 73 dX4_order_69 (by decide) ?_
                subst hF; exact kx
          · rw [if_pos h19] at hF
            refine zw_aload_n C dX4_order_45 0 rfl rfl ?_
            refine zw_iconst C (v := 2) dX4_order_46 (by decide) ?_
            refine zw_iload_n C dX4_order_47 3 rfl rfl ?_
            refine zw_calli C kvX4_153 (kX4_is (vp_in_iff.mpr ⟨by decide, by decide⟩) rfl) ⟨rfl, rfl, ⟨by decide, by decide⟩, by decide, by decide⟩ FX4 0 (As := [.int 2, .int p3]) (rest := []) rfl rfl rfl (Nat.le_of_ble_eq_true rfl) dX4_order_48 ?_
            refine zw_if_eq C 72 dX4_order_51 (by decide) (fun h22 => ?_) (fun h22 => ?_)
            · rw [if_pos h22] at hF
              refine zw_iconst C (v := 0) dX4_order_72 (by decide) ?_
              subst hF; exact kx
            · rw [if_neg h22] at hF
              refine zw_iload_n C dX4_order_54 1 rfl rfl ?_
              refine zw_iconst C (v := 3) dX4_order_55 (by decide) ?_
              refine zw_icmp_ne C 68 dX4_order_56 (by decide) (fun h23 => ?_) (fun h23 => ?_)
              · rw [if_neg h23] at hF
                refine zw_iconst C (v := 1) dX4_order_68 (by decide) ?_
                refine zw_goto C 73 dX4_order_69 (by decide) ?_
                subst hF; exact kx
              · rw [if_pos h23] at hF
                refine zw_aload_n C dX4_order_59 0 rfl rfl ?_
                refine zw_iconst C (v := 1) dX4_order_60 (by decide) ?_
                refine zw_iload_n C dX4_order_61 2 rfl rfl ?_
                refine zw_calli C kvX4_153 (kX4_is (vp_in_iff.mpr ⟨by decide, by decide⟩) rfl) ⟨rfl, rfl, ⟨by decide, by decide⟩, by decide, by decide⟩ FX4 0 (As := [.int 1, .int p2]) (rest := []) rfl rfl rfl (Nat.le_of_ble_eq_true rfl) dX4_order_62 ?_
                refine zw_if_eq C 72 dX4_order_65 (by decide) (fun h24 => ?_) (fun h24 => ?_)
                · rw [if_pos h24] at hF
                  refine zw_iconst C (v := 0) dX4_order_72 (by decide) ?_
                  subst hF; exact kx
                · rw [if_neg h24] at hF
                  refine zw_iconst C (v := 1) dX4_order_68 (by decide) ?_
                  refine zw_goto C 73 dX4_order_69 (by decide) ?_
                  subst hF; exact kx
        · rw [if_neg h18] at hF
          refine zw_aload_n C dX4_order_31 0 rfl rfl ?_
          refine zw_iconst C (v := 2) dX4_order_32 (by decide) ?_
          refine zw_iload_n C dX4_order_33 2 rfl rfl ?_
          refine zw_calli C kvX4_153 (kX4_is (vp_in_iff.mpr ⟨by decide, by decide⟩) rfl) ⟨rfl, rfl, ⟨by decide, by decide⟩, by decide, by decide⟩ FX4 0 (As := [.int 2, .int p2]) (rest := []) rfl rfl rfl (Nat.le_of_ble_eq_true rfl) dX4_order_34 ?_
          refine zw_if_eq C 72 dX4_order_37 (by decide) (fun h25 => ?_) (fun h25 => ?_)
          · rw [if_pos h25] at hF
            refine zw_iconst C (v := 0) dX4_order_72 (by decide) ?_
            subst hF; exact kx
          · rw [if_neg h25] at hF
            refine zw_iload_n C dX4_order_40 1 rfl rfl ?_
            refine zw_iconst C (v := 2) dX4_order_41 (by decide) ?_
            refine zw_icmp_ne C 54 dX4_order_42 (by decide) (fun h26 => ?_) (fun h26 => ?_)
            · rw [if_neg h26] at hF
              refine zw_iload_n C dX4_order_54 1 rfl rfl ?_
              refine zw_iconst C (v := 3) dX4_order_55 (by decide) ?_
              refine zw_icmp_ne C 68 dX4_order_56 (by decide) (fun h27 => ?_) (fun h27 => ?_)
              · rw [if_neg h27] at hF
                refine zw_iconst C (v := 1) dX4_order_68 (by decide) ?_
                refine zw_goto C 73 dX4_order_69 (by decide) ?_
                subst hF; exact kx
              · rw [if_pos h27] at hF
                refine zw_aload_n C dX4_order_59 0 rfl rfl ?_
                refine zw_iconst C (v := 1) dX4_order_60 (by decide) ?_
                refine zw_iload_n C dX4_order_61 2 rfl rfl ?_
                refine zw_calli C kvX4_153 (kX4_is (vp_in_iff.mpr ⟨by decide, by decide⟩) rfl) ⟨rfl, rfl, ⟨by decide, by decide⟩, by decide, by decide⟩ FX4 0 (As := [.int 1, .int p2]) (rest := []) rfl rfl rfl (Nat.le_of_ble_eq_true rfl) dX4_order_62 ?_
                refine zw_if_eq C 72 dX4_order_65 (by decide) (fun h28 => ?_) (fun h28 => ?_)
                · rw [if_pos h28] at hF
                  refine zw_iconst C (v := 0) dX4_order_72 (by decide) ?_
                  subst hF; exact kx
                · rw [if_neg h28] at hF
                  refine zw_iconst C (v := 1) dX4_order_68 (by decide) ?_
                  refine zw_goto C 73 dX4_order_69 (by decide) ?_
                  subst hF; exact kx
            · rw [if_pos h26] at hF
              refine zw_aload_n C dX4_order_45 0 rfl rfl ?_
              refine zw_iconst C (v := 2) dX4_order_46 (by decide) ?_
              refine zw_iload_n C dX4_order_47 3 rfl rfl ?_
              refine zw_calli C kvX4_153 (kX4_is (vp_in_iff.mpr ⟨by decide, by decide⟩) rfl) ⟨rfl, rfl, ⟨by decide, by decide⟩, by decide, by decide⟩ FX4 0 (As := [.int 2, .int p3]) (rest := []) rfl rfl rfl (Nat.le_of_ble_eq_true rfl) dX4_order_48 ?_
              refine zw_if_eq C 72 dX4_order_51 (by decide) (fun h29 => ?_) (fun h29 => ?_)
              · rw [if_pos h29] at hF
                refine zw_iconst C (v := 0) dX4_order_72 (by decide) ?_
                subst hF; exact kx
              · rw [if_neg h29] at hF
                refine zw_iload_n C dX4_order_54 1 rfl rfl ?_
                refine zw_iconst C (v := 3) dX4_order_55 (by decide) ?_
                refine zw_icmp_ne C 68 dX4_order_56 (by decide) (fun h30 => ?_) (fun h30 => ?_)
                · rw [if_neg h30] at hF
                  refine zw_iconst C (v := 1) dX4_order_68 (by decide) ?_
                  refine zw_goto C 73 dX4_order_69 (by decide) ?_
                  subst hF; exact kx
                · rw [if_pos h30] at hF
                  refine zw_aload_n C dX4_order_59 0 rfl rfl ?_
                  refine zw_iconst C (v := 1) dX4_order_60 (by decide) ?_
                  refine zw_iload_n C dX4_order_61 2 rfl rfl ?_
                  refine zw_calli C kvX4_153 (kX4_is (vp_in_iff.mpr ⟨by decide, by decide⟩) rfl) ⟨rfl, rfl, ⟨by decide, by decide⟩, by decide, by decide⟩ FX4 0 (As := [.int 1, .int p2]) (rest := []) rfl rfl rfl (Nat.le_of_ble_eq_true rfl) dX4_order_62 ?_
                  refine zw_if_eq C 72 dX4_order_65 (by decide) (fun h31 => ?_) (fun h31 => ?_)
                  · rw [if_pos h31] at hF
                    refine zw_iconst C (v := 0) dX4_order_72 (by decide) ?_
                    subst hF; exact kx
                  · rw [if_neg h31] at hF
                    refine zw_iconst C (v := 1) dX4_order_68 (by decide) ?_
                    refine zw_goto C 73 dX4_order_69 (by decide) ?_
                    subst hF; exact kx
def fX4_order (K0 : (Nat → Int32)) (K1 : (Nat → Int32)) (K2 : (Nat → Int32)) (K3 : (Nat → Int32)) (K4 : (Nat → Int64)) (E0 : (Nat → Int32)) (p1 : Int32) (p2 : Int32) (p3 : Int32) : Int32 × (Nat → Int32) × (Nat → Int32) × (Nat → Int32) × (Nat → Int32) × (Nat → Int64) × (Nat → Int32) := (zw_l (fX4_orderOk K0 p1 p2 p3) (fun q1 => (if q1 = 0 then ((-1), K0, K1, K2, K3, K4, E0) else (if (K0 (2 : Int32).toNatClampNeg) = 24 then ((-2), K0, K1, K2, K3, K4, E0) else (zw_l (fX4_made K0 K1 K2 K3 K4 E0 2 p1 p2 p3 0) (fun q5 => (q5.1, q5.2.1, q5.2.2.1, q5.2.2.2.1, q5.2.2.2.2.1, q5.2.2.2.2.2.1, q5.2.2.2.2.2.2)))))))
set_option maxHeartbeats 4000000 in
set_option maxRecDepth 100000 in
theorem kX4_order {l : Launch} {D : va_G} {cI cL : ClassId} {b : Nat → Nat} {B0 : Int32} {B1 : Int32} {B2 : Int64} {B3 : (Nat → Int64)} {B4 : (Nat → Int64)} {B5 : (Nat → Int32)} {B6 : (Nat → Int32)} {K0 : (Nat → Int32)} {K1 : (Nat → Int32)} {K2 : (Nat → Int32)} {K3 : (Nat → Int32)} {K4 : (Nat → Int64)} {E0 : (Nat → Int32)} {M0 : Int32} {M1 : (Nat → Int32)} {M2 : (Nat → Int32)} {M3 : (Nat → Int32)} {M4 : (Nat → Int32)} {M5 : (Nat → Int64)} {M6 : Int64} {M7 : Int32} {U0 : Int32} {U1 : Int32} {U2 : Int32} {U3 : Int32} {U4 : Int32} {U5 : Int32} {G0 : Int32} {G1 : (Nat → Int64)} {G2 : (Nat → Int32)} {G3 : (Nat → Int64)} {G4 : (Nat → Int32)} {N0 : (Nat → Int64)} {N1 : (Nat → Int32)} {N2 : (Nat → Int64)} {N3 : (Nat → Int32)} {p1 : Int32} {p2 : Int32} {p3 : Int32} {q : Int32 × (Nat → Int32) × (Nat → Int32) × (Nat → Int32) × (Nat → Int32) × (Nat → Int64) × (Nat → Int32)} {sn vn on : Nat} (hy1 : dm_K K0 sn vn on) (hF : fX4_order K0 K1 K2 K3 K4 E0 p1 p2 p3 = q) : zw_Mi l yX4_order cX4_order 5 .int D (zw_tys cI cL) (zw_rm 2 44) [.ref (b 0), .int p1, .int p2, .int p3] (wM cI cL b B0 B1 B2 B3 B4 B5 B6 K0 K1 K2 K3 K4 E0 M0 M1 M2 M3 M4 M5 M6 M7 U0 U1 U2 U3 U4 U5 G0 G1 G2 G3 G4 N0 N1 N2 N3) (wM cI cL b B0 B1 B2 B3 B4 B5 B6 q.2.1 q.2.2.1 q.2.2.2.1 q.2.2.2.2.1 q.2.2.2.2.2.1 q.2.2.2.2.2.2 M0 M1 M2 M3 M4 M5 M6 M7 U0 U1 U2 U3 U4 U5 G0 G1 G2 G3 G4 N0 N1 N2 N3) q.1 := by
  unfold fX4_order at hF
  refine zw_Mi_of (own := RX4) (by decide) rfl (Nat.le_of_ble_eq_true rfl) ?_
  intro p e s m args below meth c A C hr hlk
  refine zw_eq (lv2 := [(0, .ref (b 0)), (1, .int p1), (2, .int p2), (3, .int p3)]) rfl rfl rfl ?_
  obtain ⟨q1, e2⟩ : ∃ z, fX4_orderOk K0 p1 p2 p3 = z := ⟨_, rfl⟩
  rw [zw_l_eq e2] at hF
  refine kX4_orderOk C e2 ?_
  refine zw_istore C dX4_order_73 (by decide) rfl ?_
  refine zw_iload C dX4_order_75 0 rfl ?_
  refine zw_if_ne C 84 dX4_order_77 (by decide) (fun h3 => ?_) (fun h3 => ?_)
  · rw [if_neg h3] at hF
    refine zw_aload_n C dX4_order_84 1 rfl rfl ?_
    refine zw_get C FX4 0 5 (v := .ref (b 4)) rfl (by decide) lkX4_20 rfl dX4_order_85 ?_
    refine zw_iconst C (v := 2) dX4_order_88 (by decide) ?_
    refine zw_iald C 4 0 (f := K0) (i := 2) rfl rfl (vp_in_iff.mpr ⟨by decide, by decide⟩) dX4_order_89 ?_
    refine zw_bipush C (v := 24) dX4_order_90 (by decide) ?_
    refine zw_icmp_ne C 100 dX4_order_92 (by decide) (fun h4 => ?_) (fun h4 => ?_)
    · rw [if_neg h4] at hF
      refine zw_aload_n C dX4_order_100 1 rfl rfl ?_
      refine zw_iconst C (v := 2) dX4_order_101 (by decide) ?_
      refine zw_iload_n C dX4_order_102 2 rfl rfl ?_
      refine zw_iload_n C dX4_order_103 3 rfl rfl ?_
      refine zw_iload_n C dX4_order_104 4 rfl rfl ?_
      refine zw_lconst C (v := 0) dX4_order_105 (by decide) ?_
      obtain ⟨q5, e6⟩ : ∃ z, fX4_made K0 K1 K2 K3 K4 E0 2 p1 p2 p3 0 = z := ⟨_, rfl⟩
      rw [zw_l_eq e6] at hF
      refine zw_calli C kvX4_157 (kX4_made (vp_in_iff.mpr ⟨by decide, by decide⟩) (dm_made (j := 2) rfl (by decide) hy1.2.2.2.2.2 hy1.2.2.1 (by assumption)) e6) ⟨rfl, rfl, ⟨by decide, by decide⟩, by decide, by decide⟩ FX4 0 (As := [.int 2, .int p1, .int p2, .int p3, .long 0]) (rest := []) rfl rfl rfl (Nat.le_of_ble_eq_true rfl) dX4_order_106 ?_
      subst hF; dsimp only
      exact zw_ireturn C hr hlk dX4_order_109 rfl rfl
    · rw [if_pos h4] at hF
      refine zw_bipush C (v := (-2)) dX4_order_95 (by decide) ?_
      refine zw_goto C 109 dX4_order_97 (by decide) ?_
      subst hF; dsimp only
      exact zw_ireturn C hr hlk dX4_order_109 rfl rfl
  · rw [if_pos h3] at hF
    refine zw_iconst C (v := (-1)) dX4_order_80 (by decide) ?_
    refine zw_goto C 109 dX4_order_81 (by decide) ?_
    subst hF; dsimp only
    exact zw_ireturn C hr hlk dX4_order_109 rfl rfl
