def fX4_isThing (B0 : Int32) (p1 : Int32) : Int32 := fX4_in p1 0 (B0 - 1)
set_option maxHeartbeats 4000000 in
set_option maxRecDepth 100000 in
theorem kX4_isThing {l : Launch} {D : va_G} {cI cL : ClassId} {b : Nat → Nat} {B0 : Int32} {B1 : Int32} {B2 : Int64} {B3 : (Nat → Int64)} {B4 : (Nat → Int64)} {B5 : (Nat → Int32)} {B6 : (Nat → Int32)} {K0 : (Nat → Int32)} {K1 : (Nat → Int32)} {K2 : (Nat → Int32)} {K3 : (Nat → Int32)} {K4 : (Nat → Int64)} {E0 : (Nat → Int32)} {M0 : Int32} {M1 : (Nat → Int32)} {M2 : (Nat → Int32)} {M3 : (Nat → Int32)} {M4 : (Nat → Int32)} {M5 : (Nat → Int64)} {M6 : Int64} {M7 : Int32} {U0 : Int32} {U1 : Int32} {U2 : Int32} {U3 : Int32} {U4 : Int32} {U5 : Int32} {G0 : Int32} {G1 : (Nat → Int64)} {G2 : (Nat → Int32)} {G3 : (Nat → Int64)} {G4 : (Nat → Int32)} {N0 : (Nat → Int64)} {N1 : (Nat → Int32)} {N2 : (Nat → Int64)} {N3 : (Nat → Int32)} {p1 : Int32} {q : Int32} (hF : fX4_isThing B0 p1 = q) : zw_Mi l yX4_isThing cX4_isThing 2 .boolean D (zw_tys cI cL) (zw_rm 1 22) [.ref (b 0), .int p1] (wM cI cL b B0 B1 B2 B3 B4 B5 B6 K0 K1 K2 K3 K4 E0 M0 M1 M2 M3 M4 M5 M6 M7 U0 U1 U2 U3 U4 U5 G0 G1 G2 G3 G4 N0 N1 N2 N3) (wM cI cL b B0 B1 B2 B3 B4 B5 B6 K0 K1 K2 K3 K4 E0 M0 M1 M2 M3 M4 M5 M6 M7 U0 U1 U2 U3 U4 U5 G0 G1 G2 G3 G4 N0 N1 N2 N3) q := by
  unfold fX4_isThing at hF
  refine zw_Mi_of (own := RX4) (by decide) rfl (Nat.le_of_ble_eq_true rfl) ?_
  intro p e s m args below meth c A C hr hlk
  refine zw_eq (lv2 := [(0, .ref (b 0)), (1, .int p1)]) rfl rfl rfl ?_
  refine zw_iload_n C dX4_isThing_0 1 rfl rfl ?_
  refine zw_iconst C (v := 0) dX4_isThing_1 (by decide) ?_
  refine zw_aload_n C dX4_isThing_2 0 rfl rfl ?_
  refine zw_get C FX4 0 0 (v := .int B0) rfl (by decide) lkX4_80 rfl dX4_isThing_3 ?_
  refine zw_iconst C (v := 1) dX4_isThing_6 (by decide) ?_
  refine zw_isub C dX4_isThing_7 ?_
  refine zw_scalli C kvX4_84 (kX4_in rfl) ⟨rfl, rfl, ⟨by decide, by decide⟩, by decide, by decide⟩ (As := [.int p1, .int 0, .int (B0 - 1)]) (rest := []) rfl rfl (Nat.le_of_ble_eq_true rfl) dX4_isThing_8 ?_
  subst hF
  exact zw_zreturn C hr hlk (zw_nb bb_fX4_in) dX4_isThing_11 rfl rfl
def fX4_is (K0 : (Nat → Int32)) (p1 : Int32) (p2 : Int32) : Int32 := fX4_in p2 0 ((K0 p1.toNatClampNeg) - 1)
set_option maxHeartbeats 4000000 in
set_option maxRecDepth 100000 in
theorem kX4_is {l : Launch} {D : va_G} {cI cL : ClassId} {b : Nat → Nat} {B0 : Int32} {B1 : Int32} {B2 : Int64} {B3 : (Nat → Int64)} {B4 : (Nat → Int64)} {B5 : (Nat → Int32)} {B6 : (Nat → Int32)} {K0 : (Nat → Int32)} {K1 : (Nat → Int32)} {K2 : (Nat → Int32)} {K3 : (Nat → Int32)} {K4 : (Nat → Int64)} {E0 : (Nat → Int32)} {M0 : Int32} {M1 : (Nat → Int32)} {M2 : (Nat → Int32)} {M3 : (Nat → Int32)} {M4 : (Nat → Int32)} {M5 : (Nat → Int64)} {M6 : Int64} {M7 : Int32} {U0 : Int32} {U1 : Int32} {U2 : Int32} {U3 : Int32} {U4 : Int32} {U5 : Int32} {G0 : Int32} {G1 : (Nat → Int64)} {G2 : (Nat → Int32)} {G3 : (Nat → Int64)} {G4 : (Nat → Int32)} {N0 : (Nat → Int64)} {N1 : (Nat → Int32)} {N2 : (Nat → Int64)} {N3 : (Nat → Int32)} {p1 : Int32} {p2 : Int32} {q : Int32} (hy1 : vp_in p1 3) (hF : fX4_is K0 p1 p2 = q) : zw_Mi l yX4_is cX4_is 3 .boolean D (zw_tys cI cL) (zw_rm 1 22) [.ref (b 0), .int p1, .int p2] (wM cI cL b B0 B1 B2 B3 B4 B5 B6 K0 K1 K2 K3 K4 E0 M0 M1 M2 M3 M4 M5 M6 M7 U0 U1 U2 U3 U4 U5 G0 G1 G2 G3 G4 N0 N1 N2 N3) (wM cI cL b B0 B1 B2 B3 B4 B5 B6 K0 K1 K2 K3 K4 E0 M0 M1 M2 M3 M4 M5 M6 M7 U0 U1 U2 U3 U4 U5 G0 G1 G2 G3 G4 N0 N1 N2 N3) q := by
  unfold fX4_is at hF
  refine zw_Mi_of (own := RX4) (by decide) rfl (Nat.le_of_ble_eq_true rfl) ?_
  intro p e s m args below meth c A C hr hlk
  refine zw_eq (lv2 := [(0, .ref (b 0)), (1, .int p1), (2, .int p2)]) rfl rfl rfl ?_
  refine zw_iload_n C dX4_is_0 2 rfl rfl ?_
  refine zw_iconst C (v := 0) dX4_is_1 (by decide) ?_
  refine zw_aload_n C dX4_is_2 0 rfl rfl ?_
  refine zw_get C FX4 0 5 (v := .ref (b 4)) rfl (by decide) lkX4_20 rfl dX4_is_3 ?_
  refine zw_iload_n C dX4_is_6 1 rfl rfl ?_
  refine zw_iald C 4 0 (f := K0) (i := p1) rfl rfl hy1 dX4_is_7 ?_
  refine zw_iconst C (v := 1) dX4_is_8 (by decide) ?_
  refine zw_isub C dX4_is_9 ?_
  refine zw_scalli C kvX4_84 (kX4_in rfl) ⟨rfl, rfl, ⟨by decide, by decide⟩, by decide, by decide⟩ (As := [.int p2, .int 0, .int ((K0 p1.toNatClampNeg) - 1)]) (rest := []) rfl rfl (Nat.le_of_ble_eq_true rfl) dX4_is_10 ?_
  subst hF
  exact zw_zreturn C hr hlk (zw_nb bb_fX4_in) dX4_is_13 rfl rfl
theorem dm_isThing {y : Int32} {x : Int32} {n : Nat} (h : ¬ fX4_isThing y x = 0) (hs : y = nI n) (hn : n ≤ 40) : ∃ j : Nat, j < n ∧ x = nI j := by
  unfold fX4_isThing at h
  rw [hs] at h
  exact dm_in0 (by omega) h
def fX4_thing (B0 : Int32) (B1 : Int32) (B3 : (Nat → Int64)) (B5 : (Nat → Int32)) (p1 : Int64) (p2 : Int64) (p3 : Int64) : Int32 × Int32 × Int32 × (Nat → Int64) × (Nat → Int32) := (if B0 = 40 then ((-2), B0, B1, B3, B5) else ((B0 + 1) - 1, B0 + 1, B1 + 1, (vp_updL (vp_updL (vp_updL B3 (3 * B0).toNatClampNeg p1) ((3 * B0) + 1).toNatClampNeg p2) ((3 * B0) + 2).toNatClampNeg p3), (upd B5 B1.toNatClampNeg B0)))
set_option maxHeartbeats 4000000 in
set_option maxRecDepth 100000 in
theorem kX4_thing {l : Launch} {D : va_G} {cI cL : ClassId} {b : Nat → Nat} {B0 : Int32} {B1 : Int32} {B2 : Int64} {B3 : (Nat → Int64)} {B4 : (Nat → Int64)} {B5 : (Nat → Int32)} {B6 : (Nat → Int32)} {K0 : (Nat → Int32)} {K1 : (Nat → Int32)} {K2 : (Nat → Int32)} {K3 : (Nat → Int32)} {K4 : (Nat → Int64)} {E0 : (Nat → Int32)} {M0 : Int32} {M1 : (Nat → Int32)} {M2 : (Nat → Int32)} {M3 : (Nat → Int32)} {M4 : (Nat → Int32)} {M5 : (Nat → Int64)} {M6 : Int64} {M7 : Int32} {U0 : Int32} {U1 : Int32} {U2 : Int32} {U3 : Int32} {U4 : Int32} {U5 : Int32} {G0 : Int32} {G1 : (Nat → Int64)} {G2 : (Nat → Int32)} {G3 : (Nat → Int64)} {G4 : (Nat → Int32)} {N0 : (Nat → Int64)} {N1 : (Nat → Int32)} {N2 : (Nat → Int64)} {N3 : (Nat → Int32)} {p1 : Int64} {p2 : Int64} {p3 : Int64} {q : Int32 × Int32 × Int32 × (Nat → Int64) × (Nat → Int32)} {n k : Nat} (hy1 : dm_B B0 B1 B5 n k) (hF : fX4_thing B0 B1 B3 B5 p1 p2 p3 = q) : zw_Mi l yX4_thing cX4_thing 7 .int D (zw_tys cI cL) (zw_rm 0 0) [.ref (b 0), .long p1, .long p2, .long p3] (wM cI cL b B0 B1 B2 B3 B4 B5 B6 K0 K1 K2 K3 K4 E0 M0 M1 M2 M3 M4 M5 M6 M7 U0 U1 U2 U3 U4 U5 G0 G1 G2 G3 G4 N0 N1 N2 N3) (wM cI cL b q.2.1 q.2.2.1 B2 q.2.2.2.1 B4 q.2.2.2.2 B6 K0 K1 K2 K3 K4 E0 M0 M1 M2 M3 M4 M5 M6 M7 U0 U1 U2 U3 U4 U5 G0 G1 G2 G3 G4 N0 N1 N2 N3) q.1 := by
  unfold fX4_thing at hF
  refine zw_Mi_of (own := RX4) (by decide) rfl (Nat.le_of_ble_eq_true rfl) ?_
  intro p e s m args below meth c A C hr hlk
  refine zw_eq (lv2 := [(0, .ref (b 0)), (1, .long p1), (3, .long p2), (5, .long p3)]) rfl rfl rfl ?_
  refine zw_aload_n C dX4_thing_0 0 rfl rfl ?_
  refine zw_get C FX4 0 0 (v := .int B0) rfl (by decide) lkX4_80 rfl dX4_thing_1 ?_
  refine zw_bipush C (v := 40) dX4_thing_4 (by decide) ?_
  refine zw_icmp_ne C 12 dX4_thing_6 (by decide) (fun h1 => ?_) (fun h1 => ?_)
  · rw [if_neg h1] at hF
    refine zw_aload_n C dX4_thing_12 0 rfl rfl ?_
    refine zw_get C FX4 0 1 (v := .ref (b 1)) rfl (by decide) lkX4_7 rfl dX4_thing_13 ?_
    refine zw_iconst C (v := 3) dX4_thing_16 (by decide) ?_
    refine zw_aload_n C dX4_thing_17 0 rfl rfl ?_
    refine zw_get C FX4 0 0 (v := .int B0) rfl (by decide) lkX4_80 rfl dX4_thing_18 ?_
    refine zw_imul C dX4_thing_21 ?_
    refine zw_lload_n C dX4_thing_22 1 rfl rfl ?_
    refine zw_last C 1 1 (f := B3) (i := (3 * B0)) (ws2 := (wM cI cL b B0 B1 B2 (vp_updL B3 (3 * B0).toNatClampNeg p1) B4 B5 B6 K0 K1 K2 K3 K4 E0 M0 M1 M2 M3 M4 M5 M6 M7 U0 U1 U2 U3 U4 U5 G0 G1 G2 G3 G4 N0 N1 N2 N3)) rfl rfl (dm_cell0 (dm_full hy1 (by assumption)) hy1.2.2.1) rfl dX4_thing_23 ?_
    refine zw_aload_n C dX4_thing_24 0 rfl rfl ?_
    refine zw_get C FX4 0 1 (v := .ref (b 1)) rfl (by decide) lkX4_7 rfl dX4_thing_25 ?_
    refine zw_iconst C (v := 3) dX4_thing_28 (by decide) ?_
    refine zw_aload_n C dX4_thing_29 0 rfl rfl ?_
    refine zw_get C FX4 0 0 (v := .int B0) rfl (by decide) lkX4_80 rfl dX4_thing_30 ?_
    refine zw_imul C dX4_thing_33 ?_
    refine zw_iconst C (v := 1) dX4_thing_34 (by decide) ?_
    refine zw_iadd C dX4_thing_35 ?_
    refine zw_lload_n C dX4_thing_36 2 rfl rfl ?_
    refine zw_last C 1 1 (f := (vp_updL B3 (3 * B0).toNatClampNeg p1)) (i := ((3 * B0) + 1)) (ws2 := (wM cI cL b B0 B1 B2 (vp_updL (vp_updL B3 (3 * B0).toNatClampNeg p1) ((3 * B0) + 1).toNatClampNeg p2) B4 B5 B6 K0 K1 K2 K3 K4 E0 M0 M1 M2 M3 M4 M5 M6 M7 U0 U1 U2 U3 U4 U5 G0 G1 G2 G3 G4 N0 N1 N2 N3)) rfl rfl (dm_cell (x := B0) (y := 1) (dm_full hy1 (by assumption)) (c := 1) (by decide) hy1.2.2.1 rfl).2 rfl dX4_thing_37 ?_
    refine zw_aload_n C dX4_thing_38 0 rfl rfl ?_
    refine zw_get C FX4 0 1 (v := .ref (b 1)) rfl (by decide) lkX4_7 rfl dX4_thing_39 ?_
    refine zw_iconst C (v := 3) dX4_thing_42 (by decide) ?_
    refine zw_aload_n C dX4_thing_43 0 rfl rfl ?_
    refine zw_get C FX4 0 0 (v := .int B0) rfl (by decide) lkX4_80 rfl dX4_thing_44 ?_
    refine zw_imul C dX4_thing_47 ?_
    refine zw_iconst C (v := 2) dX4_thing_48 (by decide) ?_
    refine zw_iadd C dX4_thing_49 ?_
    refine zw_lload C dX4_thing_50 3 rfl ?_
    refine zw_last C 1 1 (f := (vp_updL (vp_updL B3 (3 * B0).toNatClampNeg p1) ((3 * B0) + 1).toNatClampNeg p2)) (i := ((3 * B0) + 2)) (ws2 := (wM cI cL b B0 B1 B2 (vp_updL (vp_updL (vp_updL B3 (3 * B0).toNatClampNeg p1) ((3 * B0) + 1).toNatClampNeg p2) ((3 * B0) + 2).toNatClampNeg p3) B4 B5 B6 K0 K1 K2 K3 K4 E0 M0 M1 M2 M3 M4 M5 M6 M7 U0 U1 U2 U3 U4 U5 G0 G1 G2 G3 G4 N0 N1 N2 N3)) rfl rfl (dm_cell (x := B0) (y := 2) (dm_full hy1 (by assumption)) (c := 2) (by decide) hy1.2.2.1 rfl).2 rfl dX4_thing_52 ?_
    refine zw_aload_n C dX4_thing_53 0 rfl rfl ?_
    refine zw_get C FX4 0 4 (v := .ref (b 3)) rfl (by decide) lkX4_16 rfl dX4_thing_54 ?_
    refine zw_aload_n C dX4_thing_57 0 rfl rfl ?_
    refine zw_get C FX4 0 3 (v := .int B1) rfl (by decide) lkX4_88 rfl dX4_thing_58 ?_
    refine zw_aload_n C dX4_thing_61 0 rfl rfl ?_
    refine zw_get C FX4 0 0 (v := .int B0) rfl (by decide) lkX4_80 rfl dX4_thing_62 ?_
    refine zw_iast C 3 0 (f := B5) (i := B1) (ws2 := (wM cI cL b B0 B1 B2 (vp_updL (vp_updL (vp_updL B3 (3 * B0).toNatClampNeg p1) ((3 * B0) + 1).toNatClampNeg p2) ((3 * B0) + 2).toNatClampNeg p3) B4 (upd B5 B1.toNatClampNeg B0) B6 K0 K1 K2 K3 K4 E0 M0 M1 M2 M3 M4 M5 M6 M7 U0 U1 U2 U3 U4 U5 G0 G1 G2 G3 G4 N0 N1 N2 N3)) rfl rfl (by rw [hy1.2.2.2.1]; exact vp_in_nI (by have := dm_full hy1 (by assumption); have := hy1.2.1; omega) (by decide)) rfl dX4_thing_65 ?_
    refine zw_aload_n C dX4_thing_66 0 rfl rfl ?_
    refine zw_dup C dX4_thing_67 rfl ?_
    refine zw_get C FX4 0 3 (v := .int B1) rfl (by decide) lkX4_88 rfl dX4_thing_68 ?_
    refine zw_iconst C (v := 1) dX4_thing_71 (by decide) ?_
    refine zw_iadd C dX4_thing_72 ?_
    refine zw_put C FX4 GX4 0 3 (v := .int (B1 + 1)) (ws2 := (wM cI cL b B0 (B1 + 1) B2 (vp_updL (vp_updL (vp_updL B3 (3 * B0).toNatClampNeg p1) ((3 * B0) + 1).toNatClampNeg p2) ((3 * B0) + 2).toNatClampNeg p3) B4 (upd B5 B1.toNatClampNeg B0) B6 K0 K1 K2 K3 K4 E0 M0 M1 M2 M3 M4 M5 M6 M7 U0 U1 U2 U3 U4 U5 G0 G1 G2 G3 G4 N0 N1 N2 N3)) rfl (by decide) lkX4_88 rfl rfl rfl (Nat.le_of_ble_eq_true rfl) rfl dX4_thing_73 ?_
    refine zw_aload_n C dX4_thing_76 0 rfl rfl ?_
    refine zw_dup C dX4_thing_77 rfl ?_
    refine zw_get C FX4 0 0 (v := .int B0) rfl (by decide) lkX4_80 rfl dX4_thing_78 ?_
    refine zw_iconst C (v := 1) dX4_thing_81 (by decide) ?_
    refine zw_iadd C dX4_thing_82 ?_
    refine zw_put C FX4 GX4 0 0 (v := .int (B0 + 1)) (ws2 := (wM cI cL b (B0 + 1) (B1 + 1) B2 (vp_updL (vp_updL (vp_updL B3 (3 * B0).toNatClampNeg p1) ((3 * B0) + 1).toNatClampNeg p2) ((3 * B0) + 2).toNatClampNeg p3) B4 (upd B5 B1.toNatClampNeg B0) B6 K0 K1 K2 K3 K4 E0 M0 M1 M2 M3 M4 M5 M6 M7 U0 U1 U2 U3 U4 U5 G0 G1 G2 G3 G4 N0 N1 N2 N3)) rfl (by decide) lkX4_80 rfl rfl rfl (Nat.le_of_ble_eq_true rfl) rfl dX4_thing_83 ?_
    refine zw_aload_n C dX4_thing_86 0 rfl rfl ?_
    refine zw_get C FX4 0 0 (v := .int (B0 + 1)) rfl (by decide) lkX4_80 rfl dX4_thing_87 ?_
    refine zw_iconst C (v := 1) dX4_thing_90 (by decide) ?_
    refine zw_isub C dX4_thing_91 ?_
    subst hF; dsimp only
    exact zw_ireturn C hr hlk dX4_thing_92 rfl rfl
  · rw [if_pos h1] at hF
    refine zw_bipush C (v := (-2)) dX4_thing_9 (by decide) ?_
    subst hF; dsimp only
    exact zw_ireturn C hr hlk dX4_thing_11 rfl rfl
def fX4_change (B0 : Int32) (B3 : (Nat → Int64)) (p1 : Int32) (p2 : Int32) (p3 : Int64) : Int32 × (Nat → Int64) := (if (fX4_isThing B0 p1) = 0 then ((-1), B3) else (if (fX4_in p2 0 2) = 0 then ((-1), B3) else (1, (vp_updL B3 ((3 * p1) + p2).toNatClampNeg p3))))
set_option maxHeartbeats 4000000 in
set_option maxRecDepth 100000 in
theorem kX4_change {l : Launch} {D : va_G} {cI cL : ClassId} {b : Nat → Nat} {B0 : Int32} {B1 : Int32} {B2 : Int64} {B3 : (Nat → Int64)} {B4 : (Nat → Int64)} {B5 : (Nat → Int32)} {B6 : (Nat → Int32)} {K0 : (Nat → Int32)} {K1 : (Nat → Int32)} {K2 : (Nat → Int32)} {K3 : (Nat → Int32)} {K4 : (Nat → Int64)} {E0 : (Nat → Int32)} {M0 : Int32} {M1 : (Nat → Int32)} {M2 : (Nat → Int32)} {M3 : (Nat → Int32)} {M4 : (Nat → Int32)} {M5 : (Nat → Int64)} {M6 : Int64} {M7 : Int32} {U0 : Int32} {U1 : Int32} {U2 : Int32} {U3 : Int32} {U4 : Int32} {U5 : Int32} {G0 : Int32} {G1 : (Nat → Int64)} {G2 : (Nat → Int32)} {G3 : (Nat → Int64)} {G4 : (Nat → Int32)} {N0 : (Nat → Int64)} {N1 : (Nat → Int32)} {N2 : (Nat → Int64)} {N3 : (Nat → Int32)} {p1 : Int32} {p2 : Int32} {p3 : Int64} {q : Int32 × (Nat → Int64)} {n k : Nat} (hy1 : dm_B B0 B1 B5 n k) (hF : fX4_change B0 B3 p1 p2 p3 = q) : zw_Mi l yX4_change cX4_change 5 .int D (zw_tys cI cL) (zw_rm 2 43) [.ref (b 0), .int p1, .int p2, .long p3] (wM cI cL b B0 B1 B2 B3 B4 B5 B6 K0 K1 K2 K3 K4 E0 M0 M1 M2 M3 M4 M5 M6 M7 U0 U1 U2 U3 U4 U5 G0 G1 G2 G3 G4 N0 N1 N2 N3) (wM cI cL b B0 B1 B2 q.2 B4 B5 B6 K0 K1 K2 K3 K4 E0 M0 M1 M2 M3 M4 M5 M6 M7 U0 U1 U2 U3 U4 U5 G0 G1 G2 G3 G4 N0 N1 N2 N3) q.1 := by
  unfold fX4_change at hF
  refine zw_Mi_of (own := RX4) (by decide) rfl (Nat.le_of_ble_eq_true rfl) ?_
  intro p e s m args below meth c A C hr hlk
  refine zw_eq (lv2 := [(0, .ref (b 0)), (1, .int p1), (2, .int p2), (3, .long p3)]) rfl rfl rfl ?_
  refine zw_aload_n C dX4_change_0 0 rfl rfl ?_
  refine zw_iload_n C dX4_change_1 1 rfl rfl ?_
  refine zw_calli C kvX4_91 (kX4_isThing rfl) ⟨rfl, rfl, ⟨by decide, by decide⟩, by decide, by decide⟩ FX4 0 (As := [.int p1]) (rest := []) rfl rfl rfl (Nat.le_of_ble_eq_true rfl) dX4_change_2 ?_
  refine zw_if_eq C 17 dX4_change_5 (by decide) (fun h1 => ?_) (fun h1 => ?_)
  · rw [if_pos h1] at hF
    refine zw_iconst C (v := (-1)) dX4_change_17 (by decide) ?_
    subst hF; dsimp only
    exact zw_ireturn C hr hlk dX4_change_18 rfl rfl
  · rw [if_neg h1] at hF
    refine zw_iload_n C dX4_change_8 2 rfl rfl ?_
    refine zw_iconst C (v := 0) dX4_change_9 (by decide) ?_
    refine zw_iconst C (v := 2) dX4_change_10 (by decide) ?_
    refine zw_scalli C kvX4_84 (kX4_in rfl) ⟨rfl, rfl, ⟨by decide, by decide⟩, by decide, by decide⟩ (As := [.int p2, .int 0, .int 2]) (rest := []) rfl rfl (Nat.le_of_ble_eq_true rfl) dX4_change_11 ?_
    refine zw_if_ne C 19 dX4_change_14 (by decide) (fun h2 => ?_) (fun h2 => ?_)
    · rw [if_neg h2] at hF
      refine zw_aload_n C dX4_change_19 0 rfl rfl ?_
      refine zw_get C FX4 0 1 (v := .ref (b 1)) rfl (by decide) lkX4_7 rfl dX4_change_20 ?_
      refine zw_iconst C (v := 3) dX4_change_23 (by decide) ?_
      refine zw_iload_n C dX4_change_24 1 rfl rfl ?_
      refine zw_imul C dX4_change_25 ?_
      refine zw_iload_n C dX4_change_26 2 rfl rfl ?_
      refine zw_iadd C dX4_change_27 ?_
      refine zw_lload_n C dX4_change_28 3 rfl rfl ?_
      refine zw_last C 1 1 (f := B3) (i := ((3 * p1) + p2)) (ws2 := (wM cI cL b B0 B1 B2 (vp_updL B3 ((3 * p1) + p2).toNatClampNeg p3) B4 B5 B6 K0 K1 K2 K3 K4 E0 M0 M1 M2 M3 M4 M5 M6 M7 U0 U1 U2 U3 U4 U5 G0 G1 G2 G3 G4 N0 N1 N2 N3)) rfl rfl (by obtain ⟨j, hj, ej⟩ := dm_isThing (n := n) (by assumption) hy1.2.2.1 hy1.1; obtain ⟨i, hi, ei⟩ := dm_inC (n := 2) (by decide) rfl (by assumption); exact (dm_cell (by have := hy1.1; omega) (by omega) ej ei).2) rfl dX4_change_29 ?_
      refine zw_iconst C (v := 1) dX4_change_30 (by decide) ?_
      subst hF; dsimp only
      exact zw_ireturn C hr hlk dX4_change_31 rfl rfl
    · rw [if_pos h2] at hF
      refine zw_iconst C (v := (-1)) dX4_change_17 (by decide) ?_
      subst hF; dsimp only
      exact zw_ireturn C hr hlk dX4_change_18 rfl rfl
def fX4_get (B0 : Int32) (B3 : (Nat → Int64)) (p1 : Int32) (p2 : Int32) : Int64 := (if (fX4_isThing B0 p1) = 0 then 0 else (if (fX4_in p2 0 2) = 0 then 0 else B3 ((3 * p1) + p2).toNatClampNeg))
set_option maxHeartbeats 4000000 in
set_option maxRecDepth 100000 in
theorem kX4_get {l : Launch} {D : va_G} {cI cL : ClassId} {b : Nat → Nat} {B0 : Int32} {B1 : Int32} {B2 : Int64} {B3 : (Nat → Int64)} {B4 : (Nat → Int64)} {B5 : (Nat → Int32)} {B6 : (Nat → Int32)} {K0 : (Nat → Int32)} {K1 : (Nat → Int32)} {K2 : (Nat → Int32)} {K3 : (Nat → Int32)} {K4 : (Nat → Int64)} {E0 : (Nat → Int32)} {M0 : Int32} {M1 : (Nat → Int32)} {M2 : (Nat → Int32)} {M3 : (Nat → Int32)} {M4 : (Nat → Int32)} {M5 : (Nat → Int64)} {M6 : Int64} {M7 : Int32} {U0 : Int32} {U1 : Int32} {U2 : Int32} {U3 : Int32} {U4 : Int32} {U5 : Int32} {G0 : Int32} {G1 : (Nat → Int64)} {G2 : (Nat → Int32)} {G3 : (Nat → Int64)} {G4 : (Nat → Int32)} {N0 : (Nat → Int64)} {N1 : (Nat → Int32)} {N2 : (Nat → Int64)} {N3 : (Nat → Int32)} {p1 : Int32} {p2 : Int32} {q : Int64} {n k : Nat} (hy1 : dm_B B0 B1 B5 n k) (hF : fX4_get B0 B3 p1 p2 = q) : zw_Ml l yX4_get cX4_get 3 D (zw_tys cI cL) (zw_rm 2 43) [.ref (b 0), .int p1, .int p2] (wM cI cL b B0 B1 B2 B3 B4 B5 B6 K0 K1 K2 K3 K4 E0 M0 M1 M2 M3 M4 M5 M6 M7 U0 U1 U2 U3 U4 U5 G0 G1 G2 G3 G4 N0 N1 N2 N3) (wM cI cL b B0 B1 B2 B3 B4 B5 B6 K0 K1 K2 K3 K4 E0 M0 M1 M2 M3 M4 M5 M6 M7 U0 U1 U2 U3 U4 U5 G0 G1 G2 G3 G4 N0 N1 N2 N3) q := by
  unfold fX4_get at hF
  refine zw_Ml_of (own := RX4) (by decide) rfl (Nat.le_of_ble_eq_true rfl) ?_
  intro p e s m args below meth c A C hr hlk
  refine zw_eq (lv2 := [(0, .ref (b 0)), (1, .int p1), (2, .int p2)]) rfl rfl rfl ?_
  refine zw_aload_n C dX4_get_0 0 rfl rfl ?_
  refine zw_iload_n C dX4_get_1 1 rfl rfl ?_
  refine zw_calli C kvX4_91 (kX4_isThing rfl) ⟨rfl, rfl, ⟨by decide, by decide⟩, by decide, by decide⟩ FX4 0 (As := [.int p1]) (rest := []) rfl rfl rfl (Nat.le_of_ble_eq_true rfl) dX4_get_2 ?_
  refine zw_if_eq C 30 dX4_get_5 (by decide) (fun h1 => ?_) (fun h1 => ?_)
  · rw [if_pos h1] at hF
    refine zw_lconst C (v := 0) dX4_get_30 (by decide) ?_
    subst hF
    exact zw_lreturn C hr hlk dX4_get_31 rfl rfl
  · rw [if_neg h1] at hF
    refine zw_iload_n C dX4_get_8 2 rfl rfl ?_
    refine zw_iconst C (v := 0) dX4_get_9 (by decide) ?_
    refine zw_iconst C (v := 2) dX4_get_10 (by decide) ?_
    refine zw_scalli C kvX4_84 (kX4_in rfl) ⟨rfl, rfl, ⟨by decide, by decide⟩, by decide, by decide⟩ (As := [.int p2, .int 0, .int 2]) (rest := []) rfl rfl (Nat.le_of_ble_eq_true rfl) dX4_get_11 ?_
    refine zw_if_eq C 30 dX4_get_14 (by decide) (fun h2 => ?_) (fun h2 => ?_)
    · rw [if_pos h2] at hF
      refine zw_lconst C (v := 0) dX4_get_30 (by decide) ?_
      subst hF
      exact zw_lreturn C hr hlk dX4_get_31 rfl rfl
    · rw [if_neg h2] at hF
      refine zw_aload_n C dX4_get_17 0 rfl rfl ?_
      refine zw_get C FX4 0 1 (v := .ref (b 1)) rfl (by decide) lkX4_7 rfl dX4_get_18 ?_
      refine zw_iconst C (v := 3) dX4_get_21 (by decide) ?_
      refine zw_iload_n C dX4_get_22 1 rfl rfl ?_
      refine zw_imul C dX4_get_23 ?_
      refine zw_iload_n C dX4_get_24 2 rfl rfl ?_
      refine zw_iadd C dX4_get_25 ?_
      refine zw_lald C 1 1 (f := B3) (i := ((3 * p1) + p2)) rfl rfl (by obtain ⟨j, hj, ej⟩ := dm_isThing (n := n) (by assumption) hy1.2.2.1 hy1.1; obtain ⟨i, hi, ei⟩ := dm_inC (n := 2) (by decide) rfl (by assumption); exact (dm_cell (by have := hy1.1; omega) (by omega) ej ei).2) dX4_get_26 ?_
      refine zw_goto C 31 dX4_get_27 (by decide) ?_
      subst hF
      exact zw_lreturn C hr hlk dX4_get_31 rfl rfl
def fX4_item (B4 : (Nat → Int64)) (p1 : Int32) (p2 : Int64) : Int32 × (Nat → Int64) := (if (fX4_in p1 0 7) = 0 then ((-1), B4) else (1, (vp_updL B4 p1.toNatClampNeg p2)))
set_option maxHeartbeats 4000000 in
set_option maxRecDepth 100000 in
theorem kX4_item {l : Launch} {D : va_G} {cI cL : ClassId} {b : Nat → Nat} {B0 : Int32} {B1 : Int32} {B2 : Int64} {B3 : (Nat → Int64)} {B4 : (Nat → Int64)} {B5 : (Nat → Int32)} {B6 : (Nat → Int32)} {K0 : (Nat → Int32)} {K1 : (Nat → Int32)} {K2 : (Nat → Int32)} {K3 : (Nat → Int32)} {K4 : (Nat → Int64)} {E0 : (Nat → Int32)} {M0 : Int32} {M1 : (Nat → Int32)} {M2 : (Nat → Int32)} {M3 : (Nat → Int32)} {M4 : (Nat → Int32)} {M5 : (Nat → Int64)} {M6 : Int64} {M7 : Int32} {U0 : Int32} {U1 : Int32} {U2 : Int32} {U3 : Int32} {U4 : Int32} {U5 : Int32} {G0 : Int32} {G1 : (Nat → Int64)} {G2 : (Nat → Int32)} {G3 : (Nat → Int64)} {G4 : (Nat → Int32)} {N0 : (Nat → Int64)} {N1 : (Nat → Int32)} {N2 : (Nat → Int64)} {N3 : (Nat → Int32)} {p1 : Int32} {p2 : Int64} {q : Int32 × (Nat → Int64)} (hF : fX4_item B4 p1 p2 = q) : zw_Mi l yX4_item cX4_item 4 .int D (zw_tys cI cL) (zw_rm 1 22) [.ref (b 0), .int p1, .long p2] (wM cI cL b B0 B1 B2 B3 B4 B5 B6 K0 K1 K2 K3 K4 E0 M0 M1 M2 M3 M4 M5 M6 M7 U0 U1 U2 U3 U4 U5 G0 G1 G2 G3 G4 N0 N1 N2 N3) (wM cI cL b B0 B1 B2 B3 q.2 B5 B6 K0 K1 K2 K3 K4 E0 M0 M1 M2 M3 M4 M5 M6 M7 U0 U1 U2 U3 U4 U5 G0 G1 G2 G3 G4 N0 N1 N2 N3) q.1 := by
  unfold fX4_item at hF
  refine zw_Mi_of (own := RX4) (by decide) rfl (Nat.le_of_ble_eq_true rfl) ?_
  intro p e s m args below meth c A C hr hlk
  refine zw_eq (lv2 := [(0, .ref (b 0)), (1, .int p1), (2, .long p2)]) rfl rfl rfl ?_
  refine zw_iload_n C dX4_item_0 1 rfl rfl ?_
  refine zw_iconst C (v := 0) dX4_item_1 (by decide) ?_
  refine zw_bipush C (v := 7) dX4_item_2 (by decide) ?_
  refine zw_scalli C kvX4_84 (kX4_in rfl) ⟨rfl, rfl, ⟨by decide, by decide⟩, by decide, by decide⟩ (As := [.int p1, .int 0, .int 7]) (rest := []) rfl rfl (Nat.le_of_ble_eq_true rfl) dX4_item_4 ?_
  refine zw_if_ne C 12 dX4_item_7 (by decide) (fun h1 => ?_) (fun h1 => ?_)
  · rw [if_neg h1] at hF
    refine zw_aload_n C dX4_item_12 0 rfl rfl ?_
    refine zw_get C FX4 0 2 (v := .ref (b 2)) rfl (by decide) lkX4_13 rfl dX4_item_13 ?_
    refine zw_iload_n C dX4_item_16 1 rfl rfl ?_
    refine zw_lload_n C dX4_item_17 2 rfl rfl ?_
    refine zw_last C 2 1 (f := B4) (i := p1) (ws2 := (wM cI cL b B0 B1 B2 B3 (vp_updL B4 p1.toNatClampNeg p2) B5 B6 K0 K1 K2 K3 K4 E0 M0 M1 M2 M3 M4 M5 M6 M7 U0 U1 U2 U3 U4 U5 G0 G1 G2 G3 G4 N0 N1 N2 N3)) rfl rfl (by obtain ⟨j, hj, ej⟩ := dm_inC (n := 7) (by decide) rfl (by assumption); rw [ej]; exact vp_in_nI (by omega) (by decide)) rfl dX4_item_18 ?_
    refine zw_iconst C (v := 1) dX4_item_19 (by decide) ?_
    subst hF; dsimp only
    exact zw_ireturn C hr hlk dX4_item_20 rfl rfl
  · rw [if_pos h1] at hF
    refine zw_iconst C (v := (-1)) dX4_item_10 (by decide) ?_
    subst hF; dsimp only
    exact zw_ireturn C hr hlk dX4_item_11 rfl rfl
def fX4_list (B1 : Int32) (B5 : (Nat → Int32)) (p1 : Int32) : Int32 := (if (fX4_in p1 0 (B1 - 1)) = 0 then (-1) else B5 p1.toNatClampNeg)
set_option maxHeartbeats 4000000 in
set_option maxRecDepth 100000 in
theorem kX4_list {l : Launch} {D : va_G} {cI cL : ClassId} {b : Nat → Nat} {B0 : Int32} {B1 : Int32} {B2 : Int64} {B3 : (Nat → Int64)} {B4 : (Nat → Int64)} {B5 : (Nat → Int32)} {B6 : (Nat → Int32)} {K0 : (Nat → Int32)} {K1 : (Nat → Int32)} {K2 : (Nat → Int32)} {K3 : (Nat → Int32)} {K4 : (Nat → Int64)} {E0 : (Nat → Int32)} {M0 : Int32} {M1 : (Nat → Int32)} {M2 : (Nat → Int32)} {M3 : (Nat → Int32)} {M4 : (Nat → Int32)} {M5 : (Nat → Int64)} {M6 : Int64} {M7 : Int32} {U0 : Int32} {U1 : Int32} {U2 : Int32} {U3 : Int32} {U4 : Int32} {U5 : Int32} {G0 : Int32} {G1 : (Nat → Int64)} {G2 : (Nat → Int32)} {G3 : (Nat → Int64)} {G4 : (Nat → Int32)} {N0 : (Nat → Int64)} {N1 : (Nat → Int32)} {N2 : (Nat → Int64)} {N3 : (Nat → Int32)} {p1 : Int32} {q : Int32} {n k : Nat} (hy1 : dm_B B0 B1 B5 n k) (hF : fX4_list B1 B5 p1 = q) : zw_Mi l yX4_list cX4_list 2 .int D (zw_tys cI cL) (zw_rm 1 22) [.ref (b 0), .int p1] (wM cI cL b B0 B1 B2 B3 B4 B5 B6 K0 K1 K2 K3 K4 E0 M0 M1 M2 M3 M4 M5 M6 M7 U0 U1 U2 U3 U4 U5 G0 G1 G2 G3 G4 N0 N1 N2 N3) (wM cI cL b B0 B1 B2 B3 B4 B5 B6 K0 K1 K2 K3 K4 E0 M0 M1 M2 M3 M4 M5 M6 M7 U0 U1 U2 U3 U4 U5 G0 G1 G2 G3 G4 N0 N1 N2 N3) q := by
  unfold fX4_list at hF
  refine zw_Mi_of (own := RX4) (by decide) rfl (Nat.le_of_ble_eq_true rfl) ?_
  intro p e s m args below meth c A C hr hlk
  refine zw_eq (lv2 := [(0, .ref (b 0)), (1, .int p1)]) rfl rfl rfl ?_
  refine zw_iload_n C dX4_list_0 1 rfl rfl ?_
  refine zw_iconst C (v := 0) dX4_list_1 (by decide) ?_
  refine zw_aload_n C dX4_list_2 0 rfl rfl ?_
  refine zw_get C FX4 0 3 (v := .int B1) rfl (by decide) lkX4_88 rfl dX4_list_3 ?_
  refine zw_iconst C (v := 1) dX4_list_6 (by decide) ?_
  refine zw_isub C dX4_list_7 ?_
  refine zw_scalli C kvX4_84 (kX4_in rfl) ⟨rfl, rfl, ⟨by decide, by decide⟩, by decide, by decide⟩ (As := [.int p1, .int 0, .int (B1 - 1)]) (rest := []) rfl rfl (Nat.le_of_ble_eq_true rfl) dX4_list_8 ?_
  refine zw_if_eq C 23 dX4_list_11 (by decide) (fun h1 => ?_) (fun h1 => ?_)
  · rw [if_pos h1] at hF
    refine zw_iconst C (v := (-1)) dX4_list_23 (by decide) ?_
    subst hF
    exact zw_ireturn C hr hlk dX4_list_24 rfl rfl
  · rw [if_neg h1] at hF
    refine zw_aload_n C dX4_list_14 0 rfl rfl ?_
    refine zw_get C FX4 0 4 (v := .ref (b 3)) rfl (by decide) lkX4_16 rfl dX4_list_15 ?_
    refine zw_iload_n C dX4_list_18 1 rfl rfl ?_
    refine zw_iald C 3 0 (f := B5) (i := p1) rfl rfl (by have h9 := (by assumption : ¬ fX4_in p1 0 (B1 - 1) = 0); rw [hy1.2.2.2.1] at h9; obtain ⟨j, hj, ej⟩ := dm_in0 (by have := hy1.1; have := hy1.2.1; omega) h9; rw [ej]; exact vp_in_nI (by have := hy1.1; have := hy1.2.1; omega) (by decide)) dX4_list_19 ?_
    refine zw_goto C 24 dX4_list_20 (by decide) ?_
    subst hF
    exact zw_ireturn C hr hlk dX4_list_24 rfl rfl
def fX4_groups (G0 : Int32) (G1 : (Nat → Int64)) (G2 : (Nat → Int32)) (G3 : (Nat → Int64)) (G4 : (Nat → Int32)) (p1 : Int32) (p2 : Int32) : Int64 := (if (fX4_in p1 0 (G0 - 1)) = 0 then 0 else (if p2 = 0 then G1 p1.toNatClampNeg else (if p2 = 1 then (G2 p1.toNatClampNeg).toInt64 else (if p2 = 2 then G3 p1.toNatClampNeg else (if p2 = 3 then (G4 p1.toNatClampNeg).toInt64 else 0)))))
set_option maxHeartbeats 4000000 in
set_option maxRecDepth 100000 in
theorem kX4_groups {l : Launch} {D : va_G} {cI cL : ClassId} {b : Nat → Nat} {B0 : Int32} {B1 : Int32} {B2 : Int64} {B3 : (Nat → Int64)} {B4 : (Nat → Int64)} {B5 : (Nat → Int32)} {B6 : (Nat → Int32)} {K0 : (Nat → Int32)} {K1 : (Nat → Int32)} {K2 : (Nat → Int32)} {K3 : (Nat → Int32)} {K4 : (Nat → Int64)} {E0 : (Nat → Int32)} {M0 : Int32} {M1 : (Nat → Int32)} {M2 : (Nat → Int32)} {M3 : (Nat → Int32)} {M4 : (Nat → Int32)} {M5 : (Nat → Int64)} {M6 : Int64} {M7 : Int32} {U0 : Int32} {U1 : Int32} {U2 : Int32} {U3 : Int32} {U4 : Int32} {U5 : Int32} {G0 : Int32} {G1 : (Nat → Int64)} {G2 : (Nat → Int32)} {G3 : (Nat → Int64)} {G4 : (Nat → Int32)} {N0 : (Nat → Int64)} {N1 : (Nat → Int32)} {N2 : (Nat → Int64)} {N3 : (Nat → Int32)} {p1 : Int32} {p2 : Int32} {q : Int64} {g : Nat} (hy1 : g ≤ 40) (hy2 : G0 = nI g) (hF : fX4_groups G0 G1 G2 G3 G4 p1 p2 = q) : zw_Ml l yX4_groups cX4_groups 3 D (zw_tys cI cL) (zw_rm 1 22) [.ref (b 0), .int p1, .int p2] (wM cI cL b B0 B1 B2 B3 B4 B5 B6 K0 K1 K2 K3 K4 E0 M0 M1 M2 M3 M4 M5 M6 M7 U0 U1 U2 U3 U4 U5 G0 G1 G2 G3 G4 N0 N1 N2 N3) (wM cI cL b B0 B1 B2 B3 B4 B5 B6 K0 K1 K2 K3 K4 E0 M0 M1 M2 M3 M4 M5 M6 M7 U0 U1 U2 U3 U4 U5 G0 G1 G2 G3 G4 N0 N1 N2 N3) q := by
  unfold fX4_groups at hF
  refine zw_Ml_of (own := RX4) (by decide) rfl (Nat.le_of_ble_eq_true rfl) ?_
  intro p e s m args below meth c A C hr hlk
  refine zw_eq (lv2 := [(0, .ref (b 0)), (1, .int p1), (2, .int p2)]) rfl rfl rfl ?_
  refine zw_iload_n C dX4_groups_0 1 rfl rfl ?_
  refine zw_iconst C (v := 0) dX4_groups_1 (by decide) ?_
  refine zw_aload_n C dX4_groups_2 0 rfl rfl ?_
  refine zw_get C FX4 0 26 (v := .int G0) rfl (by decide) lkX4_175 rfl dX4_groups_3 ?_
  refine zw_iconst C (v := 1) dX4_groups_6 (by decide) ?_
  refine zw_isub C dX4_groups_7 ?_
  refine zw_scalli C kvX4_84 (kX4_in rfl) ⟨rfl, rfl, ⟨by decide, by decide⟩, by decide, by decide⟩ (As := [.int p1, .int 0, .int (G0 - 1)]) (rest := []) rfl rfl (Nat.le_of_ble_eq_true rfl) dX4_groups_8 ?_
  refine zw_if_ne C 16 dX4_groups_11 (by decide) (fun h1 => ?_) (fun h1 => ?_)
  · rw [if_neg h1] at hF
    refine zw_iload_n C dX4_groups_16 2 rfl rfl ?_
    refine zw_if_ne C 29 dX4_groups_17 (by decide) (fun h2 => ?_) (fun h2 => ?_)
    · rw [if_neg h2] at hF
      refine zw_iload_n C dX4_groups_29 2 rfl rfl ?_
      refine zw_iconst C (v := 1) dX4_groups_30 (by decide) ?_
      refine zw_icmp_ne C 44 dX4_groups_31 (by decide) (fun h3 => ?_) (fun h3 => ?_)
      · rw [if_neg h3] at hF
        refine zw_iload_n C dX4_groups_44 2 rfl rfl ?_
        refine zw_iconst C (v := 2) dX4_groups_45 (by decide) ?_
        refine zw_icmp_ne C 58 dX4_groups_46 (by decide) (fun h4 => ?_) (fun h4 => ?_)
        · rw [if_neg h4] at hF
          refine zw_iload_n C dX4_groups_58 2 rfl rfl ?_
          refine zw_iconst C (v := 3) dX4_groups_59 (by decide) ?_
          refine zw_icmp_ne C 73 dX4_groups_60 (by decide) (fun h5 => ?_) (fun h5 => ?_)
          · rw [if_neg h5] at hF
            refine zw_lconst C (v := 0) dX4_groups_73 (by decide) ?_
            subst hF
            exact zw_lreturn C hr hlk dX4_groups_74 rfl rfl
          · rw [if_pos h5] at hF
            refine zw_aload_n C dX4_groups_63 0 rfl rfl ?_
            refine zw_get C FX4 0 30 (v := .ref (b 18)) rfl (by decide) lkX4_62 rfl dX4_groups_64 ?_
            refine zw_iload_n C dX4_groups_67 1 rfl rfl ?_
            refine zw_iald C 18 0 (f := G4) (i := p1) rfl rfl (by have h9 := (by assumption : ¬ fX4_in p1 0 (G0 - 1) = 0); rw [hy2] at h9; obtain ⟨j, hj, ej⟩ := dm_in0 (by omega) h9; rw [ej]; exact vp_in_nI (by omega) (by decide)) dX4_groups_68 ?_
            refine zw_i2l C dX4_groups_69 ?_
            refine zw_goto C 74 dX4_groups_70 (by decide) ?_
            subst hF
            exact zw_lreturn C hr hlk dX4_groups_74 rfl rfl
        · rw [if_pos h4] at hF
          refine zw_aload_n C dX4_groups_49 0 rfl rfl ?_
          refine zw_get C FX4 0 29 (v := .ref (b 17)) rfl (by decide) lkX4_59 rfl dX4_groups_50 ?_
          refine zw_iload_n C dX4_groups_53 1 rfl rfl ?_
          refine zw_lald C 17 1 (f := G3) (i := p1) rfl rfl (by have h9 := (by assumption : ¬ fX4_in p1 0 (G0 - 1) = 0); rw [hy2] at h9; obtain ⟨j, hj, ej⟩ := dm_in0 (by omega) h9; rw [ej]; exact vp_in_nI (by omega) (by decide)) dX4_groups_54 ?_
          refine zw_goto C 74 dX4_groups_55 (by decide) ?_
          subst hF
          exact zw_lreturn C hr hlk dX4_groups_74 rfl rfl
      · rw [if_pos h3] at hF
        refine zw_aload_n C dX4_groups_34 0 rfl rfl ?_
        refine zw_get C FX4 0 28 (v := .ref (b 16)) rfl (by decide) lkX4_56 rfl dX4_groups_35 ?_
        refine zw_iload_n C dX4_groups_38 1 rfl rfl ?_
        refine zw_iald C 16 0 (f := G2) (i := p1) rfl rfl (by have h9 := (by assumption : ¬ fX4_in p1 0 (G0 - 1) = 0); rw [hy2] at h9; obtain ⟨j, hj, ej⟩ := dm_in0 (by omega) h9; rw [ej]; exact vp_in_nI (by omega) (by decide)) dX4_groups_39 ?_
        refine zw_i2l C dX4_groups_40 ?_
        refine zw_goto C 74 dX4_groups_41 (by decide) ?_
        subst hF
        exact zw_lreturn C hr hlk dX4_groups_74 rfl rfl
    · rw [if_pos h2] at hF
      refine zw_aload_n C dX4_groups_20 0 rfl rfl ?_
      refine zw_get C FX4 0 27 (v := .ref (b 15)) rfl (by decide) lkX4_53 rfl dX4_groups_21 ?_
      refine zw_iload_n C dX4_groups_24 1 rfl rfl ?_
      refine zw_lald C 15 1 (f := G1) (i := p1) rfl rfl (by have h9 := (by assumption : ¬ fX4_in p1 0 (G0 - 1) = 0); rw [hy2] at h9; obtain ⟨j, hj, ej⟩ := dm_in0 (by omega) h9; rw [ej]; exact vp_in_nI (by omega) (by decide)) dX4_groups_25 ?_
      refine zw_goto C 74 dX4_groups_26 (by decide) ?_
      subst hF
      exact zw_lreturn C hr hlk dX4_groups_74 rfl rfl
  · rw [if_pos h1] at hF
    refine zw_lconst C (v := 0) dX4_groups_14 (by decide) ?_
    subst hF
    exact zw_lreturn C hr hlk dX4_groups_15 rfl rfl
def fX4_startsCall  : Int32 × Int32 := (0, 0)
set_option maxHeartbeats 4000000 in
set_option maxRecDepth 100000 in
theorem kX4_startsCall {l : Launch} {D : va_G} {cI cL : ClassId} {b : Nat → Nat} {B0 : Int32} {B1 : Int32} {B2 : Int64} {B3 : (Nat → Int64)} {B4 : (Nat → Int64)} {B5 : (Nat → Int32)} {B6 : (Nat → Int32)} {K0 : (Nat → Int32)} {K1 : (Nat → Int32)} {K2 : (Nat → Int32)} {K3 : (Nat → Int32)} {K4 : (Nat → Int64)} {E0 : (Nat → Int32)} {M0 : Int32} {M1 : (Nat → Int32)} {M2 : (Nat → Int32)} {M3 : (Nat → Int32)} {M4 : (Nat → Int32)} {M5 : (Nat → Int64)} {M6 : Int64} {M7 : Int32} {U0 : Int32} {U1 : Int32} {U2 : Int32} {U3 : Int32} {U4 : Int32} {U5 : Int32} {G0 : Int32} {G1 : (Nat → Int64)} {G2 : (Nat → Int32)} {G3 : (Nat → Int64)} {G4 : (Nat → Int32)} {N0 : (Nat → Int64)} {N1 : (Nat → Int32)} {N2 : (Nat → Int64)} {N3 : (Nat → Int32)} {q : Int32 × Int32} (hF : fX4_startsCall = q) : zw_Mv l yX4_startsCall cX4_startsCall 1 D (zw_tys cI cL) (zw_rm 0 0) [.ref (b 0)] (wM cI cL b B0 B1 B2 B3 B4 B5 B6 K0 K1 K2 K3 K4 E0 M0 M1 M2 M3 M4 M5 M6 M7 U0 U1 U2 U3 U4 U5 G0 G1 G2 G3 G4 N0 N1 N2 N3) (wM cI cL b B0 B1 B2 B3 B4 B5 B6 K0 K1 K2 K3 K4 E0 M0 M1 M2 M3 M4 M5 M6 q.1 q.2 U1 U2 U3 U4 U5 G0 G1 G2 G3 G4 N0 N1 N2 N3) := by
  unfold fX4_startsCall at hF
  refine zw_Mv_of (own := RX4) (by decide) rfl (Nat.le_of_ble_eq_true rfl) ?_
  intro p e s m args below meth c A C hr hlk
  refine zw_eq (lv2 := [(0, .ref (b 0))]) rfl rfl rfl ?_
  refine zw_aload_n C dX4_startsCall_0 0 rfl rfl ?_
  refine zw_iconst C (v := 0) dX4_startsCall_1 (by decide) ?_
  refine zw_put C FX4 GX4 0 19 (v := .int 0) (ws2 := (wM cI cL b B0 B1 B2 B3 B4 B5 B6 K0 K1 K2 K3 K4 E0 M0 M1 M2 M3 M4 M5 M6 M7 0 U1 U2 U3 U4 U5 G0 G1 G2 G3 G4 N0 N1 N2 N3)) rfl (by decide) lkX4_95 rfl rfl rfl (Nat.le_of_ble_eq_true rfl) rfl dX4_startsCall_2 ?_
  refine zw_aload_n C dX4_startsCall_5 0 rfl rfl ?_
  refine zw_iconst C (v := 0) dX4_startsCall_6 (by decide) ?_
  refine zw_put C FX4 GX4 0 18 (v := .int 0) (ws2 := (wM cI cL b B0 B1 B2 B3 B4 B5 B6 K0 K1 K2 K3 K4 E0 M0 M1 M2 M3 M4 M5 M6 0 0 U1 U2 U3 U4 U5 G0 G1 G2 G3 G4 N0 N1 N2 N3)) rfl (by decide) lkX4_98 rfl rfl rfl (Nat.le_of_ble_eq_true rfl) rfl dX4_startsCall_7 ?_
  subst hF; dsimp only
  exact zw_return C hr hlk dX4_startsCall_10 rfl
def fX4_ends (M7 : Int32) (U0 : Int32) (U1 : Int32) (U2 : Int32) (U3 : Int32) (U4 : Int32) (U5 : Int32) (p1 : Int32) : Int32 × Int32 × Int32 × Int32 × Int32 := (if M7 = 0 then (p1, U0, U3, U4, U5) else ((-10) - M7, U0, U3 + 1, U4 + 1, M7))
set_option maxHeartbeats 4000000 in
set_option maxRecDepth 100000 in
theorem kX4_ends {l : Launch} {D : va_G} {cI cL : ClassId} {b : Nat → Nat} {B0 : Int32} {B1 : Int32} {B2 : Int64} {B3 : (Nat → Int64)} {B4 : (Nat → Int64)} {B5 : (Nat → Int32)} {B6 : (Nat → Int32)} {K0 : (Nat → Int32)} {K1 : (Nat → Int32)} {K2 : (Nat → Int32)} {K3 : (Nat → Int32)} {K4 : (Nat → Int64)} {E0 : (Nat → Int32)} {M0 : Int32} {M1 : (Nat → Int32)} {M2 : (Nat → Int32)} {M3 : (Nat → Int32)} {M4 : (Nat → Int32)} {M5 : (Nat → Int64)} {M6 : Int64} {M7 : Int32} {U0 : Int32} {U1 : Int32} {U2 : Int32} {U3 : Int32} {U4 : Int32} {U5 : Int32} {G0 : Int32} {G1 : (Nat → Int64)} {G2 : (Nat → Int32)} {G3 : (Nat → Int64)} {G4 : (Nat → Int32)} {N0 : (Nat → Int64)} {N1 : (Nat → Int32)} {N2 : (Nat → Int64)} {N3 : (Nat → Int32)} {p1 : Int32} {q : Int32 × Int32 × Int32 × Int32 × Int32} (hF : fX4_ends M7 U0 U1 U2 U3 U4 U5 p1 = q) : zw_Mi l yX4_ends cX4_ends 2 .int D (zw_tys cI cL) (zw_rm 0 0) [.ref (b 0), .int p1] (wM cI cL b B0 B1 B2 B3 B4 B5 B6 K0 K1 K2 K3 K4 E0 M0 M1 M2 M3 M4 M5 M6 M7 U0 U1 U2 U3 U4 U5 G0 G1 G2 G3 G4 N0 N1 N2 N3) (wM cI cL b B0 B1 B2 B3 B4 B5 B6 K0 K1 K2 K3 K4 E0 M0 M1 M2 M3 M4 M5 M6 M7 U0 q.2.1 U2 q.2.2.1 q.2.2.2.1 q.2.2.2.2 G0 G1 G2 G3 G4 N0 N1 N2 N3) q.1 := by
  unfold fX4_ends at hF
  refine zw_Mi_of (own := RX4) (by decide) rfl (Nat.le_of_ble_eq_true rfl) ?_
  intro p e s m args below meth c A C hr hlk
  refine zw_eq (lv2 := [(0, .ref (b 0)), (1, .int p1)]) rfl rfl rfl ?_
  refine zw_aload_n C dX4_ends_0 0 rfl rfl ?_
  refine zw_aload_n C dX4_ends_1 0 rfl rfl ?_
  refine zw_get C FX4 0 19 (v := .int U0) rfl (by decide) lkX4_95 rfl dX4_ends_2 ?_
  refine zw_put C FX4 GX4 0 20 (v := .int U0) (ws2 := (wM cI cL b B0 B1 B2 B3 B4 B5 B6 K0 K1 K2 K3 K4 E0 M0 M1 M2 M3 M4 M5 M6 M7 U0 U0 U2 U3 U4 U5 G0 G1 G2 G3 G4 N0 N1 N2 N3)) rfl (by decide) lkX4_144 rfl rfl rfl (Nat.le_of_ble_eq_true rfl) rfl dX4_ends_5 ?_
  refine zw_aload_n C dX4_ends_8 0 rfl rfl ?_
  refine zw_get C FX4 0 18 (v := .int M7) rfl (by decide) lkX4_98 rfl dX4_ends_9 ?_
  refine zw_if_ne C 17 dX4_ends_12 (by decide) (fun h1 => ?_) (fun h1 => ?_)
  · rw [if_neg h1] at hF
    refine zw_aload_n C dX4_ends_17 0 rfl rfl ?_
    refine zw_dup C dX4_ends_18 rfl ?_
    refine zw_get C FX4 0 22 (v := .int U3) rfl (by decide) lkX4_127 rfl dX4_ends_19 ?_
    refine zw_iconst C (v := 1) dX4_ends_22 (by decide) ?_
    refine zw_iadd C dX4_ends_23 ?_
    refine zw_put C FX4 GX4 0 22 (v := .int (U3 + 1)) (ws2 := (wM cI cL b B0 B1 B2 B3 B4 B5 B6 K0 K1 K2 K3 K4 E0 M0 M1 M2 M3 M4 M5 M6 M7 U0 U0 U2 (U3 + 1) U4 U5 G0 G1 G2 G3 G4 N0 N1 N2 N3)) rfl (by decide) lkX4_127 rfl rfl rfl (Nat.le_of_ble_eq_true rfl) rfl dX4_ends_24 ?_
    refine zw_aload_n C dX4_ends_27 0 rfl rfl ?_
    refine zw_dup C dX4_ends_28 rfl ?_
    refine zw_get C FX4 0 23 (v := .int U4) rfl (by decide) lkX4_147 rfl dX4_ends_29 ?_
    refine zw_iconst C (v := 1) dX4_ends_32 (by decide) ?_
    refine zw_iadd C dX4_ends_33 ?_
    refine zw_put C FX4 GX4 0 23 (v := .int (U4 + 1)) (ws2 := (wM cI cL b B0 B1 B2 B3 B4 B5 B6 K0 K1 K2 K3 K4 E0 M0 M1 M2 M3 M4 M5 M6 M7 U0 U0 U2 (U3 + 1) (U4 + 1) U5 G0 G1 G2 G3 G4 N0 N1 N2 N3)) rfl (by decide) lkX4_147 rfl rfl rfl (Nat.le_of_ble_eq_true rfl) rfl dX4_ends_34 ?_
    refine zw_aload_n C dX4_ends_37 0 rfl rfl ?_
    refine zw_aload_n C dX4_ends_38 0 rfl rfl ?_
    refine zw_get C FX4 0 18 (v := .int M7) rfl (by decide) lkX4_98 rfl dX4_ends_39 ?_
    refine zw_put C FX4 GX4 0 24 (v := .int M7) (ws2 := (wM cI cL b B0 B1 B2 B3 B4 B5 B6 K0 K1 K2 K3 K4 E0 M0 M1 M2 M3 M4 M5 M6 M7 U0 U0 U2 (U3 + 1) (U4 + 1) M7 G0 G1 G2 G3 G4 N0 N1 N2 N3)) rfl (by decide) lkX4_150 rfl rfl rfl (Nat.le_of_ble_eq_true rfl) rfl dX4_ends_42 ?_
    refine zw_bipush C (v := (-10)) dX4_ends_45 (by decide) ?_
    refine zw_aload_n C dX4_ends_47 0 rfl rfl ?_
    refine zw_get C FX4 0 18 (v := .int M7) rfl (by decide) lkX4_98 rfl dX4_ends_48 ?_
    refine zw_isub C dX4_ends_51 ?_
    subst hF; dsimp only
    exact zw_ireturn C hr hlk dX4_ends_52 rfl rfl
  · rw [if_pos h1] at hF
    refine zw_iload_n C dX4_ends_15 1 rfl rfl ?_
    subst hF; dsimp only
    exact zw_ireturn C hr hlk dX4_ends_16 rfl rfl
def fX4_tells (M0 : Int32) (p1 : Int64) : Int32 × Int64 := (M0 - 1, p1)
set_option maxHeartbeats 4000000 in
set_option maxRecDepth 100000 in
theorem kX4_tells {l : Launch} {D : va_G} {cI cL : ClassId} {b : Nat → Nat} {B0 : Int32} {B1 : Int32} {B2 : Int64} {B3 : (Nat → Int64)} {B4 : (Nat → Int64)} {B5 : (Nat → Int32)} {B6 : (Nat → Int32)} {K0 : (Nat → Int32)} {K1 : (Nat → Int32)} {K2 : (Nat → Int32)} {K3 : (Nat → Int32)} {K4 : (Nat → Int64)} {E0 : (Nat → Int32)} {M0 : Int32} {M1 : (Nat → Int32)} {M2 : (Nat → Int32)} {M3 : (Nat → Int32)} {M4 : (Nat → Int32)} {M5 : (Nat → Int64)} {M6 : Int64} {M7 : Int32} {U0 : Int32} {U1 : Int32} {U2 : Int32} {U3 : Int32} {U4 : Int32} {U5 : Int32} {G0 : Int32} {G1 : (Nat → Int64)} {G2 : (Nat → Int32)} {G3 : (Nat → Int64)} {G4 : (Nat → Int32)} {N0 : (Nat → Int64)} {N1 : (Nat → Int32)} {N2 : (Nat → Int64)} {N3 : (Nat → Int32)} {p1 : Int64} {q : Int32 × Int64} (hF : fX4_tells M0 p1 = q) : zw_Mv l yX4_tells cX4_tells 3 D (zw_tys cI cL) (zw_rm 0 0) [.ref (b 0), .long p1] (wM cI cL b B0 B1 B2 B3 B4 B5 B6 K0 K1 K2 K3 K4 E0 M0 M1 M2 M3 M4 M5 M6 M7 U0 U1 U2 U3 U4 U5 G0 G1 G2 G3 G4 N0 N1 N2 N3) (wM cI cL b B0 B1 B2 B3 B4 B5 B6 K0 K1 K2 K3 K4 E0 q.1 M1 M2 M3 M4 M5 q.2 M7 U0 U1 U2 U3 U4 U5 G0 G1 G2 G3 G4 N0 N1 N2 N3) := by
  unfold fX4_tells at hF
  refine zw_Mv_of (own := RX4) (by decide) rfl (Nat.le_of_ble_eq_true rfl) ?_
  intro p e s m args below meth c A C hr hlk
  refine zw_eq (lv2 := [(0, .ref (b 0)), (1, .long p1)]) rfl rfl rfl ?_
  refine zw_aload_n C dX4_tells_0 0 rfl rfl ?_
  refine zw_lload_n C dX4_tells_1 1 rfl rfl ?_
  refine zw_put C FX4 GX4 0 17 (v := .long p1) (ws2 := (wM cI cL b B0 B1 B2 B3 B4 B5 B6 K0 K1 K2 K3 K4 E0 M0 M1 M2 M3 M4 M5 p1 M7 U0 U1 U2 U3 U4 U5 G0 G1 G2 G3 G4 N0 N1 N2 N3)) rfl (by decide) lkX4_107 rfl rfl rfl (Nat.le_of_ble_eq_true rfl) rfl dX4_tells_2 ?_
  refine zw_aload_n C dX4_tells_5 0 rfl rfl ?_
  refine zw_dup C dX4_tells_6 rfl ?_
  refine zw_get C FX4 0 11 (v := .int M0) rfl (by decide) lkX4_104 rfl dX4_tells_7 ?_
  refine zw_iconst C (v := 1) dX4_tells_10 (by decide) ?_
  refine zw_isub C dX4_tells_11 ?_
  refine zw_put C FX4 GX4 0 11 (v := .int (M0 - 1)) (ws2 := (wM cI cL b B0 B1 B2 B3 B4 B5 B6 K0 K1 K2 K3 K4 E0 (M0 - 1) M1 M2 M3 M4 M5 p1 M7 U0 U1 U2 U3 U4 U5 G0 G1 G2 G3 G4 N0 N1 N2 N3)) rfl (by decide) lkX4_104 rfl rfl rfl (Nat.le_of_ble_eq_true rfl) rfl dX4_tells_12 ?_
  subst hF; dsimp only
  exact zw_return C hr hlk dX4_tells_15 rfl
def fX4_begins (M0 : Int32) (M1 : (Nat → Int32)) (M2 : (Nat → Int32)) (M3 : (Nat → Int32)) (M4 : (Nat → Int32)) (M7 : Int32) (U0 : Int32) (U2 : Int32) (p1 : Int32) (p2 : Int32) (p3 : Int32) (p4 : Int32) : Int32 × (Nat → Int32) × (Nat → Int32) × (Nat → Int32) × (Nat → Int32) × Int32 × Int32 × Int32 := (if U0 = 2000 then (M0, M1, M2, M3, M4, 4, U0, U2) else (M0 + 1, (upd M1 M0.toNatClampNeg ((24 * p1) + p2)), (upd M2 M0.toNatClampNeg p3), (upd M3 M0.toNatClampNeg p4), (upd M4 M0.toNatClampNeg 0), M7, U0 + 1, U2 + 1))
set_option maxHeartbeats 4000000 in
set_option maxRecDepth 100000 in
theorem kX4_begins {l : Launch} {D : va_G} {cI cL : ClassId} {b : Nat → Nat} {B0 : Int32} {B1 : Int32} {B2 : Int64} {B3 : (Nat → Int64)} {B4 : (Nat → Int64)} {B5 : (Nat → Int32)} {B6 : (Nat → Int32)} {K0 : (Nat → Int32)} {K1 : (Nat → Int32)} {K2 : (Nat → Int32)} {K3 : (Nat → Int32)} {K4 : (Nat → Int64)} {E0 : (Nat → Int32)} {M0 : Int32} {M1 : (Nat → Int32)} {M2 : (Nat → Int32)} {M3 : (Nat → Int32)} {M4 : (Nat → Int32)} {M5 : (Nat → Int64)} {M6 : Int64} {M7 : Int32} {U0 : Int32} {U1 : Int32} {U2 : Int32} {U3 : Int32} {U4 : Int32} {U5 : Int32} {G0 : Int32} {G1 : (Nat → Int64)} {G2 : (Nat → Int32)} {G3 : (Nat → Int64)} {G4 : (Nat → Int32)} {N0 : (Nat → Int64)} {N1 : (Nat → Int32)} {N2 : (Nat → Int64)} {N3 : (Nat → Int32)} {p1 : Int32} {p2 : Int32} {p3 : Int32} {p4 : Int32} {q : Int32 × (Nat → Int32) × (Nat → Int32) × (Nat → Int32) × (Nat → Int32) × Int32 × Int32 × Int32} (hy1 : vp_in M0 80) (hF : fX4_begins M0 M1 M2 M3 M4 M7 U0 U2 p1 p2 p3 p4 = q) : zw_Mv l yX4_begins cX4_begins 5 D (zw_tys cI cL) (zw_rm 0 0) [.ref (b 0), .int p1, .int p2, .int p3, .int p4] (wM cI cL b B0 B1 B2 B3 B4 B5 B6 K0 K1 K2 K3 K4 E0 M0 M1 M2 M3 M4 M5 M6 M7 U0 U1 U2 U3 U4 U5 G0 G1 G2 G3 G4 N0 N1 N2 N3) (wM cI cL b B0 B1 B2 B3 B4 B5 B6 K0 K1 K2 K3 K4 E0 q.1 q.2.1 q.2.2.1 q.2.2.2.1 q.2.2.2.2.1 M5 M6 q.2.2.2.2.2.1 q.2.2.2.2.2.2.1 U1 q.2.2.2.2.2.2.2 U3 U4 U5 G0 G1 G2 G3 G4 N0 N1 N2 N3) := by
  unfold fX4_begins at hF
  refine zw_Mv_of (own := RX4) (by decide) rfl (Nat.le_of_ble_eq_true rfl) ?_
  intro p e s m args below meth c A C hr hlk
  refine zw_eq (lv2 := [(0, .ref (b 0)), (1, .int p1), (2, .int p2), (3, .int p3), (4, .int p4)]) rfl rfl rfl ?_
  refine zw_aload_n C dX4_begins_0 0 rfl rfl ?_
  refine zw_get C FX4 0 19 (v := .int U0) rfl (by decide) lkX4_95 rfl dX4_begins_1 ?_
  refine zw_sipush C (v := 2000) dX4_begins_4 (by decide) ?_
  refine zw_icmp_ne C 16 dX4_begins_7 (by decide) (fun h1 => ?_) (fun h1 => ?_)
  · rw [if_neg h1] at hF
    refine zw_aload_n C dX4_begins_16 0 rfl rfl ?_
    refine zw_dup C dX4_begins_17 rfl ?_
    refine zw_get C FX4 0 19 (v := .int U0) rfl (by decide) lkX4_95 rfl dX4_begins_18 ?_
    refine zw_iconst C (v := 1) dX4_begins_21 (by decide) ?_
    refine zw_iadd C dX4_begins_22 ?_
    refine zw_put C FX4 GX4 0 19 (v := .int (U0 + 1)) (ws2 := (wM cI cL b B0 B1 B2 B3 B4 B5 B6 K0 K1 K2 K3 K4 E0 M0 M1 M2 M3 M4 M5 M6 M7 (U0 + 1) U1 U2 U3 U4 U5 G0 G1 G2 G3 G4 N0 N1 N2 N3)) rfl (by decide) lkX4_95 rfl rfl rfl (Nat.le_of_ble_eq_true rfl) rfl dX4_begins_23 ?_
    refine zw_aload_n C dX4_begins_26 0 rfl rfl ?_
    refine zw_dup C dX4_begins_27 rfl ?_
    refine zw_get C FX4 0 21 (v := .int U2) rfl (by decide) lkX4_101 rfl dX4_begins_28 ?_
    refine zw_iconst C (v := 1) dX4_begins_31 (by decide) ?_
    refine zw_iadd C dX4_begins_32 ?_
    refine zw_put C FX4 GX4 0 21 (v := .int (U2 + 1)) (ws2 := (wM cI cL b B0 B1 B2 B3 B4 B5 B6 K0 K1 K2 K3 K4 E0 M0 M1 M2 M3 M4 M5 M6 M7 (U0 + 1) U1 (U2 + 1) U3 U4 U5 G0 G1 G2 G3 G4 N0 N1 N2 N3)) rfl (by decide) lkX4_101 rfl rfl rfl (Nat.le_of_ble_eq_true rfl) rfl dX4_begins_33 ?_
    refine zw_aload_n C dX4_begins_36 0 rfl rfl ?_
    refine zw_get C FX4 0 12 (v := .ref (b 10)) rfl (by decide) lkX4_38 rfl dX4_begins_37 ?_
    refine zw_aload_n C dX4_begins_40 0 rfl rfl ?_
    refine zw_get C FX4 0 11 (v := .int M0) rfl (by decide) lkX4_104 rfl dX4_begins_41 ?_
    refine zw_bipush C (v := 24) dX4_begins_44 (by decide) ?_
    refine zw_iload_n C dX4_begins_46 1 rfl rfl ?_
    refine zw_imul C dX4_begins_47 ?_
    refine zw_iload_n C dX4_begins_48 2 rfl rfl ?_
    refine zw_iadd C dX4_begins_49 ?_
    refine zw_iast C 10 0 (f := M1) (i := M0) (ws2 := (wM cI cL b B0 B1 B2 B3 B4 B5 B6 K0 K1 K2 K3 K4 E0 M0 (upd M1 M0.toNatClampNeg ((24 * p1) + p2)) M2 M3 M4 M5 M6 M7 (U0 + 1) U1 (U2 + 1) U3 U4 U5 G0 G1 G2 G3 G4 N0 N1 N2 N3)) rfl rfl hy1 rfl dX4_begins_50 ?_
    refine zw_aload_n C dX4_begins_51 0 rfl rfl ?_
    refine zw_get C FX4 0 13 (v := .ref (b 11)) rfl (by decide) lkX4_41 rfl dX4_begins_52 ?_
    refine zw_aload_n C dX4_begins_55 0 rfl rfl ?_
    refine zw_get C FX4 0 11 (v := .int M0) rfl (by decide) lkX4_104 rfl dX4_begins_56 ?_
    refine zw_iload_n C dX4_begins_59 3 rfl rfl ?_
    refine zw_iast C 11 0 (f := M2) (i := M0) (ws2 := (wM cI cL b B0 B1 B2 B3 B4 B5 B6 K0 K1 K2 K3 K4 E0 M0 (upd M1 M0.toNatClampNeg ((24 * p1) + p2)) (upd M2 M0.toNatClampNeg p3) M3 M4 M5 M6 M7 (U0 + 1) U1 (U2 + 1) U3 U4 U5 G0 G1 G2 G3 G4 N0 N1 N2 N3)) rfl rfl hy1 rfl dX4_begins_60 ?_
    refine zw_aload_n C dX4_begins_61 0 rfl rfl ?_
    refine zw_get C FX4 0 14 (v := .ref (b 12)) rfl (by decide) lkX4_44 rfl dX4_begins_62 ?_
    refine zw_aload_n C dX4_begins_65 0 rfl rfl ?_
    refine zw_get C FX4 0 11 (v := .int M0) rfl (by decide) lkX4_104 rfl dX4_begins_66 ?_
    refine zw_iload C dX4_begins_69 4 rfl ?_
    refine zw_iast C 12 0 (f := M3) (i := M0) (ws2 := (wM cI cL b B0 B1 B2 B3 B4 B5 B6 K0 K1 K2 K3 K4 E0 M0 (upd M1 M0.toNatClampNeg ((24 * p1) + p2)) (upd M2 M0.toNatClampNeg p3) (upd M3 M0.toNatClampNeg p4) M4 M5 M6 M7 (U0 + 1) U1 (U2 + 1) U3 U4 U5 G0 G1 G2 G3 G4 N0 N1 N2 N3)) rfl rfl hy1 rfl dX4_begins_71 ?_
    refine zw_aload_n C dX4_begins_72 0 rfl rfl ?_
    refine zw_get C FX4 0 15 (v := .ref (b 13)) rfl (by decide) lkX4_47 rfl dX4_begins_73 ?_
    refine zw_aload_n C dX4_begins_76 0 rfl rfl ?_
    refine zw_get C FX4 0 11 (v := .int M0) rfl (by decide) lkX4_104 rfl dX4_begins_77 ?_
    refine zw_iconst C (v := 0) dX4_begins_80 (by decide) ?_
    refine zw_iast C 13 0 (f := M4) (i := M0) (ws2 := (wM cI cL b B0 B1 B2 B3 B4 B5 B6 K0 K1 K2 K3 K4 E0 M0 (upd M1 M0.toNatClampNeg ((24 * p1) + p2)) (upd M2 M0.toNatClampNeg p3) (upd M3 M0.toNatClampNeg p4) (upd M4 M0.toNatClampNeg 0) M5 M6 M7 (U0 + 1) U1 (U2 + 1) U3 U4 U5 G0 G1 G2 G3 G4 N0 N1 N2 N3)) rfl rfl hy1 rfl dX4_begins_81 ?_
    refine zw_aload_n C dX4_begins_82 0 rfl rfl ?_
    refine zw_dup C dX4_begins_83 rfl ?_
    refine zw_get C FX4 0 11 (v := .int M0) rfl (by decide) lkX4_104 rfl dX4_begins_84 ?_
    refine zw_iconst C (v := 1) dX4_begins_87 (by decide) ?_
    refine zw_iadd C dX4_begins_88 ?_
    refine zw_put C FX4 GX4 0 11 (v := .int (M0 + 1)) (ws2 := (wM cI cL b B0 B1 B2 B3 B4 B5 B6 K0 K1 K2 K3 K4 E0 (M0 + 1) (upd M1 M0.toNatClampNeg ((24 * p1) + p2)) (upd M2 M0.toNatClampNeg p3) (upd M3 M0.toNatClampNeg p4) (upd M4 M0.toNatClampNeg 0) M5 M6 M7 (U0 + 1) U1 (U2 + 1) U3 U4 U5 G0 G1 G2 G3 G4 N0 N1 N2 N3)) rfl (by decide) lkX4_104 rfl rfl rfl (Nat.le_of_ble_eq_true rfl) rfl dX4_begins_89 ?_
    subst hF; dsimp only
    exact zw_return C hr hlk dX4_begins_92 rfl
  · rw [if_pos h1] at hF
    refine zw_aload_n C dX4_begins_10 0 rfl rfl ?_
    refine zw_iconst C (v := 4) dX4_begins_11 (by decide) ?_
    refine zw_put C FX4 GX4 0 18 (v := .int 4) (ws2 := (wM cI cL b B0 B1 B2 B3 B4 B5 B6 K0 K1 K2 K3 K4 E0 M0 M1 M2 M3 M4 M5 M6 4 U0 U1 U2 U3 U4 U5 G0 G1 G2 G3 G4 N0 N1 N2 N3)) rfl (by decide) lkX4_98 rfl rfl rfl (Nat.le_of_ble_eq_true rfl) rfl dX4_begins_12 ?_
    subst hF; dsimp only
    exact zw_return C hr hlk dX4_begins_15 rfl
