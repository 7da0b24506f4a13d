def fX4_both (M0 : Int32) (M6 : Int64) (M7 : Int32) (p1 : Int32) (p2 : Int64) (p3 : Int64) : Int32 × Int64 × Int32 := (if p1 = 4 then (if (lg_cmp p3 0) = 0 then (M0, M6, 1) else (if p1 = 2 then (zw_l (fX4_tells M0 (p2 + p3)) (fun q35 => (q35.1, q35.2, M7))) else (if p1 = 3 then (zw_l (fX4_tells M0 (p2 * p3)) (fun q33 => (q33.1, q33.2, M7))) else (if p1 = 4 then (zw_l (fX4_tells M0 (p2 / p3)) (fun q31 => (q31.1, q31.2, M7))) else (if p1 = 5 then (if 0 ≤ (lg_cmp p2 p3) then (zw_l (fX4_tells M0 p3) (fun q27 => (q27.1, q27.2, M7))) else (zw_l (fX4_tells M0 p2) (fun q29 => (q29.1, q29.2, M7)))) else (zw_l (fX4_tells M0 p3) (fun q24 => (q24.1, q24.2, M7)))))))) else (if p1 = 2 then (zw_l (fX4_tells M0 (p2 + p3)) (fun q17 => (q17.1, q17.2, M7))) else (if p1 = 3 then (zw_l (fX4_tells M0 (p2 * p3)) (fun q15 => (q15.1, q15.2, M7))) else (if p1 = 4 then (zw_l (fX4_tells M0 (p2 / p3)) (fun q13 => (q13.1, q13.2, M7))) else (if p1 = 5 then (if 0 ≤ (lg_cmp p2 p3) then (zw_l (fX4_tells M0 p3) (fun q9 => (q9.1, q9.2, M7))) else (zw_l (fX4_tells M0 p2) (fun q11 => (q11.1, q11.2, M7)))) else (zw_l (fX4_tells M0 p3) (fun q6 => (q6.1, q6.2, M7))))))))
set_option maxHeartbeats 4000000 in
set_option maxRecDepth 100000 in
theorem kX4_both {l : Launch} {D : va_G} {cI cL : ClassId} {b : Nat → Nat} {B0 : Int32} {B1 : Int32} {B2 : Int64} {B3 : (Nat → Int64)} {B4 : (Nat → Int64)} {B5 : (Nat → Int32)} {B6 : (Nat → Int32)} {K0 : (Nat → Int32)} {K1 : (Nat → Int32)} {K2 : (Nat → Int32)} {K3 : (Nat → Int32)} {K4 : (Nat → Int64)} {E0 : (Nat → Int32)} {M0 : Int32} {M1 : (Nat → Int32)} {M2 : (Nat → Int32)} {M3 : (Nat → Int32)} {M4 : (Nat → Int32)} {M5 : (Nat → Int64)} {M6 : Int64} {M7 : Int32} {U0 : Int32} {U1 : Int32} {U2 : Int32} {U3 : Int32} {U4 : Int32} {U5 : Int32} {G0 : Int32} {G1 : (Nat → Int64)} {G2 : (Nat → Int32)} {G3 : (Nat → Int64)} {G4 : (Nat → Int32)} {N0 : (Nat → Int64)} {N1 : (Nat → Int32)} {N2 : (Nat → Int64)} {N3 : (Nat → Int32)} {p1 : Int32} {p2 : Int64} {p3 : Int64} {q : Int32 × Int64 × Int32} (hF : fX4_both M0 M6 M7 p1 p2 p3 = q) : zw_Mv l yX4_both cX4_both 6 D (zw_tys cI cL) (zw_rm 1 22) [.ref (b 0), .int p1, .long p2, .long p3] (wM cI cL b B0 B1 B2 B3 B4 B5 B6 K0 K1 K2 K3 K4 E0 M0 M1 M2 M3 M4 M5 M6 M7 U0 U1 U2 U3 U4 U5 G0 G1 G2 G3 G4 N0 N1 N2 N3) (wM cI cL b B0 B1 B2 B3 B4 B5 B6 K0 K1 K2 K3 K4 E0 q.1 M1 M2 M3 M4 M5 q.2.1 q.2.2 U0 U1 U2 U3 U4 U5 G0 G1 G2 G3 G4 N0 N1 N2 N3) := by
  unfold fX4_both at hF
  refine zw_Mv_of (own := RX4) (by decide) rfl (Nat.le_of_ble_eq_true rfl) ?_
  intro p e s m args below meth c A C hr hlk
  refine zw_eq (lv2 := [(0, .ref (b 0)), (1, .int p1), (2, .long p2), (4, .long p3)]) rfl rfl rfl ?_
  refine zw_iload_n C dX4_both_0 1 rfl rfl ?_
  refine zw_iconst C (v := 4) dX4_both_1 (by decide) ?_
  refine zw_icmp_ne C 18 dX4_both_2 (by decide) (fun h1 => ?_) (fun h1 => ?_)
  · rw [if_neg h1] at hF
    refine zw_aload_n C dX4_both_18 0 rfl rfl ?_
    refine zw_iload_n C dX4_both_19 1 rfl rfl ?_
    refine zw_iconst C (v := 2) dX4_both_20 (by decide) ?_
    refine zw_icmp_ne C 31 dX4_both_21 (by decide) (fun h2 => ?_) (fun h2 => ?_)
    · rw [if_neg h2] at hF
      refine zw_iload_n C dX4_both_31 1 rfl rfl ?_
      refine zw_iconst C (v := 3) dX4_both_32 (by decide) ?_
      refine zw_icmp_ne C 43 dX4_both_33 (by decide) (fun h3 => ?_) (fun h3 => ?_)
      · rw [if_neg h3] at hF
        refine zw_iload_n C dX4_both_43 1 rfl rfl ?_
        refine zw_iconst C (v := 4) dX4_both_44 (by decide) ?_
        refine zw_icmp_ne C 55 dX4_both_45 (by decide) (fun h4 => ?_) (fun h4 => ?_)
        · rw [if_neg h4] at hF
          refine zw_iload_n C dX4_both_55 1 rfl rfl ?_
          refine zw_iconst C (v := 5) dX4_both_56 (by decide) ?_
          refine zw_icmp_ne C 76 dX4_both_57 (by decide) (fun h5 => ?_) (fun h5 => ?_)
          · rw [if_neg h5] at hF
            refine zw_lload C dX4_both_76 3 rfl ?_
            obtain ⟨q6, e7⟩ : ∃ z, fX4_tells M0 p3 = z := ⟨_, rfl⟩
            rw [zw_l_eq e7] at hF
            refine zw_callv C kvX4_111 (kX4_tells e7) ⟨rfl, rfl, ⟨by decide, by decide⟩, by decide, by decide⟩ FX4 0 (As := [.long p3]) (rest := []) rfl rfl rfl (Nat.le_of_ble_eq_true rfl) dX4_both_78 ?_
            subst hF; dsimp only
            exact zw_return C hr hlk dX4_both_81 rfl
          · rw [if_pos h5] at hF
            refine zw_lload_n C dX4_both_60 2 rfl rfl ?_
            refine zw_lload C dX4_both_61 3 rfl ?_
            refine zw_lcmp C dX4_both_63 ?_
            refine zw_if_ge C 71 dX4_both_64 (by decide) (fun h8 => ?_) (fun h8 => ?_)
            · rw [if_pos h8] at hF
              refine zw_lload C dX4_both_71 3 rfl ?_
              refine zw_goto C 78 dX4_both_73 (by decide) ?_
              obtain ⟨q9, e10⟩ : ∃ z, fX4_tells M0 p3 = z := ⟨_, rfl⟩
              rw [zw_l_eq e10] at hF
              refine zw_callv C kvX4_111 (kX4_tells e10) ⟨rfl, rfl, ⟨by decide, by decide⟩, by decide, by decide⟩ FX4 0 (As := [.long p3]) (rest := []) rfl rfl rfl (Nat.le_of_ble_eq_true rfl) dX4_both_78 ?_
              subst hF; dsimp only
              exact zw_return C hr hlk dX4_both_81 rfl
            · rw [if_neg h8] at hF
              refine zw_lload_n C dX4_both_67 2 rfl rfl ?_
              refine zw_goto C 78 dX4_both_68 (by decide) ?_
              obtain ⟨q11, e12⟩ : ∃ z, fX4_tells M0 p2 = z := ⟨_, rfl⟩
              rw [zw_l_eq e12] at hF
              refine zw_callv C kvX4_111 (kX4_tells e12) ⟨rfl, rfl, ⟨by decide, by decide⟩, by decide, by decide⟩ FX4 0 (As := [.long p2]) (rest := []) rfl rfl rfl (Nat.le_of_ble_eq_true rfl) dX4_both_78 ?_
              subst hF; dsimp only
              exact zw_return C hr hlk dX4_both_81 rfl
        · rw [if_pos h4] at hF
          refine zw_lload_n C dX4_both_48 2 rfl rfl ?_
          refine zw_lload C dX4_both_49 3 rfl ?_
          refine zw_ldiv C dX4_both_51 (by first | exact fun z => (by assumption : ¬ lg_cmp p3 0 = 0) ((lg_cmp_eq _ _).mpr z) | exact absurd (by assumption) (by assumption : ¬ p1 = 4)) ?_
          refine zw_goto C 78 dX4_both_52 (by decide) ?_
          obtain ⟨q13, e14⟩ : ∃ z, fX4_tells M0 (p2 / p3) = z := ⟨_, rfl⟩
          rw [zw_l_eq e14] at hF
          refine zw_callv C kvX4_111 (kX4_tells e14) ⟨rfl, rfl, ⟨by decide, by decide⟩, by decide, by decide⟩ FX4 0 (As := [.long (p2 / p3)]) (rest := []) rfl rfl rfl (Nat.le_of_ble_eq_true rfl) dX4_both_78 ?_
          subst hF; dsimp only
          exact zw_return C hr hlk dX4_both_81 rfl
      · rw [if_pos h3] at hF
        refine zw_lload_n C dX4_both_36 2 rfl rfl ?_
        refine zw_lload C dX4_both_37 3 rfl ?_
        refine zw_lmul C dX4_both_39 ?_
        refine zw_goto C 78 dX4_both_40 (by decide) ?_
        obtain ⟨q15, e16⟩ : ∃ z, fX4_tells M0 (p2 * p3) = z := ⟨_, rfl⟩
        rw [zw_l_eq e16] at hF
        refine zw_callv C kvX4_111 (kX4_tells e16) ⟨rfl, rfl, ⟨by decide, by decide⟩, by decide, by decide⟩ FX4 0 (As := [.long (p2 * p3)]) (rest := []) rfl rfl rfl (Nat.le_of_ble_eq_true rfl) dX4_both_78 ?_
        subst hF; dsimp only
        exact zw_return C hr hlk dX4_both_81 rfl
    · rw [if_pos h2] at hF
      refine zw_lload_n C dX4_both_24 2 rfl rfl ?_
      refine zw_lload C dX4_both_25 3 rfl ?_
      refine zw_ladd C dX4_both_27 ?_
      refine zw_goto C 78 dX4_both_28 (by decide) ?_
      obtain ⟨q17, e18⟩ : ∃ z, fX4_tells M0 (p2 + p3) = z := ⟨_, rfl⟩
      rw [zw_l_eq e18] at hF
      refine zw_callv C kvX4_111 (kX4_tells e18) ⟨rfl, rfl, ⟨by decide, by decide⟩, by decide, by decide⟩ FX4 0 (As := [.long (p2 + p3)]) (rest := []) rfl rfl rfl (Nat.le_of_ble_eq_true rfl) dX4_both_78 ?_
      subst hF; dsimp only
      exact zw_return C hr hlk dX4_both_81 rfl
  · rw [if_pos h1] at hF
    refine zw_lload C dX4_both_5 3 rfl ?_
    refine zw_lconst C (v := 0) dX4_both_7 (by decide) ?_
    refine zw_lcmp C dX4_both_8 ?_
    refine zw_if_ne C 18 dX4_both_9 (by decide) (fun h19 => ?_) (fun h19 => ?_)
    · rw [if_neg h19] at hF
      refine zw_aload_n C dX4_both_18 0 rfl rfl ?_
      refine zw_iload_n C dX4_both_19 1 rfl rfl ?_
      refine zw_iconst C (v := 2) dX4_both_20 (by decide) ?_
      refine zw_icmp_ne C 31 dX4_both_21 (by decide) (fun h20 => ?_) (fun h20 => ?_)
      · rw [if_neg h20] at hF
        refine zw_iload_n C dX4_both_31 1 rfl rfl ?_
        refine zw_iconst C (v := 3) dX4_both_32 (by decide) ?_
        refine zw_icmp_ne C 43 dX4_both_33 (by decide) (fun h21 => ?_) (fun h21 => ?_)
        · rw [if_neg h21] at hF
          refine zw_iload_n C dX4_both_43 1 rfl rfl ?_
          refine zw_iconst C (v := 4) dX4_both_44 (by decide) ?_
          refine zw_icmp_ne C 55 dX4_both_45 (by decide) (fun h22 => ?_) (fun h22 => ?_)
          · rw [if_neg h22] at hF
            refine zw_iload_n C dX4_both_55 1 rfl rfl ?_
            refine zw_iconst C (v := 5) dX4_both_56 (by decide) ?_
            refine zw_icmp_ne C 76 dX4_both_57 (by decide) (fun h23 => ?_) (fun h23 => ?_)
            · rw [if_neg h23] at hF
              refine zw_lload C dX4_both_76 3 rfl ?_
              obtain ⟨q24, e25⟩ : ∃ z, fX4_tells M0 p3 = z := ⟨_, rfl⟩
              rw [zw_l_eq e25] at hF
              refine zw_callv C kvX4_111 (kX4_tells e25) ⟨rfl, rfl, ⟨by decide, by decide⟩, by decide, by decide⟩ FX4 0 (As := [.long p3]) (rest := []) rfl rfl rfl (Nat.le_of_ble_eq_true rfl) dX4_both_78 ?_
              subst hF; dsimp only
              exact zw_return C hr hlk dX4_both_81 rfl
            · rw [if_pos h23] at hF
              refine zw_lload_n C dX4_both_60 2 rfl rfl ?_
              refine zw_lload C dX4_both_61 3 rfl ?_
              refine zw_lcmp C dX4_both_63 ?_
              refine zw_if_ge C 71 dX4_both_64 (by decide) (fun h26 => ?_) (fun h26 => ?_)
              · rw [if_pos h26] at hF
                refine zw_lload C dX4_both_71 3 rfl ?_
                refine zw_goto C 78 dX4_both_73 (by decide) ?_
                obtain ⟨q27, e28⟩ : ∃ z, fX4_tells M0 p3 = z := ⟨_, rfl⟩
                rw [zw_l_eq e28] at hF
                refine zw_callv C kvX4_111 (kX4_tells e28) ⟨rfl, rfl, ⟨by decide, by decide⟩, by decide, by decide⟩ FX4 0 (As := [.long p3]) (rest := []) rfl rfl rfl (Nat.le_of_ble_eq_true rfl) dX4_both_78 ?_
                subst hF; dsimp only
                exact zw_return C hr hlk dX4_both_81 rfl
              · rw [if_neg h26] at hF
                refine zw_lload_n C dX4_both_67 2 rfl rfl ?_
                refine zw_goto C 78 dX4_both_68 (by decide) ?_
                obtain ⟨q29, e30⟩ : ∃ z, fX4_tells M0 p2 = z := ⟨_, rfl⟩
                rw [zw_l_eq e30] at hF
                refine zw_callv C kvX4_111 (kX4_tells e30) ⟨rfl, rfl, ⟨by decide, by decide⟩, by decide, by decide⟩ FX4 0 (As := [.long p2]) (rest := []) rfl rfl rfl (Nat.le_of_ble_eq_true rfl) dX4_both_78 ?_
                subst hF; dsimp only
                exact zw_return C hr hlk dX4_both_81 rfl
          · rw [if_pos h22] at hF
            refine zw_lload_n C dX4_both_48 2 rfl rfl ?_
            refine zw_lload C dX4_both_49 3 rfl ?_
            refine zw_ldiv C dX4_both_51 (by first | exact fun z => (by assumption : ¬ lg_cmp p3 0 = 0) ((lg_cmp_eq _ _).mpr z) | exact absurd (by assumption) (by assumption : ¬ p1 = 4)) ?_
            refine zw_goto C 78 dX4_both_52 (by decide) ?_
            obtain ⟨q31, e32⟩ : ∃ z, fX4_tells M0 (p2 / p3) = z := ⟨_, rfl⟩
            rw [zw_l_eq e32] at hF
            refine zw_callv C kvX4_111 (kX4_tells e32) ⟨rfl, rfl, ⟨by decide, by decide⟩, by decide, by decide⟩ FX4 0 (As := [.long (p2 / p3)]) (rest := []) rfl rfl rfl (Nat.le_of_ble_eq_true rfl) dX4_both_78 ?_
            subst hF; dsimp only
            exact zw_return C hr hlk dX4_both_81 rfl
        · rw [if_pos h21] at hF
          refine zw_lload_n C dX4_both_36 2 rfl rfl ?_
          refine zw_lload C dX4_both_37 3 rfl ?_
          refine zw_lmul C dX4_both_39 ?_
          refine zw_goto C 78 dX4_both_40 (by decide) ?_
          obtain ⟨q33, e34⟩ : ∃ z, fX4_tells M0 (p2 * p3) = z := ⟨_, rfl⟩
          rw [zw_l_eq e34] at hF
          refine zw_callv C kvX4_111 (kX4_tells e34) ⟨rfl, rfl, ⟨by decide, by decide⟩, by decide, by decide⟩ FX4 0 (As := [.long (p2 * p3)]) (rest := []) rfl rfl rfl (Nat.le_of_ble_eq_true rfl) dX4_both_78 ?_
          subst hF; dsimp only
          exact zw_return C hr hlk dX4_both_81 rfl
      · rw [if_pos h20] at hF
        refine zw_lload_n C dX4_both_24 2 rfl rfl ?_
        refine zw_lload C dX4_both_25 3 rfl ?_
        refine zw_ladd C dX4_both_27 ?_
        refine zw_goto C 78 dX4_both_28 (by decide) ?_
        obtain ⟨q35, e36⟩ : ∃ z, fX4_tells M0 (p2 + p3) = z := ⟨_, rfl⟩
        rw [zw_l_eq e36] at hF
        refine zw_callv C kvX4_111 (kX4_tells e36) ⟨rfl, rfl, ⟨by decide, by decide⟩, by decide, by decide⟩ FX4 0 (As := [.long (p2 + p3)]) (rest := []) rfl rfl rfl (Nat.le_of_ble_eq_true rfl) dX4_both_78 ?_
        subst hF; dsimp only
        exact zw_return C hr hlk dX4_both_81 rfl
    · rw [if_pos h19] at hF
      refine zw_aload_n C dX4_both_12 0 rfl rfl ?_
      refine zw_iconst C (v := 1) dX4_both_13 (by decide) ?_
      refine zw_put C FX4 GX4 0 18 (v := .int 1) (ws2 := (wM cI cL b B0 B1 B2 B3 B4 B5 B6 K0 K1 K2 K3 K4 E0 M0 M1 M2 M3 M4 M5 M6 1 U0 U1 U2 U3 U4 U5 G0 G1 G2 G3 G4 N0 N1 N2 N3)) rfl (by decide) lkX4_98 rfl rfl rfl (Nat.le_of_ble_eq_true rfl) rfl dX4_both_14 ?_
      subst hF; dsimp only
      exact zw_return C hr hlk dX4_both_17 rfl
def fX4_goesScale (B3 : (Nat → Int64)) (B4 : (Nat → Int64)) (K1 : (Nat → Int32)) (K2 : (Nat → Int32)) (K3 : (Nat → Int32)) (K4 : (Nat → Int64)) (E0 : (Nat → Int32)) (M0 : Int32) (M1 : (Nat → Int32)) (M2 : (Nat → Int32)) (M3 : (Nat → Int32)) (M4 : (Nat → Int32)) (M5 : (Nat → Int64)) (M6 : Int64) (M7 : Int32) (U0 : Int32) (U2 : Int32) (p1 : Int32) (p2 : Int32) (p3 : Int32) (p4 : Int64) : (Nat → Int32) × Int32 × (Nat → Int32) × (Nat → Int32) × (Nat → Int32) × (Nat → Int32) × (Nat → Int64) × Int64 × Int32 × Int32 × Int32 := (if (K1 p1.toNatClampNeg) = 11 then (E0, M0, M1, M2, M3, M4, M5, M6, 3, U0, U2) else (if 2 ≤ (K1 p1.toNatClampNeg) then (if (K1 p1.toNatClampNeg) = 8 then (zw_l (fX4_tells M0 (K4 p1.toNatClampNeg)) (fun q4 => (E0, q4.1, M1, M2, M3, M4, M5, q4.2, M7, U0, U2))) else (if (K1 p1.toNatClampNeg) = 9 then (zw_l (fX4_tells M0 (K4 p1.toNatClampNeg)) (fun q32 => (E0, q32.1, M1, M2, M3, M4, M5, q32.2, M7, U0, U2))) else (if (K1 p1.toNatClampNeg) = 10 then (zw_l (fX4_tells M0 ((((((upd E0 p1.toNatClampNeg ((E0 p1.toNatClampNeg) + 1)) p1.toNatClampNeg).toInt64) - 1) * ((K2 p1.toNatClampNeg).toInt64)) + ((K3 p1.toNatClampNeg).toInt64))) (fun q30 => (upd E0 p1.toNatClampNeg ((E0 p1.toNatClampNeg) + 1), q30.1, M1, M2, M3, M4, M5, q30.2, M7, U0, U2))) else (if p3 = 0 then (if (K1 p1.toNatClampNeg) = 6 then (zw_l (fX4_begins M0 M1 M2 M3 M4 M7 U0 U2 1 (K2 p1.toNatClampNeg) p2 p2) (fun q28 => (E0, q28.1, q28.2.1, q28.2.2.1, q28.2.2.2.1, q28.2.2.2.2.1, M5, M6, q28.2.2.2.2.2.1, q28.2.2.2.2.2.2.1, q28.2.2.2.2.2.2.2))) else (zw_l (fX4_begins M0 M1 M2 M3 M4 M7 U0 U2 0 (K2 p1.toNatClampNeg) p2 p2) (fun q26 => (E0, q26.1, q26.2.1, q26.2.2.1, q26.2.2.2.1, q26.2.2.2.2.1, M5, M6, q26.2.2.2.2.2.1, q26.2.2.2.2.2.2.1, q26.2.2.2.2.2.2.2)))) else (if (K1 p1.toNatClampNeg) = 7 then (if (lg_cmp p4 0) < 0 then (E0, M0, M1, M2, M3, M4, M5, M6, 2, U0, U2) else (if (lg_cmp p4 7) ≤ 0 then (zw_l (fX4_tells M0 (B4 p4.toInt32.toNatClampNeg)) (fun q23 => (E0, q23.1, M1, M2, M3, M4, M5, q23.2, M7, U0, U2))) else (E0, M0, M1, M2, M3, M4, M5, M6, 2, U0, U2))) else (if p3 = 1 then (if (K1 p1.toNatClampNeg) = 6 then (if (lg_cmp p4 0) = 0 then (zw_l (fX4_tells M0 0) (fun q19 => (E0, q19.1, M1, M2, M3, M4, M5, q19.2, M7, U0, U2))) else (zw_l (fX4_begins M0 M1 M2 M3 M4 M7 U0 U2 0 (K3 p1.toNatClampNeg) p2 p2) (fun q17 => (E0, q17.1, q17.2.1, q17.2.2.1, q17.2.2.2.1, q17.2.2.2.2.1, (vp_updL M5 (M0 - 1).toNatClampNeg p4), M6, q17.2.2.2.2.2.1, q17.2.2.2.2.2.2.1, q17.2.2.2.2.2.2.2)))) else (zw_l (fX4_begins M0 M1 M2 M3 M4 M7 U0 U2 0 (K3 p1.toNatClampNeg) p2 p2) (fun q14 => (E0, q14.1, q14.2.1, q14.2.2.1, q14.2.2.2.1, q14.2.2.2.2.1, (vp_updL M5 (M0 - 1).toNatClampNeg p4), M6, q14.2.2.2.2.2.1, q14.2.2.2.2.2.2.1, q14.2.2.2.2.2.2.2)))) else (zw_l (fX4_both M0 M6 M7 (K1 p1.toNatClampNeg) (M5 (M0 - 1).toNatClampNeg) p4) (fun q11 => (E0, q11.1, M1, M2, M3, M4, M5, q11.2.1, q11.2.2, U0, U2))))))))) else (if (K1 p1.toNatClampNeg) = 0 then (zw_l (fX4_tells M0 (B3 ((3 * p2) + (K2 p1.toNatClampNeg)).toNatClampNeg)) (fun q37 => (E0, q37.1, M1, M2, M3, M4, M5, q37.2, M7, U0, U2))) else (zw_l (fX4_tells M0 (((K2 p1.toNatClampNeg).toInt64) + ((K3 p1.toNatClampNeg).toInt64))) (fun q35 => (E0, q35.1, M1, M2, M3, M4, M5, q35.2, M7, U0, U2))))))
set_option maxHeartbeats 4000000 in
set_option maxRecDepth 100000 in
theorem kX4_goesScale {l : Launch} {D : va_G} {cI cL : ClassId} {b : Nat → Nat} {B0 : Int32} {B1 : Int32} {B2 : Int64} {B3 : (Nat → Int64)} {B4 : (Nat → Int64)} {B5 : (Nat → Int32)} {B6 : (Nat → Int32)} {K0 : (Nat → Int32)} {K1 : (Nat → Int32)} {K2 : (Nat → Int32)} {K3 : (Nat → Int32)} {K4 : (Nat → Int64)} {E0 : (Nat → Int32)} {M0 : Int32} {M1 : (Nat → Int32)} {M2 : (Nat → Int32)} {M3 : (Nat → Int32)} {M4 : (Nat → Int32)} {M5 : (Nat → Int64)} {M6 : Int64} {M7 : Int32} {U0 : Int32} {U1 : Int32} {U2 : Int32} {U3 : Int32} {U4 : Int32} {U5 : Int32} {G0 : Int32} {G1 : (Nat → Int64)} {G2 : (Nat → Int32)} {G3 : (Nat → Int64)} {G4 : (Nat → Int32)} {N0 : (Nat → Int64)} {N1 : (Nat → Int32)} {N2 : (Nat → Int64)} {N3 : (Nat → Int32)} {p1 : Int32} {p2 : Int32} {p3 : Int32} {p4 : Int64} {q : (Nat → Int32) × Int32 × (Nat → Int32) × (Nat → Int32) × (Nat → Int32) × (Nat → Int32) × (Nat → Int64) × Int64 × Int32 × Int32 × Int32} (hy1 : vp_in p1 72) (hy2 : vp_in M0 80) (hy3 : vp_in (M0 - 1) 80) (hy4 : K1 p1.toNatClampNeg = 0 → vp_in (3 * p2 + K2 p1.toNatClampNeg) 120) (hF : fX4_goesScale B3 B4 K1 K2 K3 K4 E0 M0 M1 M2 M3 M4 M5 M6 M7 U0 U2 p1 p2 p3 p4 = q) : zw_Mv l yX4_goesScale cX4_goesScale 9 D (zw_tys cI cL) (zw_rm 2 47) [.ref (b 0), .int p1, .int p2, .int p3, .long p4] (wM cI cL b B0 B1 B2 B3 B4 B5 B6 K0 K1 K2 K3 K4 E0 M0 M1 M2 M3 M4 M5 M6 M7 U0 U1 U2 U3 U4 U5 G0 G1 G2 G3 G4 N0 N1 N2 N3) (wM cI cL b B0 B1 B2 B3 B4 B5 B6 K0 K1 K2 K3 K4 q.1 q.2.1 q.2.2.1 q.2.2.2.1 q.2.2.2.2.1 q.2.2.2.2.2.1 q.2.2.2.2.2.2.1 q.2.2.2.2.2.2.2.1 q.2.2.2.2.2.2.2.2.1 q.2.2.2.2.2.2.2.2.2.1 U1 q.2.2.2.2.2.2.2.2.2.2 U3 U4 U5 G0 G1 G2 G3 G4 N0 N1 N2 N3) := by
  unfold fX4_goesScale at hF
  refine zw_Mv_of (own := RX4) (by decide) rfl (Nat.le_of_ble_eq_true rfl) ?_
  intro p e s m args below meth c A C hr hlk
  refine zw_eq (lv2 := [(0, .ref (b 0)), (1, .int p1), (2, .int p2), (3, .int p3), (4, .long p4)]) rfl rfl rfl ?_
  refine zw_aload_n C dX4_goesScale_0 0 rfl rfl ?_
  refine zw_get C FX4 0 6 (v := .ref (b 5)) rfl (by decide) lkX4_23 rfl dX4_goesScale_1 ?_
  refine zw_iload_n C dX4_goesScale_4 1 rfl rfl ?_
  refine zw_iald C 5 0 (f := K1) (i := p1) rfl rfl hy1 dX4_goesScale_5 ?_
  refine zw_istore C dX4_goesScale_6 (by decide) rfl ?_
  refine zw_aload_n C dX4_goesScale_8 1 rfl rfl ?_
  refine zw_get C FX4 0 7 (v := .ref (b 6)) rfl (by decide) lkX4_26 rfl dX4_goesScale_9 ?_
  refine zw_iload_n C dX4_goesScale_12 2 rfl rfl ?_
  refine zw_iald C 6 0 (f := K2) (i := p1) rfl rfl hy1 dX4_goesScale_13 ?_
  refine zw_istore C dX4_goesScale_14 (by decide) rfl ?_
  refine zw_aload_n C dX4_goesScale_16 2 rfl rfl ?_
  refine zw_get C FX4 0 8 (v := .ref (b 7)) rfl (by decide) lkX4_29 rfl dX4_goesScale_17 ?_
  refine zw_iload_n C dX4_goesScale_20 3 rfl rfl ?_
  refine zw_iald C 7 0 (f := K3) (i := p1) rfl rfl hy1 dX4_goesScale_21 ?_
  refine zw_istore C dX4_goesScale_22 (by decide) rfl ?_
  refine zw_iload C dX4_goesScale_24 2 rfl ?_
  refine zw_bipush C (v := 11) dX4_goesScale_26 (by decide) ?_
  refine zw_icmp_ne C 39 dX4_goesScale_28 (by decide) (fun h1 => ?_) (fun h1 => ?_)
  · rw [if_neg h1] at hF
    refine zw_iload C dX4_goesScale_39 2 rfl ?_
    refine zw_iconst C (v := 2) dX4_goesScale_41 (by decide) ?_
    refine zw_icmp_ge C 78 dX4_goesScale_42 (by decide) (fun h2 => ?_) (fun h2 => ?_)
    · rw [if_pos h2] at hF
      refine zw_iload C dX4_goesScale_78 2 rfl ?_
      refine zw_bipush C (v := 8) dX4_goesScale_80 (by decide) ?_
      refine zw_icmp_eq C 92 dX4_goesScale_82 (by decide) (fun h3 => ?_) (fun h3 => ?_)
      · rw [if_pos h3] at hF
        refine zw_aload_n C dX4_goesScale_92 3 rfl rfl ?_
        refine zw_aload_n C dX4_goesScale_93 3 rfl rfl ?_
        refine zw_get C FX4 0 9 (v := .ref (b 8)) rfl (by decide) lkX4_32 rfl dX4_goesScale_94 ?_
        refine zw_iload_n C dX4_goesScale_97 4 rfl rfl ?_
        refine zw_lald C 8 1 (f := K4) (i := p1) rfl rfl hy1 dX4_goesScale_98 ?_
        obtain ⟨q4, e5⟩ : ∃ z, fX4_tells M0 (K4 p1.toNatClampNeg) = z := ⟨_, rfl⟩
        rw [zw_l_eq e5] at hF
        refine zw_callv C kvX4_111 (kX4_tells e5) ⟨rfl, rfl, ⟨by decide, by decide⟩, by decide, by decide⟩ FX4 0 (As := [.long (K4 p1.toNatClampNeg)]) (rest := []) rfl rfl rfl (Nat.le_of_ble_eq_true rfl) dX4_goesScale_99 ?_
        refine zw_goto C 290 dX4_goesScale_102 (by decide) ?_
        subst hF; dsimp only
        exact zw_return C hr hlk dX4_goesScale_290 rfl
      · rw [if_neg h3] at hF
        refine zw_iload C dX4_goesScale_85 2 rfl ?_
        refine zw_bipush C (v := 9) dX4_goesScale_87 (by decide) ?_
        refine zw_icmp_ne C 105 dX4_goesScale_89 (by decide) (fun h6 => ?_) (fun h6 => ?_)
        · rw [if_neg h6] at hF
          refine zw_iload C dX4_goesScale_105 2 rfl ?_
          refine zw_bipush C (v := 10) dX4_goesScale_107 (by decide) ?_
          refine zw_icmp_ne C 146 dX4_goesScale_109 (by decide) (fun h7 => ?_) (fun h7 => ?_)
          · rw [if_neg h7] at hF
            refine zw_iload_n C dX4_goesScale_146 6 rfl rfl ?_
            refine zw_if_ne C 173 dX4_goesScale_147 (by decide) (fun h8 => ?_) (fun h8 => ?_)
            · rw [if_neg h8] at hF
              refine zw_iload C dX4_goesScale_173 2 rfl ?_
              refine zw_bipush C (v := 7) dX4_goesScale_175 (by decide) ?_
              refine zw_icmp_ne C 219 dX4_goesScale_177 (by decide) (fun h9 => ?_) (fun h9 => ?_)
              · rw [if_neg h9] at hF
                refine zw_iload_n C dX4_goesScale_219 6 rfl rfl ?_
                refine zw_iconst C (v := 1) dX4_goesScale_220 (by decide) ?_
                refine zw_icmp_ne C 271 dX4_goesScale_221 (by decide) (fun h10 => ?_) (fun h10 => ?_)
                · rw [if_neg h10] at hF
                  refine zw_aload_n C dX4_goesScale_271 3 rfl rfl ?_
                  refine zw_iload C dX4_goesScale_272 2 rfl ?_
                  refine zw_aload_n C dX4_goesScale_274 3 rfl rfl ?_
                  refine zw_get C FX4 0 16 (v := .ref (b 14)) rfl (by decide) lkX4_50 rfl dX4_goesScale_275 ?_
                  refine zw_aload_n C dX4_goesScale_278 3 rfl rfl ?_
                  refine zw_get C FX4 0 11 (v := .int M0) rfl (by decide) lkX4_104 rfl dX4_goesScale_279 ?_
                  refine zw_iconst C (v := 1) dX4_goesScale_282 (by decide) ?_
                  refine zw_isub C dX4_goesScale_283 ?_
                  refine zw_lald C 14 1 (f := M5) (i := (M0 - 1)) rfl rfl hy3 dX4_goesScale_284 ?_
                  refine zw_lload C dX4_goesScale_285 7 rfl ?_
                  obtain ⟨q11, e12⟩ : ∃ z, fX4_both M0 M6 M7 (K1 p1.toNatClampNeg) (M5 (M0 - 1).toNatClampNeg) p4 = z := ⟨_, rfl⟩
                  rw [zw_l_eq e12] at hF
                  refine zw_callv C kvX4_121 (kX4_both e12) ⟨rfl, rfl, ⟨by decide, by decide⟩, by decide, by decide⟩ FX4 0 (As := [.int (K1 p1.toNatClampNeg), .long (M5 (M0 - 1).toNatClampNeg), .long p4]) (rest := []) rfl rfl rfl (Nat.le_of_ble_eq_true rfl) dX4_goesScale_287 ?_
                  subst hF; dsimp only
                  exact zw_return C hr hlk dX4_goesScale_290 rfl
                · rw [if_pos h10] at hF
                  refine zw_iload C dX4_goesScale_224 2 rfl ?_
                  refine zw_bipush C (v := 6) dX4_goesScale_226 (by decide) ?_
                  refine zw_icmp_ne C 246 dX4_goesScale_228 (by decide) (fun h13 => ?_) (fun h13 => ?_)
                  · rw [if_neg h13] at hF
                    refine zw_aload_n C dX4_goesScale_246 3 rfl rfl ?_
                    refine zw_get C FX4 0 16 (v := .ref (b 14)) rfl (by decide) lkX4_50 rfl dX4_goesScale_247 ?_
                    refine zw_aload_n C dX4_goesScale_250 3 rfl rfl ?_
                    refine zw_get C FX4 0 11 (v := .int M0) rfl (by decide) lkX4_104 rfl dX4_goesScale_251 ?_
                    refine zw_iconst C (v := 1) dX4_goesScale_254 (by decide) ?_
                    refine zw_isub C dX4_goesScale_255 ?_
                    refine zw_lload C dX4_goesScale_256 7 rfl ?_
                    refine zw_last C 14 1 (f := M5) (i := (M0 - 1)) (ws2 := (wM cI cL b B0 B1 B2 B3 B4 B5 B6 K0 K1 K2 K3 K4 E0 M0 M1 M2 M3 M4 (vp_updL M5 (M0 - 1).toNatClampNeg p4) M6 M7 U0 U1 U2 U3 U4 U5 G0 G1 G2 G3 G4 N0 N1 N2 N3)) rfl rfl hy3 rfl dX4_goesScale_258 ?_
                    refine zw_aload_n C dX4_goesScale_259 3 rfl rfl ?_
                    refine zw_iconst C (v := 0) dX4_goesScale_260 (by decide) ?_
                    refine zw_iload C dX4_goesScale_261 0 rfl ?_
                    refine zw_iload_n C dX4_goesScale_263 5 rfl rfl ?_
                    refine zw_iload_n C dX4_goesScale_264 5 rfl rfl ?_
                    obtain ⟨q14, e15⟩ : ∃ z, fX4_begins M0 M1 M2 M3 M4 M7 U0 U2 0 (K3 p1.toNatClampNeg) p2 p2 = z := ⟨_, rfl⟩
                    rw [zw_l_eq e15] at hF
                    refine zw_callv C kvX4_115 (kX4_begins hy2 e15) ⟨rfl, rfl, ⟨by decide, by decide⟩, by decide, by decide⟩ FX4 0 (As := [.int 0, .int (K3 p1.toNatClampNeg), .int p2, .int p2]) (rest := []) rfl rfl rfl (Nat.le_of_ble_eq_true rfl) dX4_goesScale_265 ?_
                    refine zw_goto C 290 dX4_goesScale_268 (by decide) ?_
                    subst hF; dsimp only
                    exact zw_return C hr hlk dX4_goesScale_290 rfl
                  · rw [if_pos h13] at hF
                    refine zw_lload C dX4_goesScale_231 7 rfl ?_
                    refine zw_lconst C (v := 0) dX4_goesScale_233 (by decide) ?_
                    refine zw_lcmp C dX4_goesScale_234 ?_
                    refine zw_if_ne C 246 dX4_goesScale_235 (by decide) (fun h16 => ?_) (fun h16 => ?_)
                    · rw [if_neg h16] at hF
                      refine zw_aload_n C dX4_goesScale_246 3 rfl rfl ?_
                      refine zw_get C FX4 0 16 (v := .ref (b 14)) rfl (by decide) lkX4_50 rfl dX4_goesScale_247 ?_
                      refine zw_aload_n C dX4_goesScale_250 3 rfl rfl ?_
                      refine zw_get C FX4 0 11 (v := .int M0) rfl (by decide) lkX4_104 rfl dX4_goesScale_251 ?_
                      refine zw_iconst C (v := 1) dX4_goesScale_254 (by decide) ?_
                      refine zw_isub C dX4_goesScale_255 ?_
                      refine zw_lload C dX4_goesScale_256 7 rfl ?_
                      refine zw_last C 14 1 (f := M5) (i := (M0 - 1)) (ws2 := (wM cI cL b B0 B1 B2 B3 B4 B5 B6 K0 K1 K2 K3 K4 E0 M0 M1 M2 M3 M4 (vp_updL M5 (M0 - 1).toNatClampNeg p4) M6 M7 U0 U1 U2 U3 U4 U5 G0 G1 G2 G3 G4 N0 N1 N2 N3)) rfl rfl hy3 rfl dX4_goesScale_258 ?_
                      refine zw_aload_n C dX4_goesScale_259 3 rfl rfl ?_
                      refine zw_iconst C (v := 0) dX4_goesScale_260 (by decide) ?_
                      refine zw_iload C dX4_goesScale_261 0 rfl ?_
                      refine zw_iload_n C dX4_goesScale_263 5 rfl rfl ?_
                      refine zw_iload_n C dX4_goesScale_264 5 rfl rfl ?_
                      obtain ⟨q17, e18⟩ : ∃ z, fX4_begins M0 M1 M2 M3 M4 M7 U0 U2 0 (K3 p1.toNatClampNeg) p2 p2 = z := ⟨_, rfl⟩
                      rw [zw_l_eq e18] at hF
                      refine zw_callv C kvX4_115 (kX4_begins hy2 e18) ⟨rfl, rfl, ⟨by decide, by decide⟩, by decide, by decide⟩ FX4 0 (As := [.int 0, .int (K3 p1.toNatClampNeg), .int p2, .int p2]) (rest := []) rfl rfl rfl (Nat.le_of_ble_eq_true rfl) dX4_goesScale_265 ?_
                      refine zw_goto C 290 dX4_goesScale_268 (by decide) ?_
                      subst hF; dsimp only
                      exact zw_return C hr hlk dX4_goesScale_290 rfl
                    · rw [if_pos h16] at hF
                      refine zw_aload_n C dX4_goesScale_238 3 rfl rfl ?_
                      refine zw_lconst C (v := 0) dX4_goesScale_239 (by decide) ?_
                      obtain ⟨q19, e20⟩ : ∃ z, fX4_tells M0 0 = z := ⟨_, rfl⟩
                      rw [zw_l_eq e20] at hF
                      refine zw_callv C kvX4_111 (kX4_tells e20) ⟨rfl, rfl, ⟨by decide, by decide⟩, by decide, by decide⟩ FX4 0 (As := [.long 0]) (rest := []) rfl rfl rfl (Nat.le_of_ble_eq_true rfl) dX4_goesScale_240 ?_
                      refine zw_goto C 290 dX4_goesScale_243 (by decide) ?_
                      subst hF; dsimp only
                      exact zw_return C hr hlk dX4_goesScale_290 rfl
              · rw [if_pos h9] at hF
                refine zw_lload C dX4_goesScale_180 7 rfl ?_
                refine zw_lconst C (v := 0) dX4_goesScale_182 (by decide) ?_
                refine zw_lcmp C dX4_goesScale_183 ?_
                refine zw_if_lt C 196 dX4_goesScale_184 (by decide) (fun h21 => ?_) (fun h21 => ?_)
                · rw [if_pos h21] at hF
                  refine zw_aload_n C dX4_goesScale_196 3 rfl rfl ?_
                  refine zw_iconst C (v := 2) dX4_goesScale_197 (by decide) ?_
                  refine zw_put C FX4 GX4 0 18 (v := .int 2) (ws2 := (wM cI cL b B0 B1 B2 B3 B4 B5 B6 K0 K1 K2 K3 K4 E0 M0 M1 M2 M3 M4 M5 M6 2 U0 U1 U2 U3 U4 U5 G0 G1 G2 G3 G4 N0 N1 N2 N3)) rfl (by decide) lkX4_98 rfl rfl rfl (Nat.le_of_ble_eq_true rfl) rfl dX4_goesScale_198 ?_
                  refine zw_goto C 290 dX4_goesScale_201 (by decide) ?_
                  subst hF; dsimp only
                  exact zw_return C hr hlk dX4_goesScale_290 rfl
                · rw [if_neg h21] at hF
                  refine zw_lload C dX4_goesScale_187 7 rfl ?_
                  refine zw_ldc2 C lkcX4_119 dX4_goesScale_189 ?_
                  refine zw_lcmp C dX4_goesScale_192 ?_
                  refine zw_if_le C 204 dX4_goesScale_193 (by decide) (fun h22 => ?_) (fun h22 => ?_)
                  · rw [if_pos h22] at hF
                    refine zw_aload_n C dX4_goesScale_204 3 rfl rfl ?_
                    refine zw_aload_n C dX4_goesScale_205 3 rfl rfl ?_
                    refine zw_get C FX4 0 2 (v := .ref (b 2)) rfl (by decide) lkX4_13 rfl dX4_goesScale_206 ?_
                    refine zw_lload C dX4_goesScale_209 7 rfl ?_
                    refine zw_l2i C dX4_goesScale_211 ?_
                    refine zw_lald C 2 1 (f := B4) (i := p4.toInt32) rfl rfl (dm_row (by assumption) (by assumption)) dX4_goesScale_212 ?_
                    obtain ⟨q23, e24⟩ : ∃ z, fX4_tells M0 (B4 p4.toInt32.toNatClampNeg) = z := ⟨_, rfl⟩
                    rw [zw_l_eq e24] at hF
                    refine zw_callv C kvX4_111 (kX4_tells e24) ⟨rfl, rfl, ⟨by decide, by decide⟩, by decide, by decide⟩ FX4 0 (As := [.long (B4 p4.toInt32.toNatClampNeg)]) (rest := []) rfl rfl rfl (Nat.le_of_ble_eq_true rfl) dX4_goesScale_213 ?_
                    refine zw_goto C 290 dX4_goesScale_216 (by decide) ?_
                    subst hF; dsimp only
                    exact zw_return C hr hlk dX4_goesScale_290 rfl
                  · rw [if_neg h22] at hF
                    refine zw_aload_n C dX4_goesScale_196 3 rfl rfl ?_
                    refine zw_iconst C (v := 2) dX4_goesScale_197 (by decide) ?_
                    refine zw_put C FX4 GX4 0 18 (v := .int 2) (ws2 := (wM cI cL b B0 B1 B2 B3 B4 B5 B6 K0 K1 K2 K3 K4 E0 M0 M1 M2 M3 M4 M5 M6 2 U0 U1 U2 U3 U4 U5 G0 G1 G2 G3 G4 N0 N1 N2 N3)) rfl (by decide) lkX4_98 rfl rfl rfl (Nat.le_of_ble_eq_true rfl) rfl dX4_goesScale_198 ?_
                    refine zw_goto C 290 dX4_goesScale_201 (by decide) ?_
                    subst hF; dsimp only
                    exact zw_return C hr hlk dX4_goesScale_290 rfl
            · rw [if_pos h8] at hF
              refine zw_aload_n C dX4_goesScale_150 3 rfl rfl ?_
              refine zw_iload C dX4_goesScale_151 2 rfl ?_
              refine zw_bipush C (v := 6) dX4_goesScale_153 (by decide) ?_
              refine zw_icmp_ne C 162 dX4_goesScale_155 (by decide) (fun h25 => ?_) (fun h25 => ?_)
              · rw [if_neg h25] at hF
                refine zw_iconst C (v := 0) dX4_goesScale_162 (by decide) ?_
                refine zw_iload C dX4_goesScale_163 1 rfl ?_
                refine zw_iload_n C dX4_goesScale_165 5 rfl rfl ?_
                refine zw_iload_n C dX4_goesScale_166 5 rfl rfl ?_
                obtain ⟨q26, e27⟩ : ∃ z, fX4_begins M0 M1 M2 M3 M4 M7 U0 U2 0 (K2 p1.toNatClampNeg) p2 p2 = z := ⟨_, rfl⟩
                rw [zw_l_eq e27] at hF
                refine zw_callv C kvX4_115 (kX4_begins hy2 e27) ⟨rfl, rfl, ⟨by decide, by decide⟩, by decide, by decide⟩ FX4 0 (As := [.int 0, .int (K2 p1.toNatClampNeg), .int p2, .int p2]) (rest := []) rfl rfl rfl (Nat.le_of_ble_eq_true rfl) dX4_goesScale_167 ?_
                refine zw_goto C 290 dX4_goesScale_170 (by decide) ?_
                subst hF; dsimp only
                exact zw_return C hr hlk dX4_goesScale_290 rfl
              · rw [if_pos h25] at hF
                refine zw_iconst C (v := 1) dX4_goesScale_158 (by decide) ?_
                refine zw_goto C 163 dX4_goesScale_159 (by decide) ?_
                refine zw_iload C dX4_goesScale_163 1 rfl ?_
                refine zw_iload_n C dX4_goesScale_165 5 rfl rfl ?_
                refine zw_iload_n C dX4_goesScale_166 5 rfl rfl ?_
                obtain ⟨q28, e29⟩ : ∃ z, fX4_begins M0 M1 M2 M3 M4 M7 U0 U2 1 (K2 p1.toNatClampNeg) p2 p2 = z := ⟨_, rfl⟩
                rw [zw_l_eq e29] at hF
                refine zw_callv C kvX4_115 (kX4_begins hy2 e29) ⟨rfl, rfl, ⟨by decide, by decide⟩, by decide, by decide⟩ FX4 0 (As := [.int 1, .int (K2 p1.toNatClampNeg), .int p2, .int p2]) (rest := []) rfl rfl rfl (Nat.le_of_ble_eq_true rfl) dX4_goesScale_167 ?_
                refine zw_goto C 290 dX4_goesScale_170 (by decide) ?_
                subst hF; dsimp only
                exact zw_return C hr hlk dX4_goesScale_290 rfl
          · rw [if_pos h7] at hF
            refine zw_aload_n C dX4_goesScale_112 3 rfl rfl ?_
            refine zw_get C FX4 0 10 (v := .ref (b 9)) rfl (by decide) lkX4_35 rfl dX4_goesScale_113 ?_
            refine zw_iload_n C dX4_goesScale_116 4 rfl rfl ?_
            refine zw_dup2_11 C dX4_goesScale_117 rfl rfl ?_
            refine zw_iald C 9 0 (f := E0) (i := p1) rfl rfl hy1 dX4_goesScale_118 ?_
            refine zw_iconst C (v := 1) dX4_goesScale_119 (by decide) ?_
            refine zw_iadd C dX4_goesScale_120 ?_
            refine zw_iast C 9 0 (f := E0) (i := p1) (ws2 := (wM cI cL b B0 B1 B2 B3 B4 B5 B6 K0 K1 K2 K3 K4 (upd E0 p1.toNatClampNeg ((E0 p1.toNatClampNeg) + 1)) M0 M1 M2 M3 M4 M5 M6 M7 U0 U1 U2 U3 U4 U5 G0 G1 G2 G3 G4 N0 N1 N2 N3)) rfl rfl hy1 rfl dX4_goesScale_121 ?_
            refine zw_aload_n C dX4_goesScale_122 3 rfl rfl ?_
            refine zw_aload_n C dX4_goesScale_123 3 rfl rfl ?_
            refine zw_get C FX4 0 10 (v := .ref (b 9)) rfl (by decide) lkX4_35 rfl dX4_goesScale_124 ?_
            refine zw_iload_n C dX4_goesScale_127 4 rfl rfl ?_
            refine zw_iald C 9 0 (f := (upd E0 p1.toNatClampNeg ((E0 p1.toNatClampNeg) + 1))) (i := p1) rfl rfl hy1 dX4_goesScale_128 ?_
            refine zw_i2l C dX4_goesScale_129 ?_
            refine zw_lconst C (v := 1) dX4_goesScale_130 (by decide) ?_
            refine zw_lsub C dX4_goesScale_131 ?_
            refine zw_iload C dX4_goesScale_132 1 rfl ?_
            refine zw_i2l C dX4_goesScale_134 ?_
            refine zw_lmul C dX4_goesScale_135 ?_
            refine zw_iload C dX4_goesScale_136 0 rfl ?_
            refine zw_i2l C dX4_goesScale_138 ?_
            refine zw_ladd C dX4_goesScale_139 ?_
            obtain ⟨q30, e31⟩ : ∃ z, fX4_tells M0 ((((((upd E0 p1.toNatClampNeg ((E0 p1.toNatClampNeg) + 1)) p1.toNatClampNeg).toInt64) - 1) * ((K2 p1.toNatClampNeg).toInt64)) + ((K3 p1.toNatClampNeg).toInt64)) = z := ⟨_, rfl⟩
            rw [zw_l_eq e31] at hF
            refine zw_callv C kvX4_111 (kX4_tells e31) ⟨rfl, rfl, ⟨by decide, by decide⟩, by decide, by decide⟩ FX4 0 (As := [.long ((((((upd E0 p1.toNatClampNeg ((E0 p1.toNatClampNeg) + 1)) p1.toNatClampNeg).toInt64) - 1) * ((K2 p1.toNatClampNeg).toInt64)) + ((K3 p1.toNatClampNeg).toInt64))]) (rest := []) rfl rfl rfl (Nat.le_of_ble_eq_true rfl) dX4_goesScale_140 ?_
            refine zw_goto C 290 dX4_goesScale_143 (by decide) ?_
            subst hF; dsimp only
            exact zw_return C hr hlk dX4_goesScale_290 rfl
        · rw [if_pos h6] at hF
          refine zw_aload_n C dX4_goesScale_92 3 rfl rfl ?_
          refine zw_aload_n C dX4_goesScale_93 3 rfl rfl ?_
          refine zw_get C FX4 0 9 (v := .ref (b 8)) rfl (by decide) lkX4_32 rfl dX4_goesScale_94 ?_
          refine zw_iload_n C dX4_goesScale_97 4 rfl rfl ?_
          refine zw_lald C 8 1 (f := K4) (i := p1) rfl rfl hy1 dX4_goesScale_98 ?_
          obtain ⟨q32, e33⟩ : ∃ z, fX4_tells M0 (K4 p1.toNatClampNeg) = z := ⟨_, rfl⟩
          rw [zw_l_eq e33] at hF
          refine zw_callv C kvX4_111 (kX4_tells e33) ⟨rfl, rfl, ⟨by decide, by decide⟩, by decide, by decide⟩ FX4 0 (As := [.long (K4 p1.toNatClampNeg)]) (rest := []) rfl rfl rfl (Nat.le_of_ble_eq_true rfl) dX4_goesScale_99 ?_
          refine zw_goto C 290 dX4_goesScale_102 (by decide) ?_
          subst hF; dsimp only
          exact zw_return C hr hlk dX4_goesScale_290 rfl
    · rw [if_neg h2] at hF
      refine zw_aload_n C dX4_goesScale_45 3 rfl rfl ?_
      refine zw_iload C dX4_goesScale_46 2 rfl ?_
      refine zw_if_ne C 65 dX4_goesScale_48 (by decide) (fun h34 => ?_) (fun h34 => ?_)
      · rw [if_neg h34] at hF
        refine zw_iload C dX4_goesScale_65 1 rfl ?_
        refine zw_i2l C dX4_goesScale_67 ?_
        refine zw_iload C dX4_goesScale_68 0 rfl ?_
        refine zw_i2l C dX4_goesScale_70 ?_
        refine zw_ladd C dX4_goesScale_71 ?_
        obtain ⟨q35, e36⟩ : ∃ z, fX4_tells M0 (((K2 p1.toNatClampNeg).toInt64) + ((K3 p1.toNatClampNeg).toInt64)) = z := ⟨_, rfl⟩
        rw [zw_l_eq e36] at hF
        refine zw_callv C kvX4_111 (kX4_tells e36) ⟨rfl, rfl, ⟨by decide, by decide⟩, by decide, by decide⟩ FX4 0 (As := [.long (((K2 p1.toNatClampNeg).toInt64) + ((K3 p1.toNatClampNeg).toInt64))]) (rest := []) rfl rfl rfl (Nat.le_of_ble_eq_true rfl) dX4_goesScale_72 ?_
        refine zw_goto C 290 dX4_goesScale_75 (by decide) ?_
        subst hF; dsimp only
        exact zw_return C hr hlk dX4_goesScale_290 rfl
      · rw [if_pos h34] at hF
        refine zw_aload_n C dX4_goesScale_51 3 rfl rfl ?_
        refine zw_get C FX4 0 1 (v := .ref (b 1)) rfl (by decide) lkX4_7 rfl dX4_goesScale_52 ?_
        refine zw_iconst C (v := 3) dX4_goesScale_55 (by decide) ?_
        refine zw_iload_n C dX4_goesScale_56 5 rfl rfl ?_
        refine zw_imul C dX4_goesScale_57 ?_
        refine zw_iload C dX4_goesScale_58 1 rfl ?_
        refine zw_iadd C dX4_goesScale_60 ?_
        refine zw_lald C 1 1 (f := B3) (i := ((3 * p2) + (K2 p1.toNatClampNeg))) rfl rfl (hy4 (by assumption)) dX4_goesScale_61 ?_
        refine zw_goto C 72 dX4_goesScale_62 (by decide) ?_
        obtain ⟨q37, e38⟩ : ∃ z, fX4_tells M0 (B3 ((3 * p2) + (K2 p1.toNatClampNeg)).toNatClampNeg) = z := ⟨_, rfl⟩
        rw [zw_l_eq e38] at hF
        refine zw_callv C kvX4_111 (kX4_tells e38) ⟨rfl, rfl, ⟨by decide, by decide⟩, by decide, by decide⟩ FX4 0 (As := [.long (B3 ((3 * p2) + (K2 p1.toNatClampNeg)).toNatClampNeg)]) (rest := []) rfl rfl rfl (Nat.le_of_ble_eq_true rfl) dX4_goesScale_72 ?_
        refine zw_goto C 290 dX4_goesScale_75 (by decide) ?_
        subst hF; dsimp only
        exact zw_return C hr hlk dX4_goesScale_290 rfl
  · rw [if_pos h1] at hF
    refine zw_aload_n C dX4_goesScale_31 3 rfl rfl ?_
    refine zw_iconst C (v := 3) dX4_goesScale_32 (by decide) ?_
    refine zw_put C FX4 GX4 0 18 (v := .int 3) (ws2 := (wM cI cL b B0 B1 B2 B3 B4 B5 B6 K0 K1 K2 K3 K4 E0 M0 M1 M2 M3 M4 M5 M6 3 U0 U1 U2 U3 U4 U5 G0 G1 G2 G3 G4 N0 N1 N2 N3)) rfl (by decide) lkX4_98 rfl rfl rfl (Nat.le_of_ble_eq_true rfl) rfl dX4_goesScale_33 ?_
    refine zw_goto C 290 dX4_goesScale_36 (by decide) ?_
    subst hF; dsimp only
    exact zw_return C hr hlk dX4_goesScale_290 rfl
def fX4_goesSieve (K1 : (Nat → Int32)) (K2 : (Nat → Int32)) (K3 : (Nat → Int32)) (E0 : (Nat → Int32)) (M0 : Int32) (M1 : (Nat → Int32)) (M2 : (Nat → Int32)) (M3 : (Nat → Int32)) (M4 : (Nat → Int32)) (M5 : (Nat → Int64)) (M6 : Int64) (M7 : Int32) (U0 : Int32) (U2 : Int32) (p1 : Int32) (p2 : Int32) (p3 : Int32) (p4 : Int64) : (Nat → Int32) × Int32 × (Nat → Int32) × (Nat → Int32) × (Nat → Int32) × (Nat → Int32) × (Nat → Int64) × Int64 × Int32 × Int32 × Int32 := (if (K1 p1.toNatClampNeg) = 9 then (E0, M0, M1, M2, M3, M4, M5, M6, 3, U0, U2) else (if (K1 p1.toNatClampNeg) = 0 then (zw_l (fX4_tells M0 1) (fun q80 => (E0, q80.1, M1, M2, M3, M4, M5, q80.2, M7, U0, U2))) else (if (K1 p1.toNatClampNeg) = 6 then (if 1 ≤ (K2 p1.toNatClampNeg) then (if ((upd E0 p1.toNatClampNeg ((E0 p1.toNatClampNeg) + 1)) p1.toNatClampNeg) = (K2 p1.toNatClampNeg) then (zw_l (fX4_tells M0 1) (fun q73 => (upd (upd E0 p1.toNatClampNeg ((E0 p1.toNatClampNeg) + 1)) p1.toNatClampNeg 0, q73.1, M1, M2, M3, M4, M5, q73.2, M7, U0, U2))) else (zw_l (fX4_tells M0 0) (fun q71 => (upd (upd E0 p1.toNatClampNeg ((E0 p1.toNatClampNeg) + 1)) p1.toNatClampNeg ((upd E0 p1.toNatClampNeg ((E0 p1.toNatClampNeg) + 1)) p1.toNatClampNeg), q71.1, M1, M2, M3, M4, M5, q71.2, M7, U0, U2)))) else (if ((upd E0 p1.toNatClampNeg ((E0 p1.toNatClampNeg) + 1)) p1.toNatClampNeg) = 1 then (zw_l (fX4_tells M0 1) (fun q78 => (upd (upd E0 p1.toNatClampNeg ((E0 p1.toNatClampNeg) + 1)) p1.toNatClampNeg 0, q78.1, M1, M2, M3, M4, M5, q78.2, M7, U0, U2))) else (zw_l (fX4_tells M0 0) (fun q76 => (upd (upd E0 p1.toNatClampNeg ((E0 p1.toNatClampNeg) + 1)) p1.toNatClampNeg ((upd E0 p1.toNatClampNeg ((E0 p1.toNatClampNeg) + 1)) p1.toNatClampNeg), q76.1, M1, M2, M3, M4, M5, q76.2, M7, U0, U2))))) else (if (K1 p1.toNatClampNeg) = 7 then (if (K2 p1.toNatClampNeg) ≤ p2 then (zw_l (fX4_tells M0 0) (fun q65 => (E0, q65.1, M1, M2, M3, M4, M5, q65.2, M7, U0, U2))) else (zw_l (fX4_tells M0 1) (fun q67 => (E0, q67.1, M1, M2, M3, M4, M5, q67.2, M7, U0, U2)))) else (if p3 = 0 then (if 3 ≤ (K1 p1.toNatClampNeg) then (zw_l (fX4_begins M0 M1 M2 M3 M4 M7 U0 U2 1 (K2 p1.toNatClampNeg) p2 p2) (fun q60 => (E0, q60.1, q60.2.1, q60.2.2.1, q60.2.2.2.1, q60.2.2.2.2.1, M5, M6, q60.2.2.2.2.2.1, q60.2.2.2.2.2.2.1, q60.2.2.2.2.2.2.2))) else (zw_l (fX4_begins M0 M1 M2 M3 M4 M7 U0 U2 0 (K2 p1.toNatClampNeg) p2 p2) (fun q62 => (E0, q62.1, q62.2.1, q62.2.2.1, q62.2.2.2.1, q62.2.2.2.2.1, M5, M6, q62.2.2.2.2.2.1, q62.2.2.2.2.2.2.1, q62.2.2.2.2.2.2.2)))) else (if (K1 p1.toNatClampNeg) = 3 then (zw_l (fX4_tells M0 (1 - p4)) (fun q57 => (E0, q57.1, M1, M2, M3, M4, M5, q57.2, M7, U0, U2))) else (if (K1 p1.toNatClampNeg) = 8 then (zw_l (fX4_tells M0 p4) (fun q55 => (E0, q55.1, M1, M2, M3, M4, M5, q55.2, M7, U0, U2))) else (if p3 = 1 then (if (K1 p1.toNatClampNeg) = 4 then (if (lg_cmp p4 0) = 0 then (zw_l (fX4_tells M0 p4) (fun q39 => (E0, q39.1, M1, M2, M3, M4, M5, q39.2, M7, U0, U2))) else (if (K1 p1.toNatClampNeg) = 5 then (if (lg_cmp p4 1) = 0 then (zw_l (fX4_tells M0 p4) (fun q53 => (E0, q53.1, M1, M2, M3, M4, M5, q53.2, M7, U0, U2))) else (if 3 ≤ (K1 p1.toNatClampNeg) then (zw_l (fX4_begins M0 M1 M2 M3 M4 M7 U0 U2 1 (K3 p1.toNatClampNeg) p2 p2) (fun q49 => (E0, q49.1, q49.2.1, q49.2.2.1, q49.2.2.2.1, q49.2.2.2.2.1, (vp_updL M5 (M0 - 1).toNatClampNeg p4), M6, q49.2.2.2.2.2.1, q49.2.2.2.2.2.2.1, q49.2.2.2.2.2.2.2))) else (zw_l (fX4_begins M0 M1 M2 M3 M4 M7 U0 U2 0 (K3 p1.toNatClampNeg) p2 p2) (fun q51 => (E0, q51.1, q51.2.1, q51.2.2.1, q51.2.2.2.1, q51.2.2.2.2.1, (vp_updL M5 (M0 - 1).toNatClampNeg p4), M6, q51.2.2.2.2.2.1, q51.2.2.2.2.2.2.1, q51.2.2.2.2.2.2.2))))) else (if 3 ≤ (K1 p1.toNatClampNeg) then (zw_l (fX4_begins M0 M1 M2 M3 M4 M7 U0 U2 1 (K3 p1.toNatClampNeg) p2 p2) (fun q43 => (E0, q43.1, q43.2.1, q43.2.2.1, q43.2.2.2.1, q43.2.2.2.2.1, (vp_updL M5 (M0 - 1).toNatClampNeg p4), M6, q43.2.2.2.2.2.1, q43.2.2.2.2.2.2.1, q43.2.2.2.2.2.2.2))) else (zw_l (fX4_begins M0 M1 M2 M3 M4 M7 U0 U2 0 (K3 p1.toNatClampNeg) p2 p2) (fun q45 => (E0, q45.1, q45.2.1, q45.2.2.1, q45.2.2.2.1, q45.2.2.2.2.1, (vp_updL M5 (M0 - 1).toNatClampNeg p4), M6, q45.2.2.2.2.2.1, q45.2.2.2.2.2.2.1, q45.2.2.2.2.2.2.2)))))) else (if (K1 p1.toNatClampNeg) = 5 then (if (lg_cmp p4 1) = 0 then (zw_l (fX4_tells M0 p4) (fun q36 => (E0, q36.1, M1, M2, M3, M4, M5, q36.2, M7, U0, U2))) else (if 3 ≤ (K1 p1.toNatClampNeg) then (zw_l (fX4_begins M0 M1 M2 M3 M4 M7 U0 U2 1 (K3 p1.toNatClampNeg) p2 p2) (fun q32 => (E0, q32.1, q32.2.1, q32.2.2.1, q32.2.2.2.1, q32.2.2.2.2.1, (vp_updL M5 (M0 - 1).toNatClampNeg p4), M6, q32.2.2.2.2.2.1, q32.2.2.2.2.2.2.1, q32.2.2.2.2.2.2.2))) else (zw_l (fX4_begins M0 M1 M2 M3 M4 M7 U0 U2 0 (K3 p1.toNatClampNeg) p2 p2) (fun q34 => (E0, q34.1, q34.2.1, q34.2.2.1, q34.2.2.2.1, q34.2.2.2.2.1, (vp_updL M5 (M0 - 1).toNatClampNeg p4), M6, q34.2.2.2.2.2.1, q34.2.2.2.2.2.2.1, q34.2.2.2.2.2.2.2))))) else (if 3 ≤ (K1 p1.toNatClampNeg) then (zw_l (fX4_begins M0 M1 M2 M3 M4 M7 U0 U2 1 (K3 p1.toNatClampNeg) p2 p2) (fun q26 => (E0, q26.1, q26.2.1, q26.2.2.1, q26.2.2.2.1, q26.2.2.2.2.1, (vp_updL M5 (M0 - 1).toNatClampNeg p4), M6, q26.2.2.2.2.2.1, q26.2.2.2.2.2.2.1, q26.2.2.2.2.2.2.2))) else (zw_l (fX4_begins M0 M1 M2 M3 M4 M7 U0 U2 0 (K3 p1.toNatClampNeg) p2 p2) (fun q28 => (E0, q28.1, q28.2.1, q28.2.2.1, q28.2.2.2.1, q28.2.2.2.2.1, (vp_updL M5 (M0 - 1).toNatClampNeg p4), M6, q28.2.2.2.2.2.1, q28.2.2.2.2.2.2.1, q28.2.2.2.2.2.2.2)))))) else (if (K1 p1.toNatClampNeg) = 1 then (if (lg_cmp (M5 (M0 - 1).toNatClampNeg) p4) ≤ 0 then (zw_l (fX4_tells M0 0) (fun q19 => (E0, q19.1, M1, M2, M3, M4, M5, q19.2, M7, U0, U2))) else (zw_l (fX4_tells M0 1) (fun q21 => (E0, q21.1, M1, M2, M3, M4, M5, q21.2, M7, U0, U2)))) else (if (K1 p1.toNatClampNeg) = 2 then (if (lg_cmp (M5 (M0 - 1).toNatClampNeg) p4) = 0 then (zw_l (fX4_tells M0 1) (fun q16 => (E0, q16.1, M1, M2, M3, M4, M5, q16.2, M7, U0, U2))) else (zw_l (fX4_tells M0 0) (fun q14 => (E0, q14.1, M1, M2, M3, M4, M5, q14.2, M7, U0, U2)))) else (zw_l (fX4_tells M0 p4) (fun q11 => (E0, q11.1, M1, M2, M3, M4, M5, q11.2, M7, U0, U2)))))))))))))
set_option maxHeartbeats 4000000 in
set_option maxRecDepth 100000 in
theorem kX4_goesSieve {l : Launch} {D : va_G} {cI cL : ClassId} {b : Nat → Nat} {B0 : Int32} {B1 : Int32} {B2 : Int64} {B3 : (Nat → Int64)} {B4 : (Nat → Int64)} {B5 : (Nat → Int32)} {B6 : (Nat → Int32)} {K0 : (Nat → Int32)} {K1 : (Nat → Int32)} {K2 : (Nat → Int32)} {K3 : (Nat → Int32)} {K4 : (Nat → Int64)} {E0 : (Nat → Int32)} {M0 : Int32} {M1 : (Nat → Int32)} {M2 : (Nat → Int32)} {M3 : (Nat → Int32)} {M4 : (Nat → Int32)} {M5 : (Nat → Int64)} {M6 : Int64} {M7 : Int32} {U0 : Int32} {U1 : Int32} {U2 : Int32} {U3 : Int32} {U4 : Int32} {U5 : Int32} {G0 : Int32} {G1 : (Nat → Int64)} {G2 : (Nat → Int32)} {G3 : (Nat → Int64)} {G4 : (Nat → Int32)} {N0 : (Nat → Int64)} {N1 : (Nat → Int32)} {N2 : (Nat → Int64)} {N3 : (Nat → Int32)} {p1 : Int32} {p2 : Int32} {p3 : Int32} {p4 : Int64} {q : (Nat → Int32) × Int32 × (Nat → Int32) × (Nat → Int32) × (Nat → Int32) × (Nat → Int32) × (Nat → Int64) × Int64 × Int32 × Int32 × Int32} (hy1 : vp_in p1 72) (hy2 : vp_in M0 80) (hy3 : vp_in (M0 - 1) 80) (hF : fX4_goesSieve K1 K2 K3 E0 M0 M1 M2 M3 M4 M5 M6 M7 U0 U2 p1 p2 p3 p4 = q) : zw_Mv l yX4_goesSieve cX4_goesSieve 10 D (zw_tys cI cL) (zw_rm 1 24) [.ref (b 0), .int p1, .int p2, .int p3, .long p4] (wM cI cL b B0 B1 B2 B3 B4 B5 B6 K0 K1 K2 K3 K4 E0 M0 M1 M2 M3 M4 M5 M6 M7 U0 U1 U2 U3 U4 U5 G0 G1 G2 G3 G4 N0 N1 N2 N3) (wM cI cL b B0 B1 B2 B3 B4 B5 B6 K0 K1 K2 K3 K4 q.1 q.2.1 q.2.2.1 q.2.2.2.1 q.2.2.2.2.1 q.2.2.2.2.2.1 q.2.2.2.2.2.2.1 q.2.2.2.2.2.2.2.1 q.2.2.2.2.2.2.2.2.1 q.2.2.2.2.2.2.2.2.2.1 U1 q.2.2.2.2.2.2.2.2.2.2 U3 U4 U5 G0 G1 G2 G3 G4 N0 N1 N2 N3) := by
  unfold fX4_goesSieve at hF
  refine zw_Mv_of (own := RX4) (by decide) rfl (Nat.le_of_ble_eq_true rfl) ?_
  intro p e s m args below meth c A C hr hlk
  refine zw_eq (lv2 := [(0, .ref (b 0)), (1, .int p1), (2, .int p2), (3, .int p3), (4, .long p4)]) rfl rfl rfl ?_
  refine zw_aload_n C dX4_goesSieve_0 0 rfl rfl ?_
  refine zw_get C FX4 0 6 (v := .ref (b 5)) rfl (by decide) lkX4_23 rfl dX4_goesSieve_1 ?_
  refine zw_iload_n C dX4_goesSieve_4 1 rfl rfl ?_
  refine zw_iald C 5 0 (f := K1) (i := p1) rfl rfl hy1 dX4_goesSieve_5 ?_
  refine zw_istore C dX4_goesSieve_6 (by decide) rfl ?_
  refine zw_aload_n C dX4_goesSieve_8 1 rfl rfl ?_
  refine zw_get C FX4 0 7 (v := .ref (b 6)) rfl (by decide) lkX4_26 rfl dX4_goesSieve_9 ?_
  refine zw_iload_n C dX4_goesSieve_12 2 rfl rfl ?_
  refine zw_iald C 6 0 (f := K2) (i := p1) rfl rfl hy1 dX4_goesSieve_13 ?_
  refine zw_istore C dX4_goesSieve_14 (by decide) rfl ?_
  refine zw_iload C dX4_goesSieve_16 1 rfl ?_
  refine zw_bipush C (v := 9) dX4_goesSieve_18 (by decide) ?_
  refine zw_icmp_ne C 31 dX4_goesSieve_20 (by decide) (fun h1 => ?_) (fun h1 => ?_)
  · rw [if_neg h1] at hF
    refine zw_iload C dX4_goesSieve_31 1 rfl ?_
    refine zw_if_ne C 44 dX4_goesSieve_33 (by decide) (fun h2 => ?_) (fun h2 => ?_)
    · rw [if_neg h2] at hF
      refine zw_iload C dX4_goesSieve_44 1 rfl ?_
      refine zw_bipush C (v := 6) dX4_goesSieve_46 (by decide) ?_
      refine zw_icmp_ne C 131 dX4_goesSieve_48 (by decide) (fun h3 => ?_) (fun h3 => ?_)
      · rw [if_neg h3] at hF
        refine zw_iload C dX4_goesSieve_131 1 rfl ?_
        refine zw_bipush C (v := 7) dX4_goesSieve_133 (by decide) ?_
        refine zw_icmp_ne C 156 dX4_goesSieve_135 (by decide) (fun h4 => ?_) (fun h4 => ?_)
        · rw [if_neg h4] at hF
          refine zw_iload_n C dX4_goesSieve_156 5 rfl rfl ?_
          refine zw_if_ne C 182 dX4_goesSieve_157 (by decide) (fun h5 => ?_) (fun h5 => ?_)
          · rw [if_neg h5] at hF
            refine zw_iload C dX4_goesSieve_182 1 rfl ?_
            refine zw_iconst C (v := 3) dX4_goesSieve_184 (by decide) ?_
            refine zw_icmp_ne C 199 dX4_goesSieve_185 (by decide) (fun h6 => ?_) (fun h6 => ?_)
            · rw [if_neg h6] at hF
              refine zw_iload C dX4_goesSieve_199 1 rfl ?_
              refine zw_bipush C (v := 8) dX4_goesSieve_201 (by decide) ?_
              refine zw_icmp_ne C 215 dX4_goesSieve_203 (by decide) (fun h7 => ?_) (fun h7 => ?_)
              · rw [if_neg h7] at hF
                refine zw_iload_n C dX4_goesSieve_215 5 rfl rfl ?_
                refine zw_iconst C (v := 1) dX4_goesSieve_216 (by decide) ?_
                refine zw_icmp_ne C 294 dX4_goesSieve_217 (by decide) (fun h8 => ?_) (fun h8 => ?_)
                · rw [if_neg h8] at hF
                  refine zw_aload_n C dX4_goesSieve_294 2 rfl rfl ?_
                  refine zw_get C FX4 0 16 (v := .ref (b 14)) rfl (by decide) lkX4_50 rfl dX4_goesSieve_295 ?_
                  refine zw_aload_n C dX4_goesSieve_298 2 rfl rfl ?_
                  refine zw_get C FX4 0 11 (v := .int M0) rfl (by decide) lkX4_104 rfl dX4_goesSieve_299 ?_
                  refine zw_iconst C (v := 1) dX4_goesSieve_302 (by decide) ?_
                  refine zw_isub C dX4_goesSieve_303 ?_
                  refine zw_lald C 14 1 (f := M5) (i := (M0 - 1)) rfl rfl hy3 dX4_goesSieve_304 ?_
                  refine zw_lstore C dX4_goesSieve_305 (by decide) rfl ?_
                  refine zw_aload_n C dX4_goesSieve_307 3 rfl rfl ?_
                  refine zw_iload C dX4_goesSieve_308 2 rfl ?_
                  refine zw_iconst C (v := 1) dX4_goesSieve_310 (by decide) ?_
                  refine zw_icmp_ne C 330 dX4_goesSieve_311 (by decide) (fun h9 => ?_) (fun h9 => ?_)
                  · rw [if_neg h9] at hF
                    refine zw_iload C dX4_goesSieve_330 2 rfl ?_
                    refine zw_iconst C (v := 2) dX4_goesSieve_332 (by decide) ?_
                    refine zw_icmp_ne C 352 dX4_goesSieve_333 (by decide) (fun h10 => ?_) (fun h10 => ?_)
                    · rw [if_neg h10] at hF
                      refine zw_lload C dX4_goesSieve_352 7 rfl ?_
                      obtain ⟨q11, e12⟩ : ∃ z, fX4_tells M0 p4 = z := ⟨_, rfl⟩
                      rw [zw_l_eq e12] at hF
                      refine zw_callv C kvX4_111 (kX4_tells e12) ⟨rfl, rfl, ⟨by decide, by decide⟩, by decide, by decide⟩ FX4 0 (As := [.long p4]) (rest := []) rfl rfl rfl (Nat.le_of_ble_eq_true rfl) dX4_goesSieve_354 ?_
                      subst hF; dsimp only
                      exact zw_return C hr hlk dX4_goesSieve_357 rfl
                    · rw [if_pos h10] at hF
                      refine zw_lload C dX4_goesSieve_336 0 rfl ?_
                      refine zw_lload C dX4_goesSieve_338 7 rfl ?_
                      refine zw_lcmp C dX4_goesSieve_340 ?_
                      refine zw_if_ne C 348 dX4_goesSieve_341 (by decide) (fun h13 => ?_) (fun h13 => ?_)
                      · rw [if_neg h13] at hF
                        refine zw_lconst C (v := 0) dX4_goesSieve_348 (by decide) ?_
                        refine zw_goto C 354 dX4_goesSieve_349 (by decide) ?_
                        obtain ⟨q14, e15⟩ : ∃ z, fX4_tells M0 0 = z := ⟨_, rfl⟩
                        rw [zw_l_eq e15] at hF
                        refine zw_callv C kvX4_111 (kX4_tells e15) ⟨rfl, rfl, ⟨by decide, by decide⟩, by decide, by decide⟩ FX4 0 (As := [.long 0]) (rest := []) rfl rfl rfl (Nat.le_of_ble_eq_true rfl) dX4_goesSieve_354 ?_
                        subst hF; dsimp only
                        exact zw_return C hr hlk dX4_goesSieve_357 rfl
                      · rw [if_pos h13] at hF
                        refine zw_lconst C (v := 1) dX4_goesSieve_344 (by decide) ?_
                        refine zw_goto C 354 dX4_goesSieve_345 (by decide) ?_
                        obtain ⟨q16, e17⟩ : ∃ z, fX4_tells M0 1 = z := ⟨_, rfl⟩
                        rw [zw_l_eq e17] at hF
                        refine zw_callv C kvX4_111 (kX4_tells e17) ⟨rfl, rfl, ⟨by decide, by decide⟩, by decide, by decide⟩ FX4 0 (As := [.long 1]) (rest := []) rfl rfl rfl (Nat.le_of_ble_eq_true rfl) dX4_goesSieve_354 ?_
                        subst hF; dsimp only
                        exact zw_return C hr hlk dX4_goesSieve_357 rfl
                  · rw [if_pos h9] at hF
                    refine zw_lload C dX4_goesSieve_314 0 rfl ?_
                    refine zw_lload C dX4_goesSieve_316 7 rfl ?_
                    refine zw_lcmp C dX4_goesSieve_318 ?_
                    refine zw_if_le C 326 dX4_goesSieve_319 (by decide) (fun h18 => ?_) (fun h18 => ?_)
                    · rw [if_pos h18] at hF
                      refine zw_lconst C (v := 0) dX4_goesSieve_326 (by decide) ?_
                      refine zw_goto C 354 dX4_goesSieve_327 (by decide) ?_
                      obtain ⟨q19, e20⟩ : ∃ z, fX4_tells M0 0 = z := ⟨_, rfl⟩
                      rw [zw_l_eq e20] at hF
                      refine zw_callv C kvX4_111 (kX4_tells e20) ⟨rfl, rfl, ⟨by decide, by decide⟩, by decide, by decide⟩ FX4 0 (As := [.long 0]) (rest := []) rfl rfl rfl (Nat.le_of_ble_eq_true rfl) dX4_goesSieve_354 ?_
                      subst hF; dsimp only
                      exact zw_return C hr hlk dX4_goesSieve_357 rfl
                    · rw [if_neg h18] at hF
                      refine zw_lconst C (v := 1) dX4_goesSieve_322 (by decide) ?_
                      refine zw_goto C 354 dX4_goesSieve_323 (by decide) ?_
                      obtain ⟨q21, e22⟩ : ∃ z, fX4_tells M0 1 = z := ⟨_, rfl⟩
                      rw [zw_l_eq e22] at hF
                      refine zw_callv C kvX4_111 (kX4_tells e22) ⟨rfl, rfl, ⟨by decide, by decide⟩, by decide, by decide⟩ FX4 0 (As := [.long 1]) (rest := []) rfl rfl rfl (Nat.le_of_ble_eq_true rfl) dX4_goesSieve_354 ?_
                      subst hF; dsimp only
                      exact zw_return C hr hlk dX4_goesSieve_357 rfl
                · rw [if_pos h8] at hF
                  refine zw_iload C dX4_goesSieve_220 1 rfl ?_
                  refine zw_iconst C (v := 4) dX4_goesSieve_222 (by decide) ?_
                  refine zw_icmp_ne C 233 dX4_goesSieve_223 (by decide) (fun h23 => ?_) (fun h23 => ?_)
                  · rw [if_neg h23] at hF
                    refine zw_iload C dX4_goesSieve_233 1 rfl ?_
                    refine zw_iconst C (v := 5) dX4_goesSieve_235 (by decide) ?_
                    refine zw_icmp_ne C 255 dX4_goesSieve_236 (by decide) (fun h24 => ?_) (fun h24 => ?_)
                    · rw [if_neg h24] at hF
                      refine zw_aload_n C dX4_goesSieve_255 2 rfl rfl ?_
                      refine zw_get C FX4 0 16 (v := .ref (b 14)) rfl (by decide) lkX4_50 rfl dX4_goesSieve_256 ?_
                      refine zw_aload_n C dX4_goesSieve_259 2 rfl rfl ?_
                      refine zw_get C FX4 0 11 (v := .int M0) rfl (by decide) lkX4_104 rfl dX4_goesSieve_260 ?_
                      refine zw_iconst C (v := 1) dX4_goesSieve_263 (by decide) ?_
                      refine zw_isub C dX4_goesSieve_264 ?_
                      refine zw_lload C dX4_goesSieve_265 6 rfl ?_
                      refine zw_last C 14 1 (f := M5) (i := (M0 - 1)) (ws2 := (wM cI cL b B0 B1 B2 B3 B4 B5 B6 K0 K1 K2 K3 K4 E0 M0 M1 M2 M3 M4 (vp_updL M5 (M0 - 1).toNatClampNeg p4) M6 M7 U0 U1 U2 U3 U4 U5 G0 G1 G2 G3 G4 N0 N1 N2 N3)) rfl rfl hy3 rfl dX4_goesSieve_267 ?_
                      refine zw_aload_n C dX4_goesSieve_268 2 rfl rfl ?_
                      refine zw_iload C dX4_goesSieve_269 1 rfl ?_
                      refine zw_iconst C (v := 3) dX4_goesSieve_271 (by decide) ?_
                      refine zw_icmp_ge C 279 dX4_goesSieve_272 (by decide) (fun h25 => ?_) (fun h25 => ?_)
                      · rw [if_pos h25] at hF
                        refine zw_iconst C (v := 1) dX4_goesSieve_279 (by decide) ?_
                        refine zw_aload_n C dX4_goesSieve_280 2 rfl rfl ?_
                        refine zw_get C FX4 0 8 (v := .ref (b 7)) rfl (by decide) lkX4_29 rfl dX4_goesSieve_281 ?_
                        refine zw_iload_n C dX4_goesSieve_284 3 rfl rfl ?_
                        refine zw_iald C 7 0 (f := K3) (i := p1) rfl rfl hy1 dX4_goesSieve_285 ?_
                        refine zw_iload_n C dX4_goesSieve_286 4 rfl rfl ?_
                        refine zw_iload_n C dX4_goesSieve_287 4 rfl rfl ?_
                        obtain ⟨q26, e27⟩ : ∃ z, fX4_begins M0 M1 M2 M3 M4 M7 U0 U2 1 (K3 p1.toNatClampNeg) p2 p2 = z := ⟨_, rfl⟩
                        rw [zw_l_eq e27] at hF
                        refine zw_callv C kvX4_115 (kX4_begins hy2 e27) ⟨rfl, rfl, ⟨by decide, by decide⟩, by decide, by decide⟩ FX4 0 (As := [.int 1, .int (K3 p1.toNatClampNeg), .int p2, .int p2]) (rest := []) rfl rfl rfl (Nat.le_of_ble_eq_true rfl) dX4_goesSieve_288 ?_
                        refine zw_goto C 357 dX4_goesSieve_291 (by decide) ?_
                        subst hF; dsimp only
                        exact zw_return C hr hlk dX4_goesSieve_357 rfl
                      · rw [if_neg h25] at hF
                        refine zw_iconst C (v := 0) dX4_goesSieve_275 (by decide) ?_
                        refine zw_goto C 280 dX4_goesSieve_276 (by decide) ?_
                        refine zw_aload_n C dX4_goesSieve_280 2 rfl rfl ?_
                        refine zw_get C FX4 0 8 (v := .ref (b 7)) rfl (by decide) lkX4_29 rfl dX4_goesSieve_281 ?_
                        refine zw_iload_n C dX4_goesSieve_284 3 rfl rfl ?_
                        refine zw_iald C 7 0 (f := K3) (i := p1) rfl rfl hy1 dX4_goesSieve_285 ?_
                        refine zw_iload_n C dX4_goesSieve_286 4 rfl rfl ?_
                        refine zw_iload_n C dX4_goesSieve_287 4 rfl rfl ?_
                        obtain ⟨q28, e29⟩ : ∃ z, fX4_begins M0 M1 M2 M3 M4 M7 U0 U2 0 (K3 p1.toNatClampNeg) p2 p2 = z := ⟨_, rfl⟩
                        rw [zw_l_eq e29] at hF
                        refine zw_callv C kvX4_115 (kX4_begins hy2 e29) ⟨rfl, rfl, ⟨by decide, by decide⟩, by decide, by decide⟩ FX4 0 (As := [.int 0, .int (K3 p1.toNatClampNeg), .int p2, .int p2]) (rest := []) rfl rfl rfl (Nat.le_of_ble_eq_true rfl) dX4_goesSieve_288 ?_
                        refine zw_goto C 357 dX4_goesSieve_291 (by decide) ?_
                        subst hF; dsimp only
                        exact zw_return C hr hlk dX4_goesSieve_357 rfl
                    · rw [if_pos h24] at hF
                      refine zw_lload C dX4_goesSieve_239 6 rfl ?_
                      refine zw_lconst C (v := 1) dX4_goesSieve_241 (by decide) ?_
                      refine zw_lcmp C dX4_goesSieve_242 ?_
                      refine zw_if_ne C 255 dX4_goesSieve_243 (by decide) (fun h30 => ?_) (fun h30 => ?_)
                      · rw [if_neg h30] at hF
                        refine zw_aload_n C dX4_goesSieve_255 2 rfl rfl ?_
                        refine zw_get C FX4 0 16 (v := .ref (b 14)) rfl (by decide) lkX4_50 rfl dX4_goesSieve_256 ?_
                        refine zw_aload_n C dX4_goesSieve_259 2 rfl rfl ?_
                        refine zw_get C FX4 0 11 (v := .int M0) rfl (by decide) lkX4_104 rfl dX4_goesSieve_260 ?_
                        refine zw_iconst C (v := 1) dX4_goesSieve_263 (by decide) ?_
                        refine zw_isub C dX4_goesSieve_264 ?_
                        refine zw_lload C dX4_goesSieve_265 6 rfl ?_
                        refine zw_last C 14 1 (f := M5) (i := (M0 - 1)) (ws2 := (wM cI cL b B0 B1 B2 B3 B4 B5 B6 K0 K1 K2 K3 K4 E0 M0 M1 M2 M3 M4 (vp_updL M5 (M0 - 1).toNatClampNeg p4) M6 M7 U0 U1 U2 U3 U4 U5 G0 G1 G2 G3 G4 N0 N1 N2 N3)) rfl rfl hy3 rfl dX4_goesSieve_267 ?_
                        refine zw_aload_n C dX4_goesSieve_268 2 rfl rfl ?_
                        refine zw_iload C dX4_goesSieve_269 1 rfl ?_
                        refine zw_iconst C (v := 3) dX4_goesSieve_271 (by decide) ?_
                        refine zw_icmp_ge C 279 dX4_goesSieve_272 (by decide) (fun h31 => ?_) (fun h31 => ?_)
                        · rw [if_pos h31] at hF
                          refine zw_iconst C (v := 1) dX4_goesSieve_279 (by decide) ?_
                          refine zw_aload_n C dX4_goesSieve_280 2 rfl rfl ?_
                          refine zw_get C FX4 0 8 (v := .ref (b 7)) rfl (by decide) lkX4_29 rfl dX4_goesSieve_281 ?_
                          refine zw_iload_n C dX4_goesSieve_284 3 rfl rfl ?_
                          refine zw_iald C 7 0 (f := K3) (i := p1) rfl rfl hy1 dX4_goesSieve_285 ?_
                          refine zw_iload_n C dX4_goesSieve_286 4 rfl rfl ?_
                          refine zw_iload_n C dX4_goesSieve_287 4 rfl rfl ?_
                          obtain ⟨q32, e33⟩ : ∃ z, fX4_begins M0 M1 M2 M3 M4 M7 U0 U2 1 (K3 p1.toNatClampNeg) p2 p2 = z := ⟨_, rfl⟩
                          rw [zw_l_eq e33] at hF
                          refine zw_callv C kvX4_115 (kX4_begins hy2 e33) ⟨rfl, rfl, ⟨by decide, by decide⟩, by decide, by decide⟩ FX4 0 (As := [.int 1, .int (K3 p1.toNatClampNeg), .int p2, .int p2]) (rest := []) rfl rfl rfl (Nat.le_of_ble_eq_true rfl) dX4_goesSieve_288 ?_
                          refine zw_goto C 357 dX4_goesSieve_291 (by decide) ?_
                          subst hF; dsimp only
                          exact zw_return C hr hlk dX4_goesSieve_357 rfl
                        · rw [if_neg h31] at hF
                          refine zw_iconst C (v := 0) dX4_goesSieve_275 (by decide) ?_
                          refine zw_goto C 280 dX4_goesSieve_276 (by decide) ?_
                          refine zw_aload_n C dX4_goesSieve_280 2 rfl rfl ?_
                          refine zw_get C FX4 0 8 (v := .ref (b 7)) rfl (by decide) lkX4_29 rfl dX4_goesSieve_281 ?_
                          refine zw_iload_n C dX4_goesSieve_284 3 rfl rfl ?_
                          refine zw_iald C 7 0 (f := K3) (i := p1) rfl rfl hy1 dX4_goesSieve_285 ?_
                          refine zw_iload_n C dX4_goesSieve_286 4 rfl rfl ?_
                          refine zw_iload_n C dX4_goesSieve_287 4 rfl rfl ?_
                          obtain ⟨q34, e35⟩ : ∃ z, fX4_begins M0 M1 M2 M3 M4 M7 U0 U2 0 (K3 p1.toNatClampNeg) p2 p2 = z := ⟨_, rfl⟩
                          rw [zw_l_eq e35] at hF
                          refine zw_callv C kvX4_115 (kX4_begins hy2 e35) ⟨rfl, rfl, ⟨by decide, by decide⟩, by decide, by decide⟩ FX4 0 (As := [.int 0, .int (K3 p1.toNatClampNeg), .int p2, .int p2]) (rest := []) rfl rfl rfl (Nat.le_of_ble_eq_true rfl) dX4_goesSieve_288 ?_
                          refine zw_goto C 357 dX4_goesSieve_291 (by decide) ?_
                          subst hF; dsimp only
                          exact zw_return C hr hlk dX4_goesSieve_357 rfl
                      · rw [if_pos h30] at hF
                        refine zw_aload_n C dX4_goesSieve_246 2 rfl rfl ?_
                        refine zw_lload C dX4_goesSieve_247 6 rfl ?_
                        obtain ⟨q36, e37⟩ : ∃ z, fX4_tells M0 p4 = z := ⟨_, rfl⟩
                        rw [zw_l_eq e37] at hF
                        refine zw_callv C kvX4_111 (kX4_tells e37) ⟨rfl, rfl, ⟨by decide, by decide⟩, by decide, by decide⟩ FX4 0 (As := [.long p4]) (rest := []) rfl rfl rfl (Nat.le_of_ble_eq_true rfl) dX4_goesSieve_249 ?_
                        refine zw_goto C 357 dX4_goesSieve_252 (by decide) ?_
                        subst hF; dsimp only
                        exact zw_return C hr hlk dX4_goesSieve_357 rfl
                  · rw [if_pos h23] at hF
                    refine zw_lload C dX4_goesSieve_226 6 rfl ?_
                    refine zw_lconst C (v := 0) dX4_goesSieve_228 (by decide) ?_
                    refine zw_lcmp C dX4_goesSieve_229 ?_
                    refine zw_if_eq C 246 dX4_goesSieve_230 (by decide) (fun h38 => ?_) (fun h38 => ?_)
                    · rw [if_pos h38] at hF
                      refine zw_aload_n C dX4_goesSieve_246 2 rfl rfl ?_
                      refine zw_lload C dX4_goesSieve_247 6 rfl ?_
                      obtain ⟨q39, e40⟩ : ∃ z, fX4_tells M0 p4 = z := ⟨_, rfl⟩
                      rw [zw_l_eq e40] at hF
                      refine zw_callv C kvX4_111 (kX4_tells e40) ⟨rfl, rfl, ⟨by decide, by decide⟩, by decide, by decide⟩ FX4 0 (As := [.long p4]) (rest := []) rfl rfl rfl (Nat.le_of_ble_eq_true rfl) dX4_goesSieve_249 ?_
                      refine zw_goto C 357 dX4_goesSieve_252 (by decide) ?_
                      subst hF; dsimp only
                      exact zw_return C hr hlk dX4_goesSieve_357 rfl
                    · rw [if_neg h38] at hF
                      refine zw_iload C dX4_goesSieve_233 1 rfl ?_
                      refine zw_iconst C (v := 5) dX4_goesSieve_235 (by decide) ?_
                      refine zw_icmp_ne C 255 dX4_goesSieve_236 (by decide) (fun h41 => ?_) (fun h41 => ?_)
                      · rw [if_neg h41] at hF
                        refine zw_aload_n C dX4_goesSieve_255 2 rfl rfl ?_
                        refine zw_get C FX4 0 16 (v := .ref (b 14)) rfl (by decide) lkX4_50 rfl dX4_goesSieve_256 ?_
                        refine zw_aload_n C dX4_goesSieve_259 2 rfl rfl ?_
                        refine zw_get C FX4 0 11 (v := .int M0) rfl (by decide) lkX4_104 rfl dX4_goesSieve_260 ?_
                        refine zw_iconst C (v := 1) dX4_goesSieve_263 (by decide) ?_
                        refine zw_isub C dX4_goesSieve_264 ?_
                        refine zw_lload C dX4_goesSieve_265 6 rfl ?_
                        refine zw_last C 14 1 (f := M5) (i := (M0 - 1)) (ws2 := (wM cI cL b B0 B1 B2 B3 B4 B5 B6 K0 K1 K2 K3 K4 E0 M0 M1 M2 M3 M4 (vp_updL M5 (M0 - 1).toNatClampNeg p4) M6 M7 U0 U1 U2 U3 U4 U5 G0 G1 G2 G3 G4 N0 N1 N2 N3)) rfl rfl hy3 rfl dX4_goesSieve_267 ?_
                        refine zw_aload_n C dX4_goesSieve_268 2 rfl rfl ?_
                        refine zw_iload C dX4_goesSieve_269 1 rfl ?_
                        refine zw_iconst C (v := 3) dX4_goesSieve_271 (by decide) ?_
                        refine zw_icmp_ge C 279 dX4_goesSieve_272 (by decide) (fun h42 => ?_) (fun h42 => ?_)
                        · rw [if_pos h42] at hF
                          refine zw_iconst C (v := 1) dX4_goesSieve_279 (by decide) ?_
                          refine zw_aload_n C dX4_goesSieve_280 2 rfl rfl ?_
                          refine zw_get C FX4 0 8 (v := .ref (b 7)) rfl (by decide) lkX4_29 rfl dX4_goesSieve_281 ?_
                          refine zw_iload_n C dX4_goesSieve_284 3 rfl rfl ?_
                          refine zw_iald C 7 0 (f := K3) (i := p1) rfl rfl hy1 dX4_goesSieve_285 ?_
                          refine zw_iload_n C dX4_goesSieve_286 4 rfl rfl ?_
                          refine zw_iload_n C dX4_goesSieve_287 4 rfl rfl ?_
                          obtain ⟨q43, e44⟩ : ∃ z, fX4_begins M0 M1 M2 M3 M4 M7 U0 U2 1 (K3 p1.toNatClampNeg) p2 p2 = z := ⟨_, rfl⟩
                          rw [zw_l_eq e44] at hF
                          refine zw_callv C kvX4_115 (kX4_begins hy2 e44) ⟨rfl, rfl, ⟨by decide, by decide⟩, by decide, by decide⟩ FX4 0 (As := [.int 1, .int (K3 p1.toNatClampNeg), .int p2, .int p2]) (rest := []) rfl rfl rfl (Nat.le_of_ble_eq_true rfl) dX4_goesSieve_288 ?_
                          refine zw_goto C 357 dX4_goesSieve_291 (by decide) ?_
                          subst hF; dsimp only
                          exact zw_return C hr hlk dX4_goesSieve_357 rfl
                        · rw [if_neg h42] at hF
                          refine zw_iconst C (v := 0) dX4_goesSieve_275 (by decide) ?_
                          refine zw_goto C 280 dX4_goesSieve_276 (by decide) ?_
                          refine zw_aload_n C dX4_goesSieve_280 2 rfl rfl ?_
                          refine zw_get C FX4 0 8 (v := .ref (b 7)) rfl (by decide) lkX4_29 rfl dX4_goesSieve_281 ?_
                          refine zw_iload_n C dX4_goesSieve_284 3 rfl rfl ?_
                          refine zw_iald C 7 0 (f := K3) (i := p1) rfl rfl hy1 dX4_goesSieve_285 ?_
                          refine zw_iload_n C dX4_goesSieve_286 4 rfl rfl ?_
                          refine zw_iload_n C dX4_goesSieve_287 4 rfl rfl ?_
                          obtain ⟨q45, e46⟩ : ∃ z, fX4_begins M0 M1 M2 M3 M4 M7 U0 U2 0 (K3 p1.toNatClampNeg) p2 p2 = z := ⟨_, rfl⟩
                          rw [zw_l_eq e46] at hF
                          refine zw_callv C kvX4_115 (kX4_begins hy2 e46) ⟨rfl, rfl, ⟨by decide, by decide⟩, by decide, by decide⟩ FX4 0 (As := [.int 0, .int (K3 p1.toNatClampNeg), .int p2, .int p2]) (rest := []) rfl rfl rfl (Nat.le_of_ble_eq_true rfl) dX4_goesSieve_288 ?_
                          refine zw_goto C 357 dX4_goesSieve_291 (by decide) ?_
                          subst hF; dsimp only
                          exact zw_return C hr hlk dX4_goesSieve_357 rfl
                      · rw [if_pos h41] at hF
                        refine zw_lload C dX4_goesSieve_239 6 rfl ?_
                        refine zw_lconst C (v := 1) dX4_goesSieve_241 (by decide) ?_
                        refine zw_lcmp C dX4_goesSieve_242 ?_
                        refine zw_if_ne C 255 dX4_goesSieve_243 (by decide) (fun h47 => ?_) (fun h47 => ?_)
                        · rw [if_neg h47] at hF
                          refine zw_aload_n C dX4_goesSieve_255 2 rfl rfl ?_
                          refine zw_get C FX4 0 16 (v := .ref (b 14)) rfl (by decide) lkX4_50 rfl dX4_goesSieve_256 ?_
                          refine zw_aload_n C dX4_goesSieve_259 2 rfl rfl ?_
                          refine zw_get C FX4 0 11 (v := .int M0) rfl (by decide) lkX4_104 rfl dX4_goesSieve_260 ?_
                          refine zw_iconst C (v := 1) dX4_goesSieve_263 (by decide) ?_
                          refine zw_isub C dX4_goesSieve_264 ?_
                          refine zw_lload C dX4_goesSieve_265 6 rfl ?_
                          refine zw_last C 14 1 (f := M5) (i := (M0 - 1)) (ws2 := (wM cI cL b B0 B1 B2 B3 B4 B5 B6 K0 K1 K2 K3 K4 E0 M0 M1 M2 M3 M4 (vp_updL M5 (M0 - 1).toNatClampNeg p4) M6 M7 U0 U1 U2 U3 U4 U5 G0 G1 G2 G3 G4 N0 N1 N2 N3)) rfl rfl hy3 rfl dX4_goesSieve_267 ?_
                          refine zw_aload_n C dX4_goesSieve_268 2 rfl rfl ?_
                          refine zw_iload C dX4_goesSieve_269 1 rfl ?_
                          refine zw_iconst C (v := 3) dX4_goesSieve_271 (by decide) ?_
                          refine zw_icmp_ge C 279 dX4_goesSieve_272 (by decide) (fun h48 => ?_) (fun h48 => ?_)
                          · rw [if_pos h48] at hF
                            refine zw_iconst C (v := 1) dX4_goesSieve_279 (by decide) ?_
                            refine zw_aload_n C dX4_goesSieve_280 2 rfl rfl ?_
                            refine zw_get C FX4 0 8 (v := .ref (b 7)) rfl (by decide) lkX4_29 rfl dX4_goesSieve_281 ?_
                            refine zw_iload_n C dX4_goesSieve_284 3 rfl rfl ?_
                            refine zw_iald C 7 0 (f := K3) (i := p1) rfl rfl hy1 dX4_goesSieve_285 ?_
                            refine zw_iload_n C dX4_goesSieve_286 4 rfl rfl ?_
                            refine zw_iload_n C dX4_goesSieve_287 4 rfl rfl ?_
                            obtain ⟨q49, e50⟩ : ∃ z, fX4_begins M0 M1 M2 M3 M4 M7 U0 U2 1 (K3 p1.toNatClampNeg) p2 p2 = z := ⟨_, rfl⟩
                            rw [zw_l_eq e50] at hF
                            refine zw_callv C kvX4_115 (kX4_begins hy2 e50) ⟨rfl, rfl, ⟨by decide, by decide⟩, by decide, by decide⟩ FX4 0 (As := [.int 1, .int (K3 p1.toNatClampNeg), .int p2, .int p2]) (rest := []) rfl rfl rfl (Nat.le_of_ble_eq_true rfl) dX4_goesSieve_288 ?_
                            refine zw_goto C 357 dX4_goesSieve_291 (by decide) ?_
                            subst hF; dsimp only
                            exact zw_return C hr hlk dX4_goesSieve_357 rfl
                          · rw [if_neg h48] at hF
                            refine zw_iconst C (v := 0) dX4_goesSieve_275 (by decide) ?_
                            refine zw_goto C 280 dX4_goesSieve_276 (by decide) ?_
                            refine zw_aload_n C dX4_goesSieve_280 2 rfl rfl ?_
                            refine zw_get C FX4 0 8 (v := .ref (b 7)) rfl (by decide) lkX4_29 rfl dX4_goesSieve_281 ?_
                            refine zw_iload_n C dX4_goesSieve_284 3 rfl rfl ?_
                            refine zw_iald C 7 0 (f := K3) (i := p1) rfl rfl hy1 dX4_goesSieve_285 ?_
                            refine zw_iload_n C dX4_goesSieve_286 4 rfl rfl ?_
                            refine zw_iload_n C dX4_goesSieve_287 4 rfl rfl ?_
                            obtain ⟨q51, e52⟩ : ∃ z, fX4_begins M0 M1 M2 M3 M4 M7 U0 U2 0 (K3 p1.toNatClampNeg) p2 p2 = z := ⟨_, rfl⟩
                            rw [zw_l_eq e52] at hF
                            refine zw_callv C kvX4_115 (kX4_begins hy2 e52) ⟨rfl, rfl, ⟨by decide, by decide⟩, by decide, by decide⟩ FX4 0 (As := [.int 0, .int (K3 p1.toNatClampNeg), .int p2, .int p2]) (rest := []) rfl rfl rfl (Nat.le_of_ble_eq_true rfl) dX4_goesSieve_288 ?_
                            refine zw_goto C 357 dX4_goesSieve_291 (by decide) ?_
                            subst hF; dsimp only
                            exact zw_return C hr hlk dX4_goesSieve_357 rfl
                        · rw [if_pos h47] at hF
                          refine zw_aload_n C dX4_goesSieve_246 2 rfl rfl ?_
                          refine zw_lload C dX4_goesSieve_247 6 rfl ?_
                          obtain ⟨q53, e54⟩ : ∃ z, fX4_tells M0 p4 = z := ⟨_, rfl⟩
                          rw [zw_l_eq e54] at hF
                          refine zw_callv C kvX4_111 (kX4_tells e54) ⟨rfl, rfl, ⟨by decide, by decide⟩, by decide, by decide⟩ FX4 0 (As := [.long p4]) (rest := []) rfl rfl rfl (Nat.le_of_ble_eq_true rfl) dX4_goesSieve_249 ?_
                          refine zw_goto C 357 dX4_goesSieve_252 (by decide) ?_
                          subst hF; dsimp only
                          exact zw_return C hr hlk dX4_goesSieve_357 rfl
              · rw [if_pos h7] at hF
                refine zw_aload_n C dX4_goesSieve_206 2 rfl rfl ?_
                refine zw_lload C dX4_goesSieve_207 6 rfl ?_
                obtain ⟨q55, e56⟩ : ∃ z, fX4_tells M0 p4 = z := ⟨_, rfl⟩
                rw [zw_l_eq e56] at hF
                refine zw_callv C kvX4_111 (kX4_tells e56) ⟨rfl, rfl, ⟨by decide, by decide⟩, by decide, by decide⟩ FX4 0 (As := [.long p4]) (rest := []) rfl rfl rfl (Nat.le_of_ble_eq_true rfl) dX4_goesSieve_209 ?_
                refine zw_goto C 357 dX4_goesSieve_212 (by decide) ?_
                subst hF; dsimp only
                exact zw_return C hr hlk dX4_goesSieve_357 rfl
            · rw [if_pos h6] at hF
              refine zw_aload_n C dX4_goesSieve_188 2 rfl rfl ?_
              refine zw_lconst C (v := 1) dX4_goesSieve_189 (by decide) ?_
              refine zw_lload C dX4_goesSieve_190 6 rfl ?_
              refine zw_lsub C dX4_goesSieve_192 ?_
              obtain ⟨q57, e58⟩ : ∃ z, fX4_tells M0 (1 - p4) = z := ⟨_, rfl⟩
              rw [zw_l_eq e58] at hF
              refine zw_callv C kvX4_111 (kX4_tells e58) ⟨rfl, rfl, ⟨by decide, by decide⟩, by decide, by decide⟩ FX4 0 (As := [.long (1 - p4)]) (rest := []) rfl rfl rfl (Nat.le_of_ble_eq_true rfl) dX4_goesSieve_193 ?_
              refine zw_goto C 357 dX4_goesSieve_196 (by decide) ?_
              subst hF; dsimp only
              exact zw_return C hr hlk dX4_goesSieve_357 rfl
          · rw [if_pos h5] at hF
            refine zw_aload_n C dX4_goesSieve_160 2 rfl rfl ?_
            refine zw_iload C dX4_goesSieve_161 1 rfl ?_
            refine zw_iconst C (v := 3) dX4_goesSieve_163 (by decide) ?_
            refine zw_icmp_ge C 171 dX4_goesSieve_164 (by decide) (fun h59 => ?_) (fun h59 => ?_)
            · rw [if_pos h59] at hF
              refine zw_iconst C (v := 1) dX4_goesSieve_171 (by decide) ?_
              refine zw_iload C dX4_goesSieve_172 0 rfl ?_
              refine zw_iload_n C dX4_goesSieve_174 4 rfl rfl ?_
              refine zw_iload_n C dX4_goesSieve_175 4 rfl rfl ?_
              obtain ⟨q60, e61⟩ : ∃ z, fX4_begins M0 M1 M2 M3 M4 M7 U0 U2 1 (K2 p1.toNatClampNeg) p2 p2 = z := ⟨_, rfl⟩
              rw [zw_l_eq e61] at hF
              refine zw_callv C kvX4_115 (kX4_begins hy2 e61) ⟨rfl, rfl, ⟨by decide, by decide⟩, by decide, by decide⟩ FX4 0 (As := [.int 1, .int (K2 p1.toNatClampNeg), .int p2, .int p2]) (rest := []) rfl rfl rfl (Nat.le_of_ble_eq_true rfl) dX4_goesSieve_176 ?_
              refine zw_goto C 357 dX4_goesSieve_179 (by decide) ?_
              subst hF; dsimp only
              exact zw_return C hr hlk dX4_goesSieve_357 rfl
            · rw [if_neg h59] at hF
              refine zw_iconst C (v := 0) dX4_goesSieve_167 (by decide) ?_
              refine zw_goto C 172 dX4_goesSieve_168 (by decide) ?_
              refine zw_iload C dX4_goesSieve_172 0 rfl ?_
              refine zw_iload_n C dX4_goesSieve_174 4 rfl rfl ?_
              refine zw_iload_n C dX4_goesSieve_175 4 rfl rfl ?_
              obtain ⟨q62, e63⟩ : ∃ z, fX4_begins M0 M1 M2 M3 M4 M7 U0 U2 0 (K2 p1.toNatClampNeg) p2 p2 = z := ⟨_, rfl⟩
              rw [zw_l_eq e63] at hF
              refine zw_callv C kvX4_115 (kX4_begins hy2 e63) ⟨rfl, rfl, ⟨by decide, by decide⟩, by decide, by decide⟩ FX4 0 (As := [.int 0, .int (K2 p1.toNatClampNeg), .int p2, .int p2]) (rest := []) rfl rfl rfl (Nat.le_of_ble_eq_true rfl) dX4_goesSieve_176 ?_
              refine zw_goto C 357 dX4_goesSieve_179 (by decide) ?_
              subst hF; dsimp only
              exact zw_return C hr hlk dX4_goesSieve_357 rfl
        · rw [if_pos h4] at hF
          refine zw_aload_n C dX4_goesSieve_138 2 rfl rfl ?_
          refine zw_iload_n C dX4_goesSieve_139 4 rfl rfl ?_
          refine zw_iload C dX4_goesSieve_140 0 rfl ?_
          refine zw_icmp_ge C 149 dX4_goesSieve_142 (by decide) (fun h64 => ?_) (fun h64 => ?_)
          · rw [if_pos h64] at hF
            refine zw_lconst C (v := 0) dX4_goesSieve_149 (by decide) ?_
            obtain ⟨q65, e66⟩ : ∃ z, fX4_tells M0 0 = z := ⟨_, rfl⟩
            rw [zw_l_eq e66] at hF
            refine zw_callv C kvX4_111 (kX4_tells e66) ⟨rfl, rfl, ⟨by decide, by decide⟩, by decide, by decide⟩ FX4 0 (As := [.long 0]) (rest := []) rfl rfl rfl (Nat.le_of_ble_eq_true rfl) dX4_goesSieve_150 ?_
            refine zw_goto C 357 dX4_goesSieve_153 (by decide) ?_
            subst hF; dsimp only
            exact zw_return C hr hlk dX4_goesSieve_357 rfl
          · rw [if_neg h64] at hF
            refine zw_lconst C (v := 1) dX4_goesSieve_145 (by decide) ?_
            refine zw_goto C 150 dX4_goesSieve_146 (by decide) ?_
            obtain ⟨q67, e68⟩ : ∃ z, fX4_tells M0 1 = z := ⟨_, rfl⟩
            rw [zw_l_eq e68] at hF
            refine zw_callv C kvX4_111 (kX4_tells e68) ⟨rfl, rfl, ⟨by decide, by decide⟩, by decide, by decide⟩ FX4 0 (As := [.long 1]) (rest := []) rfl rfl rfl (Nat.le_of_ble_eq_true rfl) dX4_goesSieve_150 ?_
            refine zw_goto C 357 dX4_goesSieve_153 (by decide) ?_
            subst hF; dsimp only
            exact zw_return C hr hlk dX4_goesSieve_357 rfl
      · rw [if_pos h3] at hF
        refine zw_iload C dX4_goesSieve_51 0 rfl ?_
        refine zw_iconst C (v := 1) dX4_goesSieve_53 (by decide) ?_
        refine zw_icmp_ge C 61 dX4_goesSieve_54 (by decide) (fun h69 => ?_) (fun h69 => ?_)
        · rw [if_pos h69] at hF
          refine zw_iload C dX4_goesSieve_61 0 rfl ?_
          refine zw_istore C dX4_goesSieve_63 (by decide) rfl ?_
          refine zw_aload_n C dX4_goesSieve_65 3 rfl rfl ?_
          refine zw_get C FX4 0 10 (v := .ref (b 9)) rfl (by decide) lkX4_35 rfl dX4_goesSieve_66 ?_
          refine zw_iload_n C dX4_goesSieve_69 4 rfl rfl ?_
          refine zw_dup2_11 C dX4_goesSieve_70 rfl rfl ?_
          refine zw_iald C 9 0 (f := E0) (i := p1) rfl rfl hy1 dX4_goesSieve_71 ?_
          refine zw_iconst C (v := 1) dX4_goesSieve_72 (by decide) ?_
          refine zw_iadd C dX4_goesSieve_73 ?_
          refine zw_iast C 9 0 (f := E0) (i := p1) (ws2 := (wM cI cL b B0 B1 B2 B3 B4 B5 B6 K0 K1 K2 K3 K4 (upd E0 p1.toNatClampNeg ((E0 p1.toNatClampNeg) + 1)) M0 M1 M2 M3 M4 M5 M6 M7 U0 U1 U2 U3 U4 U5 G0 G1 G2 G3 G4 N0 N1 N2 N3)) rfl rfl hy1 rfl dX4_goesSieve_74 ?_
          refine zw_aload_n C dX4_goesSieve_75 3 rfl rfl ?_
          refine zw_get C FX4 0 10 (v := .ref (b 9)) rfl (by decide) lkX4_35 rfl dX4_goesSieve_76 ?_
          refine zw_iload_n C dX4_goesSieve_79 4 rfl rfl ?_
          refine zw_iald C 9 0 (f := (upd E0 p1.toNatClampNeg ((E0 p1.toNatClampNeg) + 1))) (i := p1) rfl rfl hy1 dX4_goesSieve_80 ?_
          refine zw_iload C dX4_goesSieve_81 0 rfl ?_
          refine zw_icmp_ne C 90 dX4_goesSieve_83 (by decide) (fun h70 => ?_) (fun h70 => ?_)
          · rw [if_neg h70] at hF
            refine zw_iconst C (v := 0) dX4_goesSieve_90 (by decide) ?_
            refine zw_istore C dX4_goesSieve_91 (by decide) rfl ?_
            refine zw_aload_n C dX4_goesSieve_93 4 rfl rfl ?_
            refine zw_get C FX4 0 10 (v := .ref (b 9)) rfl (by decide) lkX4_35 rfl dX4_goesSieve_94 ?_
            refine zw_iload_n C dX4_goesSieve_97 5 rfl rfl ?_
            refine zw_iload C dX4_goesSieve_98 0 rfl ?_
            refine zw_if_eq C 107 dX4_goesSieve_100 (by decide) (fun _ => ?_) (fun h => absurd h (by decide))
            refine zw_aload_n C dX4_goesSieve_107 4 rfl rfl ?_
            refine zw_get C FX4 0 10 (v := .ref (b 9)) rfl (by decide) lkX4_35 rfl dX4_goesSieve_108 ?_
            refine zw_iload_n C dX4_goesSieve_111 5 rfl rfl ?_
            refine zw_iald C 9 0 (f := (upd E0 p1.toNatClampNeg ((E0 p1.toNatClampNeg) + 1))) (i := p1) rfl rfl hy1 dX4_goesSieve_112 ?_
            refine zw_iast C 9 0 (f := (upd E0 p1.toNatClampNeg ((E0 p1.toNatClampNeg) + 1))) (i := p1) (ws2 := (wM cI cL b B0 B1 B2 B3 B4 B5 B6 K0 K1 K2 K3 K4 (upd (upd E0 p1.toNatClampNeg ((E0 p1.toNatClampNeg) + 1)) p1.toNatClampNeg ((upd E0 p1.toNatClampNeg ((E0 p1.toNatClampNeg) + 1)) p1.toNatClampNeg)) M0 M1 M2 M3 M4 M5 M6 M7 U0 U1 U2 U3 U4 U5 G0 G1 G2 G3 G4 N0 N1 N2 N3)) rfl rfl hy1 rfl dX4_goesSieve_113 ?_
            refine zw_aload_n C dX4_goesSieve_114 4 rfl rfl ?_
            refine zw_iload C dX4_goesSieve_115 0 rfl ?_
            refine zw_if_eq C 124 dX4_goesSieve_117 (by decide) (fun _ => ?_) (fun h => absurd h (by decide))
            refine zw_lconst C (v := 0) dX4_goesSieve_124 (by decide) ?_
            obtain ⟨q71, e72⟩ : ∃ z, fX4_tells M0 0 = z := ⟨_, rfl⟩
            rw [zw_l_eq e72] at hF
            refine zw_callv C kvX4_111 (kX4_tells e72) ⟨rfl, rfl, ⟨by decide, by decide⟩, by decide, by decide⟩ FX4 0 (As := [.long 0]) (rest := []) rfl rfl rfl (Nat.le_of_ble_eq_true rfl) dX4_goesSieve_125 ?_
            refine zw_goto C 357 dX4_goesSieve_128 (by decide) ?_
            subst hF; dsimp only
            exact zw_return C hr hlk dX4_goesSieve_357 rfl
          · rw [if_pos h70] at hF
            refine zw_iconst C (v := 1) dX4_goesSieve_86 (by decide) ?_
            refine zw_goto C 91 dX4_goesSieve_87 (by decide) ?_
            refine zw_istore C dX4_goesSieve_91 (by decide) rfl ?_
            refine zw_aload_n C dX4_goesSieve_93 4 rfl rfl ?_
            refine zw_get C FX4 0 10 (v := .ref (b 9)) rfl (by decide) lkX4_35 rfl dX4_goesSieve_94 ?_
            refine zw_iload_n C dX4_goesSieve_97 5 rfl rfl ?_
            refine zw_iload C dX4_goesSieve_98 0 rfl ?_
            refine zw_if_eq C 107 dX4_goesSieve_100 (by decide) (fun h => absurd h (by decide)) (fun _ => ?_)
            refine zw_iconst C (v := 0) dX4_goesSieve_103 (by decide) ?_
            refine zw_goto C 113 dX4_goesSieve_104 (by decide) ?_
            refine zw_iast C 9 0 (f := (upd E0 p1.toNatClampNeg ((E0 p1.toNatClampNeg) + 1))) (i := p1) (ws2 := (wM cI cL b B0 B1 B2 B3 B4 B5 B6 K0 K1 K2 K3 K4 (upd (upd E0 p1.toNatClampNeg ((E0 p1.toNatClampNeg) + 1)) p1.toNatClampNeg 0) M0 M1 M2 M3 M4 M5 M6 M7 U0 U1 U2 U3 U4 U5 G0 G1 G2 G3 G4 N0 N1 N2 N3)) rfl rfl hy1 rfl dX4_goesSieve_113 ?_
            refine zw_aload_n C dX4_goesSieve_114 4 rfl rfl ?_
            refine zw_iload C dX4_goesSieve_115 0 rfl ?_
            refine zw_if_eq C 124 dX4_goesSieve_117 (by decide) (fun h => absurd h (by decide)) (fun _ => ?_)
            refine zw_lconst C (v := 1) dX4_goesSieve_120 (by decide) ?_
            refine zw_goto C 125 dX4_goesSieve_121 (by decide) ?_
            obtain ⟨q73, e74⟩ : ∃ z, fX4_tells M0 1 = z := ⟨_, rfl⟩
            rw [zw_l_eq e74] at hF
            refine zw_callv C kvX4_111 (kX4_tells e74) ⟨rfl, rfl, ⟨by decide, by decide⟩, by decide, by decide⟩ FX4 0 (As := [.long 1]) (rest := []) rfl rfl rfl (Nat.le_of_ble_eq_true rfl) dX4_goesSieve_125 ?_
            refine zw_goto C 357 dX4_goesSieve_128 (by decide) ?_
            subst hF; dsimp only
            exact zw_return C hr hlk dX4_goesSieve_357 rfl
        · rw [if_neg h69] at hF
          refine zw_iconst C (v := 1) dX4_goesSieve_57 (by decide) ?_
          refine zw_goto C 63 dX4_goesSieve_58 (by decide) ?_
          refine zw_istore C dX4_goesSieve_63 (by decide) rfl ?_
          refine zw_aload_n C dX4_goesSieve_65 3 rfl rfl ?_
          refine zw_get C FX4 0 10 (v := .ref (b 9)) rfl (by decide) lkX4_35 rfl dX4_goesSieve_66 ?_
          refine zw_iload_n C dX4_goesSieve_69 4 rfl rfl ?_
          refine zw_dup2_11 C dX4_goesSieve_70 rfl rfl ?_
          refine zw_iald C 9 0 (f := E0) (i := p1) rfl rfl hy1 dX4_goesSieve_71 ?_
          refine zw_iconst C (v := 1) dX4_goesSieve_72 (by decide) ?_
          refine zw_iadd C dX4_goesSieve_73 ?_
          refine zw_iast C 9 0 (f := E0) (i := p1) (ws2 := (wM cI cL b B0 B1 B2 B3 B4 B5 B6 K0 K1 K2 K3 K4 (upd E0 p1.toNatClampNeg ((E0 p1.toNatClampNeg) + 1)) M0 M1 M2 M3 M4 M5 M6 M7 U0 U1 U2 U3 U4 U5 G0 G1 G2 G3 G4 N0 N1 N2 N3)) rfl rfl hy1 rfl dX4_goesSieve_74 ?_
          refine zw_aload_n C dX4_goesSieve_75 3 rfl rfl ?_
          refine zw_get C FX4 0 10 (v := .ref (b 9)) rfl (by decide) lkX4_35 rfl dX4_goesSieve_76 ?_
          refine zw_iload_n C dX4_goesSieve_79 4 rfl rfl ?_
          refine zw_iald C 9 0 (f := (upd E0 p1.toNatClampNeg ((E0 p1.toNatClampNeg) + 1))) (i := p1) rfl rfl hy1 dX4_goesSieve_80 ?_
          refine zw_iload C dX4_goesSieve_81 0 rfl ?_
          refine zw_icmp_ne C 90 dX4_goesSieve_83 (by decide) (fun h75 => ?_) (fun h75 => ?_)
          · rw [if_neg h75] at hF
            refine zw_iconst C (v := 0) dX4_goesSieve_90 (by decide) ?_
            refine zw_istore C dX4_goesSieve_91 (by decide) rfl ?_
            refine zw_aload_n C dX4_goesSieve_93 4 rfl rfl ?_
            refine zw_get C FX4 0 10 (v := .ref (b 9)) rfl (by decide) lkX4_35 rfl dX4_goesSieve_94 ?_
            refine zw_iload_n C dX4_goesSieve_97 5 rfl rfl ?_
            refine zw_iload C dX4_goesSieve_98 0 rfl ?_
            refine zw_if_eq C 107 dX4_goesSieve_100 (by decide) (fun _ => ?_) (fun h => absurd h (by decide))
            refine zw_aload_n C dX4_goesSieve_107 4 rfl rfl ?_
            refine zw_get C FX4 0 10 (v := .ref (b 9)) rfl (by decide) lkX4_35 rfl dX4_goesSieve_108 ?_
            refine zw_iload_n C dX4_goesSieve_111 5 rfl rfl ?_
            refine zw_iald C 9 0 (f := (upd E0 p1.toNatClampNeg ((E0 p1.toNatClampNeg) + 1))) (i := p1) rfl rfl hy1 dX4_goesSieve_112 ?_
            refine zw_iast C 9 0 (f := (upd E0 p1.toNatClampNeg ((E0 p1.toNatClampNeg) + 1))) (i := p1) (ws2 := (wM cI cL b B0 B1 B2 B3 B4 B5 B6 K0 K1 K2 K3 K4 (upd (upd E0 p1.toNatClampNeg ((E0 p1.toNatClampNeg) + 1)) p1.toNatClampNeg ((upd E0 p1.toNatClampNeg ((E0 p1.toNatClampNeg) + 1)) p1.toNatClampNeg)) M0 M1 M2 M3 M4 M5 M6 M7 U0 U1 U2 U3 U4 U5 G0 G1 G2 G3 G4 N0 N1 N2 N3)) rfl rfl hy1 rfl dX4_goesSieve_113 ?_
            refine zw_aload_n C dX4_goesSieve_114 4 rfl rfl ?_
            refine zw_iload C dX4_goesSieve_115 0 rfl ?_
            refine zw_if_eq C 124 dX4_goesSieve_117 (by decide) (fun _ => ?_) (fun h => absurd h (by decide))
            refine zw_lconst C (v := 0) dX4_goesSieve_124 (by decide) ?_
            obtain ⟨q76, e77⟩ : ∃ z, fX4_tells M0 0 = z := ⟨_, rfl⟩
            rw [zw_l_eq e77] at hF
            refine zw_callv C kvX4_111 (kX4_tells e77) ⟨rfl, rfl, ⟨by decide, by decide⟩, by decide, by decide⟩ FX4 0 (As := [.long 0]) (rest := []) rfl rfl rfl (Nat.le_of_ble_eq_true rfl) dX4_goesSieve_125 ?_
            refine zw_goto C 357 dX4_goesSieve_128 (by decide) ?_
            subst hF; dsimp only
            exact zw_return C hr hlk dX4_goesSieve_357 rfl
          · rw [if_pos h75] at hF
            refine zw_iconst C (v := 1) dX4_goesSieve_86 (by decide) ?_
            refine zw_goto C 91 dX4_goesSieve_87 (by decide) ?_
            refine zw_istore C dX4_goesSieve_91 (by decide) rfl ?_
            refine zw_aload_n C dX4_goesSieve_93 4 rfl rfl ?_
            refine zw_get C FX4 0 10 (v := .ref (b 9)) rfl (by decide) lkX4_35 rfl dX4_goesSieve_94 ?_
            refine zw_iload_n C dX4_goesSieve_97 5 rfl rfl ?_
            refine zw_iload C dX4_goesSieve_98 0 rfl ?_
            refine zw_if_eq C 107 dX4_goesSieve_100 (by decide) (fun h => absurd h (by decide)) (fun _ => ?_)
            refine zw_iconst C (v := 0) dX4_goesSieve_103 (by decide) ?_
            refine zw_goto C 113 dX4_goesSieve_104 (by decide) ?_
            refine zw_iast C 9 0 (f := (upd E0 p1.toNatClampNeg ((E0 p1.toNatClampNeg) + 1))) (i := p1) (ws2 := (wM cI cL b B0 B1 B2 B3 B4 B5 B6 K0 K1 K2 K3 K4 (upd (upd E0 p1.toNatClampNeg ((E0 p1.toNatClampNeg) + 1)) p1.toNatClampNeg 0) M0 M1 M2 M3 M4 M5 M6 M7 U0 U1 U2 U3 U4 U5 G0 G1 G2 G3 G4 N0 N1 N2 N3)) rfl rfl hy1 rfl dX4_goesSieve_113 ?_
            refine zw_aload_n C dX4_goesSieve_114 4 rfl rfl ?_
            refine zw_iload C dX4_goesSieve_115 0 rfl ?_
            refine zw_if_eq C 124 dX4_goesSieve_117 (by decide) (fun h => absurd h (by decide)) (fun _ => ?_)
            refine zw_lconst C (v := 1) dX4_goesSieve_120 (by decide) ?_
            refine zw_goto C 125 dX4_goesSieve_121 (by decide) ?_
            obtain ⟨q78, e79⟩ : ∃ z, fX4_tells M0 1 = z := ⟨_, rfl⟩
            rw [zw_l_eq e79] at hF
            refine zw_callv C kvX4_111 (kX4_tells e79) ⟨rfl, rfl, ⟨by decide, by decide⟩, by decide, by decide⟩ FX4 0 (As := [.long 1]) (rest := []) rfl rfl rfl (Nat.le_of_ble_eq_true rfl) dX4_goesSieve_125 ?_
            refine zw_goto C 357 dX4_goesSieve_128 (by decide) ?_
            subst hF; dsimp only
            exact zw_return C hr hlk dX4_goesSieve_357 rfl
    · rw [if_pos h2] at hF
      refine zw_aload_n C dX4_goesSieve_36 2 rfl rfl ?_
      refine zw_lconst C (v := 1) dX4_goesSieve_37 (by decide) ?_
      obtain ⟨q80, e81⟩ : ∃ z, fX4_tells M0 1 = z := ⟨_, rfl⟩
      rw [zw_l_eq e81] at hF
      refine zw_callv C kvX4_111 (kX4_tells e81) ⟨rfl, rfl, ⟨by decide, by decide⟩, by decide, by decide⟩ FX4 0 (As := [.long 1]) (rest := []) rfl rfl rfl (Nat.le_of_ble_eq_true rfl) dX4_goesSieve_38 ?_
      refine zw_goto C 357 dX4_goesSieve_41 (by decide) ?_
      subst hF; dsimp only
      exact zw_return C hr hlk dX4_goesSieve_357 rfl
  · rw [if_pos h1] at hF
    refine zw_aload_n C dX4_goesSieve_23 2 rfl rfl ?_
    refine zw_iconst C (v := 3) dX4_goesSieve_24 (by decide) ?_
    refine zw_put C FX4 GX4 0 18 (v := .int 3) (ws2 := (wM cI cL b B0 B1 B2 B3 B4 B5 B6 K0 K1 K2 K3 K4 E0 M0 M1 M2 M3 M4 M5 M6 3 U0 U1 U2 U3 U4 U5 G0 G1 G2 G3 G4 N0 N1 N2 N3)) rfl (by decide) lkX4_98 rfl rfl rfl (Nat.le_of_ble_eq_true rfl) rfl dX4_goesSieve_25 ?_
    refine zw_goto C 357 dX4_goesSieve_28 (by decide) ?_
    subst hF; dsimp only
    exact zw_return C hr hlk dX4_goesSieve_357 rfl
def fX4_goesOrder (K1 : (Nat → Int32)) (K2 : (Nat → Int32)) (K3 : (Nat → Int32)) (M0 : Int32) (M1 : (Nat → Int32)) (M2 : (Nat → Int32)) (M3 : (Nat → Int32)) (M4 : (Nat → Int32)) (M5 : (Nat → Int64)) (M6 : Int64) (M7 : Int32) (U0 : Int32) (U2 : Int32) (p1 : Int32) (p2 : Int32) (p3 : Int64) : Int32 × (Nat → Int32) × (Nat → Int32) × (Nat → Int32) × (Nat → Int32) × (Nat → Int64) × Int64 × Int32 × Int32 × Int32 := (if (K1 p1.toNatClampNeg) = 5 then (M0, M1, M2, M3, M4, M5, M6, 3, U0, U2) else (if (K1 p1.toNatClampNeg) = 4 then (if (M3 (M0 - 1).toNatClampNeg) ≤ (M2 (M0 - 1).toNatClampNeg) then (if (M2 (M0 - 1).toNatClampNeg) ≤ (M3 (M0 - 1).toNatClampNeg) then (zw_l (fX4_tells M0 0) (fun q67 => (q67.1, M1, M2, M3, M4, M5, q67.2, M7, U0, U2))) else (zw_l (fX4_tells M0 1) (fun q69 => (q69.1, M1, M2, M3, M4, M5, q69.2, M7, U0, U2)))) else (zw_l (fX4_tells M0 (-1)) (fun q71 => (q71.1, M1, M2, M3, M4, M5, q71.2, M7, U0, U2)))) else (if p2 = 0 then (if (K1 p1.toNatClampNeg) = 0 then (if (K1 p1.toNatClampNeg) = 0 then (zw_l (fX4_begins M0 M1 M2 M3 M4 M7 U0 U2 0 (K2 p1.toNatClampNeg) (M2 (M0 - 1).toNatClampNeg) (M2 (M0 - 1).toNatClampNeg)) (fun q58 => (q58.1, q58.2.1, q58.2.2.1, q58.2.2.2.1, q58.2.2.2.2.1, M5, M6, q58.2.2.2.2.2.1, q58.2.2.2.2.2.2.1, q58.2.2.2.2.2.2.2))) else (if (K1 p1.toNatClampNeg) = 3 then (zw_l (fX4_begins M0 M1 M2 M3 M4 M7 U0 U2 0 (K2 p1.toNatClampNeg) (M2 (M0 - 1).toNatClampNeg) (M2 (M0 - 1).toNatClampNeg)) (fun q63 => (q63.1, q63.2.1, q63.2.2.1, q63.2.2.2.1, q63.2.2.2.2.1, M5, M6, q63.2.2.2.2.2.1, q63.2.2.2.2.2.2.1, q63.2.2.2.2.2.2.2))) else (zw_l (fX4_begins M0 M1 M2 M3 M4 M7 U0 U2 0 (K2 p1.toNatClampNeg) (M2 (M0 - 1).toNatClampNeg) (M3 (M0 - 1).toNatClampNeg)) (fun q61 => (q61.1, q61.2.1, q61.2.2.1, q61.2.2.2.1, q61.2.2.2.2.1, M5, M6, q61.2.2.2.2.2.1, q61.2.2.2.2.2.2.1, q61.2.2.2.2.2.2.2))))) else (if (K1 p1.toNatClampNeg) = 3 then (if (K1 p1.toNatClampNeg) = 0 then (zw_l (fX4_begins M0 M1 M2 M3 M4 M7 U0 U2 1 (K2 p1.toNatClampNeg) (M2 (M0 - 1).toNatClampNeg) (M2 (M0 - 1).toNatClampNeg)) (fun q50 => (q50.1, q50.2.1, q50.2.2.1, q50.2.2.2.1, q50.2.2.2.2.1, M5, M6, q50.2.2.2.2.2.1, q50.2.2.2.2.2.2.1, q50.2.2.2.2.2.2.2))) else (if (K1 p1.toNatClampNeg) = 3 then (zw_l (fX4_begins M0 M1 M2 M3 M4 M7 U0 U2 1 (K2 p1.toNatClampNeg) (M2 (M0 - 1).toNatClampNeg) (M2 (M0 - 1).toNatClampNeg)) (fun q55 => (q55.1, q55.2.1, q55.2.2.1, q55.2.2.2.1, q55.2.2.2.2.1, M5, M6, q55.2.2.2.2.2.1, q55.2.2.2.2.2.2.1, q55.2.2.2.2.2.2.2))) else (zw_l (fX4_begins M0 M1 M2 M3 M4 M7 U0 U2 1 (K2 p1.toNatClampNeg) (M2 (M0 - 1).toNatClampNeg) (M3 (M0 - 1).toNatClampNeg)) (fun q53 => (q53.1, q53.2.1, q53.2.2.1, q53.2.2.2.1, q53.2.2.2.2.1, M5, M6, q53.2.2.2.2.2.1, q53.2.2.2.2.2.2.1, q53.2.2.2.2.2.2.2))))) else (if (K1 p1.toNatClampNeg) = 0 then (zw_l (fX4_begins M0 M1 M2 M3 M4 M7 U0 U2 2 (K2 p1.toNatClampNeg) (M2 (M0 - 1).toNatClampNeg) (M2 (M0 - 1).toNatClampNeg)) (fun q42 => (q42.1, q42.2.1, q42.2.2.1, q42.2.2.2.1, q42.2.2.2.2.1, M5, M6, q42.2.2.2.2.2.1, q42.2.2.2.2.2.2.1, q42.2.2.2.2.2.2.2))) else (if (K1 p1.toNatClampNeg) = 3 then (zw_l (fX4_begins M0 M1 M2 M3 M4 M7 U0 U2 2 (K2 p1.toNatClampNeg) (M2 (M0 - 1).toNatClampNeg) (M2 (M0 - 1).toNatClampNeg)) (fun q47 => (q47.1, q47.2.1, q47.2.2.1, q47.2.2.2.1, q47.2.2.2.2.1, M5, M6, q47.2.2.2.2.2.1, q47.2.2.2.2.2.2.1, q47.2.2.2.2.2.2.2))) else (zw_l (fX4_begins M0 M1 M2 M3 M4 M7 U0 U2 2 (K2 p1.toNatClampNeg) (M2 (M0 - 1).toNatClampNeg) (M3 (M0 - 1).toNatClampNeg)) (fun q45 => (q45.1, q45.2.1, q45.2.2.1, q45.2.2.2.1, q45.2.2.2.2.1, M5, M6, q45.2.2.2.2.2.1, q45.2.2.2.2.2.2.1, q45.2.2.2.2.2.2.2))))))) else (if (K1 p1.toNatClampNeg) = 1 then (zw_l (fX4_tells M0 (-p3)) (fun q37 => (q37.1, M1, M2, M3, M4, M5, q37.2, M7, U0, U2))) else (if (K1 p1.toNatClampNeg) = 2 then (if p2 = 1 then (if (lg_cmp p3 0) = 0 then (zw_l (fX4_begins M0 M1 M2 M3 M4 M7 U0 U2 2 (K3 p1.toNatClampNeg) (M2 (M0 - 1).toNatClampNeg) (M3 (M0 - 1).toNatClampNeg)) (fun q35 => (q35.1, q35.2.1, q35.2.2.1, q35.2.2.2.1, q35.2.2.2.2.1, M5, M6, q35.2.2.2.2.2.1, q35.2.2.2.2.2.2.1, q35.2.2.2.2.2.2.2))) else (zw_l (fX4_tells M0 p3) (fun q33 => (q33.1, M1, M2, M3, M4, M5, q33.2, M7, U0, U2)))) else (zw_l (fX4_tells M0 p3) (fun q30 => (q30.1, M1, M2, M3, M4, M5, q30.2, M7, U0, U2)))) else (if p2 = 1 then (if (K1 p1.toNatClampNeg) = 0 then (zw_l (fX4_begins M0 M1 M2 M3 M4 M7 U0 U2 0 (K2 p1.toNatClampNeg) (M3 (M0 - 1).toNatClampNeg) (M3 (M0 - 1).toNatClampNeg)) (fun q27 => (q27.1, q27.2.1, q27.2.2.1, q27.2.2.2.1, q27.2.2.2.2.1, (vp_updL M5 (M0 - 1).toNatClampNeg p3), M6, q27.2.2.2.2.2.1, q27.2.2.2.2.2.2.1, q27.2.2.2.2.2.2.2))) else (zw_l (fX4_begins M0 M1 M2 M3 M4 M7 U0 U2 1 (K2 p1.toNatClampNeg) (M3 (M0 - 1).toNatClampNeg) (M3 (M0 - 1).toNatClampNeg)) (fun q25 => (q25.1, q25.2.1, q25.2.2.1, q25.2.2.2.1, q25.2.2.2.2.1, (vp_updL M5 (M0 - 1).toNatClampNeg p3), M6, q25.2.2.2.2.2.1, q25.2.2.2.2.2.2.1, q25.2.2.2.2.2.2.2)))) else (if 0 ≤ (lg_cmp (M5 (M0 - 1).toNatClampNeg) p3) then (if (lg_cmp (M5 (M0 - 1).toNatClampNeg) p3) ≤ 0 then (if (K1 p1.toNatClampNeg) = 0 then (zw_l (fX4_tells M0 0) (fun q12 => (q12.1, M1, M2, M3, M4, M5, q12.2, M7, U0, U2))) else (zw_l (fX4_tells M0 (-0)) (fun q10 => (q10.1, M1, M2, M3, M4, M5, q10.2, M7, U0, U2)))) else (if (K1 p1.toNatClampNeg) = 0 then (zw_l (fX4_tells M0 1) (fun q17 => (q17.1, M1, M2, M3, M4, M5, q17.2, M7, U0, U2))) else (zw_l (fX4_tells M0 (-1)) (fun q15 => (q15.1, M1, M2, M3, M4, M5, q15.2, M7, U0, U2))))) else (if (K1 p1.toNatClampNeg) = 0 then (zw_l (fX4_tells M0 (-1)) (fun q22 => (q22.1, M1, M2, M3, M4, M5, q22.2, M7, U0, U2))) else (zw_l (fX4_tells M0 (-(-1))) (fun q20 => (q20.1, M1, M2, M3, M4, M5, q20.2, M7, U0, U2)))))))))))
set_option maxHeartbeats 4000000 in
set_option maxRecDepth 100000 in
theorem kX4_goesOrder {l : Launch} {D : va_G} {cI cL : ClassId} {b : Nat → Nat} {B0 : Int32} {B1 : Int32} {B2 : Int64} {B3 : (Nat → Int64)} {B4 : (Nat → Int64)} {B5 : (Nat → Int32)} {B6 : (Nat → Int32)} {K0 : (Nat → Int32)} {K1 : (Nat → Int32)} {K2 : (Nat → Int32)} {K3 : (Nat → Int32)} {K4 : (Nat → Int64)} {E0 : (Nat → Int32)} {M0 : Int32} {M1 : (Nat → Int32)} {M2 : (Nat → Int32)} {M3 : (Nat → Int32)} {M4 : (Nat → Int32)} {M5 : (Nat → Int64)} {M6 : Int64} {M7 : Int32} {U0 : Int32} {U1 : Int32} {U2 : Int32} {U3 : Int32} {U4 : Int32} {U5 : Int32} {G0 : Int32} {G1 : (Nat → Int64)} {G2 : (Nat → Int32)} {G3 : (Nat → Int64)} {G4 : (Nat → Int32)} {N0 : (Nat → Int64)} {N1 : (Nat → Int32)} {N2 : (Nat → Int64)} {N3 : (Nat → Int32)} {p1 : Int32} {p2 : Int32} {p3 : Int64} {q : Int32 × (Nat → Int32) × (Nat → Int32) × (Nat → Int32) × (Nat → Int32) × (Nat → Int64) × Int64 × Int32 × Int32 × Int32} (hy1 : vp_in p1 72) (hy2 : vp_in M0 80) (hy3 : vp_in (M0 - 1) 80) (hF : fX4_goesOrder K1 K2 K3 M0 M1 M2 M3 M4 M5 M6 M7 U0 U2 p1 p2 p3 = q) : zw_Mv l yX4_goesOrder cX4_goesOrder 12 D (zw_tys cI cL) (zw_rm 1 24) [.ref (b 0), .int p1, .int p2, .long p3] (wM cI cL b B0 B1 B2 B3 B4 B5 B6 K0 K1 K2 K3 K4 E0 M0 M1 M2 M3 M4 M5 M6 M7 U0 U1 U2 U3 U4 U5 G0 G1 G2 G3 G4 N0 N1 N2 N3) (wM cI cL b B0 B1 B2 B3 B4 B5 B6 K0 K1 K2 K3 K4 E0 q.1 q.2.1 q.2.2.1 q.2.2.2.1 q.2.2.2.2.1 q.2.2.2.2.2.1 q.2.2.2.2.2.2.1 q.2.2.2.2.2.2.2.1 q.2.2.2.2.2.2.2.2.1 U1 q.2.2.2.2.2.2.2.2.2 U3 U4 U5 G0 G1 G2 G3 G4 N0 N1 N2 N3) := by
  unfold fX4_goesOrder at hF
  refine zw_Mv_of (own := RX4) (by decide) rfl (Nat.le_of_ble_eq_true rfl) ?_
  intro p e s m args below meth c A C hr hlk
  refine zw_eq (lv2 := [(0, .ref (b 0)), (1, .int p1), (2, .int p2), (3, .long p3)]) rfl rfl rfl ?_
  refine zw_aload_n C dX4_goesOrder_0 0 rfl rfl ?_
  refine zw_get C FX4 0 6 (v := .ref (b 5)) rfl (by decide) lkX4_23 rfl dX4_goesOrder_1 ?_
  refine zw_iload_n C dX4_goesOrder_4 1 rfl rfl ?_
  refine zw_iald C 5 0 (f := K1) (i := p1) rfl rfl hy1 dX4_goesOrder_5 ?_
  refine zw_istore C dX4_goesOrder_6 (by decide) rfl ?_
  refine zw_aload_n C dX4_goesOrder_8 1 rfl rfl ?_
  refine zw_get C FX4 0 13 (v := .ref (b 11)) rfl (by decide) lkX4_41 rfl dX4_goesOrder_9 ?_
  refine zw_aload_n C dX4_goesOrder_12 1 rfl rfl ?_
  refine zw_get C FX4 0 11 (v := .int M0) rfl (by decide) lkX4_104 rfl dX4_goesOrder_13 ?_
  refine zw_iconst C (v := 1) dX4_goesOrder_16 (by decide) ?_
  refine zw_isub C dX4_goesOrder_17 ?_
  refine zw_iald C 11 0 (f := M2) (i := (M0 - 1)) rfl rfl hy3 dX4_goesOrder_18 ?_
  refine zw_istore C dX4_goesOrder_19 (by decide) rfl ?_
  refine zw_aload_n C dX4_goesOrder_21 2 rfl rfl ?_
  refine zw_get C FX4 0 14 (v := .ref (b 12)) rfl (by decide) lkX4_44 rfl dX4_goesOrder_22 ?_
  refine zw_aload_n C dX4_goesOrder_25 2 rfl rfl ?_
  refine zw_get C FX4 0 11 (v := .int M0) rfl (by decide) lkX4_104 rfl dX4_goesOrder_26 ?_
  refine zw_iconst C (v := 1) dX4_goesOrder_29 (by decide) ?_
  refine zw_isub C dX4_goesOrder_30 ?_
  refine zw_iald C 12 0 (f := M3) (i := (M0 - 1)) rfl rfl hy3 dX4_goesOrder_31 ?_
  refine zw_istore C dX4_goesOrder_32 (by decide) rfl ?_
  refine zw_iload C dX4_goesOrder_34 2 rfl ?_
  refine zw_iconst C (v := 5) dX4_goesOrder_36 (by decide) ?_
  refine zw_icmp_ne C 48 dX4_goesOrder_37 (by decide) (fun h1 => ?_) (fun h1 => ?_)
  · rw [if_neg h1] at hF
    refine zw_iload C dX4_goesOrder_48 2 rfl ?_
    refine zw_iconst C (v := 4) dX4_goesOrder_50 (by decide) ?_
    refine zw_icmp_ne C 86 dX4_goesOrder_51 (by decide) (fun h2 => ?_) (fun h2 => ?_)
    · rw [if_neg h2] at hF
      refine zw_iload_n C dX4_goesOrder_86 5 rfl rfl ?_
      refine zw_if_ne C 143 dX4_goesOrder_87 (by decide) (fun h3 => ?_) (fun h3 => ?_)
      · rw [if_neg h3] at hF
        refine zw_iload C dX4_goesOrder_143 2 rfl ?_
        refine zw_iconst C (v := 1) dX4_goesOrder_145 (by decide) ?_
        refine zw_icmp_ne C 158 dX4_goesOrder_146 (by decide) (fun h4 => ?_) (fun h4 => ?_)
        · rw [if_neg h4] at hF
          refine zw_iload C dX4_goesOrder_158 2 rfl ?_
          refine zw_iconst C (v := 2) dX4_goesOrder_160 (by decide) ?_
          refine zw_icmp_ne C 201 dX4_goesOrder_161 (by decide) (fun h5 => ?_) (fun h5 => ?_)
          · rw [if_neg h5] at hF
            refine zw_iload_n C dX4_goesOrder_201 5 rfl rfl ?_
            refine zw_iconst C (v := 1) dX4_goesOrder_202 (by decide) ?_
            refine zw_icmp_ne C 245 dX4_goesOrder_203 (by decide) (fun h6 => ?_) (fun h6 => ?_)
            · rw [if_neg h6] at hF
              refine zw_aload_n C dX4_goesOrder_245 3 rfl rfl ?_
              refine zw_get C FX4 0 16 (v := .ref (b 14)) rfl (by decide) lkX4_50 rfl dX4_goesOrder_246 ?_
              refine zw_aload_n C dX4_goesOrder_249 3 rfl rfl ?_
              refine zw_get C FX4 0 11 (v := .int M0) rfl (by decide) lkX4_104 rfl dX4_goesOrder_250 ?_
              refine zw_iconst C (v := 1) dX4_goesOrder_253 (by decide) ?_
              refine zw_isub C dX4_goesOrder_254 ?_
              refine zw_lald C 14 1 (f := M5) (i := (M0 - 1)) rfl rfl hy3 dX4_goesOrder_255 ?_
              refine zw_lstore C dX4_goesOrder_256 (by decide) rfl ?_
              refine zw_lload C dX4_goesOrder_258 0 rfl ?_
              refine zw_lload_n C dX4_goesOrder_260 7 rfl rfl ?_
              refine zw_lcmp C dX4_goesOrder_261 ?_
              refine zw_if_ge C 271 dX4_goesOrder_262 (by decide) (fun h7 => ?_) (fun h7 => ?_)
              · rw [if_pos h7] at hF
                refine zw_lload C dX4_goesOrder_271 0 rfl ?_
                refine zw_lload_n C dX4_goesOrder_273 7 rfl rfl ?_
                refine zw_lcmp C dX4_goesOrder_274 ?_
                refine zw_if_le C 282 dX4_goesOrder_275 (by decide) (fun h8 => ?_) (fun h8 => ?_)
                · rw [if_pos h8] at hF
                  refine zw_lconst C (v := 0) dX4_goesOrder_282 (by decide) ?_
                  refine zw_lstore C dX4_goesOrder_283 (by decide) rfl ?_
                  refine zw_aload_n C dX4_goesOrder_285 5 rfl rfl ?_
                  refine zw_iload C dX4_goesOrder_286 4 rfl ?_
                  refine zw_if_ne C 296 dX4_goesOrder_288 (by decide) (fun h9 => ?_) (fun h9 => ?_)
                  · rw [if_neg h9] at hF
                    refine zw_lload C dX4_goesOrder_296 0 rfl ?_
                    refine zw_lneg C dX4_goesOrder_298 ?_
                    obtain ⟨q10, e11⟩ : ∃ z, fX4_tells M0 (-0) = z := ⟨_, rfl⟩
                    rw [zw_l_eq e11] at hF
                    refine zw_callv C kvX4_111 (kX4_tells e11) ⟨rfl, rfl, ⟨by decide, by decide⟩, by decide, by decide⟩ FX4 0 (As := [.long (-0)]) (rest := []) rfl rfl rfl (Nat.le_of_ble_eq_true rfl) dX4_goesOrder_299 ?_
                    subst hF; dsimp only
                    exact zw_return C hr hlk dX4_goesOrder_302 rfl
                  · rw [if_pos h9] at hF
                    refine zw_lload C dX4_goesOrder_291 0 rfl ?_
                    refine zw_goto C 299 dX4_goesOrder_293 (by decide) ?_
                    obtain ⟨q12, e13⟩ : ∃ z, fX4_tells M0 0 = z := ⟨_, rfl⟩
                    rw [zw_l_eq e13] at hF
                    refine zw_callv C kvX4_111 (kX4_tells e13) ⟨rfl, rfl, ⟨by decide, by decide⟩, by decide, by decide⟩ FX4 0 (As := [.long 0]) (rest := []) rfl rfl rfl (Nat.le_of_ble_eq_true rfl) dX4_goesOrder_299 ?_
                    subst hF; dsimp only
                    exact zw_return C hr hlk dX4_goesOrder_302 rfl
                · rw [if_neg h8] at hF
                  refine zw_lconst C (v := 1) dX4_goesOrder_278 (by decide) ?_
                  refine zw_goto C 283 dX4_goesOrder_279 (by decide) ?_
                  refine zw_lstore C dX4_goesOrder_283 (by decide) rfl ?_
                  refine zw_aload_n C dX4_goesOrder_285 5 rfl rfl ?_
                  refine zw_iload C dX4_goesOrder_286 4 rfl ?_
                  refine zw_if_ne C 296 dX4_goesOrder_288 (by decide) (fun h14 => ?_) (fun h14 => ?_)
                  · rw [if_neg h14] at hF
                    refine zw_lload C dX4_goesOrder_296 0 rfl ?_
                    refine zw_lneg C dX4_goesOrder_298 ?_
                    obtain ⟨q15, e16⟩ : ∃ z, fX4_tells M0 (-1) = z := ⟨_, rfl⟩
                    rw [zw_l_eq e16] at hF
                    refine zw_callv C kvX4_111 (kX4_tells e16) ⟨rfl, rfl, ⟨by decide, by decide⟩, by decide, by decide⟩ FX4 0 (As := [.long (-1)]) (rest := []) rfl rfl rfl (Nat.le_of_ble_eq_true rfl) dX4_goesOrder_299 ?_
                    subst hF; dsimp only
                    exact zw_return C hr hlk dX4_goesOrder_302 rfl
                  · rw [if_pos h14] at hF
                    refine zw_lload C dX4_goesOrder_291 0 rfl ?_
                    refine zw_goto C 299 dX4_goesOrder_293 (by decide) ?_
                    obtain ⟨q17, e18⟩ : ∃ z, fX4_tells M0 1 = z := ⟨_, rfl⟩
                    rw [zw_l_eq e18] at hF
                    refine zw_callv C kvX4_111 (kX4_tells e18) ⟨rfl, rfl, ⟨by decide, by decide⟩, by decide, by decide⟩ FX4 0 (As := [.long 1]) (rest := []) rfl rfl rfl (Nat.le_of_ble_eq_true rfl) dX4_goesOrder_299 ?_
                    subst hF; dsimp only
                    exact zw_return C hr hlk dX4_goesOrder_302 rfl
              · rw [if_neg h7] at hF
                refine zw_ldc2 C lkcX4_125 dX4_goesOrder_265 ?_
                refine zw_goto C 283 dX4_goesOrder_268 (by decide) ?_
                refine zw_lstore C dX4_goesOrder_283 (by decide) rfl ?_
                refine zw_aload_n C dX4_goesOrder_285 5 rfl rfl ?_
                refine zw_iload C dX4_goesOrder_286 4 rfl ?_
                refine zw_if_ne C 296 dX4_goesOrder_288 (by decide) (fun h19 => ?_) (fun h19 => ?_)
                · rw [if_neg h19] at hF
                  refine zw_lload C dX4_goesOrder_296 0 rfl ?_
                  refine zw_lneg C dX4_goesOrder_298 ?_
                  obtain ⟨q20, e21⟩ : ∃ z, fX4_tells M0 (-(-1)) = z := ⟨_, rfl⟩
                  rw [zw_l_eq e21] at hF
                  refine zw_callv C kvX4_111 (kX4_tells e21) ⟨rfl, rfl, ⟨by decide, by decide⟩, by decide, by decide⟩ FX4 0 (As := [.long (-(-1))]) (rest := []) rfl rfl rfl (Nat.le_of_ble_eq_true rfl) dX4_goesOrder_299 ?_
                  subst hF; dsimp only
                  exact zw_return C hr hlk dX4_goesOrder_302 rfl
                · rw [if_pos h19] at hF
                  refine zw_lload C dX4_goesOrder_291 0 rfl ?_
                  refine zw_goto C 299 dX4_goesOrder_293 (by decide) ?_
                  obtain ⟨q22, e23⟩ : ∃ z, fX4_tells M0 (-1) = z := ⟨_, rfl⟩
                  rw [zw_l_eq e23] at hF
                  refine zw_callv C kvX4_111 (kX4_tells e23) ⟨rfl, rfl, ⟨by decide, by decide⟩, by decide, by decide⟩ FX4 0 (As := [.long (-1)]) (rest := []) rfl rfl rfl (Nat.le_of_ble_eq_true rfl) dX4_goesOrder_299 ?_
                  subst hF; dsimp only
                  exact zw_return C hr hlk dX4_goesOrder_302 rfl
            · rw [if_pos h6] at hF
              refine zw_aload_n C dX4_goesOrder_206 3 rfl rfl ?_
              refine zw_get C FX4 0 16 (v := .ref (b 14)) rfl (by decide) lkX4_50 rfl dX4_goesOrder_207 ?_
              refine zw_aload_n C dX4_goesOrder_210 3 rfl rfl ?_
              refine zw_get C FX4 0 11 (v := .int M0) rfl (by decide) lkX4_104 rfl dX4_goesOrder_211 ?_
              refine zw_iconst C (v := 1) dX4_goesOrder_214 (by decide) ?_
              refine zw_isub C dX4_goesOrder_215 ?_
              refine zw_lload_n C dX4_goesOrder_216 6 rfl rfl ?_
              refine zw_last C 14 1 (f := M5) (i := (M0 - 1)) (ws2 := (wM cI cL b B0 B1 B2 B3 B4 B5 B6 K0 K1 K2 K3 K4 E0 M0 M1 M2 M3 M4 (vp_updL M5 (M0 - 1).toNatClampNeg p3) M6 M7 U0 U1 U2 U3 U4 U5 G0 G1 G2 G3 G4 N0 N1 N2 N3)) rfl rfl hy3 rfl dX4_goesOrder_217 ?_
              refine zw_aload_n C dX4_goesOrder_218 3 rfl rfl ?_
              refine zw_iload C dX4_goesOrder_219 2 rfl ?_
              refine zw_if_ne C 228 dX4_goesOrder_221 (by decide) (fun h24 => ?_) (fun h24 => ?_)
              · rw [if_neg h24] at hF
                refine zw_iconst C (v := 1) dX4_goesOrder_228 (by decide) ?_
                refine zw_aload_n C dX4_goesOrder_229 3 rfl rfl ?_
                refine zw_get C FX4 0 7 (v := .ref (b 6)) rfl (by decide) lkX4_26 rfl dX4_goesOrder_230 ?_
                refine zw_iload_n C dX4_goesOrder_233 4 rfl rfl ?_
                refine zw_iald C 6 0 (f := K2) (i := p1) rfl rfl hy1 dX4_goesOrder_234 ?_
                refine zw_iload C dX4_goesOrder_235 0 rfl ?_
                refine zw_iload C dX4_goesOrder_237 0 rfl ?_
                obtain ⟨q25, e26⟩ : ∃ z, fX4_begins M0 M1 M2 M3 M4 M7 U0 U2 1 (K2 p1.toNatClampNeg) (M3 (M0 - 1).toNatClampNeg) (M3 (M0 - 1).toNatClampNeg) = z := ⟨_, rfl⟩
                rw [zw_l_eq e26] at hF
                refine zw_callv C kvX4_115 (kX4_begins hy2 e26) ⟨rfl, rfl, ⟨by decide, by decide⟩, by decide, by decide⟩ FX4 0 (As := [.int 1, .int (K2 p1.toNatClampNeg), .int (M3 (M0 - 1).toNatClampNeg), .int (M3 (M0 - 1).toNatClampNeg)]) (rest := []) rfl rfl rfl (Nat.le_of_ble_eq_true rfl) dX4_goesOrder_239 ?_
                refine zw_goto C 302 dX4_goesOrder_242 (by decide) ?_
                subst hF; dsimp only
                exact zw_return C hr hlk dX4_goesOrder_302 rfl
              · rw [if_pos h24] at hF
                refine zw_iconst C (v := 0) dX4_goesOrder_224 (by decide) ?_
                refine zw_goto C 229 dX4_goesOrder_225 (by decide) ?_
                refine zw_aload_n C dX4_goesOrder_229 3 rfl rfl ?_
                refine zw_get C FX4 0 7 (v := .ref (b 6)) rfl (by decide) lkX4_26 rfl dX4_goesOrder_230 ?_
                refine zw_iload_n C dX4_goesOrder_233 4 rfl rfl ?_
                refine zw_iald C 6 0 (f := K2) (i := p1) rfl rfl hy1 dX4_goesOrder_234 ?_
                refine zw_iload C dX4_goesOrder_235 0 rfl ?_
                refine zw_iload C dX4_goesOrder_237 0 rfl ?_
                obtain ⟨q27, e28⟩ : ∃ z, fX4_begins M0 M1 M2 M3 M4 M7 U0 U2 0 (K2 p1.toNatClampNeg) (M3 (M0 - 1).toNatClampNeg) (M3 (M0 - 1).toNatClampNeg) = z := ⟨_, rfl⟩
                rw [zw_l_eq e28] at hF
                refine zw_callv C kvX4_115 (kX4_begins hy2 e28) ⟨rfl, rfl, ⟨by decide, by decide⟩, by decide, by decide⟩ FX4 0 (As := [.int 0, .int (K2 p1.toNatClampNeg), .int (M3 (M0 - 1).toNatClampNeg), .int (M3 (M0 - 1).toNatClampNeg)]) (rest := []) rfl rfl rfl (Nat.le_of_ble_eq_true rfl) dX4_goesOrder_239 ?_
                refine zw_goto C 302 dX4_goesOrder_242 (by decide) ?_
                subst hF; dsimp only
                exact zw_return C hr hlk dX4_goesOrder_302 rfl
          · rw [if_pos h5] at hF
            refine zw_iload_n C dX4_goesOrder_164 5 rfl rfl ?_
            refine zw_iconst C (v := 1) dX4_goesOrder_165 (by decide) ?_
            refine zw_icmp_ne C 193 dX4_goesOrder_166 (by decide) (fun h29 => ?_) (fun h29 => ?_)
            · rw [if_neg h29] at hF
              refine zw_aload_n C dX4_goesOrder_193 3 rfl rfl ?_
              refine zw_lload_n C dX4_goesOrder_194 6 rfl rfl ?_
              obtain ⟨q30, e31⟩ : ∃ z, fX4_tells M0 p3 = z := ⟨_, rfl⟩
              rw [zw_l_eq e31] at hF
              refine zw_callv C kvX4_111 (kX4_tells e31) ⟨rfl, rfl, ⟨by decide, by decide⟩, by decide, by decide⟩ FX4 0 (As := [.long p3]) (rest := []) rfl rfl rfl (Nat.le_of_ble_eq_true rfl) dX4_goesOrder_195 ?_
              refine zw_goto C 302 dX4_goesOrder_198 (by decide) ?_
              subst hF; dsimp only
              exact zw_return C hr hlk dX4_goesOrder_302 rfl
            · rw [if_pos h29] at hF
              refine zw_lload_n C dX4_goesOrder_169 6 rfl rfl ?_
              refine zw_lconst C (v := 0) dX4_goesOrder_170 (by decide) ?_
              refine zw_lcmp C dX4_goesOrder_171 ?_
              refine zw_if_ne C 193 dX4_goesOrder_172 (by decide) (fun h32 => ?_) (fun h32 => ?_)
              · rw [if_neg h32] at hF
                refine zw_aload_n C dX4_goesOrder_193 3 rfl rfl ?_
                refine zw_lload_n C dX4_goesOrder_194 6 rfl rfl ?_
                obtain ⟨q33, e34⟩ : ∃ z, fX4_tells M0 p3 = z := ⟨_, rfl⟩
                rw [zw_l_eq e34] at hF
                refine zw_callv C kvX4_111 (kX4_tells e34) ⟨rfl, rfl, ⟨by decide, by decide⟩, by decide, by decide⟩ FX4 0 (As := [.long p3]) (rest := []) rfl rfl rfl (Nat.le_of_ble_eq_true rfl) dX4_goesOrder_195 ?_
                refine zw_goto C 302 dX4_goesOrder_198 (by decide) ?_
                subst hF; dsimp only
                exact zw_return C hr hlk dX4_goesOrder_302 rfl
              · rw [if_pos h32] at hF
                refine zw_aload_n C dX4_goesOrder_175 3 rfl rfl ?_
                refine zw_iconst C (v := 2) dX4_goesOrder_176 (by decide) ?_
                refine zw_aload_n C dX4_goesOrder_177 3 rfl rfl ?_
                refine zw_get C FX4 0 8 (v := .ref (b 7)) rfl (by decide) lkX4_29 rfl dX4_goesOrder_178 ?_
                refine zw_iload_n C dX4_goesOrder_181 4 rfl rfl ?_
                refine zw_iald C 7 0 (f := K3) (i := p1) rfl rfl hy1 dX4_goesOrder_182 ?_
                refine zw_iload C dX4_goesOrder_183 1 rfl ?_
                refine zw_iload C dX4_goesOrder_185 0 rfl ?_
                obtain ⟨q35, e36⟩ : ∃ z, fX4_begins M0 M1 M2 M3 M4 M7 U0 U2 2 (K3 p1.toNatClampNeg) (M2 (M0 - 1).toNatClampNeg) (M3 (M0 - 1).toNatClampNeg) = z := ⟨_, rfl⟩
                rw [zw_l_eq e36] at hF
                refine zw_callv C kvX4_115 (kX4_begins hy2 e36) ⟨rfl, rfl, ⟨by decide, by decide⟩, by decide, by decide⟩ FX4 0 (As := [.int 2, .int (K3 p1.toNatClampNeg), .int (M2 (M0 - 1).toNatClampNeg), .int (M3 (M0 - 1).toNatClampNeg)]) (rest := []) rfl rfl rfl (Nat.le_of_ble_eq_true rfl) dX4_goesOrder_187 ?_
                refine zw_goto C 302 dX4_goesOrder_190 (by decide) ?_
                subst hF; dsimp only
                exact zw_return C hr hlk dX4_goesOrder_302 rfl
        · rw [if_pos h4] at hF
          refine zw_aload_n C dX4_goesOrder_149 3 rfl rfl ?_
          refine zw_lload_n C dX4_goesOrder_150 6 rfl rfl ?_
          refine zw_lneg C dX4_goesOrder_151 ?_
          obtain ⟨q37, e38⟩ : ∃ z, fX4_tells M0 (-p3) = z := ⟨_, rfl⟩
          rw [zw_l_eq e38] at hF
          refine zw_callv C kvX4_111 (kX4_tells e38) ⟨rfl, rfl, ⟨by decide, by decide⟩, by decide, by decide⟩ FX4 0 (As := [.long (-p3)]) (rest := []) rfl rfl rfl (Nat.le_of_ble_eq_true rfl) dX4_goesOrder_152 ?_
          refine zw_goto C 302 dX4_goesOrder_155 (by decide) ?_
          subst hF; dsimp only
          exact zw_return C hr hlk dX4_goesOrder_302 rfl
      · rw [if_pos h3] at hF
        refine zw_aload_n C dX4_goesOrder_90 3 rfl rfl ?_
        refine zw_iload C dX4_goesOrder_91 2 rfl ?_
        refine zw_if_ne C 100 dX4_goesOrder_93 (by decide) (fun h39 => ?_) (fun h39 => ?_)
        · rw [if_neg h39] at hF
          refine zw_iload C dX4_goesOrder_100 2 rfl ?_
          refine zw_iconst C (v := 3) dX4_goesOrder_102 (by decide) ?_
          refine zw_icmp_ne C 110 dX4_goesOrder_103 (by decide) (fun h40 => ?_) (fun h40 => ?_)
          · rw [if_neg h40] at hF
            refine zw_iconst C (v := 2) dX4_goesOrder_110 (by decide) ?_
            refine zw_aload_n C dX4_goesOrder_111 3 rfl rfl ?_
            refine zw_get C FX4 0 7 (v := .ref (b 6)) rfl (by decide) lkX4_26 rfl dX4_goesOrder_112 ?_
            refine zw_iload_n C dX4_goesOrder_115 4 rfl rfl ?_
            refine zw_iald C 6 0 (f := K2) (i := p1) rfl rfl hy1 dX4_goesOrder_116 ?_
            refine zw_iload C dX4_goesOrder_117 1 rfl ?_
            refine zw_iload C dX4_goesOrder_119 2 rfl ?_
            refine zw_if_eq C 130 dX4_goesOrder_121 (by decide) (fun h41 => ?_) (fun h41 => ?_)
            · rw [if_pos h41] at hF
              refine zw_iload C dX4_goesOrder_130 1 rfl ?_
              refine zw_goto C 137 dX4_goesOrder_132 (by decide) ?_
              obtain ⟨q42, e43⟩ : ∃ z, fX4_begins M0 M1 M2 M3 M4 M7 U0 U2 2 (K2 p1.toNatClampNeg) (M2 (M0 - 1).toNatClampNeg) (M2 (M0 - 1).toNatClampNeg) = z := ⟨_, rfl⟩
              rw [zw_l_eq e43] at hF
              refine zw_callv C kvX4_115 (kX4_begins hy2 e43) ⟨rfl, rfl, ⟨by decide, by decide⟩, by decide, by decide⟩ FX4 0 (As := [.int 2, .int (K2 p1.toNatClampNeg), .int (M2 (M0 - 1).toNatClampNeg), .int (M2 (M0 - 1).toNatClampNeg)]) (rest := []) rfl rfl rfl (Nat.le_of_ble_eq_true rfl) dX4_goesOrder_137 ?_
              refine zw_goto C 302 dX4_goesOrder_140 (by decide) ?_
              subst hF; dsimp only
              exact zw_return C hr hlk dX4_goesOrder_302 rfl
            · rw [if_neg h41] at hF
              refine zw_iload C dX4_goesOrder_124 2 rfl ?_
              refine zw_iconst C (v := 3) dX4_goesOrder_126 (by decide) ?_
              refine zw_icmp_ne C 135 dX4_goesOrder_127 (by decide) (fun h44 => ?_) (fun h44 => ?_)
              · rw [if_neg h44] at hF
                refine zw_iload C dX4_goesOrder_135 0 rfl ?_
                obtain ⟨q45, e46⟩ : ∃ z, fX4_begins M0 M1 M2 M3 M4 M7 U0 U2 2 (K2 p1.toNatClampNeg) (M2 (M0 - 1).toNatClampNeg) (M3 (M0 - 1).toNatClampNeg) = z := ⟨_, rfl⟩
                rw [zw_l_eq e46] at hF
                refine zw_callv C kvX4_115 (kX4_begins hy2 e46) ⟨rfl, rfl, ⟨by decide, by decide⟩, by decide, by decide⟩ FX4 0 (As := [.int 2, .int (K2 p1.toNatClampNeg), .int (M2 (M0 - 1).toNatClampNeg), .int (M3 (M0 - 1).toNatClampNeg)]) (rest := []) rfl rfl rfl (Nat.le_of_ble_eq_true rfl) dX4_goesOrder_137 ?_
                refine zw_goto C 302 dX4_goesOrder_140 (by decide) ?_
                subst hF; dsimp only
                exact zw_return C hr hlk dX4_goesOrder_302 rfl
              · rw [if_pos h44] at hF
                refine zw_iload C dX4_goesOrder_130 1 rfl ?_
                refine zw_goto C 137 dX4_goesOrder_132 (by decide) ?_
                obtain ⟨q47, e48⟩ : ∃ z, fX4_begins M0 M1 M2 M3 M4 M7 U0 U2 2 (K2 p1.toNatClampNeg) (M2 (M0 - 1).toNatClampNeg) (M2 (M0 - 1).toNatClampNeg) = z := ⟨_, rfl⟩
                rw [zw_l_eq e48] at hF
                refine zw_callv C kvX4_115 (kX4_begins hy2 e48) ⟨rfl, rfl, ⟨by decide, by decide⟩, by decide, by decide⟩ FX4 0 (As := [.int 2, .int (K2 p1.toNatClampNeg), .int (M2 (M0 - 1).toNatClampNeg), .int (M2 (M0 - 1).toNatClampNeg)]) (rest := []) rfl rfl rfl (Nat.le_of_ble_eq_true rfl) dX4_goesOrder_137 ?_
                refine zw_goto C 302 dX4_goesOrder_140 (by decide) ?_
                subst hF; dsimp only
                exact zw_return C hr hlk dX4_goesOrder_302 rfl
          · rw [if_pos h40] at hF
            refine zw_iconst C (v := 1) dX4_goesOrder_106 (by decide) ?_
            refine zw_goto C 111 dX4_goesOrder_107 (by decide) ?_
            refine zw_aload_n C dX4_goesOrder_111 3 rfl rfl ?_
            refine zw_get C FX4 0 7 (v := .ref (b 6)) rfl (by decide) lkX4_26 rfl dX4_goesOrder_112 ?_
            refine zw_iload_n C dX4_goesOrder_115 4 rfl rfl ?_
            refine zw_iald C 6 0 (f := K2) (i := p1) rfl rfl hy1 dX4_goesOrder_116 ?_
            refine zw_iload C dX4_goesOrder_117 1 rfl ?_
            refine zw_iload C dX4_goesOrder_119 2 rfl ?_
            refine zw_if_eq C 130 dX4_goesOrder_121 (by decide) (fun h49 => ?_) (fun h49 => ?_)
            · rw [if_pos h49] at hF
              refine zw_iload C dX4_goesOrder_130 1 rfl ?_
              refine zw_goto C 137 dX4_goesOrder_132 (by decide) ?_
              obtain ⟨q50, e51⟩ : ∃ z, fX4_begins M0 M1 M2 M3 M4 M7 U0 U2 1 (K2 p1.toNatClampNeg) (M2 (M0 - 1).toNatClampNeg) (M2 (M0 - 1).toNatClampNeg) = z := ⟨_, rfl⟩
              rw [zw_l_eq e51] at hF
              refine zw_callv C kvX4_115 (kX4_begins hy2 e51) ⟨rfl, rfl, ⟨by decide, by decide⟩, by decide, by decide⟩ FX4 0 (As := [.int 1, .int (K2 p1.toNatClampNeg), .int (M2 (M0 - 1).toNatClampNeg), .int (M2 (M0 - 1).toNatClampNeg)]) (rest := []) rfl rfl rfl (Nat.le_of_ble_eq_true rfl) dX4_goesOrder_137 ?_
              refine zw_goto C 302 dX4_goesOrder_140 (by decide) ?_
              subst hF; dsimp only
              exact zw_return C hr hlk dX4_goesOrder_302 rfl
            · rw [if_neg h49] at hF
              refine zw_iload C dX4_goesOrder_124 2 rfl ?_
              refine zw_iconst C (v := 3) dX4_goesOrder_126 (by decide) ?_
              refine zw_icmp_ne C 135 dX4_goesOrder_127 (by decide) (fun h52 => ?_) (fun h52 => ?_)
              · rw [if_neg h52] at hF
                refine zw_iload C dX4_goesOrder_135 0 rfl ?_
                obtain ⟨q53, e54⟩ : ∃ z, fX4_begins M0 M1 M2 M3 M4 M7 U0 U2 1 (K2 p1.toNatClampNeg) (M2 (M0 - 1).toNatClampNeg) (M3 (M0 - 1).toNatClampNeg) = z := ⟨_, rfl⟩
                rw [zw_l_eq e54] at hF
                refine zw_callv C kvX4_115 (kX4_begins hy2 e54) ⟨rfl, rfl, ⟨by decide, by decide⟩, by decide, by decide⟩ FX4 0 (As := [.int 1, .int (K2 p1.toNatClampNeg), .int (M2 (M0 - 1).toNatClampNeg), .int (M3 (M0 - 1).toNatClampNeg)]) (rest := []) rfl rfl rfl (Nat.le_of_ble_eq_true rfl) dX4_goesOrder_137 ?_
                refine zw_goto C 302 dX4_goesOrder_140 (by decide) ?_
                subst hF; dsimp only
                exact zw_return C hr hlk dX4_goesOrder_302 rfl
              · rw [if_pos h52] at hF
                refine zw_iload C dX4_goesOrder_130 1 rfl ?_
                refine zw_goto C 137 dX4_goesOrder_132 (by decide) ?_
                obtain ⟨q55, e56⟩ : ∃ z, fX4_begins M0 M1 M2 M3 M4 M7 U0 U2 1 (K2 p1.toNatClampNeg) (M2 (M0 - 1).toNatClampNeg) (M2 (M0 - 1).toNatClampNeg) = z := ⟨_, rfl⟩
                rw [zw_l_eq e56] at hF
                refine zw_callv C kvX4_115 (kX4_begins hy2 e56) ⟨rfl, rfl, ⟨by decide, by decide⟩, by decide, by decide⟩ FX4 0 (As := [.int 1, .int (K2 p1.toNatClampNeg), .int (M2 (M0 - 1).toNatClampNeg), .int (M2 (M0 - 1).toNatClampNeg)]) (rest := []) rfl rfl rfl (Nat.le_of_ble_eq_true rfl) dX4_goesOrder_137 ?_
                refine zw_goto C 302 dX4_goesOrder_140 (by decide) ?_
                subst hF; dsimp only
                exact zw_return C hr hlk dX4_goesOrder_302 rfl
        · rw [if_pos h39] at hF
          refine zw_iconst C (v := 0) dX4_goesOrder_96 (by decide) ?_
          refine zw_goto C 111 dX4_goesOrder_97 (by decide) ?_
          refine zw_aload_n C dX4_goesOrder_111 3 rfl rfl ?_
          refine zw_get C FX4 0 7 (v := .ref (b 6)) rfl (by decide) lkX4_26 rfl dX4_goesOrder_112 ?_
          refine zw_iload_n C dX4_goesOrder_115 4 rfl rfl ?_
          refine zw_iald C 6 0 (f := K2) (i := p1) rfl rfl hy1 dX4_goesOrder_116 ?_
          refine zw_iload C dX4_goesOrder_117 1 rfl ?_
          refine zw_iload C dX4_goesOrder_119 2 rfl ?_
          refine zw_if_eq C 130 dX4_goesOrder_121 (by decide) (fun h57 => ?_) (fun h57 => ?_)
          · rw [if_pos h57] at hF
            refine zw_iload C dX4_goesOrder_130 1 rfl ?_
            refine zw_goto C 137 dX4_goesOrder_132 (by decide) ?_
            obtain ⟨q58, e59⟩ : ∃ z, fX4_begins M0 M1 M2 M3 M4 M7 U0 U2 0 (K2 p1.toNatClampNeg) (M2 (M0 - 1).toNatClampNeg) (M2 (M0 - 1).toNatClampNeg) = z := ⟨_, rfl⟩
            rw [zw_l_eq e59] at hF
            refine zw_callv C kvX4_115 (kX4_begins hy2 e59) ⟨rfl, rfl, ⟨by decide, by decide⟩, by decide, by decide⟩ FX4 0 (As := [.int 0, .int (K2 p1.toNatClampNeg), .int (M2 (M0 - 1).toNatClampNeg), .int (M2 (M0 - 1).toNatClampNeg)]) (rest := []) rfl rfl rfl (Nat.le_of_ble_eq_true rfl) dX4_goesOrder_137 ?_
            refine zw_goto C 302 dX4_goesOrder_140 (by decide) ?_
            subst hF; dsimp only
            exact zw_return C hr hlk dX4_goesOrder_302 rfl
          · rw [if_neg h57] at hF
            refine zw_iload C dX4_goesOrder_124 2 rfl ?_
            refine zw_iconst C (v := 3) dX4_goesOrder_126 (by decide) ?_
            refine zw_icmp_ne C 135 dX4_goesOrder_127 (by decide) (fun h60 => ?_) (fun h60 => ?_)
            · rw [if_neg h60] at hF
              refine zw_iload C dX4_goesOrder_135 0 rfl ?_
              obtain ⟨q61, e62⟩ : ∃ z, fX4_begins M0 M1 M2 M3 M4 M7 U0 U2 0 (K2 p1.toNatClampNeg) (M2 (M0 - 1).toNatClampNeg) (M3 (M0 - 1).toNatClampNeg) = z := ⟨_, rfl⟩
              rw [zw_l_eq e62] at hF
              refine zw_callv C kvX4_115 (kX4_begins hy2 e62) ⟨rfl, rfl, ⟨by decide, by decide⟩, by decide, by decide⟩ FX4 0 (As := [.int 0, .int (K2 p1.toNatClampNeg), .int (M2 (M0 - 1).toNatClampNeg), .int (M3 (M0 - 1).toNatClampNeg)]) (rest := []) rfl rfl rfl (Nat.le_of_ble_eq_true rfl) dX4_goesOrder_137 ?_
              refine zw_goto C 302 dX4_goesOrder_140 (by decide) ?_
              subst hF; dsimp only
              exact zw_return C hr hlk dX4_goesOrder_302 rfl
            · rw [if_pos h60] at hF
              refine zw_iload C dX4_goesOrder_130 1 rfl ?_
              refine zw_goto C 137 dX4_goesOrder_132 (by decide) ?_
              obtain ⟨q63, e64⟩ : ∃ z, fX4_begins M0 M1 M2 M3 M4 M7 U0 U2 0 (K2 p1.toNatClampNeg) (M2 (M0 - 1).toNatClampNeg) (M2 (M0 - 1).toNatClampNeg) = z := ⟨_, rfl⟩
              rw [zw_l_eq e64] at hF
              refine zw_callv C kvX4_115 (kX4_begins hy2 e64) ⟨rfl, rfl, ⟨by decide, by decide⟩, by decide, by decide⟩ FX4 0 (As := [.int 0, .int (K2 p1.toNatClampNeg), .int (M2 (M0 - 1).toNatClampNeg), .int (M2 (M0 - 1).toNatClampNeg)]) (rest := []) rfl rfl rfl (Nat.le_of_ble_eq_true rfl) dX4_goesOrder_137 ?_
              refine zw_goto C 302 dX4_goesOrder_140 (by decide) ?_
              subst hF; dsimp only
              exact zw_return C hr hlk dX4_goesOrder_302 rfl
    · rw [if_pos h2] at hF
      refine zw_aload_n C dX4_goesOrder_54 3 rfl rfl ?_
      refine zw_iload C dX4_goesOrder_55 1 rfl ?_
      refine zw_iload C dX4_goesOrder_57 0 rfl ?_
      refine zw_icmp_ge C 68 dX4_goesOrder_59 (by decide) (fun h65 => ?_) (fun h65 => ?_)
      · rw [if_pos h65] at hF
        refine zw_iload C dX4_goesOrder_68 1 rfl ?_
        refine zw_iload C dX4_goesOrder_70 0 rfl ?_
        refine zw_icmp_le C 79 dX4_goesOrder_72 (by decide) (fun h66 => ?_) (fun h66 => ?_)
        · rw [if_pos h66] at hF
          refine zw_lconst C (v := 0) dX4_goesOrder_79 (by decide) ?_
          obtain ⟨q67, e68⟩ : ∃ z, fX4_tells M0 0 = z := ⟨_, rfl⟩
          rw [zw_l_eq e68] at hF
          refine zw_callv C kvX4_111 (kX4_tells e68) ⟨rfl, rfl, ⟨by decide, by decide⟩, by decide, by decide⟩ FX4 0 (As := [.long 0]) (rest := []) rfl rfl rfl (Nat.le_of_ble_eq_true rfl) dX4_goesOrder_80 ?_
          refine zw_goto C 302 dX4_goesOrder_83 (by decide) ?_
          subst hF; dsimp only
          exact zw_return C hr hlk dX4_goesOrder_302 rfl
        · rw [if_neg h66] at hF
          refine zw_lconst C (v := 1) dX4_goesOrder_75 (by decide) ?_
          refine zw_goto C 80 dX4_goesOrder_76 (by decide) ?_
          obtain ⟨q69, e70⟩ : ∃ z, fX4_tells M0 1 = z := ⟨_, rfl⟩
          rw [zw_l_eq e70] at hF
          refine zw_callv C kvX4_111 (kX4_tells e70) ⟨rfl, rfl, ⟨by decide, by decide⟩, by decide, by decide⟩ FX4 0 (As := [.long 1]) (rest := []) rfl rfl rfl (Nat.le_of_ble_eq_true rfl) dX4_goesOrder_80 ?_
          refine zw_goto C 302 dX4_goesOrder_83 (by decide) ?_
          subst hF; dsimp only
          exact zw_return C hr hlk dX4_goesOrder_302 rfl
      · rw [if_neg h65] at hF
        refine zw_ldc2 C lkcX4_125 dX4_goesOrder_62 ?_
        refine zw_goto C 80 dX4_goesOrder_65 (by decide) ?_
        obtain ⟨q71, e72⟩ : ∃ z, fX4_tells M0 (-1) = z := ⟨_, rfl⟩
        rw [zw_l_eq e72] at hF
        refine zw_callv C kvX4_111 (kX4_tells e72) ⟨rfl, rfl, ⟨by decide, by decide⟩, by decide, by decide⟩ FX4 0 (As := [.long (-1)]) (rest := []) rfl rfl rfl (Nat.le_of_ble_eq_true rfl) dX4_goesOrder_80 ?_
        refine zw_goto C 302 dX4_goesOrder_83 (by decide) ?_
        subst hF; dsimp only
        exact zw_return C hr hlk dX4_goesOrder_302 rfl
  · rw [if_pos h1] at hF
    refine zw_aload_n C dX4_goesOrder_40 3 rfl rfl ?_
    refine zw_iconst C (v := 3) dX4_goesOrder_41 (by decide) ?_
    refine zw_put C FX4 GX4 0 18 (v := .int 3) (ws2 := (wM cI cL b B0 B1 B2 B3 B4 B5 B6 K0 K1 K2 K3 K4 E0 M0 M1 M2 M3 M4 M5 M6 3 U0 U1 U2 U3 U4 U5 G0 G1 G2 G3 G4 N0 N1 N2 N3)) rfl (by decide) lkX4_98 rfl rfl rfl (Nat.le_of_ble_eq_true rfl) rfl dX4_goesOrder_42 ?_
    refine zw_goto C 302 dX4_goesOrder_45 (by decide) ?_
    subst hF; dsimp only
    exact zw_return C hr hlk dX4_goesOrder_302 rfl
def fX4_recovers_loop (K1 M1 M4 : Nat → Int32) (M7 : Int32) : Nat → Int32 → Int32 → Int32 × Int32
  | 0, M0, x1 => (M0, x1)
  | n + 1, M0, x1 => (if M0 ≤ 0 then (M0, x1) else (if x1 = 0 then (if M7 = 4 then fX4_recovers_loop K1 M1 M4 M7 n (M0 - 1) 0 else (if (M1 (M0 - 1).toNatClampNeg) < 24 then fX4_recovers_loop K1 M1 M4 M7 n (M0 - 1) 0 else (if 48 ≤ (M1 (M0 - 1).toNatClampNeg) then fX4_recovers_loop K1 M1 M4 M7 n (M0 - 1) 0 else (if (K1 (M1 (M0 - 1).toNatClampNeg).toNatClampNeg) = 8 then (if (M4 (M0 - 1).toNatClampNeg) ≤ 0 then fX4_recovers_loop K1 M1 M4 M7 n (M0 - 1) 0 else fX4_recovers_loop K1 M1 M4 M7 n (M0 - 1) 1) else fX4_recovers_loop K1 M1 M4 M7 n (M0 - 1) 0)))) else (M0, x1)))
set_option maxHeartbeats 4000000 in
set_option maxRecDepth 100000 in
theorem kX4_recovers_loop {p : Program} {l : Launch} {e : Env} {s : State} {m : MethodId} {args : Array Value} {below : List Frame} {meth : Method} {c : Code} {A : Nat → Prop} {Q : State → Prop} {D : va_G} {cI cL : ClassId} {b : Nat → Nat} {B0 : Int32} {B1 : Int32} {B2 : Int64} {B3 : (Nat → Int64)} {B4 : (Nat → Int64)} {B5 : (Nat → Int32)} {B6 : (Nat → Int32)} {K0 : (Nat → Int32)} {K1 : (Nat → Int32)} {K2 : (Nat → Int32)} {K3 : (Nat → Int32)} {K4 : (Nat → Int64)} {E0 : (Nat → Int32)} {M1 : (Nat → Int32)} {M2 : (Nat → Int32)} {M3 : (Nat → Int32)} {M4 : (Nat → Int32)} {M5 : (Nat → Int64)} {M6 : Int64} {M7 : Int32} {U0 : Int32} {U1 : Int32} {U2 : Int32} {U3 : Int32} {U4 : Int32} {U5 : Int32} {G0 : Int32} {G1 : (Nat → Int64)} {G2 : (Nat → Int32)} {G3 : (Nat → Int64)} {G4 : (Nat → Int32)} {N0 : (Nat → Int64)} {N1 : (Nat → Int32)} {N2 : (Nat → Int64)} {N3 : (Nat → Int32)}  (C : zw_C p s m args c D (zw_tys cI cL) A RX4 cX4_recovers 3) : ∀ (n : Nat) (M0 : Int32) (x1 : Int32) (q : Int32 × Int32), (∃ i : Nat, M0 = nI i ∧ i ≤ 80 ∧ i < n) → fX4_recovers_loop K1 M1 M4 M7 n M0 x1 = q → (zw_W p l e (zw_rm 0 0) s m args below meth c D A 3 Q 0 0 (wM cI cL b B0 B1 B2 B3 B4 B5 B6 K0 K1 K2 K3 K4 E0 q.1 M1 M2 M3 M4 M5 M6 M7 U0 U1 U2 U3 U4 U5 G0 G1 G2 G3 G4 N0 N1 N2 N3) 89 [(0, .ref (b 0)), (1, .int q.2)] []) → zw_W p l e (zw_rm 0 0) s m args below meth c D A 3 Q 0 0 (wM cI cL b B0 B1 B2 B3 B4 B5 B6 K0 K1 K2 K3 K4 E0 M0 M1 M2 M3 M4 M5 M6 M7 U0 U1 U2 U3 U4 U5 G0 G1 G2 G3 G4 N0 N1 N2 N3) 2 [(0, .ref (b 0)), (1, .int x1)] [] := by
  intro n
  induction n with
  | zero =>
    intro M0 x1 q hI hF kx
    obtain ⟨i, -, -, h4⟩ := hI; exact absurd h4 (by omega)
  | succ n ih =>
    intro M0 x1 q hI hF kx
    obtain ⟨i, z0, hi, hn⟩ := hI
    rw [fX4_recovers_loop] at hF
    refine zw_aload_n C dX4_recovers_2 0 rfl rfl ?_
    refine zw_get C FX4 0 11 (v := .int M0) rfl (by decide) lkX4_104 rfl dX4_recovers_3 ?_
    refine zw_if_le C 89 dX4_recovers_6 (by decide) (fun h1 => ?_) (fun h1 => ?_)
    · rw [if_pos h1] at hF
      subst hF; dsimp only at kx
      exact zw_locals [0, 1] rfl kx
    · rw [if_neg h1] at hF
      refine zw_iload_n C dX4_recovers_9 1 rfl rfl ?_
      refine zw_if_ne C 89 dX4_recovers_10 (by decide) (fun h2 => ?_) (fun h2 => ?_)
      · rw [if_neg h2] at hF
        subst hF; dsimp only at kx
        exact zw_locals [0, 1] rfl kx
      · rw [if_pos h2] at hF
        refine zw_aload_n C dX4_recovers_13 0 rfl rfl ?_
        refine zw_get C FX4 0 12 (v := .ref (b 10)) rfl (by decide) lkX4_38 rfl dX4_recovers_14 ?_
        refine zw_aload_n C dX4_recovers_17 0 rfl rfl ?_
        refine zw_get C FX4 0 11 (v := .int M0) rfl (by decide) lkX4_104 rfl dX4_recovers_18 ?_
        refine zw_iconst C (v := 1) dX4_recovers_21 (by decide) ?_
        refine zw_isub C dX4_recovers_22 ?_
        refine zw_iald C 10 0 (f := M1) (i := (M0 - 1)) rfl rfl (by obtain ⟨m, em, e5, e6⟩ := dm_pred z0 hi (by assumption); exact e6) dX4_recovers_23 ?_
        refine zw_istore_n C dX4_recovers_24 rfl (by decide) rfl ?_
        refine zw_aload_n C dX4_recovers_25 1 rfl rfl ?_
        refine zw_get C FX4 0 18 (v := .int M7) rfl (by decide) lkX4_98 rfl dX4_recovers_26 ?_
        refine zw_iconst C (v := 4) dX4_recovers_29 (by decide) ?_
        refine zw_icmp_eq C 74 dX4_recovers_30 (by decide) (fun h3 => ?_) (fun h3 => ?_)
        · rw [if_pos h3] at hF
          refine zw_iconst C (v := 0) dX4_recovers_74 (by decide) ?_
          refine zw_istore_n C dX4_recovers_75 rfl (by decide) rfl ?_
          refine zw_aload_n C dX4_recovers_76 2 rfl rfl ?_
          refine zw_dup C dX4_recovers_77 rfl ?_
          refine zw_get C FX4 0 11 (v := .int M0) rfl (by decide) lkX4_104 rfl dX4_recovers_78 ?_
          refine zw_iconst C (v := 1) dX4_recovers_81 (by decide) ?_
          refine zw_isub C dX4_recovers_82 ?_
          refine zw_put C FX4 GX4 0 11 (v := .int (M0 - 1)) (ws2 := (wM cI cL b B0 B1 B2 B3 B4 B5 B6 K0 K1 K2 K3 K4 E0 (M0 - 1) M1 M2 M3 M4 M5 M6 M7 U0 U1 U2 U3 U4 U5 G0 G1 G2 G3 G4 N0 N1 N2 N3)) rfl (by decide) lkX4_104 rfl rfl rfl (Nat.le_of_ble_eq_true rfl) rfl dX4_recovers_83 ?_
          refine zw_goto C 2 dX4_recovers_86 (by decide) ?_
          refine zw_locals [2, 0] (lv2 := [(0, .ref (b 0)), (1, .int 0)]) rfl ?_
          exact ih (M0 - 1) 0 q (by obtain ⟨m, em, e5, e6⟩ := dm_pred z0 hi (by assumption); exact ⟨m, e5, by omega, by omega⟩) hF kx
        · rw [if_neg h3] at hF
          refine zw_iload_n C dX4_recovers_33 0 rfl rfl ?_
          refine zw_bipush C (v := 24) dX4_recovers_34 (by decide) ?_
          refine zw_icmp_lt C 74 dX4_recovers_36 (by decide) (fun h4 => ?_) (fun h4 => ?_)
          · rw [if_pos h4] at hF
            refine zw_iconst C (v := 0) dX4_recovers_74 (by decide) ?_
            refine zw_istore_n C dX4_recovers_75 rfl (by decide) rfl ?_
            refine zw_aload_n C dX4_recovers_76 2 rfl rfl ?_
            refine zw_dup C dX4_recovers_77 rfl ?_
            refine zw_get C FX4 0 11 (v := .int M0) rfl (by decide) lkX4_104 rfl dX4_recovers_78 ?_
            refine zw_iconst C (v := 1) dX4_recovers_81 (by decide) ?_
            refine zw_isub C dX4_recovers_82 ?_
            refine zw_put C FX4 GX4 0 11 (v := .int (M0 - 1)) (ws2 := (wM cI cL b B0 B1 B2 B3 B4 B5 B6 K0 K1 K2 K3 K4 E0 (M0 - 1) M1 M2 M3 M4 M5 M6 M7 U0 U1 U2 U3 U4 U5 G0 G1 G2 G3 G4 N0 N1 N2 N3)) rfl (by decide) lkX4_104 rfl rfl rfl (Nat.le_of_ble_eq_true rfl) rfl dX4_recovers_83 ?_
            refine zw_goto C 2 dX4_recovers_86 (by decide) ?_
            refine zw_locals [2, 0] (lv2 := [(0, .ref (b 0)), (1, .int 0)]) rfl ?_
            exact ih (M0 - 1) 0 q (by obtain ⟨m, em, e5, e6⟩ := dm_pred z0 hi (by assumption); exact ⟨m, e5, by omega, by omega⟩) hF kx
          · rw [if_neg h4] at hF
            refine zw_iload_n C dX4_recovers_39 0 rfl rfl ?_
            refine zw_bipush C (v := 48) dX4_recovers_40 (by decide) ?_
            refine zw_icmp_ge C 74 dX4_recovers_42 (by decide) (fun h5 => ?_) (fun h5 => ?_)
            · rw [if_pos h5] at hF
              refine zw_iconst C (v := 0) dX4_recovers_74 (by decide) ?_
              refine zw_istore_n C dX4_recovers_75 rfl (by decide) rfl ?_
              refine zw_aload_n C dX4_recovers_76 2 rfl rfl ?_
              refine zw_dup C dX4_recovers_77 rfl ?_
              refine zw_get C FX4 0 11 (v := .int M0) rfl (by decide) lkX4_104 rfl dX4_recovers_78 ?_
              refine zw_iconst C (v := 1) dX4_recovers_81 (by decide) ?_
              refine zw_isub C dX4_recovers_82 ?_
              refine zw_put C FX4 GX4 0 11 (v := .int (M0 - 1)) (ws2 := (wM cI cL b B0 B1 B2 B3 B4 B5 B6 K0 K1 K2 K3 K4 E0 (M0 - 1) M1 M2 M3 M4 M5 M6 M7 U0 U1 U2 U3 U4 U5 G0 G1 G2 G3 G4 N0 N1 N2 N3)) rfl (by decide) lkX4_104 rfl rfl rfl (Nat.le_of_ble_eq_true rfl) rfl dX4_recovers_83 ?_
              refine zw_goto C 2 dX4_recovers_86 (by decide) ?_
              refine zw_locals [2, 0] (lv2 := [(0, .ref (b 0)), (1, .int 0)]) rfl ?_
              exact ih (M0 - 1) 0 q (by obtain ⟨m, em, e5, e6⟩ := dm_pred z0 hi (by assumption); exact ⟨m, e5, by omega, by omega⟩) hF kx
            · rw [if_neg h5] at hF
              refine zw_aload_n C dX4_recovers_45 1 rfl rfl ?_
              refine zw_get C FX4 0 6 (v := .ref (b 5)) rfl (by decide) lkX4_23 rfl dX4_recovers_46 ?_
              refine zw_iload_n C dX4_recovers_49 0 rfl rfl ?_
              refine zw_iald C 5 0 (f := K1) (i := (M1 (M0 - 1).toNatClampNeg)) rfl rfl (dm_w72 (by assumption) (by assumption)) dX4_recovers_50 ?_
              refine zw_bipush C (v := 8) dX4_recovers_51 (by decide) ?_
              refine zw_icmp_ne C 74 dX4_recovers_53 (by decide) (fun h6 => ?_) (fun h6 => ?_)
              · rw [if_neg h6] at hF
                refine zw_iconst C (v := 0) dX4_recovers_74 (by decide) ?_
                refine zw_istore_n C dX4_recovers_75 rfl (by decide) rfl ?_
                refine zw_aload_n C dX4_recovers_76 2 rfl rfl ?_
                refine zw_dup C dX4_recovers_77 rfl ?_
                refine zw_get C FX4 0 11 (v := .int M0) rfl (by decide) lkX4_104 rfl dX4_recovers_78 ?_
                refine zw_iconst C (v := 1) dX4_recovers_81 (by decide) ?_
                refine zw_isub C dX4_recovers_82 ?_
                refine zw_put C FX4 GX4 0 11 (v := .int (M0 - 1)) (ws2 := (wM cI cL b B0 B1 B2 B3 B4 B5 B6 K0 K1 K2 K3 K4 E0 (M0 - 1) M1 M2 M3 M4 M5 M6 M7 U0 U1 U2 U3 U4 U5 G0 G1 G2 G3 G4 N0 N1 N2 N3)) rfl (by decide) lkX4_104 rfl rfl rfl (Nat.le_of_ble_eq_true rfl) rfl dX4_recovers_83 ?_
                refine zw_goto C 2 dX4_recovers_86 (by decide) ?_
                refine zw_locals [2, 0] (lv2 := [(0, .ref (b 0)), (1, .int 0)]) rfl ?_
                exact ih (M0 - 1) 0 q (by obtain ⟨m, em, e5, e6⟩ := dm_pred z0 hi (by assumption); exact ⟨m, e5, by omega, by omega⟩) hF kx
              · rw [if_pos h6] at hF
                refine zw_aload_n C dX4_recovers_56 1 rfl rfl ?_
                refine zw_get C FX4 0 15 (v := .ref (b 13)) rfl (by decide) lkX4_47 rfl dX4_recovers_57 ?_
                refine zw_aload_n C dX4_recovers_60 1 rfl rfl ?_
                refine zw_get C FX4 0 11 (v := .int M0) rfl (by decide) lkX4_104 rfl dX4_recovers_61 ?_
                refine zw_iconst C (v := 1) dX4_recovers_64 (by decide) ?_
                refine zw_isub C dX4_recovers_65 ?_
                refine zw_iald C 13 0 (f := M4) (i := (M0 - 1)) rfl rfl (by obtain ⟨m, em, e5, e6⟩ := dm_pred z0 hi (by assumption); exact e6) dX4_recovers_66 ?_
                refine zw_if_le C 74 dX4_recovers_67 (by decide) (fun h7 => ?_) (fun h7 => ?_)
                · rw [if_pos h7] at hF
                  refine zw_iconst C (v := 0) dX4_recovers_74 (by decide) ?_
                  refine zw_istore_n C dX4_recovers_75 rfl (by decide) rfl ?_
                  refine zw_aload_n C dX4_recovers_76 2 rfl rfl ?_
                  refine zw_dup C dX4_recovers_77 rfl ?_
                  refine zw_get C FX4 0 11 (v := .int M0) rfl (by decide) lkX4_104 rfl dX4_recovers_78 ?_
                  refine zw_iconst C (v := 1) dX4_recovers_81 (by decide) ?_
                  refine zw_isub C dX4_recovers_82 ?_
                  refine zw_put C FX4 GX4 0 11 (v := .int (M0 - 1)) (ws2 := (wM cI cL b B0 B1 B2 B3 B4 B5 B6 K0 K1 K2 K3 K4 E0 (M0 - 1) M1 M2 M3 M4 M5 M6 M7 U0 U1 U2 U3 U4 U5 G0 G1 G2 G3 G4 N0 N1 N2 N3)) rfl (by decide) lkX4_104 rfl rfl rfl (Nat.le_of_ble_eq_true rfl) rfl dX4_recovers_83 ?_
                  refine zw_goto C 2 dX4_recovers_86 (by decide) ?_
                  refine zw_locals [2, 0] (lv2 := [(0, .ref (b 0)), (1, .int 0)]) rfl ?_
                  exact ih (M0 - 1) 0 q (by obtain ⟨m, em, e5, e6⟩ := dm_pred z0 hi (by assumption); exact ⟨m, e5, by omega, by omega⟩) hF kx
                · rw [if_neg h7] at hF
                  refine zw_iconst C (v := 1) dX4_recovers_70 (by decide) ?_
                  refine zw_goto C 75 dX4_recovers_71 (by decide) ?_
                  refine zw_istore_n C dX4_recovers_75 rfl (by decide) rfl ?_
                  refine zw_aload_n C dX4_recovers_76 2 rfl rfl ?_
                  refine zw_dup C dX4_recovers_77 rfl ?_
                  refine zw_get C FX4 0 11 (v := .int M0) rfl (by decide) lkX4_104 rfl dX4_recovers_78 ?_
                  refine zw_iconst C (v := 1) dX4_recovers_81 (by decide) ?_
                  refine zw_isub C dX4_recovers_82 ?_
                  refine zw_put C FX4 GX4 0 11 (v := .int (M0 - 1)) (ws2 := (wM cI cL b B0 B1 B2 B3 B4 B5 B6 K0 K1 K2 K3 K4 E0 (M0 - 1) M1 M2 M3 M4 M5 M6 M7 U0 U1 U2 U3 U4 U5 G0 G1 G2 G3 G4 N0 N1 N2 N3)) rfl (by decide) lkX4_104 rfl rfl rfl (Nat.le_of_ble_eq_true rfl) rfl dX4_recovers_83 ?_
                  refine zw_goto C 2 dX4_recovers_86 (by decide) ?_
                  refine zw_locals [2, 0] (lv2 := [(0, .ref (b 0)), (1, .int 1)]) rfl ?_
                  exact ih (M0 - 1) 1 q (by obtain ⟨m, em, e5, e6⟩ := dm_pred z0 hi (by assumption); exact ⟨m, e5, by omega, by omega⟩) hF kx
def fX4_recovers (K1 : (Nat → Int32)) (M0 : Int32) (M1 : (Nat → Int32)) (M4 : (Nat → Int32)) (M6 : Int64) (M7 : Int32) (U3 : Int32) : Int32 × Int64 × Int32 × Int32 := (zw_l (fX4_recovers_loop K1 M1 M4 M7 81 M0 0) (fun q1 => (if q1.2 = 0 then (q1.1, M6, M7, U3) else (q1.1, 0, 0, U3 + 1))))
set_option maxHeartbeats 4000000 in
set_option maxRecDepth 100000 in
theorem kX4_recovers {l : Launch} {D : va_G} {cI cL : ClassId} {b : Nat → Nat} {B0 : Int32} {B1 : Int32} {B2 : Int64} {B3 : (Nat → Int64)} {B4 : (Nat → Int64)} {B5 : (Nat → Int32)} {B6 : (Nat → Int32)} {K0 : (Nat → Int32)} {K1 : (Nat → Int32)} {K2 : (Nat → Int32)} {K3 : (Nat → Int32)} {K4 : (Nat → Int64)} {E0 : (Nat → Int32)} {M0 : Int32} {M1 : (Nat → Int32)} {M2 : (Nat → Int32)} {M3 : (Nat → Int32)} {M4 : (Nat → Int32)} {M5 : (Nat → Int64)} {M6 : Int64} {M7 : Int32} {U0 : Int32} {U1 : Int32} {U2 : Int32} {U3 : Int32} {U4 : Int32} {U5 : Int32} {G0 : Int32} {G1 : (Nat → Int64)} {G2 : (Nat → Int32)} {G3 : (Nat → Int64)} {G4 : (Nat → Int32)} {N0 : (Nat → Int64)} {N1 : (Nat → Int32)} {N2 : (Nat → Int64)} {N3 : (Nat → Int32)} {q : Int32 × Int64 × Int32 × Int32} (hy1 : ∃ i : Nat, i ≤ 80 ∧ M0 = nI i) (hF : fX4_recovers K1 M0 M1 M4 M6 M7 U3 = q) : zw_Mv l yX4_recovers cX4_recovers 3 D (zw_tys cI cL) (zw_rm 0 0) [.ref (b 0)] (wM cI cL b B0 B1 B2 B3 B4 B5 B6 K0 K1 K2 K3 K4 E0 M0 M1 M2 M3 M4 M5 M6 M7 U0 U1 U2 U3 U4 U5 G0 G1 G2 G3 G4 N0 N1 N2 N3) (wM cI cL b B0 B1 B2 B3 B4 B5 B6 K0 K1 K2 K3 K4 E0 q.1 M1 M2 M3 M4 M5 q.2.1 q.2.2.1 U0 U1 U2 q.2.2.2 U4 U5 G0 G1 G2 G3 G4 N0 N1 N2 N3) := by
  unfold fX4_recovers at hF
  refine zw_Mv_of (own := RX4) (by decide) rfl (Nat.le_of_ble_eq_true rfl) ?_
  intro p e s m args below meth c A C hr hlk
  refine zw_eq (lv2 := [(0, .ref (b 0))]) rfl rfl rfl ?_
  refine zw_iconst C (v := 0) dX4_recovers_0 (by decide) ?_
  refine zw_istore_n C dX4_recovers_1 rfl (by decide) rfl ?_
  obtain ⟨q1, e2⟩ : ∃ z, fX4_recovers_loop K1 M1 M4 M7 81 M0 0 = z := ⟨_, rfl⟩
  rw [zw_l_eq e2] at hF
  refine zw_locals [1, 0] (lv2 := [(0, .ref (b 0)), (1, .int 0)]) rfl ?_
  refine kX4_recovers_loop C  81 M0 0 q1 (by obtain ⟨i, hi, ei⟩ := hy1; exact ⟨i, ei, hi, by omega⟩) e2 ?_
  refine zw_iload_n C dX4_recovers_89 1 rfl rfl ?_
  refine zw_if_eq C 113 dX4_recovers_90 (by decide) (fun h3 => ?_) (fun h3 => ?_)
  · rw [if_pos h3] at hF
    subst hF; dsimp only
    exact zw_return C hr hlk dX4_recovers_113 rfl
  · rw [if_neg h3] at hF
    refine zw_aload_n C dX4_recovers_93 0 rfl rfl ?_
    refine zw_iconst C (v := 0) dX4_recovers_94 (by decide) ?_
    refine zw_put C FX4 GX4 0 18 (v := .int 0) (ws2 := (wM cI cL b B0 B1 B2 B3 B4 B5 B6 K0 K1 K2 K3 K4 E0 q1.1 M1 M2 M3 M4 M5 M6 0 U0 U1 U2 U3 U4 U5 G0 G1 G2 G3 G4 N0 N1 N2 N3)) rfl (by decide) lkX4_98 rfl rfl rfl (Nat.le_of_ble_eq_true rfl) rfl dX4_recovers_95 ?_
    refine zw_aload_n C dX4_recovers_98 0 rfl rfl ?_
    refine zw_dup C dX4_recovers_99 rfl ?_
    refine zw_get C FX4 0 22 (v := .int U3) rfl (by decide) lkX4_127 rfl dX4_recovers_100 ?_
    refine zw_iconst C (v := 1) dX4_recovers_103 (by decide) ?_
    refine zw_iadd C dX4_recovers_104 ?_
    refine zw_put C FX4 GX4 0 22 (v := .int (U3 + 1)) (ws2 := (wM cI cL b B0 B1 B2 B3 B4 B5 B6 K0 K1 K2 K3 K4 E0 q1.1 M1 M2 M3 M4 M5 M6 0 U0 U1 U2 (U3 + 1) U4 U5 G0 G1 G2 G3 G4 N0 N1 N2 N3)) rfl (by decide) lkX4_127 rfl rfl rfl (Nat.le_of_ble_eq_true rfl) rfl dX4_recovers_105 ?_
    refine zw_aload_n C dX4_recovers_108 0 rfl rfl ?_
    refine zw_lconst C (v := 0) dX4_recovers_109 (by decide) ?_
    refine zw_put C FX4 GX4 0 17 (v := .long 0) (ws2 := (wM cI cL b B0 B1 B2 B3 B4 B5 B6 K0 K1 K2 K3 K4 E0 q1.1 M1 M2 M3 M4 M5 0 0 U0 U1 U2 (U3 + 1) U4 U5 G0 G1 G2 G3 G4 N0 N1 N2 N3)) rfl (by decide) lkX4_107 rfl rfl rfl (Nat.le_of_ble_eq_true rfl) rfl dX4_recovers_110 ?_
    subst hF; dsimp only
    exact zw_return C hr hlk dX4_recovers_113 rfl
