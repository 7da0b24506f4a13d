def fX4_step (B3 : (Nat → Int64)) (B4 : (Nat → Int64)) (K1 : (Nat → Int32)) (K2 : (Nat → Int32)) (K3 : (Nat → Int32)) (K4 : (Nat → Int64)) (E0 : (Nat → Int32)) (M0 : Int32) (M1 : (Nat → Int32)) (M2 : (Nat → Int32)) (M3 : (Nat → Int32)) (M4 : (Nat → Int32)) (M5 : (Nat → Int64)) (M6 : Int64) (M7 : Int32) (U0 : Int32) (U2 : Int32) (U3 : Int32) : (Nat → Int32) × Int32 × (Nat → Int32) × (Nat → Int32) × (Nat → Int32) × (Nat → Int32) × (Nat → Int64) × Int64 × Int32 × Int32 × Int32 × Int32 := (if M0 ≤ 0 then (E0, M0, M1, M2, M3, M4, M5, M6, M7, U0, U2, U3) else (if M7 = 0 then (if 24 ≤ (M1 (M0 - 1).toNatClampNeg) then (if 48 ≤ (M1 (M0 - 1).toNatClampNeg) then (zw_l (fX4_goesOrder K1 K2 K3 M0 M1 M2 M3 (upd M4 (M0 - 1).toNatClampNeg ((M4 (M0 - 1).toNatClampNeg) + 1)) M5 M6 M7 U0 U2 (M1 (M0 - 1).toNatClampNeg) (M4 (M0 - 1).toNatClampNeg) M6) (fun q5 => (if q5.2.2.2.2.2.2.2.1 ≤ 0 then (E0, q5.1, q5.2.1, q5.2.2.1, q5.2.2.2.1, q5.2.2.2.2.1, q5.2.2.2.2.2.1, q5.2.2.2.2.2.2.1, q5.2.2.2.2.2.2.2.1, q5.2.2.2.2.2.2.2.2.1, q5.2.2.2.2.2.2.2.2.2, U3) else (zw_l (fX4_recovers K1 q5.1 q5.2.1 q5.2.2.2.2.1 q5.2.2.2.2.2.2.1 q5.2.2.2.2.2.2.2.1 U3) (fun q8 => (E0, q8.1, q5.2.1, q5.2.2.1, q5.2.2.2.1, q5.2.2.2.2.1, q5.2.2.2.2.2.1, q8.2.1, q8.2.2.1, q5.2.2.2.2.2.2.2.2.1, q5.2.2.2.2.2.2.2.2.2, q8.2.2.2)))))) else (zw_l (fX4_goesSieve K1 K2 K3 E0 M0 M1 M2 M3 (upd M4 (M0 - 1).toNatClampNeg ((M4 (M0 - 1).toNatClampNeg) + 1)) M5 M6 M7 U0 U2 (M1 (M0 - 1).toNatClampNeg) (M2 (M0 - 1).toNatClampNeg) (M4 (M0 - 1).toNatClampNeg) M6) (fun q10 => (if q10.2.2.2.2.2.2.2.2.1 ≤ 0 then (q10.1, q10.2.1, q10.2.2.1, q10.2.2.2.1, q10.2.2.2.2.1, q10.2.2.2.2.2.1, q10.2.2.2.2.2.2.1, q10.2.2.2.2.2.2.2.1, q10.2.2.2.2.2.2.2.2.1, q10.2.2.2.2.2.2.2.2.2.1, q10.2.2.2.2.2.2.2.2.2.2, U3) else (zw_l (fX4_recovers K1 q10.2.1 q10.2.2.1 q10.2.2.2.2.2.1 q10.2.2.2.2.2.2.2.1 q10.2.2.2.2.2.2.2.2.1 U3) (fun q13 => (q10.1, q13.1, q10.2.2.1, q10.2.2.2.1, q10.2.2.2.2.1, q10.2.2.2.2.2.1, q10.2.2.2.2.2.2.1, q13.2.1, q13.2.2.1, q10.2.2.2.2.2.2.2.2.2.1, q10.2.2.2.2.2.2.2.2.2.2, q13.2.2.2))))))) else (zw_l (fX4_goesScale B3 B4 K1 K2 K3 K4 E0 M0 M1 M2 M3 (upd M4 (M0 - 1).toNatClampNeg ((M4 (M0 - 1).toNatClampNeg) + 1)) M5 M6 M7 U0 U2 (M1 (M0 - 1).toNatClampNeg) (M2 (M0 - 1).toNatClampNeg) (M4 (M0 - 1).toNatClampNeg) M6) (fun q15 => (if q15.2.2.2.2.2.2.2.2.1 ≤ 0 then (q15.1, q15.2.1, q15.2.2.1, q15.2.2.2.1, q15.2.2.2.2.1, q15.2.2.2.2.2.1, q15.2.2.2.2.2.2.1, q15.2.2.2.2.2.2.2.1, q15.2.2.2.2.2.2.2.2.1, q15.2.2.2.2.2.2.2.2.2.1, q15.2.2.2.2.2.2.2.2.2.2, U3) else (zw_l (fX4_recovers K1 q15.2.1 q15.2.2.1 q15.2.2.2.2.2.1 q15.2.2.2.2.2.2.2.1 q15.2.2.2.2.2.2.2.2.1 U3) (fun q18 => (q15.1, q18.1, q15.2.2.1, q15.2.2.2.1, q15.2.2.2.2.1, q15.2.2.2.2.2.1, q15.2.2.2.2.2.2.1, q18.2.1, q18.2.2.1, q15.2.2.2.2.2.2.2.2.2.1, q15.2.2.2.2.2.2.2.2.2.2, q18.2.2.2))))))) else (E0, M0, M1, M2, M3, M4, M5, M6, M7, U0, U2, U3)))
set_option maxHeartbeats 4000000 in
set_option maxRecDepth 100000 in
theorem kX4_step {p : Program} {l : Launch} {e : Env} {s : State} {m : MethodId} {args : Array Value} {below : List Frame} {meth : Method} {c : Code} {A : Nat → Prop} {Q : State → Prop} {D : va_G} {cI cL : ClassId} {b : Nat → Nat} {B0 : Int32} {B1 : Int32} {B2 : Int64} {B3 : (Nat → Int64)} {B4 : (Nat → Int64)} {B5 : (Nat → Int32)} {B6 : (Nat → Int32)} {K0 : (Nat → Int32)} {K1 : (Nat → Int32)} {K2 : (Nat → Int32)} {K3 : (Nat → Int32)} {K4 : (Nat → Int64)} {E0 : (Nat → Int32)} {M0 : Int32} {M1 : (Nat → Int32)} {M2 : (Nat → Int32)} {M3 : (Nat → Int32)} {M4 : (Nat → Int32)} {M5 : (Nat → Int64)} {M6 : Int64} {M7 : Int32} {U0 : Int32} {U1 : Int32} {U2 : Int32} {U3 : Int32} {U4 : Int32} {U5 : Int32} {G0 : Int32} {G1 : (Nat → Int64)} {G2 : (Nat → Int32)} {G3 : (Nat → Int64)} {G4 : (Nat → Int32)} {N0 : (Nat → Int64)} {N1 : (Nat → Int32)} {N2 : (Nat → Int64)} {N3 : (Nat → Int32)} {q : (Nat → Int32) × Int32 × (Nat → Int32) × (Nat → Int32) × (Nat → Int32) × (Nat → Int32) × (Nat → Int64) × Int64 × Int32 × Int32 × Int32 × Int32} (C : zw_C p s m args c D (zw_tys cI cL) A RX4 cX4_ask 8) (hc1 : ¬ M0 ≤ 0) (hc2 : M7 = 0) (s0 : ∃ i : Nat, i ≤ 79 ∧ M0 = nI i) (s3 : vp_in (M1 (M0 - 1).toNatClampNeg) 72) (s4 : M1 (M0 - 1).toNatClampNeg < 24 → K1 (M1 (M0 - 1).toNatClampNeg).toNatClampNeg = 0 → vp_in (3 * M2 (M0 - 1).toNatClampNeg + K2 (M1 (M0 - 1).toNatClampNeg).toNatClampNeg) 120) (hF : fX4_step B3 B4 K1 K2 K3 K4 E0 M0 M1 M2 M3 M4 M5 M6 M7 U0 U2 U3 = q) (kx : zw_W p l e (zw_rm 3 75) s m args below meth c D A 8 Q 0 0 (wM cI cL b B0 B1 B2 B3 B4 B5 B6 K0 K1 K2 K3 K4 q.1 q.2.1 q.2.2.1 q.2.2.2.1 q.2.2.2.2.1 q.2.2.2.2.2.1 q.2.2.2.2.2.2.1 q.2.2.2.2.2.2.2.1 q.2.2.2.2.2.2.2.2.1 q.2.2.2.2.2.2.2.2.2.1 U1 q.2.2.2.2.2.2.2.2.2.2.1 q.2.2.2.2.2.2.2.2.2.2.2 U4 U5 G0 G1 G2 G3 G4 N0 N1 N2 N3) 19 [(0, .ref (b 0))] []) : zw_W p l e (zw_rm 3 75) s m args below meth c D A 8 Q 0 0 (wM cI cL b B0 B1 B2 B3 B4 B5 B6 K0 K1 K2 K3 K4 E0 M0 M1 M2 M3 M4 M5 M6 M7 U0 U1 U2 U3 U4 U5 G0 G1 G2 G3 G4 N0 N1 N2 N3) 19 [(0, .ref (b 0))] [] := by
  unfold fX4_step at hF
  refine zw_aload_n C dX4_ask_19 0 rfl rfl ?_
  refine zw_get C FX4 0 11 (v := .int M0) rfl (by decide) lkX4_104 rfl dX4_ask_20 ?_
  refine zw_if_le C 154 dX4_ask_23 (by decide) (fun h1 => ?_) (fun h1 => ?_)
  · rw [if_pos h1] at hF
    first | exact absurd (by assumption) hc1 | exact absurd hc2 (by assumption)
  · rw [if_neg h1] at hF
    refine zw_aload_n C dX4_ask_26 0 rfl rfl ?_
    refine zw_get C FX4 0 18 (v := .int M7) rfl (by decide) lkX4_98 rfl dX4_ask_27 ?_
    refine zw_if_ne C 154 dX4_ask_30 (by decide) (fun h2 => ?_) (fun h2 => ?_)
    · rw [if_neg h2] at hF
      first | exact absurd (by assumption) hc1 | exact absurd hc2 (by assumption)
    · rw [if_pos h2] at hF
      refine zw_aload_n C dX4_ask_33 0 rfl rfl ?_
      refine zw_get C FX4 0 11 (v := .int M0) rfl (by decide) lkX4_104 rfl dX4_ask_34 ?_
      refine zw_iconst C (v := 1) dX4_ask_37 (by decide) ?_
      refine zw_isub C dX4_ask_38 ?_
      refine zw_istore C dX4_ask_39 (by decide) rfl ?_
      refine zw_aload_n C dX4_ask_41 1 rfl rfl ?_
      refine zw_get C FX4 0 12 (v := .ref (b 10)) rfl (by decide) lkX4_38 rfl dX4_ask_42 ?_
      refine zw_iload C dX4_ask_45 0 rfl ?_
      refine zw_iald C 10 0 (f := M1) (i := (M0 - 1)) rfl rfl (by obtain ⟨i, hi, e⟩ := s0; obtain ⟨m, em, e5, e6⟩ := dm_pred e (by omega) hc1; exact e6) dX4_ask_47 ?_
      refine zw_istore C dX4_ask_48 (by decide) rfl ?_
      refine zw_aload_n C dX4_ask_50 2 rfl rfl ?_
      refine zw_get C FX4 0 15 (v := .ref (b 13)) rfl (by decide) lkX4_47 rfl dX4_ask_51 ?_
      refine zw_iload C dX4_ask_54 1 rfl ?_
      refine zw_iald C 13 0 (f := M4) (i := (M0 - 1)) rfl rfl (by obtain ⟨i, hi, e⟩ := s0; obtain ⟨m, em, e5, e6⟩ := dm_pred e (by omega) hc1; exact e6) dX4_ask_56 ?_
      refine zw_istore C dX4_ask_57 (by decide) rfl ?_
      refine zw_aload_n C dX4_ask_59 3 rfl rfl ?_
      refine zw_get C FX4 0 15 (v := .ref (b 13)) rfl (by decide) lkX4_47 rfl dX4_ask_60 ?_
      refine zw_iload C dX4_ask_63 2 rfl ?_
      refine zw_dup2_11 C dX4_ask_65 rfl rfl ?_
      refine zw_iald C 13 0 (f := M4) (i := (M0 - 1)) rfl rfl (by obtain ⟨i, hi, e⟩ := s0; obtain ⟨m, em, e5, e6⟩ := dm_pred e (by omega) hc1; exact e6) dX4_ask_66 ?_
      refine zw_iconst C (v := 1) dX4_ask_67 (by decide) ?_
      refine zw_iadd C dX4_ask_68 ?_
      refine zw_iast C 13 0 (f := M4) (i := (M0 - 1)) (ws2 := (wM cI cL b B0 B1 B2 B3 B4 B5 B6 K0 K1 K2 K3 K4 E0 M0 M1 M2 M3 (upd M4 (M0 - 1).toNatClampNeg ((M4 (M0 - 1).toNatClampNeg) + 1)) M5 M6 M7 U0 U1 U2 U3 U4 U5 G0 G1 G2 G3 G4 N0 N1 N2 N3)) rfl rfl (by obtain ⟨i, hi, e⟩ := s0; obtain ⟨m, em, e5, e6⟩ := dm_pred e (by omega) hc1; exact e6) rfl dX4_ask_69 ?_
      refine zw_iload C dX4_ask_70 1 rfl ?_
      refine zw_bipush C (v := 24) dX4_ask_72 (by decide) ?_
      refine zw_icmp_ge C 99 dX4_ask_74 (by decide) (fun h3 => ?_) (fun h3 => ?_)
      · rw [if_pos h3] at hF
        refine zw_iload C dX4_ask_99 1 rfl ?_
        refine zw_bipush C (v := 48) dX4_ask_101 (by decide) ?_
        refine zw_icmp_ge C 128 dX4_ask_103 (by decide) (fun h4 => ?_) (fun h4 => ?_)
        · rw [if_pos h4] at hF
          refine zw_aload_n C dX4_ask_128 3 rfl rfl ?_
          refine zw_iload C dX4_ask_129 1 rfl ?_
          refine zw_iload C dX4_ask_131 0 rfl ?_
          refine zw_aload_n C dX4_ask_133 3 rfl rfl ?_
          refine zw_get C FX4 0 17 (v := .long M6) rfl (by decide) lkX4_107 rfl dX4_ask_134 ?_
          obtain ⟨q5, e6⟩ : ∃ z, fX4_goesOrder K1 K2 K3 M0 M1 M2 M3 (upd M4 (M0 - 1).toNatClampNeg ((M4 (M0 - 1).toNatClampNeg) + 1)) M5 M6 M7 U0 U2 (M1 (M0 - 1).toNatClampNeg) (M4 (M0 - 1).toNatClampNeg) M6 = z := ⟨_, rfl⟩
          rw [zw_l_eq e6] at hF
          refine zw_callv C kvX4_137 (kX4_goesOrder s3 (by obtain ⟨i, hi, e⟩ := s0; rw [e]; exact vp_in_nI (by omega) (by decide)) (by obtain ⟨i, hi, e⟩ := s0; obtain ⟨m, em, e5, e6⟩ := dm_pred e (by omega) hc1; exact e6) e6) ⟨rfl, rfl, ⟨by decide, by decide⟩, by decide, by decide⟩ FX4 0 (As := [.int (M1 (M0 - 1).toNatClampNeg), .int (M4 (M0 - 1).toNatClampNeg), .long M6]) (rest := []) rfl rfl rfl (Nat.le_of_ble_eq_true rfl) dX4_ask_137 ?_
          refine zw_aload_n C dX4_ask_140 3 rfl rfl ?_
          refine zw_get C FX4 0 18 (v := .int q5.2.2.2.2.2.2.2.1) rfl (by decide) lkX4_98 rfl dX4_ask_141 ?_
          refine zw_if_le C 151 dX4_ask_144 (by decide) (fun h7 => ?_) (fun h7 => ?_)
          · rw [if_pos h7] at hF
            refine zw_goto C 19 dX4_ask_151 (by decide) ?_
            subst hF; dsimp only at kx
            exact zw_locals [3] rfl kx
          · rw [if_neg h7] at hF
            refine zw_aload_n C dX4_ask_147 3 rfl rfl ?_
            obtain ⟨q8, e9⟩ : ∃ z, fX4_recovers K1 q5.1 q5.2.1 q5.2.2.2.2.1 q5.2.2.2.2.2.2.1 q5.2.2.2.2.2.2.2.1 U3 = z := ⟨_, rfl⟩
            rw [zw_l_eq e9] at hF
            refine zw_callv C kvX4_141 (kX4_recovers (by first | exact gw_i s0 hc1 (gw_S (by assumption)) | exact gw_i s0 hc1 (gw_V (by assumption)) | exact gw_i s0 hc1 (gw_O (by assumption))) e9) ⟨rfl, rfl, ⟨by decide, by decide⟩, by decide, by decide⟩ FX4 0 (As := []) (rest := []) rfl rfl rfl (Nat.le_of_ble_eq_true rfl) dX4_ask_148 ?_
            refine zw_goto C 19 dX4_ask_151 (by decide) ?_
            subst hF; dsimp only at kx
            exact zw_locals [3] rfl kx
        · rw [if_neg h4] at hF
          refine zw_aload_n C dX4_ask_106 3 rfl rfl ?_
          refine zw_iload C dX4_ask_107 1 rfl ?_
          refine zw_aload_n C dX4_ask_109 3 rfl rfl ?_
          refine zw_get C FX4 0 13 (v := .ref (b 11)) rfl (by decide) lkX4_41 rfl dX4_ask_110 ?_
          refine zw_iload C dX4_ask_113 2 rfl ?_
          refine zw_iald C 11 0 (f := M2) (i := (M0 - 1)) rfl rfl (by obtain ⟨i, hi, e⟩ := s0; obtain ⟨m, em, e5, e6⟩ := dm_pred e (by omega) hc1; exact e6) dX4_ask_115 ?_
          refine zw_iload C dX4_ask_116 0 rfl ?_
          refine zw_aload_n C dX4_ask_118 3 rfl rfl ?_
          refine zw_get C FX4 0 17 (v := .long M6) rfl (by decide) lkX4_107 rfl dX4_ask_119 ?_
          obtain ⟨q10, e11⟩ : ∃ z, fX4_goesSieve K1 K2 K3 E0 M0 M1 M2 M3 (upd M4 (M0 - 1).toNatClampNeg ((M4 (M0 - 1).toNatClampNeg) + 1)) M5 M6 M7 U0 U2 (M1 (M0 - 1).toNatClampNeg) (M2 (M0 - 1).toNatClampNeg) (M4 (M0 - 1).toNatClampNeg) M6 = z := ⟨_, rfl⟩
          rw [zw_l_eq e11] at hF
          refine zw_callv C kvX4_134 (kX4_goesSieve s3 (by obtain ⟨i, hi, e⟩ := s0; rw [e]; exact vp_in_nI (by omega) (by decide)) (by obtain ⟨i, hi, e⟩ := s0; obtain ⟨m, em, e5, e6⟩ := dm_pred e (by omega) hc1; exact e6) e11) ⟨rfl, rfl, ⟨by decide, by decide⟩, by decide, by decide⟩ FX4 0 (As := [.int (M1 (M0 - 1).toNatClampNeg), .int (M2 (M0 - 1).toNatClampNeg), .int (M4 (M0 - 1).toNatClampNeg), .long M6]) (rest := []) rfl rfl rfl (Nat.le_of_ble_eq_true rfl) dX4_ask_122 ?_
          refine zw_goto C 140 dX4_ask_125 (by decide) ?_
          refine zw_aload_n C dX4_ask_140 3 rfl rfl ?_
          refine zw_get C FX4 0 18 (v := .int q10.2.2.2.2.2.2.2.2.1) rfl (by decide) lkX4_98 rfl dX4_ask_141 ?_
          refine zw_if_le C 151 dX4_ask_144 (by decide) (fun h12 => ?_) (fun h12 => ?_)
          · rw [if_pos h12] at hF
            refine zw_goto C 19 dX4_ask_151 (by decide) ?_
            subst hF; dsimp only at kx
            exact zw_locals [3] rfl kx
          · rw [if_neg h12] at hF
            refine zw_aload_n C dX4_ask_147 3 rfl rfl ?_
            obtain ⟨q13, e14⟩ : ∃ z, fX4_recovers K1 q10.2.1 q10.2.2.1 q10.2.2.2.2.2.1 q10.2.2.2.2.2.2.2.1 q10.2.2.2.2.2.2.2.2.1 U3 = z := ⟨_, rfl⟩
            rw [zw_l_eq e14] at hF
            refine zw_callv C kvX4_141 (kX4_recovers (by first | exact gw_i s0 hc1 (gw_S (by assumption)) | exact gw_i s0 hc1 (gw_V (by assumption)) | exact gw_i s0 hc1 (gw_O (by assumption))) e14) ⟨rfl, rfl, ⟨by decide, by decide⟩, by decide, by decide⟩ FX4 0 (As := []) (rest := []) rfl rfl rfl (Nat.le_of_ble_eq_true rfl) dX4_ask_148 ?_
            refine zw_goto C 19 dX4_ask_151 (by decide) ?_
            subst hF; dsimp only at kx
            exact zw_locals [3] rfl kx
      · rw [if_neg h3] at hF
        refine zw_aload_n C dX4_ask_77 3 rfl rfl ?_
        refine zw_iload C dX4_ask_78 1 rfl ?_
        refine zw_aload_n C dX4_ask_80 3 rfl rfl ?_
        refine zw_get C FX4 0 13 (v := .ref (b 11)) rfl (by decide) lkX4_41 rfl dX4_ask_81 ?_
        refine zw_iload C dX4_ask_84 2 rfl ?_
        refine zw_iald C 11 0 (f := M2) (i := (M0 - 1)) rfl rfl (by obtain ⟨i, hi, e⟩ := s0; obtain ⟨m, em, e5, e6⟩ := dm_pred e (by omega) hc1; exact e6) dX4_ask_86 ?_
        refine zw_iload C dX4_ask_87 0 rfl ?_
        refine zw_aload_n C dX4_ask_89 3 rfl rfl ?_
        refine zw_get C FX4 0 17 (v := .long M6) rfl (by decide) lkX4_107 rfl dX4_ask_90 ?_
        obtain ⟨q15, e16⟩ : ∃ z, fX4_goesScale B3 B4 K1 K2 K3 K4 E0 M0 M1 M2 M3 (upd M4 (M0 - 1).toNatClampNeg ((M4 (M0 - 1).toNatClampNeg) + 1)) M5 M6 M7 U0 U2 (M1 (M0 - 1).toNatClampNeg) (M2 (M0 - 1).toNatClampNeg) (M4 (M0 - 1).toNatClampNeg) M6 = z := ⟨_, rfl⟩
        rw [zw_l_eq e16] at hF
        refine zw_callv C kvX4_130 (kX4_goesScale s3 (by obtain ⟨i, hi, e⟩ := s0; rw [e]; exact vp_in_nI (by omega) (by decide)) (by obtain ⟨i, hi, e⟩ := s0; obtain ⟨m, em, e5, e6⟩ := dm_pred e (by omega) hc1; exact e6) (s4 (Int32.not_le.mp (by assumption))) e16) ⟨rfl, rfl, ⟨by decide, by decide⟩, by decide, by decide⟩ FX4 0 (As := [.int (M1 (M0 - 1).toNatClampNeg), .int (M2 (M0 - 1).toNatClampNeg), .int (M4 (M0 - 1).toNatClampNeg), .long M6]) (rest := []) rfl rfl rfl (Nat.le_of_ble_eq_true rfl) dX4_ask_93 ?_
        refine zw_goto C 140 dX4_ask_96 (by decide) ?_
        refine zw_aload_n C dX4_ask_140 3 rfl rfl ?_
        refine zw_get C FX4 0 18 (v := .int q15.2.2.2.2.2.2.2.2.1) rfl (by decide) lkX4_98 rfl dX4_ask_141 ?_
        refine zw_if_le C 151 dX4_ask_144 (by decide) (fun h17 => ?_) (fun h17 => ?_)
        · rw [if_pos h17] at hF
          refine zw_goto C 19 dX4_ask_151 (by decide) ?_
          subst hF; dsimp only at kx
          exact zw_locals [3] rfl kx
        · rw [if_neg h17] at hF
          refine zw_aload_n C dX4_ask_147 3 rfl rfl ?_
          obtain ⟨q18, e19⟩ : ∃ z, fX4_recovers K1 q15.2.1 q15.2.2.1 q15.2.2.2.2.2.1 q15.2.2.2.2.2.2.2.1 q15.2.2.2.2.2.2.2.2.1 U3 = z := ⟨_, rfl⟩
          rw [zw_l_eq e19] at hF
          refine zw_callv C kvX4_141 (kX4_recovers (by first | exact gw_i s0 hc1 (gw_S (by assumption)) | exact gw_i s0 hc1 (gw_V (by assumption)) | exact gw_i s0 hc1 (gw_O (by assumption))) e19) ⟨rfl, rfl, ⟨by decide, by decide⟩, by decide, by decide⟩ FX4 0 (As := []) (rest := []) rfl rfl rfl (Nat.le_of_ble_eq_true rfl) dX4_ask_148 ?_
          refine zw_goto C 19 dX4_ask_151 (by decide) ?_
          subst hF; dsimp only at kx
          exact zw_locals [3] rfl kx
