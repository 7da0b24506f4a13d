def fX4_ask0 (E0 : (Nat → Int32)) (M1 : (Nat → Int32)) (M2 : (Nat → Int32)) (M3 : (Nat → Int32)) (M4 : (Nat → Int32)) (M5 : (Nat → Int64)) (M6 : Int64) (U0 : Int32) (U2 : Int32) (U3 : Int32) (p1 p2 p3 p4 : Int32) : mY := (zw_l (fX4_begins 0 M1 M2 M3 M4 0 U0 U2 p1 p2 p3 p4) (fun q1 => (E0, q1.1, q1.2.1, q1.2.2.1, q1.2.2.2.1, q1.2.2.2.2.1, M5, M6, q1.2.2.2.2.2.1, q1.2.2.2.2.2.2.1, q1.2.2.2.2.2.2.2, U3)))
/-- what ask comes to -/
def mAsk (B3 B4 : Nat → Int64) (K1 K2 K3 : Nat → Int32) (K4 : Nat → Int64) (E0 : (Nat → Int32)) (M1 : (Nat → Int32)) (M2 : (Nat → Int32)) (M3 : (Nat → Int32)) (M4 : (Nat → Int32)) (M5 : (Nat → Int64)) (M6 : Int64) (U0 : Int32) (U2 : Int32) (U3 : Int32) (p1 p2 p3 p4 : Int32) (t : mY) : Prop := mR B3 B4 K1 K2 K3 K4 (fX4_ask0 E0 M1 M2 M3 M4 M5 M6 U0 U2 U3 p1 p2 p3 p4) t ∧ ¬ mgo t
set_option maxHeartbeats 4000000 in
set_option maxRecDepth 100000 in
theorem kX4_ask {l : Launch} {D : va_G} {cI cL : ClassId} {b : Nat → Nat} {B0 : Int32} {B1 : Int32} {B2 : Int64} {B3 : (Nat → Int64)} {B4 : (Nat → Int64)} {B5 : (Nat → Int32)} {B6 : (Nat → Int32)} {K0 : (Nat → Int32)} {K1 : (Nat → Int32)} {K2 : (Nat → Int32)} {K3 : (Nat → Int32)} {K4 : (Nat → Int64)} {E0 : (Nat → Int32)} {M0 : Int32} {M1 : (Nat → Int32)} {M2 : (Nat → Int32)} {M3 : (Nat → Int32)} {M4 : (Nat → Int32)} {M5 : (Nat → Int64)} {M6 : Int64} {M7 : Int32} {U0 : Int32} {U1 : Int32} {U2 : Int32} {U3 : Int32} {U4 : Int32} {U5 : Int32} {G0 : Int32} {G1 : (Nat → Int64)} {G2 : (Nat → Int32)} {G3 : (Nat → Int64)} {G4 : (Nat → Int32)} {N0 : (Nat → Int64)} {N1 : (Nat → Int32)} {N2 : (Nat → Int64)} {N3 : (Nat → Int32)} {p1 p2 p3 p4 : Int32} {t : mY} {r : Int32} (hA : mAsk B3 B4 K1 K2 K3 K4 E0 M1 M2 M3 M4 M5 M6 U0 U2 U3 p1 p2 p3 p4 t) (hF : (if t.2.2.2.2.2.2.2.2.1 = 0 then 1 else 0) = r) : zw_Mi l yX4_ask cX4_ask 8 .boolean D (zw_tys cI cL) (zw_rm 3 75) [.ref (b 0), .int p1, .int p2, .int p3, .int p4] (wM cI cL b B0 B1 B2 B3 B4 B5 B6 K0 K1 K2 K3 K4 E0 M0 M1 M2 M3 M4 M5 M6 M7 U0 U1 U2 U3 U4 U5 G0 G1 G2 G3 G4 N0 N1 N2 N3) (wM cI cL b B0 B1 B2 B3 B4 B5 B6 K0 K1 K2 K3 K4 t.1 t.2.1 t.2.2.1 t.2.2.2.1 t.2.2.2.2.1 t.2.2.2.2.2.1 t.2.2.2.2.2.2.1 t.2.2.2.2.2.2.2.1 t.2.2.2.2.2.2.2.2.1 t.2.2.2.2.2.2.2.2.2.1 U1 t.2.2.2.2.2.2.2.2.2.2.1 t.2.2.2.2.2.2.2.2.2.2.2 U4 U5 G0 G1 G2 G3 G4 N0 N1 N2 N3) r := by
  obtain ⟨hR, hx⟩ := hA
  have hF1 := hF
  obtain ⟨d0, hF⟩ : ∃ z, fX4_ask0 E0 M1 M2 M3 M4 M5 M6 U0 U2 U3 p1 p2 p3 p4 = z := ⟨_, rfl⟩
  rw [hF] at hR
  unfold fX4_ask0 at hF
  refine zw_Mi_of (own := RX4) (by decide) rfl (Nat.le_of_ble_eq_true rfl) ?_
  intro p e s m args below meth c A C hr hlk
  have hE : zw_W p l e (zw_rm 3 75) s m args below meth c D A 8 (zw_Qi D A (wM cI cL b B0 B1 B2 B3 B4 B5 B6 K0 K1 K2 K3 K4 t.1 t.2.1 t.2.2.1 t.2.2.2.1 t.2.2.2.2.1 t.2.2.2.2.2.1 t.2.2.2.2.2.2.1 t.2.2.2.2.2.2.2.1 t.2.2.2.2.2.2.2.2.1 t.2.2.2.2.2.2.2.2.2.1 U1 t.2.2.2.2.2.2.2.2.2.2.1 t.2.2.2.2.2.2.2.2.2.2.2 U4 U5 G0 G1 G2 G3 G4 N0 N1 N2 N3) r below args s) 0 0 (wM cI cL b B0 B1 B2 B3 B4 B5 B6 K0 K1 K2 K3 K4 t.1 t.2.1 t.2.2.1 t.2.2.2.1 t.2.2.2.2.1 t.2.2.2.2.2.1 t.2.2.2.2.2.2.1 t.2.2.2.2.2.2.2.1 t.2.2.2.2.2.2.2.2.1 t.2.2.2.2.2.2.2.2.2.1 U1 t.2.2.2.2.2.2.2.2.2.2.1 t.2.2.2.2.2.2.2.2.2.2.2 U4 U5 G0 G1 G2 G3 G4 N0 N1 N2 N3) 154 [(0, .ref (b 0))] [] := by
    have hF := hF1
    refine zw_aload_n C dX4_ask_154 0 rfl rfl ?_
    refine zw_get C FX4 0 18 (v := .int t.2.2.2.2.2.2.2.2.1) rfl (by decide) lkX4_98 rfl dX4_ask_155 ?_
    refine zw_if_ne C 165 dX4_ask_158 (by decide) (fun h1 => ?_) (fun h1 => ?_)
    · rw [if_neg h1] at hF
      refine zw_iconst C (v := 0) dX4_ask_165 (by decide) ?_
      subst hF
      exact zw_zreturn C hr hlk rfl dX4_ask_166 rfl rfl
    · rw [if_pos h1] at hF
      refine zw_iconst C (v := 1) dX4_ask_161 (by decide) ?_
      refine zw_goto C 166 dX4_ask_162 (by decide) ?_
      subst hF
      exact zw_zreturn C hr hlk rfl dX4_ask_166 rfl rfl
  refine zw_eq (lv2 := [(0, .ref (b 0)), (1, .int p1), (2, .int p2), (3, .int p3), (4, .int p4)]) rfl rfl rfl ?_
  refine zw_aload_n C dX4_ask_0 0 rfl rfl ?_
  refine zw_iconst C (v := 0) dX4_ask_1 (by decide) ?_
  refine zw_put C FX4 GX4 0 11 (v := .int 0) (ws2 := (wM cI cL b B0 B1 B2 B3 B4 B5 B6 K0 K1 K2 K3 K4 E0 0 M1 M2 M3 M4 M5 M6 M7 U0 U1 U2 U3 U4 U5 G0 G1 G2 G3 G4 N0 N1 N2 N3)) rfl (by decide) lkX4_104 rfl rfl rfl (Nat.le_of_ble_eq_true rfl) rfl dX4_ask_2 ?_
  refine zw_aload_n C dX4_ask_5 0 rfl rfl ?_
  refine zw_iconst C (v := 0) dX4_ask_6 (by decide) ?_
  refine zw_put C FX4 GX4 0 18 (v := .int 0) (ws2 := (wM cI cL b B0 B1 B2 B3 B4 B5 B6 K0 K1 K2 K3 K4 E0 0 M1 M2 M3 M4 M5 M6 0 U0 U1 U2 U3 U4 U5 G0 G1 G2 G3 G4 N0 N1 N2 N3)) rfl (by decide) lkX4_98 rfl rfl rfl (Nat.le_of_ble_eq_true rfl) rfl dX4_ask_7 ?_
  refine zw_aload_n C dX4_ask_10 0 rfl rfl ?_
  refine zw_iload_n C dX4_ask_11 1 rfl rfl ?_
  refine zw_iload_n C dX4_ask_12 2 rfl rfl ?_
  refine zw_iload_n C dX4_ask_13 3 rfl rfl ?_
  refine zw_iload C dX4_ask_14 4 rfl ?_
  obtain ⟨q1, e2⟩ : ∃ z, fX4_begins 0 M1 M2 M3 M4 0 U0 U2 p1 p2 p3 p4 = z := ⟨_, rfl⟩
  rw [zw_l_eq e2] at hF
  refine zw_callv C kvX4_115 (kX4_begins (vp_in_iff.mpr ⟨by decide, by decide⟩) e2) ⟨rfl, rfl, ⟨by decide, by decide⟩, by decide, by decide⟩ FX4 0 (As := [.int p1, .int p2, .int p3, .int p4]) (rest := []) rfl rfl rfl (Nat.le_of_ble_eq_true rfl) dX4_ask_16 ?_
  subst hF
  obtain ⟨n, hn, e9⟩ := hR
  refine zw_locals [0] (lv2 := [(0, .ref (b 0))]) rfl ?_
  refine kX4_run C n _ hn ?_
  rw [e9]
  refine zw_aload_n C dX4_ask_19 0 rfl rfl ?_
  refine zw_get C FX4 0 11 (v := .int t.2.1) rfl (by decide) lkX4_104 rfl dX4_ask_20 ?_
  refine zw_if_le C 154 dX4_ask_23 (by decide) (fun _ => hE) (fun h8 => ?_)
  refine zw_aload_n C dX4_ask_26 0 rfl rfl ?_
  refine zw_get C FX4 0 18 (v := .int t.2.2.2.2.2.2.2.2.1) rfl (by decide) lkX4_98 rfl dX4_ask_27 ?_
  refine zw_if_ne C 154 dX4_ask_30 (by decide) (fun _ => hE) (fun h9 => ?_)
  exact absurd ⟨h8, h9⟩ hx
