/-! the calls that ask one by one -/
def fX4_scaleOk (B0 : Int32) (K0 : (Nat → Int32)) (p1 : Int32) (p2 : Int32) (p3 : Int32) : Int32 := (if (fX4_in p1 0 11) = 0 then 0 else (if p1 = 0 then (if (fX4_in p2 0 2) = 0 then 0 else (if p1 = 8 then (if (fX4_in p2 0 7) = 0 then 0 else (if (fX4_in p1 2 5) = 0 then (if p1 = 7 then (if (fX4_is K0 0 p2) = 0 then 0 else (if p1 = 6 then (if (fX4_is K0 1 p2) = 0 then 0 else (if (fX4_in p1 2 6) = 0 then (if p1 = 9 then (if (fX4_isThing B0 p3) = 0 then 0 else 1) else 1) else (if (fX4_is K0 0 p3) = 0 then 0 else (if p1 = 9 then (if (fX4_isThing B0 p3) = 0 then 0 else 1) else 1)))) else (if (fX4_in p1 2 6) = 0 then (if p1 = 9 then (if (fX4_isThing B0 p3) = 0 then 0 else 1) else 1) else (if (fX4_is K0 0 p3) = 0 then 0 else (if p1 = 9 then (if (fX4_isThing B0 p3) = 0 then 0 else 1) else 1))))) else (if p1 = 9 then (if (fX4_is K0 0 p2) = 0 then 0 else (if p1 = 6 then (if (fX4_is K0 1 p2) = 0 then 0 else (if (fX4_in p1 2 6) = 0 then (if p1 = 9 then (if (fX4_isThing B0 p3) = 0 then 0 else 1) else 1) else (if (fX4_is K0 0 p3) = 0 then 0 else (if p1 = 9 then (if (fX4_isThing B0 p3) = 0 then 0 else 1) else 1)))) else (if (fX4_in p1 2 6) = 0 then (if p1 = 9 then (if (fX4_isThing B0 p3) = 0 then 0 else 1) else 1) else (if (fX4_is K0 0 p3) = 0 then 0 else (if p1 = 9 then (if (fX4_isThing B0 p3) = 0 then 0 else 1) else 1))))) else (if p1 = 6 then (if (fX4_is K0 1 p2) = 0 then 0 else (if (fX4_in p1 2 6) = 0 then (if p1 = 9 then (if (fX4_isThing B0 p3) = 0 then 0 else 1) else 1) else (if (fX4_is K0 0 p3) = 0 then 0 else (if p1 = 9 then (if (fX4_isThing B0 p3) = 0 then 0 else 1) else 1)))) else (if (fX4_in p1 2 6) = 0 then (if p1 = 9 then (if (fX4_isThing B0 p3) = 0 then 0 else 1) else 1) else (if (fX4_is K0 0 p3) = 0 then 0 else (if p1 = 9 then (if (fX4_isThing B0 p3) = 0 then 0 else 1) else 1)))))) else (if (fX4_is K0 0 p2) = 0 then 0 else (if p1 = 6 then (if (fX4_is K0 1 p2) = 0 then 0 else (if (fX4_in p1 2 6) = 0 then (if p1 = 9 then (if (fX4_isThing B0 p3) = 0 then 0 else 1) else 1) else (if (fX4_is K0 0 p3) = 0 then 0 else (if p1 = 9 then (if (fX4_isThing B0 p3) = 0 then 0 else 1) else 1)))) else (if (fX4_in p1 2 6) = 0 then (if p1 = 9 then (if (fX4_isThing B0 p3) = 0 then 0 else 1) else 1) else (if (fX4_is K0 0 p3) = 0 then 0 else (if p1 = 9 then (if (fX4_isThing B0 p3) = 0 then 0 else 1) else 1))))))) else (if (fX4_in p1 2 5) = 0 then (if p1 = 7 then (if (fX4_is K0 0 p2) = 0 then 0 else (if p1 = 6 then (if (fX4_is K0 1 p2) = 0 then 0 else (if (fX4_in p1 2 6) = 0 then (if p1 = 9 then (if (fX4_isThing B0 p3) = 0 then 0 else 1) else 1) else (if (fX4_is K0 0 p3) = 0 then 0 else (if p1 = 9 then (if (fX4_isThing B0 p3) = 0 then 0 else 1) else 1)))) else (if (fX4_in p1 2 6) = 0 then (if p1 = 9 then (if (fX4_isThing B0 p3) = 0 then 0 else 1) else 1) else (if (fX4_is K0 0 p3) = 0 then 0 else (if p1 = 9 then (if (fX4_isThing B0 p3) = 0 then 0 else 1) else 1))))) else (if p1 = 9 then (if (fX4_is K0 0 p2) = 0 then 0 else (if p1 = 6 then (if (fX4_is K0 1 p2) = 0 then 0 else (if (fX4_in p1 2 6) = 0 then (if p1 = 9 then (if (fX4_isThing B0 p3) = 0 then 0 else 1) else 1) else (if (fX4_is K0 0 p3) = 0 then 0 else (if p1 = 9 then (if (fX4_isThing B0 p3) = 0 then 0 else 1) else 1)))) else (if (fX4_in p1 2 6) = 0 then (if p1 = 9 then (if (fX4_isThing B0 p3) = 0 then 0 else 1) else 1) else (if (fX4_is K0 0 p3) = 0 then 0 else (if p1 = 9 then (if (fX4_isThing B0 p3) = 0 then 0 else 1) else 1))))) else (if p1 = 6 then (if (fX4_is K0 1 p2) = 0 then 0 else (if (fX4_in p1 2 6) = 0 then (if p1 = 9 then (if (fX4_isThing B0 p3) = 0 then 0 else 1) else 1) else (if (fX4_is K0 0 p3) = 0 then 0 else (if p1 = 9 then (if (fX4_isThing B0 p3) = 0 then 0 else 1) else 1)))) else (if (fX4_in p1 2 6) = 0 then (if p1 = 9 then (if (fX4_isThing B0 p3) = 0 then 0 else 1) else 1) else (if (fX4_is K0 0 p3) = 0 then 0 else (if p1 = 9 then (if (fX4_isThing B0 p3) = 0 then 0 else 1) else 1)))))) else (if (fX4_is K0 0 p2) = 0 then 0 else (if p1 = 6 then (if (fX4_is K0 1 p2) = 0 then 0 else (if (fX4_in p1 2 6) = 0 then (if p1 = 9 then (if (fX4_isThing B0 p3) = 0 then 0 else 1) else 1) else (if (fX4_is K0 0 p3) = 0 then 0 else (if p1 = 9 then (if (fX4_isThing B0 p3) = 0 then 0 else 1) else 1)))) else (if (fX4_in p1 2 6) = 0 then (if p1 = 9 then (if (fX4_isThing B0 p3) = 0 then 0 else 1) else 1) else (if (fX4_is K0 0 p3) = 0 then 0 else (if p1 = 9 then (if (fX4_isThing B0 p3) = 0 then 0 else 1) else 1)))))))) else (if p1 = 8 then (if (fX4_in p2 0 7) = 0 then 0 else (if (fX4_in p1 2 5) = 0 then (if p1 = 7 then (if (fX4_is K0 0 p2) = 0 then 0 else (if p1 = 6 then (if (fX4_is K0 1 p2) = 0 then 0 else (if (fX4_in p1 2 6) = 0 then (if p1 = 9 then (if (fX4_isThing B0 p3) = 0 then 0 else 1) else 1) else (if (fX4_is K0 0 p3) = 0 then 0 else (if p1 = 9 then (if (fX4_isThing B0 p3) = 0 then 0 else 1) else 1)))) else (if (fX4_in p1 2 6) = 0 then (if p1 = 9 then (if (fX4_isThing B0 p3) = 0 then 0 else 1) else 1) else (if (fX4_is K0 0 p3) = 0 then 0 else (if p1 = 9 then (if (fX4_isThing B0 p3) = 0 then 0 else 1) else 1))))) else (if p1 = 9 then (if (fX4_is K0 0 p2) = 0 then 0 else (if p1 = 6 then (if (fX4_is K0 1 p2) = 0 then 0 else (if (fX4_in p1 2 6) = 0 then (if p1 = 9 then (if (fX4_isThing B0 p3) = 0 then 0 else 1) else 1) else (if (fX4_is K0 0 p3) = 0 then 0 else (if p1 = 9 then (if (fX4_isThing B0 p3) = 0 then 0 else 1) else 1)))) else (if (fX4_in p1 2 6) = 0 then (if p1 = 9 then (if (fX4_isThing B0 p3) = 0 then 0 else 1) else 1) else (if (fX4_is K0 0 p3) = 0 then 0 else (if p1 = 9 then (if (fX4_isThing B0 p3) = 0 then 0 else 1) else 1))))) else (if p1 = 6 then (if (fX4_is K0 1 p2) = 0 then 0 else (if (fX4_in p1 2 6) = 0 then (if p1 = 9 then (if (fX4_isThing B0 p3) = 0 then 0 else 1) else 1) else (if (fX4_is K0 0 p3) = 0 then 0 else (if p1 = 9 then (if (fX4_isThing B0 p3) = 0 then 0 else 1) else 1)))) else (if (fX4_in p1 2 6) = 0 then (if p1 = 9 then (if (fX4_isThing B0 p3) = 0 then 0 else 1) else 1) else (if (fX4_is K0 0 p3) = 0 then 0 else (if p1 = 9 then (if (fX4_isThing B0 p3) = 0 then 0 else 1) else 1)))))) else (if (fX4_is K0 0 p2) = 0 then 0 else (if p1 = 6 then (if (fX4_is K0 1 p2) = 0 then 0 else (if (fX4_in p1 2 6) = 0 then (if p1 = 9 then (if (fX4_isThing B0 p3) = 0 then 0 else 1) else 1) else (if (fX4_is K0 0 p3) = 0 then 0 else (if p1 = 9 then (if (fX4_isThing B0 p3) = 0 then 0 else 1) else 1)))) else (if (fX4_in p1 2 6) = 0 then (if p1 = 9 then (if (fX4_isThing B0 p3) = 0 then 0 else 1) else 1) else (if (fX4_is K0 0 p3) = 0 then 0 else (if p1 = 9 then (if (fX4_isThing B0 p3) = 0 then 0 else 1) else 1))))))) else (if (fX4_in p1 2 5) = 0 then (if p1 = 7 then (if (fX4_is K0 0 p2) = 0 then 0 else (if p1 = 6 then (if (fX4_is K0 1 p2) = 0 then 0 else (if (fX4_in p1 2 6) = 0 then (if p1 = 9 then (if (fX4_isThing B0 p3) = 0 then 0 else 1) else 1) else (if (fX4_is K0 0 p3) = 0 then 0 else (if p1 = 9 then (if (fX4_isThing B0 p3) = 0 then 0 else 1) else 1)))) else (if (fX4_in p1 2 6) = 0 then (if p1 = 9 then (if (fX4_isThing B0 p3) = 0 then 0 else 1) else 1) else (if (fX4_is K0 0 p3) = 0 then 0 else (if p1 = 9 then (if (fX4_isThing B0 p3) = 0 then 0 else 1) else 1))))) else (if p1 = 9 then (if (fX4_is K0 0 p2) = 0 then 0 else (if p1 = 6 then (if (fX4_is K0 1 p2) = 0 then 0 else (if (fX4_in p1 2 6) = 0 then (if p1 = 9 then (if (fX4_isThing B0 p3) = 0 then 0 else 1) else 1) else (if (fX4_is K0 0 p3) = 0 then 0 else (if p1 = 9 then (if (fX4_isThing B0 p3) = 0 then 0 else 1) else 1)))) else (if (fX4_in p1 2 6) = 0 then (if p1 = 9 then (if (fX4_isThing B0 p3) = 0 then 0 else 1) else 1) else (if (fX4_is K0 0 p3) = 0 then 0 else (if p1 = 9 then (if (fX4_isThing B0 p3) = 0 then 0 else 1) else 1))))) else (if p1 = 6 then (if (fX4_is K0 1 p2) = 0 then 0 else (if (fX4_in p1 2 6) = 0 then (if p1 = 9 then (if (fX4_isThing B0 p3) = 0 then 0 else 1) else 1) else (if (fX4_is K0 0 p3) = 0 then 0 else (if p1 = 9 then (if (fX4_isThing B0 p3) = 0 then 0 else 1) else 1)))) else (if (fX4_in p1 2 6) = 0 then (if p1 = 9 then (if (fX4_isThing B0 p3) = 0 then 0 else 1) else 1) else (if (fX4_is K0 0 p3) = 0 then 0 else (if p1 = 9 then (if (fX4_isThing B0 p3) = 0 then 0 else 1) else 1)))))) else (if (fX4_is K0 0 p2) = 0 then 0 else (if p1 = 6 then (if (fX4_is K0 1 p2) = 0 then 0 else (if (fX4_in p1 2 6) = 0 then (if p1 = 9 then (if (fX4_isThing B0 p3) = 0 then 0 else 1) else 1) else (if (fX4_is K0 0 p3) = 0 then 0 else (if p1 = 9 then (if (fX4_isThing B0 p3) = 0 then 0 else 1) else 1)))) else (if (fX4_in p1 2 6) = 0 then (if p1 = 9 then (if (fX4_isThing B0 p3) = 0 then 0 else 1) else 1) else (if (fX4_is K0 0 p3) = 0 then 0 else (if p1 = 9 then (if (fX4_isThing B0 p3) = 0 then 0 else 1) else 1)))))))))
set_option maxHeartbeats 4000000 in
set_option maxRecDepth 100000 in
theorem kX4_scaleOk {p : Program} {l : Launch} {e : Env} {s : State} {m : MethodId} {args : Array Value} {below : List Frame} {meth : Method} {c : Code} {A : Nat → Prop} {Q : State → Prop} {D : va_G} {cI cL : ClassId} {b : Nat → Nat} {B0 : Int32} {B1 : Int32} {B2 : Int64} {B3 : (Nat → Int64)} {B4 : (Nat → Int64)} {B5 : (Nat → Int32)} {B6 : (Nat → Int32)} {K0 : (Nat → Int32)} {K1 : (Nat → Int32)} {K2 : (Nat → Int32)} {K3 : (Nat → Int32)} {K4 : (Nat → Int64)} {E0 : (Nat → Int32)} {M0 : Int32} {M1 : (Nat → Int32)} {M2 : (Nat → Int32)} {M3 : (Nat → Int32)} {M4 : (Nat → Int32)} {M5 : (Nat → Int64)} {M6 : Int64} {M7 : Int32} {U0 : Int32} {U1 : Int32} {U2 : Int32} {U3 : Int32} {U4 : Int32} {U5 : Int32} {G0 : Int32} {G1 : (Nat → Int64)} {G2 : (Nat → Int32)} {G3 : (Nat → Int64)} {G4 : (Nat → Int32)} {N0 : (Nat → Int64)} {N1 : (Nat → Int32)} {N2 : (Nat → Int64)} {N3 : (Nat → Int32)} {p1 : Int32} {p2 : Int32} {p3 : Int32} {r : Int32} (C : zw_C p s m args c D (zw_tys cI cL) A RX4 cX4_scale 7) (hF : fX4_scaleOk B0 K0 p1 p2 p3 = r) (kx : zw_W p l e (zw_rm 4 102) s m args below meth c D A 7 Q 0 0 (wM cI cL b B0 B1 B2 B3 B4 B5 B6 K0 K1 K2 K3 K4 E0 M0 M1 M2 M3 M4 M5 M6 M7 U0 U1 U2 U3 U4 U5 G0 G1 G2 G3 G4 N0 N1 N2 N3) 122 [(0, .ref (b 0)), (1, .int p1), (2, .int p2), (3, .int p3)] [.int r]) : zw_W p l e (zw_rm 4 102) s m args below meth c D A 7 Q 0 0 (wM cI cL b B0 B1 B2 B3 B4 B5 B6 K0 K1 K2 K3 K4 E0 M0 M1 M2 M3 M4 M5 M6 M7 U0 U1 U2 U3 U4 U5 G0 G1 G2 G3 G4 N0 N1 N2 N3) 0 [(0, .ref (b 0)), (1, .int p1), (2, .int p2), (3, .int p3)] [] := by
  unfold fX4_scaleOk at hF
  refine zw_iload_n C dX4_scale_0 1 rfl rfl ?_
  refine zw_iconst C (v := 0) dX4_scale_1 (by decide) ?_
  refine zw_bipush C (v := 11) dX4_scale_2 (by decide) ?_
  refine zw_scalli C kvX4_84 (kX4_in rfl) ⟨rfl, rfl, ⟨by decide, by decide⟩, by decide, by decide⟩ (As := [.int p1, .int 0, .int 11]) (rest := []) rfl rfl (Nat.le_of_ble_eq_true rfl) dX4_scale_4 ?_
  refine zw_if_eq C 121 dX4_scale_7 (by decide) (fun h1 => ?_) (fun h1 => ?_)
  · rw [if_pos h1] at hF
    refine zw_iconst C (v := 0) dX4_scale_121 (by decide) ?_
    subst hF; exact kx
  · rw [if_neg h1] at hF
    refine zw_iload_n C dX4_scale_10 1 rfl rfl ?_
    refine zw_if_ne C 23 dX4_scale_11 (by decide) (fun h2 => ?_) (fun h2 => ?_)
    · rw [if_neg h2] at hF
      refine zw_iload_n C dX4_scale_23 1 rfl rfl ?_
      refine zw_bipush C (v := 8) dX4_scale_24 (by decide) ?_
      refine zw_icmp_ne C 39 dX4_scale_26 (by decide) (fun h3 => ?_) (fun h3 => ?_)
      · rw [if_neg h3] at hF
        refine zw_iload_n C dX4_scale_39 1 rfl rfl ?_
        refine zw_iconst C (v := 2) dX4_scale_40 (by decide) ?_
        refine zw_iconst C (v := 5) dX4_scale_41 (by decide) ?_
        refine zw_scalli C kvX4_84 (kX4_in rfl) ⟨rfl, rfl, ⟨by decide, by decide⟩, by decide, by decide⟩ (As := [.int p1, .int 2, .int 5]) (rest := []) rfl rfl (Nat.le_of_ble_eq_true rfl) dX4_scale_42 ?_
        refine zw_if_ne C 60 dX4_scale_45 (by decide) (fun h4 => ?_) (fun h4 => ?_)
        · rw [if_neg h4] at hF
          refine zw_aload_n C dX4_scale_60 0 rfl rfl ?_
          refine zw_iconst C (v := 0) dX4_scale_61 (by decide) ?_
          refine zw_iload_n C dX4_scale_62 2 rfl rfl ?_
          refine zw_calli C kvX4_153 (kX4_is (vp_in_iff.mpr ⟨by decide, by decide⟩) rfl) ⟨rfl, rfl, ⟨by decide, by decide⟩, by decide, by decide⟩ FX4 0 (As := [.int 0, .int p2]) (rest := []) rfl rfl rfl (Nat.le_of_ble_eq_true rfl) dX4_scale_63 ?_
          refine zw_if_eq C 121 dX4_scale_66 (by decide) (fun h5 => ?_) (fun h5 => ?_)
          · rw [if_pos h5] at hF
            refine zw_iconst C (v := 0) dX4_scale_121 (by decide) ?_
            subst hF; exact kx
          · rw [if_neg h5] at hF
            refine zw_iload_n C dX4_scale_69 1 rfl rfl ?_
            refine zw_bipush C (v := 6) dX4_scale_70 (by decide) ?_
            refine zw_icmp_ne C 84 dX4_scale_72 (by decide) (fun h6 => ?_) (fun h6 => ?_)
            · rw [if_neg h6] at hF
              refine zw_iload_n C dX4_scale_84 1 rfl rfl ?_
              refine zw_iconst C (v := 2) dX4_scale_85 (by decide) ?_
              refine zw_bipush C (v := 6) dX4_scale_86 (by decide) ?_
              refine zw_scalli C kvX4_84 (kX4_in rfl) ⟨rfl, rfl, ⟨by decide, by decide⟩, by decide, by decide⟩ (As := [.int p1, .int 2, .int 6]) (rest := []) rfl rfl (Nat.le_of_ble_eq_true rfl) dX4_scale_88 ?_
              refine zw_if_eq C 103 dX4_scale_91 (by decide) (fun h7 => ?_) (fun h7 => ?_)
              · rw [if_pos h7] at hF
                refine zw_iload_n C dX4_scale_103 1 rfl rfl ?_
                refine zw_bipush C (v := 9) dX4_scale_104 (by decide) ?_
                refine zw_icmp_ne C 117 dX4_scale_106 (by decide) (fun h8 => ?_) (fun h8 => ?_)
                · rw [if_neg h8] at hF
                  refine zw_iconst C (v := 1) dX4_scale_117 (by decide) ?_
                  refine zw_goto C 122 dX4_scale_118 (by decide) ?_
                  subst hF; exact kx
                · rw [if_pos h8] at hF
                  refine zw_aload_n C dX4_scale_109 0 rfl rfl ?_
                  refine zw_iload_n C dX4_scale_110 3 rfl rfl ?_
                  refine zw_calli C kvX4_91 (kX4_isThing rfl) ⟨rfl, rfl, ⟨by decide, by decide⟩, by decide, by decide⟩ FX4 0 (As := [.int p3]) (rest := []) rfl rfl rfl (Nat.le_of_ble_eq_true rfl) dX4_scale_111 ?_
                  refine zw_if_eq C 121 dX4_scale_114 (by decide) (fun h9 => ?_) (fun h9 => ?_)
                  · rw [if_pos h9] at hF
                    refine zw_iconst C (v := 0) dX4_scale_121 (by decide) ?_
                    subst hF; exact kx
                  · rw [if_neg h9] at hF
                    refine zw_iconst C (v := 1) dX4_scale_117 (by decide) ?_
                    refine zw_goto C 122 dX4_scale_118 (by decide) ?_
                    subst hF; exact kx
              · rw [if_neg h7] at hF
                refine zw_aload_n C dX4_scale_94 0 rfl rfl ?_
                refine zw_iconst C (v := 0) dX4_scale_95 (by decide) ?_
                refine zw_iload_n C dX4_scale_96 3 rfl rfl ?_
                refine zw_calli C kvX4_153 (kX4_is (vp_in_iff.mpr ⟨by decide, by decide⟩) rfl) ⟨rfl, rfl, ⟨by decide, by decide⟩, by decide, by decide⟩ FX4 0 (As := [.int 0, .int p3]) (rest := []) rfl rfl rfl (Nat.le_of_ble_eq_true rfl) dX4_scale_97 ?_
                refine zw_if_eq C 121 dX4_scale_100 (by decide) (fun h10 => ?_) (fun h10 => ?_)
                · rw [if_pos h10] at hF
                  refine zw_iconst C (v := 0) dX4_scale_121 (by decide) ?_
                  subst hF; exact kx
                · rw [if_neg h10] at hF
                  refine zw_iload_n C dX4_scale_103 1 rfl rfl ?_
                  refine zw_bipush C (v := 9) dX4_scale_104 (by decide) ?_
                  refine zw_icmp_ne C 117 dX4_scale_106 (by decide) (fun h11 => ?_) (fun h11 => ?_)
                  · rw [if_neg h11] at hF
                    refine zw_iconst C (v := 1) dX4_scale_117 (by decide) ?_
                    refine zw_goto C 122 dX4_scale_118 (by decide) ?_
                    subst hF; exact kx
                  · rw [if_pos h11] at hF
                    refine zw_aload_n C dX4_scale_109 0 rfl rfl ?_
                    refine zw_iload_n C dX4_scale_110 3 rfl rfl ?_
                    refine zw_calli C kvX4_91 (kX4_isThing rfl) ⟨rfl, rfl, ⟨by decide, by decide⟩, by decide, by decide⟩ FX4 0 (As := [.int p3]) (rest := []) rfl rfl rfl (Nat.le_of_ble_eq_true rfl) dX4_scale_111 ?_
                    refine zw_if_eq C 121 dX4_scale_114 (by decide) (fun h12 => ?_) (fun h12 => ?_)
                    · rw [if_pos h12] at hF
                      refine zw_iconst C (v := 0) dX4_scale_121 (by decide) ?_
                      subst hF; exact kx
                    · rw [if_neg h12] at hF
                      refine zw_iconst C (v := 1) dX4_scale_117 (by decide) ?_
                      refine zw_goto C 122 dX4_scale_118 (by decide) ?_
                      subst hF; exact kx
            · rw [if_pos h6] at hF
              refine zw_aload_n C dX4_scale_75 0 rfl rfl ?_
              refine zw_iconst C (v := 1) dX4_scale_76 (by decide) ?_
              refine zw_iload_n C dX4_scale_77 2 rfl rfl ?_
              refine zw_calli C kvX4_153 (kX4_is (vp_in_iff.mpr ⟨by decide, by decide⟩) rfl) ⟨rfl, rfl, ⟨by decide, by decide⟩, by decide, by decide⟩ FX4 0 (As := [.int 1, .int p2]) (rest := []) rfl rfl rfl (Nat.le_of_ble_eq_true rfl) dX4_scale_78 ?_
              refine zw_if_eq C 121 dX4_scale_81 (by decide) (fun h13 => ?_) (fun h13 => ?_)
              · rw [if_pos h13] at hF
                refine zw_iconst C (v := 0) dX4_scale_121 (by decide) ?_
                subst hF; exact kx
              · rw [if_neg h13] at hF
                refine zw_iload_n C dX4_scale_84 1 rfl rfl ?_
                refine zw_iconst C (v := 2) dX4_scale_85 (by decide) ?_
                refine zw_bipush C (v := 6) dX4_scale_86 (by decide) ?_
                refine zw_scalli C kvX4_84 (kX4_in rfl) ⟨rfl, rfl, ⟨by decide, by decide⟩, by decide, by decide⟩ (As := [.int p1, .int 2, .int 6]) (rest := []) rfl rfl (Nat.le_of_ble_eq_true rfl) dX4_scale_88 ?_
                refine zw_if_eq C 103 dX4_scale_91 (by decide) (fun h14 => ?_) (fun h14 => ?_)
                · rw [if_pos h14] at hF
                  refine zw_iload_n C dX4_scale_103 1 rfl rfl ?_
                  refine zw_bipush C (v := 9) dX4_scale_104 (by decide) ?_
                  refine zw_icmp_ne C 117 dX4_scale_106 (by decide) (fun h15 => ?_) (fun h15 => ?_)
                  · rw [if_neg h15] at hF
                    refine zw_iconst C (v := 1) dX4_scale_117 (by decide) ?_
                    refine zw_goto C 122 dX4_scale_118 (by decide) ?_
                    subst hF; exact kx
                  · rw [if_pos h15] at hF
                    refine zw_aload_n C dX4_scale_109 0 rfl rfl ?_
                    refine zw_iload_n C dX4_scale_110 3 rfl rfl ?_
                    refine zw_calli C kvX4_91 (kX4_isThing rfl) ⟨rfl, rfl, ⟨by decide, by decide⟩, by decide, by decide⟩ FX4 0 (As := [.int p3]) (rest := []) rfl rfl rfl (Nat.le_of_ble_eq_true rfl) dX4_scale_111 ?_
                    refine zw_if_eq C 121 dX4_scale_114 (by decide) (fun h16 => ?_) (fun h16 => ?_)
                    · rw [if_pos h16] at hF
                      refine zw_iconst C (v := 0) dX4_scale_121 (by decide) ?_
                      subst hF; exact kx
                    · rw [if_neg h16] at hF
                      refine zw_iconst C (v := 1) dX4_scale_117 (by decide) ?_
                      refine zw_goto C 122 dX4_scale_118 (by decide) ?_
                      subst hF; exact kx
                · rw [if_neg h14] at hF
                  refine zw_aload_n C dX4_scale_94 0 rfl rfl ?_
                  refine zw_iconst C (v := 0) dX4_scale_95 (by decide) ?_
                  refine zw_iload_n C dX4_scale_96 3 rfl rfl ?_
                  refine zw_calli C kvX4_153 (kX4_is (vp_in_iff.mpr ⟨by decide, by decide⟩) rfl) ⟨rfl, rfl, ⟨by decide, by decide⟩, by decide, by decide⟩ FX4 0 (As := [.int 0, .int p3]) (rest := []) rfl rfl rfl (Nat.le_of_ble_eq_true rfl) dX4_scale_97 ?_
                  refine zw_if_eq C 121 dX4_scale_100 (by decide) (fun h17 => ?_) (fun h17 => ?_)
                  · rw [if_pos h17] at hF
                    refine zw_iconst C (v := 0) dX4_scale_121 (by decide) ?_
                    subst hF; exact kx
                  · rw [if_neg h17] at hF
                    refine zw_iload_n C dX4_scale_103 1 rfl rfl ?_
                    refine zw_bipush C (v := 9) dX4_scale_104 (by decide) ?_
                    refine zw_icmp_ne C 117 dX4_scale_106 (by decide) (fun h18 => ?_) (fun h18 => ?_)
                    · rw [if_neg h18] at hF
                      refine zw_iconst C (v := 1) dX4_scale_117 (by decide) ?_
                      refine zw_goto C 122 dX4_scale_118 (by decide) ?_
                      subst hF; exact kx
                    · rw [if_pos h18] at hF
                      refine zw_aload_n C dX4_scale_109 0 rfl rfl ?_
                      refine zw_iload_n C dX4_scale_110 3 rfl rfl ?_
                      refine zw_calli C kvX4_91 (kX4_isThing rfl) ⟨rfl, rfl, ⟨by decide, by decide⟩, by decide, by decide⟩ FX4 0 (As := [.int p3]) (rest := []) rfl rfl rfl (Nat.le_of_ble_eq_true rfl) dX4_scale_111 ?_
                      refine zw_if_eq C 121 dX4_scale_114 (by decide) (fun h19 => ?_) (fun h19 => ?_)
                      · rw [if_pos h19] at hF
                        refine zw_iconst C (v := 0) dX4_scale_121 (by decide) ?_
                        subst hF; exact kx
                      · rw [if_neg h19] at hF
                        refine zw_iconst C (v := 1) dX4_scale_117 (by decide) ?_
                        refine zw_goto C 122 dX4_scale_118 (by decide) ?_
                        subst hF; exact kx
        · rw [if_pos h4] at hF
          refine zw_iload_n C dX4_scale_48 1 rfl rfl ?_
          refine zw_bipush C (v := 7) dX4_scale_49 (by decide) ?_
          refine zw_icmp_eq C 60 dX4_scale_51 (by decide) (fun h20 => ?_) (fun h20 => ?_)
          · rw [if_pos h20] at hF
            refine zw_aload_n C dX4_scale_60 0 rfl rfl ?_
            refine zw_iconst C (v := 0) dX4_scale_61 (by decide) ?_
            refine zw_iload_n C dX4_scale_62 2 rfl rfl ?_
            refine zw_calli C kvX4_153 (kX4_is (vp_in_iff.mpr ⟨by decide, by decide⟩) rfl) ⟨rfl, rfl, ⟨by decide, by decide⟩, by decide, by decide⟩ FX4 0 (As := [.int 0, .int p2]) (rest := []) rfl rfl rfl (Nat.le_of_ble_eq_true rfl) dX4_scale_63 ?_
            refine zw_if_eq C 121 dX4_scale_66 (by decide) (fun h21 => ?_) (fun h21 => ?_)
            · rw [if_pos h21] at hF
              refine zw_iconst C (v := 0) dX4_scale_121 (by decide) ?_
              subst hF; exact kx
            · rw [if_neg h21] at hF
              refine zw_iload_n C dX4_scale_69 1 rfl rfl ?_
              refine zw_bipush C (v := 6) dX4_scale_70 (by decide) ?_
              refine zw_icmp_ne C 84 dX4_scale_72 (by decide) (fun h22 => ?_) (fun h22 => ?_)
              · rw [if_neg h22] at hF
                refine zw_iload_n C dX4_scale_84 1 rfl rfl ?_
                refine zw_iconst C (v := 2) dX4_scale_85 (by decide) ?_
                refine zw_bipush C (v := 6) dX4_scale_86 (by decide) ?_
                refine zw_scalli C kvX4_84 (kX4_in rfl) ⟨rfl, rfl, ⟨by decide, by decide⟩, by decide, by decide⟩ (As := [.int p1, .int 2, .int 6]) (rest := []) rfl rfl (Nat.le_of_ble_eq_true rfl) dX4_scale_88 ?_
                refine zw_if_eq C 103 dX4_scale_91 (by decide) (fun h23 => ?_) (fun h23 => ?_)
                · rw [if_pos h23] at hF
                  refine zw_iload_n C dX4_scale_103 1 rfl rfl ?_
                  refine zw_bipush C (v := 9) dX4_scale_104 (by decide) ?_
                  refine zw_icmp_ne C 117 dX4_scale_106 (by decide) (fun h24 => ?_) (fun h24 => ?_)
                  · rw [if_neg h24] at hF
                    refine zw_iconst C (v := 1) dX4_scale_117 (by decide) ?_
                    refine zw_goto C 122 dX4_scale_118 (by decide) ?_
                    subst hF; exact kx
                  · rw [if_pos h24] at hF
                    refine zw_aload_n C dX4_scale_109 0 rfl rfl ?_
                    refine zw_iload_n C dX4_scale_110 3 rfl rfl ?_
                    refine zw_calli C kvX4_91 (kX4_isThing rfl) ⟨rfl, rfl, ⟨by decide, by decide⟩, by decide, by decide⟩ FX4 0 (As := [.int p3]) (rest := []) rfl rfl rfl (Nat.le_of_ble_eq_true rfl) dX4_scale_111 ?_
                    refine zw_if_eq C 121 dX4_scale_114 (by decide) (fun h25 => ?_) (fun h25 => ?_)
                    · rw [if_pos h25] at hF
                      refine zw_iconst C (v := 0) dX4_scale_121 (by decide) ?_
                      subst hF; exact kx
                    · rw [if_neg h25] at hF
                      refine zw_iconst C (v := 1) dX4_scale_117 (by decide) ?_
                      refine zw_goto C 122 dX4_scale_118 (by decide) ?_
                      subst hF; exact kx
                · rw [if_neg h23] at hF
                  refine zw_aload_n C dX4_scale_94 0 rfl rfl ?_
                  refine zw_iconst C (v := 0) dX4_scale_95 (by decide) ?_
                  refine zw_iload_n C dX4_scale_96 3 rfl rfl ?_
                  refine zw_calli C kvX4_153 (kX4_is (vp_in_iff.mpr ⟨by decide, by decide⟩) rfl) ⟨rfl, rfl, ⟨by decide, by decide⟩, by decide, by decide⟩ FX4 0 (As := [.int 0, .int p3]) (rest := []) rfl rfl rfl (Nat.le_of_ble_eq_true rfl) dX4_scale_97 ?_
                  refine zw_if_eq C 121 dX4_scale_100 (by decide) (fun h26 => ?_) (fun h26 => ?_)
                  · rw [if_pos h26] at hF
                    refine zw_iconst C (v := 0) dX4_scale_121 (by decide) ?_
                    subst hF; exact kx
                  · rw [if_neg h26] at hF
                    refine zw_iload_n C dX4_scale_103 1 rfl rfl ?_
                    refine zw_bipush C (v := 9) dX4_scale_104 (by decide) ?_
                    refine zw_icmp_ne C 117 dX4_scale_106 (by decide) (fun h27 => ?_) (fun h27 => ?_)
                    · rw [if_neg h27] at hF
                      refine zw_iconst C (v := 1) dX4_scale_117 (by decide) ?_
                      refine zw_goto C 122 dX4_scale_118 (by decide) ?_
                      subst hF; exact kx
                    · rw [if_pos h27] at hF
                      refine zw_aload_n C dX4_scale_109 0 rfl rfl ?_
                      refine zw_iload_n C dX4_scale_110 3 rfl rfl ?_
                      refine zw_calli C kvX4_91 (kX4_isThing rfl) ⟨rfl, rfl, ⟨by decide, by decide⟩, by decide, by decide⟩ FX4 0 (As := [.int p3]) (rest := []) rfl rfl rfl (Nat.le_of_ble_eq_true rfl) dX4_scale_111 ?_
                      refine zw_if_eq C 121 dX4_scale_114 (by decide) (fun h28 => ?_) (fun h28 => ?_)
                      · rw [if_pos h28] at hF
                        refine zw_iconst C (v := 0) dX4_scale_121 (by decide) ?_
                        subst hF; exact kx
                      · rw [if_neg h28] at hF
                        refine zw_iconst C (v := 1) dX4_scale_117 (by decide) ?_
                        refine zw_goto C 122 dX4_scale_118 (by decide) ?_
                        subst hF; exact kx
              · rw [if_pos h22] at hF
                refine zw_aload_n C dX4_scale_75 0 rfl rfl ?_
                refine zw_iconst C (v := 1) dX4_scale_76 (by decide) ?_
                refine zw_iload_n C dX4_scale_77 2 rfl rfl ?_
                refine zw_calli C kvX4_153 (kX4_is (vp_in_iff.mpr ⟨by decide, by decide⟩) rfl) ⟨rfl, rfl, ⟨by decide, by decide⟩, by decide, by decide⟩ FX4 0 (As := [.int 1, .int p2]) (rest := []) rfl rfl rfl (Nat.le_of_ble_eq_true rfl) dX4_scale_78 ?_
                refine zw_if_eq C 121 dX4_scale_81 (by decide) (fun h29 => ?_) (fun h29 => ?_)
                · rw [if_pos h29] at hF
                  refine zw_iconst C (v := 0) dX4_scale_121 (by decide) ?_
                  subst hF; exact kx
                · rw [if_neg h29] at hF
                  refine zw_iload_n C dX4_scale_84 1 rfl rfl ?_
                  refine zw_iconst C (v := 2) dX4_scale_85 (by decide) ?_
                  refine zw_bipush C (v := 6) dX4_scale_86 (by decide) ?_
                  refine zw_scalli C kvX4_84 (kX4_in rfl) ⟨rfl, rfl, ⟨by decide, by decide⟩, by decide, by decide⟩ (As := [.int p1, .int 2, .int 6]) (rest := []) rfl rfl (Nat.le_of_ble_eq_true rfl) dX4_scale_88 ?_
                  refine zw_if_eq C 103 dX4_scale_91 (by decide) (fun h30 => ?_) (fun h30 => ?_)
                  · rw [if_pos h30] at hF
                    refine zw_iload_n C dX4_scale_103 1 rfl rfl ?_
                    refine zw_bipush C (v := 9) dX4_scale_104 (by decide) ?_
                    refine zw_icmp_ne C 117 dX4_scale_106 (by decide) (fun h31 => ?_) (fun h31 => ?_)
                    · rw [if_neg h31] at hF
                      refine zw_iconst C (v := 1) dX4_scale_117 (by decide) ?_
                      refine zw_goto C 122 dX4_scale_118 (by decide) ?_
                      subst hF; exact kx
                    · rw [if_pos h31] at hF
                      refine zw_aload_n C dX4_scale_109 0 rfl rfl ?_
                      refine zw_iload_n C dX4_scale_110 3 rfl rfl ?_
                      refine zw_calli C kvX4_91 (kX4_isThing rfl) ⟨rfl, rfl, ⟨by decide, by decide⟩, by decide, by decide⟩ FX4 0 (As := [.int p3]) (rest := []) rfl rfl rfl (Nat.le_of_ble_eq_true rfl) dX4_scale_111 ?_
                      refine zw_if_eq C 121 dX4_scale_114 (by decide) (fun h32 => ?_) (fun h32 => ?_)
                      · rw [if_pos h32] at hF
                        refine zw_iconst C (v := 0) dX4_scale_121 (by decide) ?_
                        subst hF; exact kx
                      · rw [if_neg h32] at hF
                        refine zw_iconst C (v := 1) dX4_scale_117 (by decide) ?_
                        refine zw_goto C 122 dX4_scale_118 (by decide) ?_
                        subst hF; exact kx
                  · rw [if_neg h30] at hF
                    refine zw_aload_n C dX4_scale_94 0 rfl rfl ?_
                    refine zw_iconst C (v := 0) dX4_scale_95 (by decide) ?_
                    refine zw_iload_n C dX4_scale_96 3 rfl rfl ?_
                    refine zw_calli C kvX4_153 (kX4_is (vp_in_iff.mpr ⟨by decide, by decide⟩) rfl) ⟨rfl, rfl, ⟨by decide, by decide⟩, by decide, by decide⟩ FX4 0 (As := [.int 0, .int p3]) (rest := []) rfl rfl rfl (Nat.le_of_ble_eq_true rfl) dX4_scale_97 ?_
                    refine zw_if_eq C 121 dX4_scale_100 (by decide) (fun h33 => ?_) (fun h33 => ?_)
                    · rw [if_pos h33] at hF
                      refine zw_iconst C (v := 0) dX4_scale_121 (by decide) ?_
                      subst hF; exact kx
                    · rw [if_neg h33] at hF
                      refine zw_iload_n C dX4_scale_103 1 rfl rfl ?_
                      refine zw_bipush C (v := 9) dX4_scale_104 (by decide) ?_
                      refine zw_icmp_ne C 117 dX4_scale_106 (by decide) (fun h34 => ?_) (fun h34 => ?_)
                      · rw [if_neg h34] at hF
                        refine zw_iconst C (v := 1) dX4_scale_117 (by decide) ?_
                        refine zw_goto C 122 dX4_scale_118 (by decide) ?_
                        subst hF; exact kx
                      · rw [if_pos h34] at hF
                        refine zw_aload_n C dX4_scale_109 0 rfl rfl ?_
                        refine zw_iload_n C dX4_scale_110 3 rfl rfl ?_
                        refine zw_calli C kvX4_91 (kX4_isThing rfl) ⟨rfl, rfl, ⟨by decide, by decide⟩, by decide, by decide⟩ FX4 0 (As := [.int p3]) (rest := []) rfl rfl rfl (Nat.le_of_ble_eq_true rfl) dX4_scale_111 ?_
                        refine zw_if_eq C 121 dX4_scale_114 (by decide) (fun h35 => ?_) (fun h35 => ?_)
                        · rw [if_pos h35] at hF
                          refine zw_iconst C (v := 0) dX4_scale_121 (by decide) ?_
                          subst hF; exact kx
                        · rw [if_neg h35] at hF
                          refine zw_iconst C (v := 1) dX4_scale_117 (by decide) ?_
                          refine zw_goto C 122 dX4_scale_118 (by decide) ?_
                          subst hF; exact kx
          · rw [if_neg h20] at hF
            refine zw_iload_n C dX4_scale_54 1 rfl rfl ?_
            refine zw_bipush C (v := 9) dX4_scale_55 (by decide) ?_
            refine zw_icmp_ne C 69 dX4_scale_57 (by decide) (fun h36 => ?_) (fun h36 => ?_)
            · rw [if_neg h36] at hF
              refine zw_iload_n C dX4_scale_69 1 rfl rfl ?_
              refine zw_bipush C (v := 6) dX4_scale_70 (by decide) ?_
              refine zw_icmp_ne C 84 dX4_scale_72 (by decide) (fun h37 => ?_) (fun h37 => ?_)
              · rw [if_neg h37] at hF
                refine zw_iload_n C dX4_scale_84 1 rfl rfl ?_
                refine zw_iconst C (v := 2) dX4_scale_85 (by decide) ?_
                refine zw_bipush C (v := 6) dX4_scale_86 (by decide) ?_
                refine zw_scalli C kvX4_84 (kX4_in rfl) ⟨rfl, rfl, ⟨by decide, by decide⟩, by decide, by decide⟩ (As := [.int p1, .int 2, .int 6]) (rest := []) rfl rfl (Nat.le_of_ble_eq_true rfl) dX4_scale_88 ?_
                refine zw_if_eq C 103 dX4_scale_91 (by decide) (fun h38 => ?_) (fun h38 => ?_)
                · rw [if_pos h38] at hF
                  refine zw_iload_n C dX4_scale_103 1 rfl rfl ?_
                  refine zw_bipush C (v := 9) dX4_scale_104 (by decide) ?_
                  refine zw_icmp_ne C 117 dX4_scale_106 (by decide) (fun h39 => ?_) (fun h39 => ?_)
                  · rw [if_neg h39] at hF
                    refine zw_iconst C (v := 1) dX4_scale_117 (by decide) ?_
                    refine zw_goto C 122 dX4_scale_118 (by decide) ?_
                    subst hF; exact kx
                  · rw [if_pos h39] at hF
                    refine zw_aload_n C dX4_scale_109 0 rfl rfl ?_
                    refine zw_iload_n C dX4_scale_110 3 rfl rfl ?_
                    refine zw_calli C kvX4_91 (kX4_isThing rfl) ⟨rfl, rfl, ⟨by decide, by decide⟩, by decide, by decide⟩ FX4 0 (As := [.int p3]) (rest := []) rfl rfl rfl (Nat.le_of_ble_eq_true rfl) dX4_scale_111 ?_
                    refine zw_if_eq C 121 dX4_scale_114 (by decide) (fun h40 => ?_) (fun h40 => ?_)
                    · rw [if_pos h40] at hF
                      refine zw_iconst C (v := 0) dX4_scale_121 (by decide) ?_
                      subst hF; exact kx
                    · rw [if_neg h40] at hF
                      refine zw_iconst C (v := 1) dX4_scale_117 (by decide) ?_
                      refine zw_goto C 122 dX4_scale_118 (by decide) ?_
                      subst hF; exact kx
                · rw [if_neg h38] at hF
                  refine zw_aload_n C dX4_scale_94 0 rfl rfl ?_
                  refine zw_iconst C (v := 0) dX4_scale_95 (by decide) ?_
                  refine zw_iload_n C dX4_scale_96 3 rfl rfl ?_
                  refine zw_calli C kvX4_153 (kX4_is (vp_in_iff.mpr ⟨by decide, by decide⟩) rfl) ⟨rfl, rfl, ⟨by decide, by decide⟩, by decide, by decide⟩ FX4 0 (As := [.int 0, .int p3]) (rest := []) rfl rfl rfl (Nat.le_of_ble_eq_true rfl) dX4_scale_97 ?_
                  refine zw_if_eq C 121 dX4_scale_100 (by decide) (fun h41 => ?_) (fun h41 => ?_)
                  · rw [if_pos h41] at hF
                    refine zw_iconst C (v := 0) dX4_scale_121 (by decide) ?_
                    subst hF; exact kx
                  · rw [if_neg h41] at hF
                    refine zw_iload_n C dX4_scale_103 1 rfl rfl ?_
                    refine zw_bipush C (v := 9) dX4_scale_104 (by decide) ?_
                    refine zw_icmp_ne C 117 dX4_scale_106 (by decide) (fun h42 => ?_) (fun h42 => ?_)
                    · rw [if_neg h42] at hF
                      refine zw_iconst C (v := 1) dX4_scale_117 (by decide) ?_
                      refine zw_goto C 122 dX4_scale_118 (by decide) ?_
                      subst hF; exact kx
                    · rw [if_pos h42] at hF
                      refine zw_aload_n C dX4_scale_109 0 rfl rfl ?_
                      refine zw_iload_n C dX4_scale_110 3 rfl rfl ?_
                      refine zw_calli C kvX4_91 (kX4_isThing rfl) ⟨rfl, rfl, ⟨by decide, by decide⟩, by decide, by decide⟩ FX4 0 (As := [.int p3]) (rest := []) rfl rfl rfl (Nat.le_of_ble_eq_true rfl) dX4_scale_111 ?_
                      refine zw_if_eq C 121 dX4_scale_114 (by decide) (fun h43 => ?_) (fun h43 => ?_)
                      · rw [if_pos h43] at hF
                        refine zw_iconst C (v := 0) dX4_scale_121 (by decide) ?_
                        subst hF; exact kx
                      · rw [if_neg h43] at hF
                        refine zw_iconst C (v := 1) dX4_scale_117 (by decide) ?_
                        refine zw_goto C 122 dX4_scale_118 (by decide) ?_
                        subst hF; exact kx
              · rw [if_pos h37] at hF
                refine zw_aload_n C dX4_scale_75 0 rfl rfl ?_
                refine zw_iconst C (v := 1) dX4_scale_76 (by decide) ?_
                refine zw_iload_n C dX4_scale_77 2 rfl rfl ?_
                refine zw_calli C kvX4_153 (kX4_is (vp_in_iff.mpr ⟨by decide, by decide⟩) rfl) ⟨rfl, rfl, ⟨by decide, by decide⟩, by decide, by decide⟩ FX4 0 (As := [.int 1, .int p2]) (rest := []) rfl rfl rfl (Nat.le_of_ble_eq_true rfl) dX4_scale_78 ?_
                refine zw_if_eq C 121 dX4_scale_81 (by decide) (fun h44 => ?_) (fun h44 => ?_)
                · rw [if_pos h44] at hF
                  refine zw_iconst C (v := 0) dX4_scale_121 (by decide) ?_
                  subst hF; exact kx
                · rw [if_neg h44] at hF
                  refine zw_iload_n C dX4_scale_84 1 rfl rfl ?_
                  refine zw_iconst C (v := 2) dX4_scale_85 (by decide) ?_
                  refine zw_bipush C (v := 6) dX4_scale_86 (by decide) ?_
                  refine zw_scalli C kvX4_84 (kX4_in rfl) ⟨rfl, rfl, ⟨by decide, by decide⟩, by decide, by decide⟩ (As := [.int p1, .int 2, .int 6]) (rest := []) rfl rfl (Nat.le_of_ble_eq_true rfl) dX4_scale_88 ?_
                  refine zw_if_eq C 103 dX4_scale_91 (by decide) (fun h45 => ?_) (fun h45 => ?_)
                  · rw [if_pos h45] at hF
                    refine zw_iload_n C dX4_scale_103 1 rfl rfl ?_
                    refine zw_bipush C (v := 9) dX4_scale_104 (by decide) ?_
                    refine zw_icmp_ne C 117 dX4_scale_106 (by decide) (fun h46 => ?_) (fun h46 => ?_)
                    · rw [if_neg h46] at hF
                      refine zw_iconst C (v := 1) dX4_scale_117 (by decide) ?_
                      refine zw_goto C 122 dX4_scale_118 (by decide) ?_
                      subst hF; exact kx
                    · rw [if_pos h46] at hF
                      refine zw_aload_n C dX4_scale_109 0 rfl rfl ?_
                      refine zw_iload_n C dX4_scale_110 3 rfl rfl ?_
                      refine zw_calli C kvX4_91 (kX4_isThing rfl) ⟨rfl, rfl, ⟨by decide, by decide⟩, by decide, by decide⟩ FX4 0 (As := [.int p3]) (rest := []) rfl rfl rfl (Nat.le_of_ble_eq_true rfl) dX4_scale_111 ?_
                      refine zw_if_eq C 121 dX4_scale_114 (by decide) (fun h47 => ?_) (fun h47 => ?_)
                      · rw [if_pos h47] at hF
                        refine zw_iconst C (v := 0) dX4_scale_121 (by decide) ?_
                        subst hF; exact kx
                      · rw [if_neg h47] at hF
                        refine zw_iconst C (v := 1) dX4_scale_117 (by decide) ?_
                        refine zw_goto C 122 dX4_scale_118 (by decide) ?_
                        subst hF; exact kx
                  · rw [if_neg h45] at hF
                    refine zw_aload_n C dX4_scale_94 0 rfl rfl ?_
                    refine zw_iconst C (v := 0) dX4_scale_95 (by decide) ?_
                    refine zw_iload_n C dX4_scale_96 3 rfl rfl ?_
                    refine zw_calli C kvX4_153 (kX4_is (vp_in_iff.mpr ⟨by decide, by decide⟩) rfl) ⟨rfl, rfl, ⟨by decide, by decide⟩, by decide, by decide⟩ FX4 0 (As := [.int 0, .int p3]) (rest := []) rfl rfl rfl (Nat.le_of_ble_eq_true rfl) dX4_scale_97 ?_
                    refine zw_if_eq C 121 dX4_scale_100 (by decide) (fun h48 => ?_) (fun h48 => ?_)
                    · rw [if_pos h48] at hF
                      refine zw_iconst C (v := 0) dX4_scale_121 (by decide) ?_
                      subst hF; exact kx
                    · rw [if_neg h48] at hF
                      refine zw_iload_n C dX4_scale_103 1 rfl rfl ?_
                      refine zw_bipush C (v := 9) dX4_scale_104 (by decide) ?_
                      refine zw_icmp_ne C 117 dX4_scale_106 (by decide) (fun h49 => ?_) (fun h49 => ?_)
                      · rw [if_neg h49] at hF
                        refine zw_iconst C (v := 1) dX4_scale_117 (by decide) ?_
                        refine zw_goto C 122 dX4_scale_118 (by decide) ?_
                        subst hF; exact kx
                      · rw [if_pos h49] at hF
                        refine zw_aload_n C dX4_scale_109 0 rfl rfl ?_
                        refine zw_iload_n C dX4_scale_110 3 rfl rfl ?_
                        refine zw_calli C kvX4_91 (kX4_isThing rfl) ⟨rfl, rfl, ⟨by decide, by decide⟩, by decide, by decide⟩ FX4 0 (As := [.int p3]) (rest := []) rfl rfl rfl (Nat.le_of_ble_eq_true rfl) dX4_scale_111 ?_
                        refine zw_if_eq C 121 dX4_scale_114 (by decide) (fun h50 => ?_) (fun h50 => ?_)
                        · rw [if_pos h50] at hF
                          refine zw_iconst C (v := 0) dX4_scale_121 (by decide) ?_
                          subst hF; exact kx
                        · rw [if_neg h50] at hF
                          refine zw_iconst C (v := 1) dX4_scale_117 (by decide) ?_
                          refine zw_goto C 122 dX4_scale_118 (by decide) ?_
                          subst hF; exact kx
            · rw [if_pos h36] at hF
              refine zw_aload_n C dX4_scale_60 0 rfl rfl ?_
              refine zw_iconst C (v := 0) dX4_scale_61 (by decide) ?_
              refine zw_iload_n C dX4_scale_62 2 rfl rfl ?_
              refine zw_calli C kvX4_153 (kX4_is (vp_in_iff.mpr ⟨by decide, by decide⟩) rfl) ⟨rfl, rfl, ⟨by decide, by decide⟩, by decide, by decide⟩ FX4 0 (As := [.int 0, .int p2]) (rest := []) rfl rfl rfl (Nat.le_of_ble_eq_true rfl) dX4_scale_63 ?_
              refine zw_if_eq C 121 dX4_scale_66 (by decide) (fun h51 => ?_) (fun h51 => ?_)
              · rw [if_pos h51] at hF
                refine zw_iconst C (v := 0) dX4_scale_121 (by decide) ?_
                subst hF; exact kx
              · rw [if_neg h51] at hF
                refine zw_iload_n C dX4_scale_69 1 rfl rfl ?_
                refine zw_bipush C (v := 6) dX4_scale_70 (by decide) ?_
                refine zw_icmp_ne C 84 dX4_scale_72 (by decide) (fun h52 => ?_) (fun h52 => ?_)
                · rw [if_neg h52] at hF
                  refine zw_iload_n C dX4_scale_84 1 rfl rfl ?_
                  refine zw_iconst C (v := 2) dX4_scale_85 (by decide) ?_
                  refine zw_bipush C (v := 6) dX4_scale_86 (by decide) ?_
                  refine zw_scalli C kvX4_84 (kX4_in rfl) ⟨rfl, rfl, ⟨by decide, by decide⟩, by decide, by decide⟩ (As := [.int p1, .int 2, .int 6]) (rest := []) rfl rfl (Nat.le_of_ble_eq_true rfl) dX4_scale_88 ?_
                  refine zw_if_eq C 103 dX4_scale_91 (by decide) (fun h53 => ?_) (fun h53 => ?_)
                  · rw [if_pos h53] at hF
                    refine zw_iload_n C dX4_scale_103 1 rfl rfl ?_
                    refine zw_bipush C (v := 9) dX4_scale_104 (by decide) ?_
                    refine zw_icmp_ne C 117 dX4_scale_106 (by decide) (fun h54 => ?_) (fun h54 => ?_)
                    · rw [if_neg h54] at hF
                      refine zw_iconst C (v := 1) dX4_scale_117 (by decide) ?_
                      refine zw_goto C 122 dX4_scale_118 (by decide) ?_
                      subst hF; exact kx
                    · rw [if_pos h54] at hF
                      refine zw_aload_n C dX4_scale_109 0 rfl rfl ?_
                      refine zw_iload_n C dX4_scale_110 3 rfl rfl ?_
                      refine zw_calli C kvX4_91 (kX4_isThing rfl) ⟨rfl, rfl, ⟨by decide, by decide⟩, by decide, by decide⟩ FX4 0 (As := [.int p3]) (rest := []) rfl rfl rfl (Nat.le_of_ble_eq_true rfl) dX4_scale_111 ?_
                      refine zw_if_eq C 121 dX4_scale_114 (by decide) (fun h55 => ?_) (fun h55 => ?_)
                      · rw [if_pos h55] at hF
                        refine zw_iconst C (v := 0) dX4_scale_121 (by decide) ?_
                        subst hF; exact kx
                      · rw [if_neg h55] at hF
                        refine zw_iconst C (v := 1) dX4_scale_117 (by decide) ?_
                        refine zw_goto C 122 dX4_scale_118 (by decide) ?_
                        subst hF; exact kx
                  · rw [if_neg h53] at hF
                    refine zw_aload_n C dX4_scale_94 0 rfl rfl ?_
                    refine zw_iconst C (v := 0) dX4_scale_95 (by decide) ?_
                    refine zw_iload_n C dX4_scale_96 3 rfl rfl ?_
                    refine zw_calli C kvX4_153 (kX4_is (vp_in_iff.mpr ⟨by decide, by decide⟩) rfl) ⟨rfl, rfl, ⟨by decide, by decide⟩, by decide, by decide⟩ FX4 0 (As := [.int 0, .int p3]) (rest := []) rfl rfl rfl (Nat.le_of_ble_eq_true rfl) dX4_scale_97 ?_
                    refine zw_if_eq C 121 dX4_scale_100 (by decide) (fun h56 => ?_) (fun h56 => ?_)
                    · rw [if_pos h56] at hF
                      refine zw_iconst C (v := 0) dX4_scale_121 (by decide) ?_
                      subst hF; exact kx
                    · rw [if_neg h56] at hF
                      refine zw_iload_n C dX4_scale_103 1 rfl rfl ?_
                      refine zw_bipush C (v := 9) dX4_scale_104 (by decide) ?_
                      refine zw_icmp_ne C 117 dX4_scale_106 (by decide) (fun h57 => ?_) (fun h57 => ?_)
                      · rw [if_neg h57] at hF
                        refine zw_iconst C (v := 1) dX4_scale_117 (by decide) ?_
                        refine zw_goto C 122 dX4_scale_118 (by decide) ?_
                        subst hF; exact kx
                      · rw [if_pos h57] at hF
                        refine zw_aload_n C dX4_scale_109 0 rfl rfl ?_
                        refine zw_iload_n C dX4_scale_110 3 rfl rfl ?_
                        refine zw_calli C kvX4_91 (kX4_isThing rfl) ⟨rfl, rfl, ⟨by decide, by decide⟩, by decide, by decide⟩ FX4 0 (As := [.int p3]) (rest := []) rfl rfl rfl (Nat.le_of_ble_eq_true rfl) dX4_scale_111 ?_
                        refine zw_if_eq C 121 dX4_scale_114 (by decide) (fun h58 => ?_) (fun h58 => ?_)
                        · rw [if_pos h58] at hF
                          refine zw_iconst C (v := 0) dX4_scale_121 (by decide) ?_
                          subst hF; exact kx
                        · rw [if_neg h58] at hF
                          refine zw_iconst C (v := 1) dX4_scale_117 (by decide) ?_
                          refine zw_goto C 122 dX4_scale_118 (by decide) ?_
                          subst hF; exact kx
                · rw [if_pos h52] at hF
                  refine zw_aload_n C dX4_scale_75 0 rfl rfl ?_
                  refine zw_iconst C (v := 1) dX4_scale_76 (by decide) ?_
                  refine zw_iload_n C dX4_scale_77 2 rfl rfl ?_
                  refine zw_calli C kvX4_153 (kX4_is (vp_in_iff.mpr ⟨by decide, by decide⟩) rfl) ⟨rfl, rfl, ⟨by decide, by decide⟩, by decide, by decide⟩ FX4 0 (As := [.int 1, .int p2]) (rest := []) rfl rfl rfl (Nat.le_of_ble_eq_true rfl) dX4_scale_78 ?_
                  refine zw_if_eq C 121 dX4_scale_81 (by decide) (fun h59 => ?_) (fun h59 => ?_)
                  · rw [if_pos h59] at hF
                    refine zw_iconst C (v := 0) dX4_scale_121 (by decide) ?_
                    subst hF; exact kx
                  · rw [if_neg h59] at hF
                    refine zw_iload_n C dX4_scale_84 1 rfl rfl ?_
                    refine zw_iconst C (v := 2) dX4_scale_85 (by decide) ?_
                    refine zw_bipush C (v := 6) dX4_scale_86 (by decide) ?_
                    refine zw_scalli C kvX4_84 (kX4_in rfl) ⟨rfl, rfl, ⟨by decide, by decide⟩, by decide, by decide⟩ (As := [.int p1, .int 2, .int 6]) (rest := []) rfl rfl (Nat.le_of_ble_eq_true rfl) dX4_scale_88 ?_
                    refine zw_if_eq C 103 dX4_scale_91 (by decide) (fun h60 => ?_) (fun h60 => ?_)
                    · rw [if_pos h60] at hF
                      refine zw_iload_n C dX4_scale_103 1 rfl rfl ?_
                      refine zw_bipush C (v := 9) dX4_scale_104 (by decide) ?_
                      refine zw_icmp_ne C 117 dX4_scale_106 (by decide) (fun h61 => ?_) (fun h61 => ?_)
                      · rw [if_neg h61] at hF
                        refine zw_iconst C (v := 1) dX4_scale_117 (by decide) ?_
                        refine zw_goto C 122 dX4_scale_118 (by decide) ?_
                        subst hF; exact kx
                      · rw [if_pos h61] at hF
                        refine zw_aload_n C dX4_scale_109 0 rfl rfl ?_
                        refine zw_iload_n C dX4_scale_110 3 rfl rfl ?_
                        refine zw_calli C kvX4_91 (kX4_isThing rfl) ⟨rfl, rfl, ⟨by decide, by decide⟩, by decide, by decide⟩ FX4 0 (As := [.int p3]) (rest := []) rfl rfl rfl (Nat.le_of_ble_eq_true rfl) dX4_scale_111 ?_
                        refine zw_if_eq C 121 dX4_scale_114 (by decide) (fun h62 => ?_) (fun h62 => ?_)
                        · rw [if_pos h62] at hF
                          refine zw_iconst C (v := 0) dX4_scale_121 (by decide) ?_
                          subst hF; exact kx
                        · rw [if_neg h62] at hF
                          refine zw_iconst C (v := 1) dX4_scale_117 (by decide) ?_
                          refine zw_goto C 122 dX4_scale_118 (by decide) ?_
                          subst hF; exact kx
                    · rw [if_neg h60] at hF
                      refine zw_aload_n C dX4_scale_94 0 rfl rfl ?_
                      refine zw_iconst C (v := 0) dX4_scale_95 (by decide) ?_
                      refine zw_iload_n C dX4_scale_96 3 rfl rfl ?_
                      refine zw_calli C kvX4_153 (kX4_is (vp_in_iff.mpr ⟨by decide, by decide⟩) rfl) ⟨rfl, rfl, ⟨by decide, by decide⟩, by decide, by decide⟩ FX4 0 (As := [.int 0, .int p3]) (rest := []) rfl rfl rfl (Nat.le_of_ble_eq_true rfl) dX4_scale_97 ?_
                      refine zw_if_eq C 121 dX4_scale_100 (by decide) (fun h63 => ?_) (fun h63 => ?_)
                      · rw [if_pos h63] at hF
                        refine zw_iconst C (v := 0) dX4_scale_121 (by decide) ?_
                        subst hF; exact kx
                      · rw [if_neg h63] at hF
                        refine zw_iload_n C dX4_scale_103 1 rfl rfl ?_
                        refine zw_bipush C (v := 9) dX4_scale_104 (by decide) ?_
                        refine zw_icmp_ne C 117 dX4_scale_106 (by decide) (fun h64 => ?_) (fun h64 => ?_)
                        · rw [if_neg h64] at hF
                          refine zw_iconst C (v := 1) dX4_scale_117 (by decide) ?_
                          refine zw_goto C 122 dX4_scale_118 (by decide) ?_
                          subst hF; exact kx
                        · rw [if_pos h64] at hF
                          refine zw_aload_n C dX4_scale_109 0 rfl rfl ?_
                          refine zw_iload_n C dX4_scale_110 3 rfl rfl ?_
                          refine zw_calli C kvX4_91 (kX4_isThing rfl) ⟨rfl, rfl, ⟨by decide, by decide⟩, by decide, by decide⟩ FX4 0 (As := [.int p3]) (rest := []) rfl rfl rfl (Nat.le_of_ble_eq_true rfl) dX4_scale_111 ?_
                          refine zw_if_eq C 121 dX4_scale_114 (by decide) (fun h65 => ?_) (fun h65 => ?_)
                          · rw [if_pos h65] at hF
                            refine zw_iconst C (v := 0) dX4_scale_121 (by decide) ?_
                            subst hF; exact kx
                          · rw [if_neg h65] at hF
                            refine zw_iconst C (v := 1) dX4_scale_117 (by decide) ?_
                            refine zw_goto C 122 dX4_scale_118 (by decide) ?_
                            subst hF; exact kx
      · rw [if_pos h3] at hF
        refine zw_iload_n C dX4_scale_29 2 rfl rfl ?_
        refine zw_iconst C (v := 0) dX4_scale_30 (by decide) ?_
        refine zw_bipush C (v := 7) dX4_scale_31 (by decide) ?_
        refine zw_scalli C kvX4_84 (kX4_in rfl) ⟨rfl, rfl, ⟨by decide, by decide⟩, by decide, by decide⟩ (As := [.int p2, .int 0, .int 7]) (rest := []) rfl rfl (Nat.le_of_ble_eq_true rfl) dX4_scale_33 ?_
        refine zw_if_eq C 121 dX4_scale_36 (by decide) (fun h66 => ?_) (fun h66 => ?_)
        · rw [if_pos h66] at hF
          refine zw_iconst C (v := 0) dX4_scale_121 (by decide) ?_
          subst hF; exact kx
        · rw [if_neg h66] at hF
          refine zw_iload_n C dX4_scale_39 1 rfl rfl ?_
          refine zw_iconst C (v := 2) dX4_scale_40 (by decide) ?_
          refine zw_iconst C (v := 5) dX4_scale_41 (by decide) ?_
          refine zw_scalli C kvX4_84 (kX4_in rfl) ⟨rfl, rfl, ⟨by decide, by decide⟩, by decide, by decide⟩ (As := [.int p1, .int 2, .int 5]) (rest := []) rfl rfl (Nat.le_of_ble_eq_true rfl) dX4_scale_42 ?_
          refine zw_if_ne C 60 dX4_scale_45 (by decide) (fun h67 => ?_) (fun h67 => ?_)
          · rw [if_neg h67] at hF
            refine zw_aload_n C dX4_scale_60 0 rfl rfl ?_
            refine zw_iconst C (v := 0) dX4_scale_61 (by decide) ?_
            refine zw_iload_n C dX4_scale_62 2 rfl rfl ?_
            refine zw_calli C kvX4_153 (kX4_is (vp_in_iff.mpr ⟨by decide, by decide⟩) rfl) ⟨rfl, rfl, ⟨by decide, by decide⟩, by decide, by decide⟩ FX4 0 (As := [.int 0, .int p2]) (rest := []) rfl rfl rfl (Nat.le_of_ble_eq_true rfl) dX4_scale_63 ?_
            refine zw_if_eq C 121 dX4_scale_66 (by decide) (fun h68 => ?_) (fun h68 => ?_)
            · rw [if_pos h68] at hF
              refine zw_iconst C (v := 0) dX4_scale_121 (by decide) ?_
              subst hF; exact kx
            · rw [if_neg h68] at hF
              refine zw_iload_n C dX4_scale_69 1 rfl rfl ?_
              refine zw_bipush C (v := 6) dX4_scale_70 (by decide) ?_
              refine zw_icmp_ne C 84 dX4_scale_72 (by decide) (fun h69 => ?_) (fun h69 => ?_)
              · rw [if_neg h69] at hF
                refine zw_iload_n C dX4_scale_84 1 rfl rfl ?_
                refine zw_iconst C (v := 2) dX4_scale_85 (by decide) ?_
                refine zw_bipush C (v := 6) dX4_scale_86 (by decide) ?_
                refine zw_scalli C kvX4_84 (kX4_in rfl) ⟨rfl, rfl, ⟨by decide, by decide⟩, by decide, by decide⟩ (As := [.int p1, .int 2, .int 6]) (rest := []) rfl rfl (Nat.le_of_ble_eq_true rfl) dX4_scale_88 ?_
                refine zw_if_eq C 103 dX4_scale_91 (by decide) (fun h70 => ?_) (fun h70 => ?_)
                · rw [if_pos h70] at hF
                  refine zw_iload_n C dX4_scale_103 1 rfl rfl ?_
                  refine zw_bipush C (v := 9) dX4_scale_104 (by decide) ?_
                  refine zw_icmp_ne C 117 dX4_scale_106 (by decide) (fun h71 => ?_) (fun h71 => ?_)
                  · rw [if_neg h71] at hF
                    refine zw_iconst C (v := 1) dX4_scale_117 (by decide) ?_
                    refine zw_goto C 122 dX4_scale_118 (by decide) ?_
                    subst hF; exact kx
                  · rw [if_pos h71] at hF
                    refine zw_aload_n C dX4_scale_109 0 rfl rfl ?_
                    refine zw_iload_n C dX4_scale_110 3 rfl rfl ?_
                    refine zw_calli C kvX4_91 (kX4_isThing rfl) ⟨rfl, rfl, ⟨by decide, by decide⟩, by decide, by decide⟩ FX4 0 (As := [.int p3]) (rest := []) rfl rfl rfl (Nat.le_of_ble_eq_true rfl) dX4_scale_111 ?_
                    refine zw_if_eq C 121 dX4_scale_114 (by decide) (fun h72 => ?_) (fun h72 => ?_)
                    · rw [if_pos h72] at hF
                      refine zw_iconst C (v := 0) dX4_scale_121 (by decide) ?_
                      subst hF; exact kx
                    · rw [if_neg h72] at hF
                      refine zw_iconst C (v := 1) dX4_scale_117 (by decide) ?_
                      refine zw_goto C 122 dX4_scale_118 (by decide) ?_
                      subst hF; exact kx
                · rw [if_neg h70] at hF
                  refine zw_aload_n C dX4_scale_94 0 rfl rfl ?_
                  refine zw_iconst C (v := 0) dX4_scale_95 (by decide) ?_
                  refine zw_iload_n C dX4_scale_96 3 rfl rfl ?_
                  refine zw_calli C kvX4_153 (kX4_is (vp_in_iff.mpr ⟨by decide, by decide⟩) rfl) ⟨rfl, rfl, ⟨by decide, by decide⟩, by decide, by decide⟩ FX4 0 (As := [.int 0, .int p3]) (rest := []) rfl rfl rfl (Nat.le_of_ble_eq_true rfl) dX4_scale_97 ?_
                  refine zw_if_eq C 121 dX4_scale_100 (by decide) (fun h73 => ?_) (fun h73 => ?_)
                  · rw [if_pos h73] at hF
                    refine zw_iconst C (v := 0) dX4_scale_121 (by decide) ?_
                    subst hF; exact kx
                  · rw [if_neg h73] at hF
                    refine zw_iload_n C dX4_scale_103 1 rfl rfl ?_
                    refine zw_bipush C (v := 9) dX4_scale_104 (by decide) ?_
                    refine zw_icmp_ne C 117 dX4_scale_106 (by decide) (fun h74 => ?_) (fun h74 => ?_)
                    · rw [if_neg h74] at hF
                      refine zw_iconst C (v := 1) dX4_scale_117 (by decide) ?_
                      refine zw_goto C 122 dX4_scale_118 (by decide) ?_
                      subst hF; exact kx
                    · rw [if_pos h74] at hF
                      refine zw_aload_n C dX4_scale_109 0 rfl rfl ?_
                      refine zw_iload_n C dX4_scale_110 3 rfl rfl ?_
                      refine zw_calli C kvX4_91 (kX4_isThing rfl) ⟨rfl, rfl, ⟨by decide, by decide⟩, by decide, by decide⟩ FX4 0 (As := [.int p3]) (rest := []) rfl rfl rfl (Nat.le_of_ble_eq_true rfl) dX4_scale_111 ?_
                      refine zw_if_eq C 121 dX4_scale_114 (by decide) (fun h75 => ?_) (fun h75 => ?_)
                      · rw [if_pos h75] at hF
                        refine zw_iconst C (v := 0) dX4_scale_121 (by decide) ?_
                        subst hF; exact kx
                      · rw [if_neg h75] at hF
                        refine zw_iconst C (v := 1) dX4_scale_117 (by decide) ?_
                        refine zw_goto C 122 dX4_scale_118 (by decide) ?_
                        subst hF; exact kx
              · rw [if_pos h69] at hF
                refine zw_aload_n C dX4_scale_75 0 rfl rfl ?_
                refine zw_iconst C (v := 1) dX4_scale_76 (by decide) ?_
                refine zw_iload_n C dX4_scale_77 2 rfl rfl ?_
                refine zw_calli C kvX4_153 (kX4_is (vp_in_iff.mpr ⟨by decide, by decide⟩) rfl) ⟨rfl, rfl, ⟨by decide, by decide⟩, by decide, by decide⟩ FX4 0 (As := [.int 1, .int p2]) (rest := []) rfl rfl rfl (Nat.le_of_ble_eq_true rfl) dX4_scale_78 ?_
                refine zw_if_eq C 121 dX4_scale_81 (by decide) (fun h76 => ?_) (fun h76 => ?_)
                · rw [if_pos h76] at hF
                  refine zw_iconst C (v := 0) dX4_scale_121 (by decide) ?_
                  subst hF; exact kx
                · rw [if_neg h76] at hF
                  refine zw_iload_n C dX4_scale_84 1 rfl rfl ?_
                  refine zw_iconst C (v := 2) dX4_scale_85 (by decide) ?_
                  refine zw_bipush C (v := 6) dX4_scale_86 (by decide) ?_
                  refine zw_scalli C kvX4_84 (kX4_in rfl) ⟨rfl, rfl, ⟨by decide, by decide⟩, by decide, by decide⟩ (As := [.int p1, .int 2, .int 6]) (rest := []) rfl rfl (Nat.le_of_ble_eq_true rfl) dX4_scale_88 ?_
                  refine zw_if_eq C 103 dX4_scale_91 (by decide) (fun h77 => ?_) (fun h77 => ?_)
                  · rw [if_pos h77] at hF
                    refine zw_iload_n C dX4_scale_103 1 rfl rfl ?_
                    refine zw_bipush C (v := 9) dX4_scale_104 (by decide) ?_
                    refine zw_icmp_ne C 117 dX4_scale_106 (by decide) (fun h78 => ?_) (fun h78 => ?_)
                    · rw [if_neg h78] at hF
                      refine zw_iconst C (v := 1) dX4_scale_117 (by decide) ?_
                      refine zw_goto C 122 dX4_scale_118 (by decide) ?_
                      subst hF; exact kx
                    · rw [if_pos h78] at hF
                      refine zw_aload_n C dX4_scale_109 0 rfl rfl ?_
                      refine zw_iload_n C dX4_scale_110 3 rfl rfl ?_
                      refine zw_calli C kvX4_91 (kX4_isThing rfl) ⟨rfl, rfl, ⟨by decide, by decide⟩, by decide, by decide⟩ FX4 0 (As := [.int p3]) (rest := []) rfl rfl rfl (Nat.le_of_ble_eq_true rfl) dX4_scale_111 ?_
                      refine zw_if_eq C 121 dX4_scale_114 (by decide) (fun h79 => ?_) (fun h79 => ?_)
                      · rw [if_pos h79] at hF
                        refine zw_iconst C (v := 0) dX4_scale_121 (by decide) ?_
                        subst hF; exact kx
                      · rw [if_neg h79] at hF
                        refine zw_iconst C (v := 1) dX4_scale_117 (by decide) ?_
                        refine zw_goto C 122 dX4_scale_118 (by decide) ?_
                        subst hF; exact kx
                  · rw [if_neg h77] at hF
                    refine zw_aload_n C dX4_scale_94 0 rfl rfl ?_
                    refine zw_iconst C (v := 0) dX4_scale_95 (by decide) ?_
                    refine zw_iload_n C dX4_scale_96 3 rfl rfl ?_
                    refine zw_calli C kvX4_153 (kX4_is (vp_in_iff.mpr ⟨by decide, by decide⟩) rfl) ⟨rfl, rfl, ⟨by decide, by decide⟩, by decide, by decide⟩ FX4 0 (As := [.int 0, .int p3]) (rest := []) rfl rfl rfl (Nat.le_of_ble_eq_true rfl) dX4_scale_97 ?_
                    refine zw_if_eq C 121 dX4_scale_100 (by decide) (fun h80 => ?_) (fun h80 => ?_)
                    · rw [if_pos h80] at hF
                      refine zw_iconst C (v := 0) dX4_scale_121 (by decide) ?_
                      subst hF; exact kx
                    · rw [if_neg h80] at hF
                      refine zw_iload_n C dX4_scale_103 1 rfl rfl ?_
                      refine zw_bipush C (v := 9) dX4_scale_104 (by decide) ?_
                      refine zw_icmp_ne C 117 dX4_scale_106 (by decide) (fun h81 => ?_) (fun h81 => ?_)
                      · rw [if_neg h81] at hF
                        refine zw_iconst C (v := 1) dX4_scale_117 (by decide) ?_
                        refine zw_goto C 122 dX4_scale_118 (by decide) ?_
                        subst hF; exact kx
                      · rw [if_pos h81] at hF
                        refine zw_aload_n C dX4_scale_109 0 rfl rfl ?_
                        refine zw_iload_n C dX4_scale_110 3 rfl rfl ?_
                        refine zw_calli C kvX4_91 (kX4_isThing rfl) ⟨rfl, rfl, ⟨by decide, by decide⟩, by decide, by decide⟩ FX4 0 (As := [.int p3]) (rest := []) rfl rfl rfl (Nat.le_of_ble_eq_true rfl) dX4_scale_111 ?_
                        refine zw_if_eq C 121 dX4_scale_114 (by decide) (fun h82 => ?_) (fun h82 => ?_)
                        · rw [if_pos h82] at hF
                          refine zw_iconst C (v := 0) dX4_scale_121 (by decide) ?_
                          subst hF; exact kx
                        · rw [if_neg h82] at hF
                          refine zw_iconst C (v := 1) dX4_scale_117 (by decide) ?_
                          refine zw_goto C 122 dX4_scale_118 (by decide) ?_
                          subst hF; exact kx
          · rw [if_pos h67] at hF
            refine zw_iload_n C dX4_scale_48 1 rfl rfl ?_
            refine zw_bipush C (v := 7) dX4_scale_49 (by decide) ?_
            refine zw_icmp_eq C 60 dX4_scale_51 (by decide) (fun h83 => ?_) (fun h83 => ?_)
            · rw [if_pos h83] at hF
              refine zw_aload_n C dX4_scale_60 0 rfl rfl ?_
              refine zw_iconst C (v := 0) dX4_scale_61 (by decide) ?_
              refine zw_iload_n C dX4_scale_62 2 rfl rfl ?_
              refine zw_calli C kvX4_153 (kX4_is (vp_in_iff.mpr ⟨by decide, by decide⟩) rfl) ⟨rfl, rfl, ⟨by decide, by decide⟩, by decide, by decide⟩ FX4 0 (As := [.int 0, .int p2]) (rest := []) rfl rfl rfl (Nat.le_of_ble_eq_true rfl) dX4_scale_63 ?_
              refine zw_if_eq C 121 dX4_scale_66 (by decide) (fun h84 => ?_) (fun h84 => ?_)
              · rw [if_pos h84] at hF
                refine zw_iconst C (v := 0) dX4_scale_121 (by decide) ?_
                subst hF; exact kx
              · rw [if_neg h84] at hF
                refine zw_iload_n C dX4_scale_69 1 rfl rfl ?_
                refine zw_bipush C (v := 6) dX4_scale_70 (by decide) ?_
                refine zw_icmp_ne C 84 dX4_scale_72 (by decide) (fun h85 => ?_) (fun h85 => ?_)
                · rw [if_neg h85] at hF
                  refine zw_iload_n C dX4_scale_84 1 rfl rfl ?_
                  refine zw_iconst C (v := 2) dX4_scale_85 (by decide) ?_
                  refine zw_bipush C (v := 6) dX4_scale_86 (by decide) ?_
                  refine zw_scalli C kvX4_84 (kX4_in rfl) ⟨rfl, rfl, ⟨by decide, by decide⟩, by decide, by decide⟩ (As := [.int p1, .int 2, .int 6]) (rest := []) rfl rfl (Nat.le_of_ble_eq_true rfl) dX4_scale_88 ?_
                  refine zw_if_eq C 103 dX4_scale_91 (by decide) (fun h86 => ?_) (fun h86 => ?_)
                  · rw [if_pos h86] at hF
                    refine zw_iload_n C dX4_scale_103 1 rfl rfl ?_
                    refine zw_bipush C (v := 9) dX4_scale_104 (by decide) ?_
                    refine zw_icmp_ne C 117 dX4_scale_106 (by decide) (fun h87 => ?_) (fun h87 => ?_)
                    · rw [if_neg h87] at hF
                      refine zw_iconst C (v := 1) dX4_scale_117 (by decide) ?_
                      refine zw_goto C 122 dX4_scale_118 (by decide) ?_
                      subst hF; exact kx
                    · rw [if_pos h87] at hF
                      refine zw_aload_n C dX4_scale_109 0 rfl rfl ?_
                      refine zw_iload_n C dX4_scale_110 3 rfl rfl ?_
                      refine zw_calli C kvX4_91 (kX4_isThing rfl) ⟨rfl, rfl, ⟨by decide, by decide⟩, by decide, by decide⟩ FX4 0 (As := [.int p3]) (rest := []) rfl rfl rfl (Nat.le_of_ble_eq_true rfl) dX4_scale_111 ?_
                      refine zw_if_eq C 121 dX4_scale_114 (by decide) (fun h88 => ?_) (fun h88 => ?_)
                      · rw [if_pos h88] at hF
                        refine zw_iconst C (v := 0) dX4_scale_121 (by decide) ?_
                        subst hF; exact kx
                      · rw [if_neg h88] at hF
                        refine zw_iconst C (v := 1) dX4_scale_117 (by decide) ?_
                        refine zw_goto C 122 dX4_scale_118 (by decide) ?_
                        subst hF; exact kx
                  · rw [if_neg h86] at hF
                    refine zw_aload_n C dX4_scale_94 0 rfl rfl ?_
                    refine zw_iconst C (v := 0) dX4_scale_95 (by decide) ?_
                    refine zw_iload_n C dX4_scale_96 3 rfl rfl ?_
                    refine zw_calli C kvX4_153 (kX4_is (vp_in_iff.mpr ⟨by decide, by decide⟩) rfl) ⟨rfl, rfl, ⟨by decide, by decide⟩, by decide, by decide⟩ FX4 0 (As := [.int 0, .int p3]) (rest := []) rfl rfl rfl (Nat.le_of_ble_eq_true rfl) dX4_scale_97 ?_
                    refine zw_if_eq C 121 dX4_scale_100 (by decide) (fun h89 => ?_) (fun h89 => ?_)
                    · rw [if_pos h89] at hF
                      refine zw_iconst C (v := 0) dX4_scale_121 (by decide) ?_
                      subst hF; exact kx
                    · rw [if_neg h89] at hF
                      refine zw_iload_n C dX4_scale_103 1 rfl rfl ?_
                      refine zw_bipush C (v := 9) dX4_scale_104 (by decide) ?_
                      refine zw_icmp_ne C 117 dX4_scale_106 (by decide) (fun h90 => ?_) (fun h90 => ?_)
                      · rw [if_neg h90] at hF
                        refine zw_iconst C (v := 1) dX4_scale_117 (by decide) ?_
                        refine zw_goto C 122 dX4_scale_118 (by decide) ?_
                        subst hF; exact kx
                      · rw [if_pos h90] at hF
                        refine zw_aload_n C dX4_scale_109 0 rfl rfl ?_
                        refine zw_iload_n C dX4_scale_110 3 rfl rfl ?_
                        refine zw_calli C kvX4_91 (kX4_isThing rfl) ⟨rfl, rfl, ⟨by decide, by decide⟩, by decide, by decide⟩ FX4 0 (As := [.int p3]) (rest := []) rfl rfl rfl (Nat.le_of_ble_eq_true rfl) dX4_scale_111 ?_
                        refine zw_if_eq C 121 dX4_scale_114 (by decide) (fun h91 => ?_) (fun h91 => ?_)
                        · rw [if_pos h91] at hF
                          refine zw_iconst C (v := 0) dX4_scale_121 (by decide) ?_
                          subst hF; exact kx
                        · rw [if_neg h91] at hF
                          refine zw_iconst C (v := 1) dX4_scale_117 (by decide) ?_
                          refine zw_goto C 122 dX4_scale_118 (by decide) ?_
                          subst hF; exact kx
                · rw [if_pos h85] at hF
                  refine zw_aload_n C dX4_scale_75 0 rfl rfl ?_
                  refine zw_iconst C (v := 1) dX4_scale_76 (by decide) ?_
                  refine zw_iload_n C dX4_scale_77 2 rfl rfl ?_
                  refine zw_calli C kvX4_153 (kX4_is (vp_in_iff.mpr ⟨by decide, by decide⟩) rfl) ⟨rfl, rfl, ⟨by decide, by decide⟩, by decide, by decide⟩ FX4 0 (As := [.int 1, .int p2]) (rest := []) rfl rfl rfl (Nat.le_of_ble_eq_true rfl) dX4_scale_78 ?_
                  refine zw_if_eq C 121 dX4_scale_81 (by decide) (fun h92 => ?_) (fun h92 => ?_)
                  · rw [if_pos h92] at hF
                    refine zw_iconst C (v := 0) dX4_scale_121 (by decide) ?_
                    subst hF; exact kx
                  · rw [if_neg h92] at hF
                    refine zw_iload_n C dX4_scale_84 1 rfl rfl ?_
                    refine zw_iconst C (v := 2) dX4_scale_85 (by decide) ?_
                    refine zw_bipush C (v := 6) dX4_scale_86 (by decide) ?_
                    refine zw_scalli C kvX4_84 (kX4_in rfl) ⟨rfl, rfl, ⟨by decide, by decide⟩, by decide, by decide⟩ (As := [.int p1, .int 2, .int 6]) (rest := []) rfl rfl (Nat.le_of_ble_eq_true rfl) dX4_scale_88 ?_
                    refine zw_if_eq C 103 dX4_scale_91 (by decide) (fun h93 => ?_) (fun h93 => ?_)
                    · rw [if_pos h93] at hF
                      refine zw_iload_n C dX4_scale_103 1 rfl rfl ?_
                      refine zw_bipush C (v := 9) dX4_scale_104 (by decide) ?_
                      refine zw_icmp_ne C 117 dX4_scale_106 (by decide) (fun h94 => ?_) (fun h94 => ?_)
                      · rw [if_neg h94] at hF
                        refine zw_iconst C (v := 1) dX4_scale_117 (by decide) ?_
                        refine zw_goto C 122 dX4_scale_118 (by decide) ?_
                        subst hF; exact kx
                      · rw [if_pos h94] at hF
                        refine zw_aload_n C dX4_scale_109 0 rfl rfl ?_
                        refine zw_iload_n C dX4_scale_110 3 rfl rfl ?_
                        refine zw_calli C kvX4_91 (kX4_isThing rfl) ⟨rfl, rfl, ⟨by decide, by decide⟩, by decide, by decide⟩ FX4 0 (As := [.int p3]) (rest := []) rfl rfl rfl (Nat.le_of_ble_eq_true rfl) dX4_scale_111 ?_
                        refine zw_if_eq C 121 dX4_scale_114 (by decide) (fun h95 => ?_) (fun h95 => ?_)
                        · rw [if_pos h95] at hF
                          refine zw_iconst C (v := 0) dX4_scale_121 (by decide) ?_
                          subst hF; exact kx
                        · rw [if_neg h95] at hF
                          refine zw_iconst C (v := 1) dX4_scale_117 (by decide) ?_
                          refine zw_goto C 122 dX4_scale_118 (by decide) ?_
                          subst hF; exact kx
                    · rw [if_neg h93] at hF
                      refine zw_aload_n C dX4_scale_94 0 rfl rfl ?_
                      refine zw_iconst C (v := 0) dX4_scale_95 (by decide) ?_
                      refine zw_iload_n C dX4_scale_96 3 rfl rfl ?_
                      refine zw_calli C kvX4_153 (kX4_is (vp_in_iff.mpr ⟨by decide, by decide⟩) rfl) ⟨rfl, rfl, ⟨by decide, by decide⟩, by decide, by decide⟩ FX4 0 (As := [.int 0, .int p3]) (rest := []) rfl rfl rfl (Nat.le_of_ble_eq_true rfl) dX4_scale_97 ?_
                      refine zw_if_eq C 121 dX4_scale_100 (by decide) (fun h96 => ?_) (fun h96 => ?_)
                      · rw [if_pos h96] at hF
                        refine zw_iconst C (v := 0) dX4_scale_121 (by decide) ?_
                        subst hF; exact kx
                      · rw [if_neg h96] at hF
                        refine zw_iload_n C dX4_scale_103 1 rfl rfl ?_
                        refine zw_bipush C (v := 9) dX4_scale_104 (by decide) ?_
                        refine zw_icmp_ne C 117 dX4_scale_106 (by decide) (fun h97 => ?_) (fun h97 => ?_)
                        · rw [if_neg h97] at hF
                          refine zw_iconst C (v := 1) dX4_scale_117 (by decide) ?_
                          refine zw_goto C 122 dX4_scale_118 (by decide) ?_
                          subst hF; exact kx
                        · rw [if_pos h97] at hF
                          refine zw_aload_n C dX4_scale_109 0 rfl rfl ?_
                          refine zw_iload_n C dX4_scale_110 3 rfl rfl ?_
                          refine zw_calli C kvX4_91 (kX4_isThing rfl) ⟨rfl, rfl, ⟨by decide, by decide⟩, by decide, by decide⟩ FX4 0 (As := [.int p3]) (rest := []) rfl rfl rfl (Nat.le_of_ble_eq_true rfl) dX4_scale_111 ?_
                          refine zw_if_eq C 121 dX4_scale_114 (by decide) (fun h98 => ?_) (fun h98 => ?_)
                          · rw [if_pos h98] at hF
                            refine zw_iconst C (v := 0) dX4_scale_121 (by decide) ?_
                            subst hF; exact kx
                          · rw [if_neg h98] at hF
                            refine zw_iconst C (v := 1) dX4_scale_117 (by decide) ?_
                            refine zw_goto C 122 dX4_scale_118 (by decide) ?_
                            subst hF; exact kx
            · rw [if_neg h83] at hF
              refine zw_iload_n C dX4_scale_54 1 rfl rfl ?_
              refine zw_bipush C (v := 9) dX4_scale_55 (by decide) ?_
              refine zw_icmp_ne C 69 dX4_scale_57 (by decide) (fun h99 => ?_) (fun h99 => ?_)
              · rw [if_neg h99] at hF
                refine zw_iload_n C dX4_scale_69 1 rfl rfl ?_
                refine zw_bipush C (v := 6) dX4_scale_70 (by decide) ?_
                refine zw_icmp_ne C 84 dX4_scale_72 (by decide) (fun h100 => ?_) (fun h100 => ?_)
                · rw [if_neg h100] at hF
                  refine zw_iload_n C dX4_scale_84 1 rfl rfl ?_
                  refine zw_iconst C (v := 2) dX4_scale_85 (by decide) ?_
                  refine zw_bipush C (v := 6) dX4_scale_86 (by decide) ?_
                  refine zw_scalli C kvX4_84 (kX4_in rfl) ⟨rfl, rfl, ⟨by decide, by decide⟩, by decide, by decide⟩ (As := [.int p1, .int 2, .int 6]) (rest := []) rfl rfl (Nat.le_of_ble_eq_true rfl) dX4_scale_88 ?_
                  refine zw_if_eq C 103 dX4_scale_91 (by decide) (fun h101 => ?_) (fun h101 => ?_)
                  · rw [if_pos h101] at hF
                    refine zw_iload_n C dX4_scale_103 1 rfl rfl ?_
                    refine zw_bipush C (v := 9) dX4_scale_104 (by decide) ?_
                    refine zw_icmp_ne C 117 dX4_scale_106 (by decide) (fun h102 => ?_) (fun h102 => ?_)
                    · rw [if_neg h102] at hF
                      refine zw_iconst C (v := 1) dX4_scale_117 (by decide) ?_
                      refine zw_goto C 122 dX4_scale_118 (by decide) ?_
                      subst hF; exact kx
                    · rw [if_pos h102] at hF
                      refine zw_aload_n C dX4_scale_109 0 rfl rfl ?_
                      refine zw_iload_n C dX4_scale_110 3 rfl rfl ?_
                      refine zw_calli C kvX4_91 (kX4_isThing rfl) ⟨rfl, rfl, ⟨by decide, by decide⟩, by decide, by decide⟩ FX4 0 (As := [.int p3]) (rest := []) rfl rfl rfl (Nat.le_of_ble_eq_true rfl) dX4_scale_111 ?_
                      refine zw_if_eq C 121 dX4_scale_114 (by decide) (fun h103 => ?_) (fun h103 => ?_)
                      · rw [if_pos h103] at hF
                        refine zw_iconst C (v := 0) dX4_scale_121 (by decide) ?_
                        subst hF; exact kx
                      · rw [if_neg h103] at hF
                        refine zw_iconst C (v := 1) dX4_scale_117 (by decide) ?_
                        refine zw_goto C 122 dX4_scale_118 (by decide) ?_
                        subst hF; exact kx
                  · rw [if_neg h101] at hF
                    refine zw_aload_n C dX4_scale_94 0 rfl rfl ?_
                    refine zw_iconst C (v := 0) dX4_scale_95 (by decide) ?_
                    refine zw_iload_n C dX4_scale_96 3 rfl rfl ?_
                    refine zw_calli C kvX4_153 (kX4_is (vp_in_iff.mpr ⟨by decide, by decide⟩) rfl) ⟨rfl, rfl, ⟨by decide, by decide⟩, by decide, by decide⟩ FX4 0 (As := [.int 0, .int p3]) (rest := []) rfl rfl rfl (Nat.le_of_ble_eq_true rfl) dX4_scale_97 ?_
                    refine zw_if_eq C 121 dX4_scale_100 (by decide) (fun h104 => ?_) (fun h104 => ?_)
                    · rw [if_pos h104] at hF
                      refine zw_iconst C (v := 0) dX4_scale_121 (by decide) ?_
                      subst hF; exact kx
                    · rw [if_neg h104] at hF
                      refine zw_iload_n C dX4_scale_103 1 rfl rfl ?_
                      refine zw_bipush C (v := 9) dX4_scale_104 (by decide) ?_
                      refine zw_icmp_ne C 117 dX4_scale_106 (by decide) (fun h105 => ?_) (fun h105 => ?_)
                      · rw [if_neg h105] at hF
                        refine zw_iconst C (v := 1) dX4_scale_117 (by decide) ?_
                        refine zw_goto C 122 dX4_scale_118 (by decide) ?_
                        subst hF; exact kx
                      · rw [if_pos h105] at hF
                        refine zw_aload_n C dX4_scale_109 0 rfl rfl ?_
                        refine zw_iload_n C dX4_scale_110 3 rfl rfl ?_
                        refine zw_calli C kvX4_91 (kX4_isThing rfl) ⟨rfl, rfl, ⟨by decide, by decide⟩, by decide, by decide⟩ FX4 0 (As := [.int p3]) (rest := []) rfl rfl rfl (Nat.le_of_ble_eq_true rfl) dX4_scale_111 ?_
                        refine zw_if_eq C 121 dX4_scale_114 (by decide) (fun h106 => ?_) (fun h106 => ?_)
                        · rw [if_pos h106] at hF
                          refine zw_iconst C (v := 0) dX4_scale_121 (by decide) ?_
                          subst hF; exact kx
                        · rw [if_neg h106] at hF
                          refine zw_iconst C (v := 1) dX4_scale_117 (by decide) ?_
                          refine zw_goto C 122 dX4_scale_118 (by decide) ?_
                          subst hF; exact kx
                · rw [if_pos h100] at hF
                  refine zw_aload_n C dX4_scale_75 0 rfl rfl ?_
                  refine zw_iconst C (v := 1) dX4_scale_76 (by decide) ?_
                  refine zw_iload_n C dX4_scale_77 2 rfl rfl ?_
                  refine zw_calli C kvX4_153 (kX4_is (vp_in_iff.mpr ⟨by decide, by decide⟩) rfl) ⟨rfl, rfl, ⟨by decide, by decide⟩, by decide, by decide⟩ FX4 0 (As := [.int 1, .int p2]) (rest := []) rfl rfl rfl (Nat.le_of_ble_eq_true rfl) dX4_scale_78 ?_
                  refine zw_if_eq C 121 dX4_scale_81 (by decide) (fun h107 => ?_) (fun h107 => ?_)
                  · rw [if_pos h107] at hF
                    refine zw_iconst C (v := 0) dX4_scale_121 (by decide) ?_
                    subst hF; exact kx
                  · rw [if_neg h107] at hF
                    refine zw_iload_n C dX4_scale_84 1 rfl rfl ?_
                    refine zw_iconst C (v := 2) dX4_scale_85 (by decide) ?_
                    refine zw_bipush C (v := 6) dX4_scale_86 (by decide) ?_
                    refine zw_scalli C kvX4_84 (kX4_in rfl) ⟨rfl, rfl, ⟨by decide, by decide⟩, by decide, by decide⟩ (As := [.int p1, .int 2, .int 6]) (rest := []) rfl rfl (Nat.le_of_ble_eq_true rfl) dX4_scale_88 ?_
                    refine zw_if_eq C 103 dX4_scale_91 (by decide) (fun h108 => ?_) (fun h108 => ?_)
                    · rw [if_pos h108] at hF
                      refine zw_iload_n C dX4_scale_103 1 rfl rfl ?_
                      refine zw_bipush C (v := 9) dX4_scale_104 (by decide) ?_
                      refine zw_icmp_ne C 117 dX4_scale_106 (by decide) (fun h109 => ?_) (fun h109 => ?_)
                      · rw [if_neg h109] at hF
                        refine zw_iconst C (v := 1) dX4_scale_117 (by decide) ?_
                        refine zw_goto C 122 dX4_scale_118 (by decide) ?_
                        subst hF; exact kx
                      · rw [if_pos h109] at hF
                        refine zw_aload_n C dX4_scale_109 0 rfl rfl ?_
                        refine zw_iload_n C dX4_scale_110 3 rfl rfl ?_
                        refine zw_calli C kvX4_91 (kX4_isThing rfl) ⟨rfl, rfl, ⟨by decide, by decide⟩, by decide, by decide⟩ FX4 0 (As := [.int p3]) (rest := []) rfl rfl rfl (Nat.le_of_ble_eq_true rfl) dX4_scale_111 ?_
                        refine zw_if_eq C 121 dX4_scale_114 (by decide) (fun h110 => ?_) (fun h110 => ?_)
                        · rw [if_pos h110] at hF
                          refine zw_iconst C (v := 0) dX4_scale_121 (by decide) ?_
                          subst hF; exact kx
                        · rw [if_neg h110] at hF
                          refine zw_iconst C (v := 1) dX4_scale_117 (by decide) ?_
                          refine zw_goto C 122 dX4_scale_118 (by decide) ?_
                          subst hF; exact kx
                    · rw [if_neg h108] at hF
                      refine zw_aload_n C dX4_scale_94 0 rfl rfl ?_
                      refine zw_iconst C (v := 0) dX4_scale_95 (by decide) ?_
                      refine zw_iload_n C dX4_scale_96 3 rfl rfl ?_
                      refine zw_calli C kvX4_153 (kX4_is (vp_in_iff.mpr ⟨by decide, by decide⟩) rfl) ⟨rfl, rfl, ⟨by decide, by decide⟩, by decide, by decide⟩ FX4 0 (As := [.int 0, .int p3]) (rest := []) rfl rfl rfl (Nat.le_of_ble_eq_true rfl) dX4_scale_97 ?_
                      refine zw_if_eq C 121 dX4_scale_100 (by decide) (fun h111 => ?_) (fun h111 => ?_)
                      · rw [if_pos h111] at hF
                        refine zw_iconst C (v := 0) dX4_scale_121 (by decide) ?_
                        subst hF; exact kx
                      · rw [if_neg h111] at hF
                        refine zw_iload_n C dX4_scale_103 1 rfl rfl ?_
                        refine zw_bipush C (v := 9) dX4_scale_104 (by decide) ?_
                        refine zw_icmp_ne C 117 dX4_scale_106 (by decide) (fun h112 => ?_) (fun h112 => ?_)
                        · rw [if_neg h112] at hF
                          refine zw_iconst C (v := 1) dX4_scale_117 (by decide) ?_
                          refine zw_goto C 122 dX4_scale_118 (by decide) ?_
                          subst hF; exact kx
                        · rw [if_pos h112] at hF
                          refine zw_aload_n C dX4_scale_109 0 rfl rfl ?_
                          refine zw_iload_n C dX4_scale_110 3 rfl rfl ?_
                          refine zw_calli C kvX4_91 (kX4_isThing rfl) ⟨rfl, rfl, ⟨by decide, by decide⟩, by decide, by decide⟩ FX4 0 (As := [.int p3]) (rest := []) rfl rfl rfl (Nat.le_of_ble_eq_true rfl) dX4_scale_111 ?_
                          refine zw_if_eq C 121 dX4_scale_114 (by decide) (fun h113 => ?_) (fun h113 => ?_)
                          · rw [if_pos h113] at hF
                            refine zw_iconst C (v := 0) dX4_scale_121 (by decide) ?_
                            subst hF; exact kx
                          · rw [if_neg h113] at hF
                            refine zw_iconst C (v := 1) dX4_scale_117 (by decide) ?_
                            refine zw_goto C 122 dX4_scale_118 (by decide) ?_
                            subst hF; exact kx
              · rw [if_pos h99] at hF
                refine zw_aload_n C dX4_scale_60 0 rfl rfl ?_
                refine zw_iconst C (v := 0) dX4_scale_61 (by decide) ?_
                refine zw_iload_n C dX4_scale_62 2 rfl rfl ?_
                refine zw_calli C kvX4_153 (kX4_is (vp_in_iff.mpr ⟨by decide, by decide⟩) rfl) ⟨rfl, rfl, ⟨by decide, by decide⟩, by decide, by decide⟩ FX4 0 (As := [.int 0, .int p2]) (rest := []) rfl rfl rfl (Nat.le_of_ble_eq_true rfl) dX4_scale_63 ?_
                refine zw_if_eq C 121 dX4_scale_66 (by decide) (fun h114 => ?_) (fun h114 => ?_)
                · rw [if_pos h114] at hF
                  refine zw_iconst C (v := 0) dX4_scale_121 (by decide) ?_
                  subst hF; exact kx
                · rw [if_neg h114] at hF
                  refine zw_iload_n C dX4_scale_69 1 rfl rfl ?_
                  refine zw_bipush C (v := 6) dX4_scale_70 (by decide) ?_
                  refine zw_icmp_ne C 84 dX4_scale_72 (by decide) (fun h115 => ?_) (fun h115 => ?_)
                  · rw [if_neg h115] at hF
                    refine zw_iload_n C dX4_scale_84 1 rfl rfl ?_
                    refine zw_iconst C (v := 2) dX4_scale_85 (by decide) ?_
                    refine zw_bipush C (v := 6) dX4_scale_86 (by decide) ?_
                    refine zw_scalli C kvX4_84 (kX4_in rfl) ⟨rfl, rfl, ⟨by decide, by decide⟩, by decide, by decide⟩ (As := [.int p1, .int 2, .int 6]) (rest := []) rfl rfl (Nat.le_of_ble_eq_true rfl) dX4_scale_88 ?_
                    refine zw_if_eq C 103 dX4_scale_91 (by decide) (fun h116 => ?_) (fun h116 => ?_)
                    · rw [if_pos h116] at hF
                      refine zw_iload_n C dX4_scale_103 1 rfl rfl ?_
                      refine zw_bipush C (v := 9) dX4_scale_104 (by decide) ?_
                      refine zw_icmp_ne C 117 dX4_scale_106 (by decide) (fun h117 => ?_) (fun h117 => ?_)
                      · rw [if_neg h117] at hF
                        refine zw_iconst C (v := 1) dX4_scale_117 (by decide) ?_
                        refine zw_goto C 122 dX4_scale_118 (by decide) ?_
                        subst hF; exact kx
                      · rw [if_pos h117] at hF
                        refine zw_aload_n C dX4_scale_109 0 rfl rfl ?_
                        refine zw_iload_n C dX4_scale_110 3 rfl rfl ?_
                        refine zw_calli C kvX4_91 (kX4_isThing rfl) ⟨rfl, rfl, ⟨by decide, by decide⟩, by decide, by decide⟩ FX4 0 (As := [.int p3]) (rest := []) rfl rfl rfl (Nat.le_of_ble_eq_true rfl) dX4_scale_111 ?_
                        refine zw_if_eq C 121 dX4_scale_114 (by decide) (fun h118 => ?_) (fun h118 => ?_)
                        · rw [if_pos h118] at hF
                          refine zw_iconst C (v := 0) dX4_scale_121 (by decide) ?_
                          subst hF; exact kx
                        · rw [if_neg h118] at hF
                          refine zw_iconst C (v := 1) dX4_scale_117 (by decide) ?_
                          refine zw_goto C 122 dX4_scale_118 (by decide) ?_
                          subst hF; exact kx
                    · rw [if_neg h116] at hF
                      refine zw_aload_n C dX4_scale_94 0 rfl rfl ?_
                      refine zw_iconst C (v := 0) dX4_scale_95 (by decide) ?_
                      refine zw_iload_n C dX4_scale_96 3 rfl rfl ?_
                      refine zw_calli C kvX4_153 (kX4_is (vp_in_iff.mpr ⟨by decide, by decide⟩) rfl) ⟨rfl, rfl, ⟨by decide, by decide⟩, by decide, by decide⟩ FX4 0 (As := [.int 0, .int p3]) (rest := []) rfl rfl rfl (Nat.le_of_ble_eq_true rfl) dX4_scale_97 ?_
                      refine zw_if_eq C 121 dX4_scale_100 (by decide) (fun h119 => ?_) (fun h119 => ?_)
                      · rw [if_pos h119] at hF
                        refine zw_iconst C (v := 0) dX4_scale_121 (by decide) ?_
                        subst hF; exact kx
                      · rw [if_neg h119] at hF
                        refine zw_iload_n C dX4_scale_103 1 rfl rfl ?_
                        refine zw_bipush C (v := 9) dX4_scale_104 (by decide) ?_
                        refine zw_icmp_ne C 117 dX4_scale_106 (by decide) (fun h120 => ?_) (fun h120 => ?_)
                        · rw [if_neg h120] at hF
                          refine zw_iconst C (v := 1) dX4_scale_117 (by decide) ?_
                          refine zw_goto C 122 dX4_scale_118 (by decide) ?_
                          subst hF; exact kx
                        · rw [if_pos h120] at hF
                          refine zw_aload_n C dX4_scale_109 0 rfl rfl ?_
                          refine zw_iload_n C dX4_scale_110 3 rfl rfl ?_
                          refine zw_calli C kvX4_91 (kX4_isThing rfl) ⟨rfl, rfl, ⟨by decide, by decide⟩, by decide, by decide⟩ FX4 0 (As := [.int p3]) (rest := []) rfl rfl rfl (Nat.le_of_ble_eq_true rfl) dX4_scale_111 ?_
                          refine zw_if_eq C 121 dX4_scale_114 (by decide) (fun h121 => ?_) (fun h121 => ?_)
                          · rw [if_pos h121] at hF
                            refine zw_iconst C (v := 0) dX4_scale_121 (by decide) ?_
                            subst hF; exact kx
                          · rw [if_neg h121] at hF
                            refine zw_iconst C (v := 1) dX4_scale_117 (by decide) ?_
                            refine zw_goto C 122 dX4_scale_118 (by decide) ?_
                            subst hF; exact kx
                  · rw [if_pos h115] at hF
                    refine zw_aload_n C dX4_scale_75 0 rfl rfl ?_
                    refine zw_iconst C (v := 1) dX4_scale_76 (by decide) ?_
                    refine zw_iload_n C dX4_scale_77 2 rfl rfl ?_
                    refine zw_calli C kvX4_153 (kX4_is (vp_in_iff.mpr ⟨by decide, by decide⟩) rfl) ⟨rfl, rfl, ⟨by decide, by decide⟩, by decide, by decide⟩ FX4 0 (As := [.int 1, .int p2]) (rest := []) rfl rfl rfl (Nat.le_of_ble_eq_true rfl) dX4_scale_78 ?_
                    refine zw_if_eq C 121 dX4_scale_81 (by decide) (fun h122 => ?_) (fun h122 => ?_)
                    · rw [if_pos h122] at hF
                      refine zw_iconst C (v := 0) dX4_scale_121 (by decide) ?_
                      subst hF; exact kx
                    · rw [if_neg h122] at hF
                      refine zw_iload_n C dX4_scale_84 1 rfl rfl ?_
                      refine zw_iconst C (v := 2) dX4_scale_85 (by decide) ?_
                      refine zw_bipush C (v := 6) dX4_scale_86 (by decide) ?_
                      refine zw_scalli C kvX4_84 (kX4_in rfl) ⟨rfl, rfl, ⟨by decide, by decide⟩, by decide, by decide⟩ (As := [.int p1, .int 2, .int 6]) (rest := []) rfl rfl (Nat.le_of_ble_eq_true rfl) dX4_scale_88 ?_
                      refine zw_if_eq C 103 dX4_scale_91 (by decide) (fun h123 => ?_) (fun h123 => ?_)
                      · rw [if_pos h123] at hF
                        refine zw_iload_n C dX4_scale_103 1 rfl rfl ?_
                        refine zw_bipush C (v := 9) dX4_scale_104 (by decide) ?_
                        refine zw_icmp_ne C 117 dX4_scale_106 (by decide) (fun h124 => ?_) (fun h124 => ?_)
                        · rw [if_neg h124] at hF
                          refine zw_iconst C (v := 1) dX4_scale_117 (by decide) ?_
                          refine zw_goto C 122 dX4_scale_118 (by decide) ?_
                          subst hF; exact kx
                        · rw [if_pos h124] at hF
                          refine zw_aload_n C dX4_scale_109 0 rfl rfl ?_
                          refine zw_iload_n C dX4_scale_110 3 rfl rfl ?_
                          refine zw_calli C kvX4_91 (kX4_isThing rfl) ⟨rfl, rfl, ⟨by decide, by decide⟩, by decide, by decide⟩ FX4 0 (As := [.int p3]) (rest := []) rfl rfl rfl (Nat.le_of_ble_eq_true rfl) dX4_scale_111 ?_
                          refine zw_if_eq C 121 dX4_scale_114 (by decide) (fun h125 => ?_) (fun h125 => ?_)
                          · rw [if_pos h125] at hF
                            refine zw_iconst C (v := 0) dX4_scale_121 (by decide) ?_
                            subst hF; exact kx
                          · rw [if_neg h125] at hF
                            refine zw_iconst C (v := 1) dX4_scale_117 (by decide) ?_
                            refine zw_goto C 122 dX4_scale_118 (by decide) ?_
                            subst hF; exact kx
                      · rw [if_neg h123] at hF
                        refine zw_aload_n C dX4_scale_94 0 rfl rfl ?_
                        refine zw_iconst C (v := 0) dX4_scale_95 (by decide) ?_
                        refine zw_iload_n C dX4_scale_96 3 rfl rfl ?_
                        refine zw_calli C kvX4_153 (kX4_is (vp_in_iff.mpr ⟨by decide, by decide⟩) rfl) ⟨rfl, rfl, ⟨by decide, by decide⟩, by decide, by decide⟩ FX4 0 (As := [.int 0, .int p3]) (rest := []) rfl rfl rfl (Nat.le_of_ble_eq_true rfl) dX4_scale_97 ?_
                        refine zw_if_eq C 121 dX4_scale_100 (by decide) (fun h126 => ?_) (fun h126 => ?_)
                        · rw [if_pos h126] at hF
                          refine zw_iconst C (v := 0) dX4_scale_121 (by decide) ?_
                          subst hF; exact kx
                        · rw [if_neg h126] at hF
                          refine zw_iload_n C dX4_scale_103 1 rfl rfl ?_
                          refine zw_bipush C (v := 9) dX4_scale_104 (by decide) ?_
                          refine zw_icmp_ne C 117 dX4_scale_106 (by decide) (fun h127 => ?_) (fun h127 => ?_)
                          · rw [if_neg h127] at hF
                            refine zw_iconst C (v := 1) dX4_scale_117 (by decide) ?_
                            refine zw_goto C 122 dX4_scale_118 (by decide) ?_
                            subst hF; exact kx
                          · rw [if_pos h127] at hF
                            refine zw_aload_n C dX4_scale_109 0 rfl rfl ?_
                            refine zw_iload_n C dX4_scale_110 3 rfl rfl ?_
                            refine zw_calli C kvX4_91 (kX4_isThing rfl) ⟨rfl, rfl, ⟨by decide, by decide⟩, by decide, by decide⟩ FX4 0 (As := [.int p3]) (rest := []) rfl rfl rfl (Nat.le_of_ble_eq_true rfl) dX4_scale_111 ?_
                            refine zw_if_eq C 121 dX4_scale_114 (by decide) (fun h128 => ?_) (fun h128 => ?_)
                            · rw [if_pos h128] at hF
                              refine zw_iconst C (v := 0) dX4_scale_121 (by decide) ?_
                              subst hF; exact kx
                            · rw [if_neg h128] at hF
                              refine zw_iconst C (v := 1) dX4_scale_117 (by decide) ?_
                              refine zw_goto C 122 dX4_scale_118 (by decide) ?_
                              subst hF; exact kx
    · rw [if_pos h2] at hF
      refine zw_iload_n C dX4_scale_14 2 rfl rfl ?_
      refine zw_iconst C (v := 0) dX4_scale_15 (by decide) ?_
      refine zw_iconst C (v := 2) dX4_scale_16 (by decide) ?_
      refine zw_scalli C kvX4_84 (kX4_in rfl) ⟨rfl, rfl, ⟨by decide, by decide⟩, by decide, by decide⟩ (As := [.int p2, .int 0, .int 2]) (rest := []) rfl rfl (Nat.le_of_ble_eq_true rfl) dX4_scale_17 ?_
      refine zw_if_eq C 121 dX4_scale_20 (by decide) (fun h129 => ?_) (fun h129 => ?_)
      · rw [if_pos h129] at hF
        refine zw_iconst C (v := 0) dX4_scale_121 (by decide) ?_
        subst hF; exact kx
      · rw [if_neg h129] at hF
        refine zw_iload_n C dX4_scale_23 1 rfl rfl ?_
        refine zw_bipush C (v := 8) dX4_scale_24 (by decide) ?_
        refine zw_icmp_ne C 39 dX4_scale_26 (by decide) (fun h130 => ?_) (fun h130 => ?_)
        · rw [if_neg h130] at hF
          refine zw_iload_n C dX4_scale_39 1 rfl rfl ?_
          refine zw_iconst C (v := 2) dX4_scale_40 (by decide) ?_
          refine zw_iconst C (v := 5) dX4_scale_41 (by decide) ?_
          refine zw_scalli C kvX4_84 (kX4_in rfl) ⟨rfl, rfl, ⟨by decide, by decide⟩, by decide, by decide⟩ (As := [.int p1, .int 2, .int 5]) (rest := []) rfl rfl (Nat.le_of_ble_eq_true rfl) dX4_scale_42 ?_
          refine zw_if_ne C 60 dX4_scale_45 (by decide) (fun h131 => ?_) (fun h131 => ?_)
          · rw [if_neg h131] at hF
            refine zw_aload_n C dX4_scale_60 0 rfl rfl ?_
            refine zw_iconst C (v := 0) dX4_scale_61 (by decide) ?_
            refine zw_iload_n C dX4_scale_62 2 rfl rfl ?_
            refine zw_calli C kvX4_153 (kX4_is (vp_in_iff.mpr ⟨by decide, by decide⟩) rfl) ⟨rfl, rfl, ⟨by decide, by decide⟩, by decide, by decide⟩ FX4 0 (As := [.int 0, .int p2]) (rest := []) rfl rfl rfl (Nat.le_of_ble_eq_true rfl) dX4_scale_63 ?_
            refine zw_if_eq C 121 dX4_scale_66 (by decide) (fun h132 => ?_) (fun h132 => ?_)
            · rw [if_pos h132] at hF
              refine zw_iconst C (v := 0) dX4_scale_121 (by decide) ?_
              subst hF; exact kx
            · rw [if_neg h132] at hF
              refine zw_iload_n C dX4_scale_69 1 rfl rfl ?_
              refine zw_bipush C (v := 6) dX4_scale_70 (by decide) ?_
              refine zw_icmp_ne C 84 dX4_scale_72 (by decide) (fun h133 => ?_) (fun h133 => ?_)
              · rw [if_neg h133] at hF
                refine zw_iload_n C dX4_scale_84 1 rfl rfl ?_
                refine zw_iconst C (v := 2) dX4_scale_85 (by decide) ?_
                refine zw_bipush C (v := 6) dX4_scale_86 (by decide) ?_
                refine zw_scalli C kvX4_84 (kX4_in rfl) ⟨rfl, rfl, ⟨by decide, by decide⟩, by decide, by decide⟩ (As := [.int p1, .int 2, .int 6]) (rest := []) rfl rfl (Nat.le_of_ble_eq_true rfl) dX4_scale_88 ?_
                refine zw_if_eq C 103 dX4_scale_91 (by decide) (fun h134 => ?_) (fun h134 => ?_)
                · rw [if_pos h134] at hF
                  refine zw_iload_n C dX4_scale_103 1 rfl rfl ?_
                  refine zw_bipush C (v := 9) dX4_scale_104 (by decide) ?_
                  refine zw_icmp_ne C 117 dX4_scale_106 (by decide) (fun h135 => ?_) (fun h135 => ?_)
                  · rw [if_neg h135] at hF
                    refine zw_iconst C (v := 1) dX4_scale_117 (by decide) ?_
                    refine zw_goto C 122 dX4_scale_118 (by decide) ?_
                    subst hF; exact kx
                  · rw [if_pos h135] at hF
                    refine zw_aload_n C dX4_scale_109 0 rfl rfl ?_
                    refine zw_iload_n C dX4_scale_110 3 rfl rfl ?_
                    refine zw_calli C kvX4_91 (kX4_isThing rfl) ⟨rfl, rfl, ⟨by decide, by decide⟩, by decide, by decide⟩ FX4 0 (As := [.int p3]) (rest := []) rfl rfl rfl (Nat.le_of_ble_eq_true rfl) dX4_scale_111 ?_
                    refine zw_if_eq C 121 dX4_scale_114 (by decide) (fun h136 => ?_) (fun h136 => ?_)
                    · rw [if_pos h136] at hF
                      refine zw_iconst C (v := 0) dX4_scale_121 (by decide) ?_
                      subst hF; exact kx
                    · rw [if_neg h136] at hF
                      refine zw_iconst C (v := 1) dX4_scale_117 (by decide) ?_
                      refine zw_goto C 122 dX4_scale_118 (by decide) ?_
                      subst hF; exact kx
                · rw [if_neg h134] at hF
                  refine zw_aload_n C dX4_scale_94 0 rfl rfl ?_
                  refine zw_iconst C (v := 0) dX4_scale_95 (by decide) ?_
                  refine zw_iload_n C dX4_scale_96 3 rfl rfl ?_
                  refine zw_calli C kvX4_153 (kX4_is (vp_in_iff.mpr ⟨by decide, by decide⟩) rfl) ⟨rfl, rfl, ⟨by decide, by decide⟩, by decide, by decide⟩ FX4 0 (As := [.int 0, .int p3]) (rest := []) rfl rfl rfl (Nat.le_of_ble_eq_true rfl) dX4_scale_97 ?_
                  refine zw_if_eq C 121 dX4_scale_100 (by decide) (fun h137 => ?_) (fun h137 => ?_)
                  · rw [if_pos h137] at hF
                    refine zw_iconst C (v := 0) dX4_scale_121 (by decide) ?_
                    subst hF; exact kx
                  · rw [if_neg h137] at hF
                    refine zw_iload_n C dX4_scale_103 1 rfl rfl ?_
                    refine zw_bipush C (v := 9) dX4_scale_104 (by decide) ?_
                    refine zw_icmp_ne C 117 dX4_scale_106 (by decide) (fun h138 => ?_) (fun h138 => ?_)
                    · rw [if_neg h138] at hF
                      refine zw_iconst C (v := 1) dX4_scale_117 (by decide) ?_
                      refine zw_goto C 122 dX4_scale_118 (by decide) ?_
                      subst hF; exact kx
                    · rw [if_pos h138] at hF
                      refine zw_aload_n C dX4_scale_109 0 rfl rfl ?_
                      refine zw_iload_n C dX4_scale_110 3 rfl rfl ?_
                      refine zw_calli C kvX4_91 (kX4_isThing rfl) ⟨rfl, rfl, ⟨by decide, by decide⟩, by decide, by decide⟩ FX4 0 (As := [.int p3]) (rest := []) rfl rfl rfl (Nat.le_of_ble_eq_true rfl) dX4_scale_111 ?_
                      refine zw_if_eq C 121 dX4_scale_114 (by decide) (fun h139 => ?_) (fun h139 => ?_)
                      · rw [if_pos h139] at hF
                        refine zw_iconst C (v := 0) dX4_scale_121 (by decide) ?_
                        subst hF; exact kx
                      · rw [if_neg h139] at hF
                        refine zw_iconst C (v := 1) dX4_scale_117 (by decide) ?_
                        refine zw_goto C 122 dX4_scale_118 (by decide) ?_
                        subst hF; exact kx
              · rw [if_pos h133] at hF
                refine zw_aload_n C dX4_scale_75 0 rfl rfl ?_
                refine zw_iconst C (v := 1) dX4_scale_76 (by decide) ?_
                refine zw_iload_n C dX4_scale_77 2 rfl rfl ?_
                refine zw_calli C kvX4_153 (kX4_is (vp_in_iff.mpr ⟨by decide, by decide⟩) rfl) ⟨rfl, rfl, ⟨by decide, by decide⟩, by decide, by decide⟩ FX4 0 (As := [.int 1, .int p2]) (rest := []) rfl rfl rfl (Nat.le_of_ble_eq_true rfl) dX4_scale_78 ?_
                refine zw_if_eq C 121 dX4_scale_81 (by decide) (fun h140 => ?_) (fun h140 => ?_)
                · rw [if_pos h140] at hF
                  refine zw_iconst C (v := 0) dX4_scale_121 (by decide) ?_
                  subst hF; exact kx
                · rw [if_neg h140] at hF
                  refine zw_iload_n C dX4_scale_84 1 rfl rfl ?_
                  refine zw_iconst C (v := 2) dX4_scale_85 (by decide) ?_
                  refine zw_bipush C (v := 6) dX4_scale_86 (by decide) ?_
                  refine zw_scalli C kvX4_84 (kX4_in rfl) ⟨rfl, rfl, ⟨by decide, by decide⟩, by decide, by decide⟩ (As := [.int p1, .int 2, .int 6]) (rest := []) rfl rfl (Nat.le_of_ble_eq_true rfl) dX4_scale_88 ?_
                  refine zw_if_eq C 103 dX4_scale_91 (by decide) (fun h141 => ?_) (fun h141 => ?_)
                  · rw [if_pos h141] at hF
                    refine zw_iload_n C dX4_scale_103 1 rfl rfl ?_
                    refine zw_bipush C (v := 9) dX4_scale_104 (by decide) ?_
                    refine zw_icmp_ne C 117 dX4_scale_106 (by decide) (fun h142 => ?_) (fun h142 => ?_)
                    · rw [if_neg h142] at hF
                      refine zw_iconst C (v := 1) dX4_scale_117 (by decide) ?_
                      refine zw_goto C 122 dX4_scale_118 (by decide) ?_
                      subst hF; exact kx
                    · rw [if_pos h142] at hF
                      refine zw_aload_n C dX4_scale_109 0 rfl rfl ?_
                      refine zw_iload_n C dX4_scale_110 3 rfl rfl ?_
                      refine zw_calli C kvX4_91 (kX4_isThing rfl) ⟨rfl, rfl, ⟨by decide, by decide⟩, by decide, by decide⟩ FX4 0 (As := [.int p3]) (rest := []) rfl rfl rfl (Nat.le_of_ble_eq_true rfl) dX4_scale_111 ?_
                      refine zw_if_eq C 121 dX4_scale_114 (by decide) (fun h143 => ?_) (fun h143 => ?_)
                      · rw [if_pos h143] at hF
                        refine zw_iconst C (v := 0) dX4_scale_121 (by decide) ?_
                        subst hF; exact kx
                      · rw [if_neg h143] at hF
                        refine zw_iconst C (v := 1) dX4_scale_117 (by decide) ?_
                        refine zw_goto C 122 dX4_scale_118 (by decide) ?_
                        subst hF; exact kx
                  · rw [if_neg h141] at hF
                    refine zw_aload_n C dX4_scale_94 0 rfl rfl ?_
                    refine zw_iconst C (v := 0) dX4_scale_95 (by decide) ?_
                    refine zw_iload_n C dX4_scale_96 3 rfl rfl ?_
                    refine zw_calli C kvX4_153 (kX4_is (vp_in_iff.mpr ⟨by decide, by decide⟩) rfl) ⟨rfl, rfl, ⟨by decide, by decide⟩, by decide, by decide⟩ FX4 0 (As := [.int 0, .int p3]) (rest := []) rfl rfl rfl (Nat.le_of_ble_eq_true rfl) dX4_scale_97 ?_
                    refine zw_if_eq C 121 dX4_scale_100 (by decide) (fun h144 => ?_) (fun h144 => ?_)
                    · rw [if_pos h144] at hF
                      refine zw_iconst C (v := 0) dX4_scale_121 (by decide) ?_
                      subst hF; exact kx
                    · rw [if_neg h144] at hF
                      refine zw_iload_n C dX4_scale_103 1 rfl rfl ?_
                      refine zw_bipush C (v := 9) dX4_scale_104 (by decide) ?_
                      refine zw_icmp_ne C 117 dX4_scale_106 (by decide) (fun h145 => ?_) (fun h145 => ?_)
                      · rw [if_neg h145] at hF
                        refine zw_iconst C (v := 1) dX4_scale_117 (by decide) ?_
                        refine zw_goto C 122 dX4_scale_118 (by decide) ?_
                        subst hF; exact kx
                      · rw [if_pos h145] at hF
                        refine zw_aload_n C dX4_scale_109 0 rfl rfl ?_
                        refine zw_iload_n C dX4_scale_110 3 rfl rfl ?_
                        refine zw_calli C kvX4_91 (kX4_isThing rfl) ⟨rfl, rfl, ⟨by decide, by decide⟩, by decide, by decide⟩ FX4 0 (As := [.int p3]) (rest := []) rfl rfl rfl (Nat.le_of_ble_eq_true rfl) dX4_scale_111 ?_
                        refine zw_if_eq C 121 dX4_scale_114 (by decide) (fun h146 => ?_) (fun h146 => ?_)
                        · rw [if_pos h146] at hF
                          refine zw_iconst C (v := 0) dX4_scale_121 (by decide) ?_
                          subst hF; exact kx
                        · rw [if_neg h146] at hF
                          refine zw_iconst C (v := 1) dX4_scale_117 (by decide) ?_
                          refine zw_goto C 122 dX4_scale_118 (by decide) ?_
                          subst hF; exact kx
          · rw [if_pos h131] at hF
            refine zw_iload_n C dX4_scale_48 1 rfl rfl ?_
            refine zw_bipush C (v := 7) dX4_scale_49 (by decide) ?_
            refine zw_icmp_eq C 60 dX4_scale_51 (by decide) (fun h147 => ?_) (fun h147 => ?_)
            · rw [if_pos h147] at hF
              refine zw_aload_n C dX4_scale_60 0 rfl rfl ?_
              refine zw_iconst C (v := 0) dX4_scale_61 (by decide) ?_
              refine zw_iload_n C dX4_scale_62 2 rfl rfl ?_
              refine zw_calli C kvX4_153 (kX4_is (vp_in_iff.mpr ⟨by decide, by decide⟩) rfl) ⟨rfl, rfl, ⟨by decide, by decide⟩, by decide, by decide⟩ FX4 0 (As := [.int 0, .int p2]) (rest := []) rfl rfl rfl (Nat.le_of_ble_eq_true rfl) dX4_scale_63 ?_
              refine zw_if_eq C 121 dX4_scale_66 (by decide) (fun h148 => ?_) (fun h148 => ?_)
              · rw [if_pos h148] at hF
                refine zw_iconst C (v := 0) dX4_scale_121 (by decide) ?_
                subst hF; exact kx
              · rw [if_neg h148] at hF
                refine zw_iload_n C dX4_scale_69 1 rfl rfl ?_
                refine zw_bipush C (v := 6) dX4_scale_70 (by decide) ?_
                refine zw_icmp_ne C 84 dX4_scale_72 (by decide) (fun h149 => ?_) (fun h149 => ?_)
                · rw [if_neg h149] at hF
                  refine zw_iload_n C dX4_scale_84 1 rfl rfl ?_
                  refine zw_iconst C (v := 2) dX4_scale_85 (by decide) ?_
                  refine zw_bipush C (v := 6) dX4_scale_86 (by decide) ?_
                  refine zw_scalli C kvX4_84 (kX4_in rfl) ⟨rfl, rfl, ⟨by decide, by decide⟩, by decide, by decide⟩ (As := [.int p1, .int 2, .int 6]) (rest := []) rfl rfl (Nat.le_of_ble_eq_true rfl) dX4_scale_88 ?_
                  refine zw_if_eq C 103 dX4_scale_91 (by decide) (fun h150 => ?_) (fun h150 => ?_)
                  · rw [if_pos h150] at hF
                    refine zw_iload_n C dX4_scale_103 1 rfl rfl ?_
                    refine zw_bipush C (v := 9) dX4_scale_104 (by decide) ?_
                    refine zw_icmp_ne C 117 dX4_scale_106 (by decide) (fun h151 => ?_) (fun h151 => ?_)
                    · rw [if_neg h151] at hF
                      refine zw_iconst C (v := 1) dX4_scale_117 (by decide) ?_
                      refine zw_goto C 122 dX4_scale_118 (by decide) ?_
                      subst hF; exact kx
                    · rw [if_pos h151] at hF
                      refine zw_aload_n C dX4_scale_109 0 rfl rfl ?_
                      refine zw_iload_n C dX4_scale_110 3 rfl rfl ?_
                      refine zw_calli C kvX4_91 (kX4_isThing rfl) ⟨rfl, rfl, ⟨by decide, by decide⟩, by decide, by decide⟩ FX4 0 (As := [.int p3]) (rest := []) rfl rfl rfl (Nat.le_of_ble_eq_true rfl) dX4_scale_111 ?_
                      refine zw_if_eq C 121 dX4_scale_114 (by decide) (fun h152 => ?_) (fun h152 => ?_)
                      · rw [if_pos h152] at hF
                        refine zw_iconst C (v := 0) dX4_scale_121 (by decide) ?_
                        subst hF; exact kx
                      · rw [if_neg h152] at hF
                        refine zw_iconst C (v := 1) dX4_scale_117 (by decide) ?_
                        refine zw_goto C 122 dX4_scale_118 (by decide) ?_
                        subst hF; exact kx
                  · rw [if_neg h150] at hF
                    refine zw_aload_n C dX4_scale_94 0 rfl rfl ?_
                    refine zw_iconst C (v := 0) dX4_scale_95 (by decide) ?_
                    refine zw_iload_n C dX4_scale_96 3 rfl rfl ?_
                    refine zw_calli C kvX4_153 (kX4_is (vp_in_iff.mpr ⟨by decide, by decide⟩) rfl) ⟨rfl, rfl, ⟨by decide, by decide⟩, by decide, by decide⟩ FX4 0 (As := [.int 0, .int p3]) (rest := []) rfl rfl rfl (Nat.le_of_ble_eq_true rfl) dX4_scale_97 ?_
                    refine zw_if_eq C 121 dX4_scale_100 (by decide) (fun h153 => ?_) (fun h153 => ?_)
                    · rw [if_pos h153] at hF
                      refine zw_iconst C (v := 0) dX4_scale_121 (by decide) ?_
                      subst hF; exact kx
                    · rw [if_neg h153] at hF
                      refine zw_iload_n C dX4_scale_103 1 rfl rfl ?_
                      refine zw_bipush C (v := 9) dX4_scale_104 (by decide) ?_
                      refine zw_icmp_ne C 117 dX4_scale_106 (by decide) (fun h154 => ?_) (fun h154 => ?_)
                      · rw [if_neg h154] at hF
                        refine zw_iconst C (v := 1) dX4_scale_117 (by decide) ?_
                        refine zw_goto C 122 dX4_scale_118 (by decide) ?_
                        subst hF; exact kx
                      · rw [if_pos h154] at hF
                        refine zw_aload_n C dX4_scale_109 0 rfl rfl ?_
                        refine zw_iload_n C dX4_scale_110 3 rfl rfl ?_
                        refine zw_calli C kvX4_91 (kX4_isThing rfl) ⟨rfl, rfl, ⟨by decide, by decide⟩, by decide, by decide⟩ FX4 0 (As := [.int p3]) (rest := []) rfl rfl rfl (Nat.le_of_ble_eq_true rfl) dX4_scale_111 ?_
                        refine zw_if_eq C 121 dX4_scale_114 (by decide) (fun h155 => ?_) (fun h155 => ?_)
                        · rw [if_pos h155] at hF
                          refine zw_iconst C (v := 0) dX4_scale_121 (by decide) ?_
                          subst hF; exact kx
                        · rw [if_neg h155] at hF
                          refine zw_iconst C (v := 1) dX4_scale_117 (by decide) ?_
                          refine zw_goto C 122 dX4_scale_118 (by decide) ?_
                          subst hF; exact kx
                · rw [if_pos h149] at hF
                  refine zw_aload_n C dX4_scale_75 0 rfl rfl ?_
                  refine zw_iconst C (v := 1) dX4_scale_76 (by decide) ?_
                  refine zw_iload_n C dX4_scale_77 2 rfl rfl ?_
                  refine zw_calli C kvX4_153 (kX4_is (vp_in_iff.mpr ⟨by decide, by decide⟩) rfl) ⟨rfl, rfl, ⟨by decide, by decide⟩, by decide, by decide⟩ FX4 0 (As := [.int 1, .int p2]) (rest := []) rfl rfl rfl (Nat.le_of_ble_eq_true rfl) dX4_scale_78 ?_
                  refine zw_if_eq C 121 dX4_scale_81 (by decide) (fun h156 => ?_) (fun h156 => ?_)
                  · rw [if_pos h156] at hF
                    refine zw_iconst C (v := 0) dX4_scale_121 (by decide) ?_
                    subst hF; exact kx
                  · rw [if_neg h156] at hF
                    refine zw_iload_n C dX4_scale_84 1 rfl rfl ?_
                    refine zw_iconst C (v := 2) dX4_scale_85 (by decide) ?_
                    refine zw_bipush C (v := 6) dX4_scale_86 (by decide) ?_
                    refine zw_scalli C kvX4_84 (kX4_in rfl) ⟨rfl, rfl, ⟨by decide, by decide⟩, by decide, by decide⟩ (As := [.int p1, .int 2, .int 6]) (rest := []) rfl rfl (Nat.le_of_ble_eq_true rfl) dX4_scale_88 ?_
                    refine zw_if_eq C 103 dX4_scale_91 (by decide) (fun h157 => ?_) (fun h157 => ?_)
                    · rw [if_pos h157] at hF
                      refine zw_iload_n C dX4_scale_103 1 rfl rfl ?_
                      refine zw_bipush C (v := 9) dX4_scale_104 (by decide) ?_
                      refine zw_icmp_ne C 117 dX4_scale_106 (by decide) (fun h158 => ?_) (fun h158 => ?_)
                      · rw [if_neg h158] at hF
                        refine zw_iconst C (v := 1) dX4_scale_117 (by decide) ?_
                        refine zw_goto C 122 dX4_scale_118 (by decide) ?_
                        subst hF; exact kx
                      · rw [if_pos h158] at hF
                        refine zw_aload_n C dX4_scale_109 0 rfl rfl ?_
                        refine zw_iload_n C dX4_scale_110 3 rfl rfl ?_
                        refine zw_calli C kvX4_91 (kX4_isThing rfl) ⟨rfl, rfl, ⟨by decide, by decide⟩, by decide, by decide⟩ FX4 0 (As := [.int p3]) (rest := []) rfl rfl rfl (Nat.le_of_ble_eq_true rfl) dX4_scale_111 ?_
                        refine zw_if_eq C 121 dX4_scale_114 (by decide) (fun h159 => ?_) (fun h159 => ?_)
                        · rw [if_pos h159] at hF
                          refine zw_iconst C (v := 0) dX4_scale_121 (by decide) ?_
                          subst hF; exact kx
                        · rw [if_neg h159] at hF
                          refine zw_iconst C (v := 1) dX4_scale_117 (by decide) ?_
                          refine zw_goto C 122 dX4_scale_118 (by decide) ?_
                          subst hF; exact kx
                    · rw [if_neg h157] at hF
                      refine zw_aload_n C dX4_scale_94 0 rfl rfl ?_
                      refine zw_iconst C (v := 0) dX4_scale_95 (by decide) ?_
                      refine zw_iload_n C dX4_scale_96 3 rfl rfl ?_
                      refine zw_calli C kvX4_153 (kX4_is (vp_in_iff.mpr ⟨by decide, by decide⟩) rfl) ⟨rfl, rfl, ⟨by decide, by decide⟩, by decide, by decide⟩ FX4 0 (As := [.int 0, .int p3]) (rest := []) rfl rfl rfl (Nat.le_of_ble_eq_true rfl) dX4_scale_97 ?_
                      refine zw_if_eq C 121 dX4_scale_100 (by decide) (fun h160 => ?_) (fun h160 => ?_)
                      · rw [if_pos h160] at hF
                        refine zw_iconst C (v := 0) dX4_scale_121 (by decide) ?_
                        subst hF; exact kx
                      · rw [if_neg h160] at hF
                        refine zw_iload_n C dX4_scale_103 1 rfl rfl ?_
                        refine zw_bipush C (v := 9) dX4_scale_104 (by decide) ?_
                        refine zw_icmp_ne C 117 dX4_scale_106 (by decide) (fun h161 => ?_) (fun h161 => ?_)
                        · rw [if_neg h161] at hF
                          refine zw_iconst C (v := 1) dX4_scale_117 (by decide) ?_
                          refine zw_goto C 122 dX4_scale_118 (by decide) ?_
                          subst hF; exact kx
                        · rw [if_pos h161] at hF
                          refine zw_aload_n C dX4_scale_109 0 rfl rfl ?_
                          refine zw_iload_n C dX4_scale_110 3 rfl rfl ?_
                          refine zw_calli C kvX4_91 (kX4_isThing rfl) ⟨rfl, rfl, ⟨by decide, by decide⟩, by decide, by decide⟩ FX4 0 (As := [.int p3]) (rest := []) rfl rfl rfl (Nat.le_of_ble_eq_true rfl) dX4_scale_111 ?_
                          refine zw_if_eq C 121 dX4_scale_114 (by decide) (fun h162 => ?_) (fun h162 => ?_)
                          · rw [if_pos h162] at hF
                            refine zw_iconst C (v := 0) dX4_scale_121 (by decide) ?_
                            subst hF; exact kx
                          · rw [if_neg h162] at hF
                            refine zw_iconst C (v := 1) dX4_scale_117 (by decide) ?_
                            refine zw_goto C 122 dX4_scale_118 (by decide) ?_
                            subst hF; exact kx
            · rw [if_neg h147] at hF
              refine zw_iload_n C dX4_scale_54 1 rfl rfl ?_
              refine zw_bipush C (v := 9) dX4_scale_55 (by decide) ?_
              refine zw_icmp_ne C 69 dX4_scale_57 (by decide) (fun h163 => ?_) (fun h163 => ?_)
              · rw [if_neg h163] at hF
                refine zw_iload_n C dX4_scale_69 1 rfl rfl ?_
                refine zw_bipush C (v := 6) dX4_scale_70 (by decide) ?_
                refine zw_icmp_ne C 84 dX4_scale_72 (by decide) (fun h164 => ?_) (fun h164 => ?_)
                · rw [if_neg h164] at hF
                  refine zw_iload_n C dX4_scale_84 1 rfl rfl ?_
                  refine zw_iconst C (v := 2) dX4_scale_85 (by decide) ?_
                  refine zw_bipush C (v := 6) dX4_scale_86 (by decide) ?_
                  refine zw_scalli C kvX4_84 (kX4_in rfl) ⟨rfl, rfl, ⟨by decide, by decide⟩, by decide, by decide⟩ (As := [.int p1, .int 2, .int 6]) (rest := []) rfl rfl (Nat.le_of_ble_eq_true rfl) dX4_scale_88 ?_
                  refine zw_if_eq C 103 dX4_scale_91 (by decide) (fun h165 => ?_) (fun h165 => ?_)
                  · rw [if_pos h165] at hF
                    refine zw_iload_n C dX4_scale_103 1 rfl rfl ?_
                    refine zw_bipush C (v := 9) dX4_scale_104 (by decide) ?_
                    refine zw_icmp_ne C 117 dX4_scale_106 (by decide) (fun h166 => ?_) (fun h166 => ?_)
                    · rw [if_neg h166] at hF
                      refine zw_iconst C (v := 1) dX4_scale_117 (by decide) ?_
                      refine zw_goto C 122 dX4_scale_118 (by decide) ?_
                      subst hF; exact kx
                    · rw [if_pos h166] at hF
                      refine zw_aload_n C dX4_scale_109 0 rfl rfl ?_
                      refine zw_iload_n C dX4_scale_110 3 rfl rfl ?_
                      refine zw_calli C kvX4_91 (kX4_isThing rfl) ⟨rfl, rfl, ⟨by decide, by decide⟩, by decide, by decide⟩ FX4 0 (As := [.int p3]) (rest := []) rfl rfl rfl (Nat.le_of_ble_eq_true rfl) dX4_scale_111 ?_
                      refine zw_if_eq C 121 dX4_scale_114 (by decide) (fun h167 => ?_) (fun h167 => ?_)
                      · rw [if_pos h167] at hF
                        refine zw_iconst C (v := 0) dX4_scale_121 (by decide) ?_
                        subst hF; exact kx
                      · rw [if_neg h167] at hF
                        refine zw_iconst C (v := 1) dX4_scale_117 (by decide) ?_
                        refine zw_goto C 122 dX4_scale_118 (by decide) ?_
                        subst hF; exact kx
                  · rw [if_neg h165] at hF
                    refine zw_aload_n C dX4_scale_94 0 rfl rfl ?_
                    refine zw_iconst C (v := 0) dX4_scale_95 (by decide) ?_
                    refine zw_iload_n C dX4_scale_96 3 rfl rfl ?_
                    refine zw_calli C kvX4_153 (kX4_is (vp_in_iff.mpr ⟨by decide, by decide⟩) rfl) ⟨rfl, rfl, ⟨by decide, by decide⟩, by decide, by decide⟩ FX4 0 (As := [.int 0, .int p3]) (rest := []) rfl rfl rfl (Nat.le_of_ble_eq_true rfl) dX4_scale_97 ?_
                    refine zw_if_eq C 121 dX4_scale_100 (by decide) (fun h168 => ?_) (fun h168 => ?_)
                    · rw [if_pos h168] at hF
                      refine zw_iconst C (v := 0) dX4_scale_121 (by decide) ?_
                      subst hF; exact kx
                    · rw [if_neg h168] at hF
                      refine zw_iload_n C dX4_scale_103 1 rfl rfl ?_
                      refine zw_bipush C (v := 9) dX4_scale_104 (by decide) ?_
                      refine zw_icmp_ne C 117 dX4_scale_106 (by decide) (fun h169 => ?_) (fun h169 => ?_)
                      · rw [if_neg h169] at hF
                        refine zw_iconst C (v := 1) dX4_scale_117 (by decide) ?_
                        refine zw_goto C 122 dX4_scale_118 (by decide) ?_
                        subst hF; exact kx
                      · rw [if_pos h169] at hF
                        refine zw_aload_n C dX4_scale_109 0 rfl rfl ?_
                        refine zw_iload_n C dX4_scale_110 3 rfl rfl ?_
                        refine zw_calli C kvX4_91 (kX4_isThing rfl) ⟨rfl, rfl, ⟨by decide, by decide⟩, by decide, by decide⟩ FX4 0 (As := [.int p3]) (rest := []) rfl rfl rfl (Nat.le_of_ble_eq_true rfl) dX4_scale_111 ?_
                        refine zw_if_eq C 121 dX4_scale_114 (by decide) (fun h170 => ?_) (fun h170 => ?_)
                        · rw [if_pos h170] at hF
                          refine zw_iconst C (v := 0) dX4_scale_121 (by decide) ?_
                          subst hF; exact kx
                        · rw [if_neg h170] at hF
                          refine zw_iconst C (v := 1) dX4_scale_117 (by decide) ?_
                          refine zw_goto C 122 dX4_scale_118 (by decide) ?_
                          subst hF; exact kx
                · rw [if_pos h164] at hF
                  refine zw_aload_n C dX4_scale_75 0 rfl rfl ?_
                  refine zw_iconst C (v := 1) dX4_scale_76 (by decide) ?_
                  refine zw_iload_n C dX4_scale_77 2 rfl rfl ?_
                  refine zw_calli C kvX4_153 (kX4_is (vp_in_iff.mpr ⟨by decide, by decide⟩) rfl) ⟨rfl, rfl, ⟨by decide, by decide⟩, by decide, by decide⟩ FX4 0 (As := [.int 1, .int p2]) (rest := []) rfl rfl rfl (Nat.le_of_ble_eq_true rfl) dX4_scale_78 ?_
                  refine zw_if_eq C 121 dX4_scale_81 (by decide) (fun h171 => ?_) (fun h171 => ?_)
                  · rw [if_pos h171] at hF
                    refine zw_iconst C (v := 0) dX4_scale_121 (by decide) ?_
                    subst hF; exact kx
                  · rw [if_neg h171] at hF
                    refine zw_iload_n C dX4_scale_84 1 rfl rfl ?_
                    refine zw_iconst C (v := 2) dX4_scale_85 (by decide) ?_
                    refine zw_bipush C (v := 6) dX4_scale_86 (by decide) ?_
                    refine zw_scalli C kvX4_84 (kX4_in rfl) ⟨rfl, rfl, ⟨by decide, by decide⟩, by decide, by decide⟩ (As := [.int p1, .int 2, .int 6]) (rest := []) rfl rfl (Nat.le_of_ble_eq_true rfl) dX4_scale_88 ?_
                    refine zw_if_eq C 103 dX4_scale_91 (by decide) (fun h172 => ?_) (fun h172 => ?_)
                    · rw [if_pos h172] at hF
                      refine zw_iload_n C dX4_scale_103 1 rfl rfl ?_
                      refine zw_bipush C (v := 9) dX4_scale_104 (by decide) ?_
                      refine zw_icmp_ne C 117 dX4_scale_106 (by decide) (fun h173 => ?_) (fun h173 => ?_)
                      · rw [if_neg h173] at hF
                        refine zw_iconst C (v := 1) dX4_scale_117 (by decide) ?_
                        refine zw_goto C 122 dX4_scale_118 (by decide) ?_
                        subst hF; exact kx
                      · rw [if_pos h173] at hF
                        refine zw_aload_n C dX4_scale_109 0 rfl rfl ?_
                        refine zw_iload_n C dX4_scale_110 3 rfl rfl ?_
                        refine zw_calli C kvX4_91 (kX4_isThing rfl) ⟨rfl, rfl, ⟨by decide, by decide⟩, by decide, by decide⟩ FX4 0 (As := [.int p3]) (rest := []) rfl rfl rfl (Nat.le_of_ble_eq_true rfl) dX4_scale_111 ?_
                        refine zw_if_eq C 121 dX4_scale_114 (by decide) (fun h174 => ?_) (fun h174 => ?_)
                        · rw [if_pos h174] at hF
                          refine zw_iconst C (v := 0) dX4_scale_121 (by decide) ?_
                          subst hF; exact kx
                        · rw [if_neg h174] at hF
                          refine zw_iconst C (v := 1) dX4_scale_117 (by decide) ?_
                          refine zw_goto C 122 dX4_scale_118 (by decide) ?_
                          subst hF; exact kx
                    · rw [if_neg h172] at hF
                      refine zw_aload_n C dX4_scale_94 0 rfl rfl ?_
                      refine zw_iconst C (v := 0) dX4_scale_95 (by decide) ?_
                      refine zw_iload_n C dX4_scale_96 3 rfl rfl ?_
                      refine zw_calli C kvX4_153 (kX4_is (vp_in_iff.mpr ⟨by decide, by decide⟩) rfl) ⟨rfl, rfl, ⟨by decide, by decide⟩, by decide, by decide⟩ FX4 0 (As := [.int 0, .int p3]) (rest := []) rfl rfl rfl (Nat.le_of_ble_eq_true rfl) dX4_scale_97 ?_
                      refine zw_if_eq C 121 dX4_scale_100 (by decide) (fun h175 => ?_) (fun h175 => ?_)
                      · rw [if_pos h175] at hF
                        refine zw_iconst C (v := 0) dX4_scale_121 (by decide) ?_
                        subst hF; exact kx
                      · rw [if_neg h175] at hF
                        refine zw_iload_n C dX4_scale_103 1 rfl rfl ?_
                        refine zw_bipush C (v := 9) dX4_scale_104 (by decide) ?_
                        refine zw_icmp_ne C 117 dX4_scale_106 (by decide) (fun h176 => ?_) (fun h176 => ?_)
                        · rw [if_neg h176] at hF
                          refine zw_iconst C (v := 1) dX4_scale_117 (by decide) ?_
                          refine zw_goto C 122 dX4_scale_118 (by decide) ?_
                          subst hF; exact kx
                        · rw [if_pos h176] at hF
                          refine zw_aload_n C dX4_scale_109 0 rfl rfl ?_
                          refine zw_iload_n C dX4_scale_110 3 rfl rfl ?_
                          refine zw_calli C kvX4_91 (kX4_isThing rfl) ⟨rfl, rfl, ⟨by decide, by decide⟩, by decide, by decide⟩ FX4 0 (As := [.int p3]) (rest := []) rfl rfl rfl (Nat.le_of_ble_eq_true rfl) dX4_scale_111 ?_
                          refine zw_if_eq C 121 dX4_scale_114 (by decide) (fun h177 => ?_) (fun h177 => ?_)
                          · rw [if_pos h177] at hF
                            refine zw_iconst C (v := 0) dX4_scale_121 (by decide) ?_
                            subst hF; exact kx
                          · rw [if_neg h177] at hF
                            refine zw_iconst C (v := 1) dX4_scale_117 (by decide) ?_
                            refine zw_goto C 122 dX4_scale_118 (by decide) ?_
                            subst hF; exact kx
              · rw [if_pos h163] at hF
                refine zw_aload_n C dX4_scale_60 0 rfl rfl ?_
                refine zw_iconst C (v := 0) dX4_scale_61 (by decide) ?_
                refine zw_iload_n C dX4_scale_62 2 rfl rfl ?_
                refine zw_calli C kvX4_153 (kX4_is (vp_in_iff.mpr ⟨by decide, by decide⟩) rfl) ⟨rfl, rfl, ⟨by decide, by decide⟩, by decide, by decide⟩ FX4 0 (As := [.int 0, .int p2]) (rest := []) rfl rfl rfl (Nat.le_of_ble_eq_true rfl) dX4_scale_63 ?_
                refine zw_if_eq C 121 dX4_scale_66 (by decide) (fun h178 => ?_) (fun h178 => ?_)
                · rw [if_pos h178] at hF
                  refine zw_iconst C (v := 0) dX4_scale_121 (by decide) ?_
                  subst hF; exact kx
                · rw [if_neg h178] at hF
                  refine zw_iload_n C dX4_scale_69 1 rfl rfl ?_
                  refine zw_bipush C (v := 6) dX4_scale_70 (by decide) ?_
                  refine zw_icmp_ne C 84 dX4_scale_72 (by decide) (fun h179 => ?_) (fun h179 => ?_)
                  · rw [if_neg h179] at hF
                    refine zw_iload_n C dX4_scale_84 1 rfl rfl ?_
                    refine zw_iconst C (v := 2) dX4_scale_85 (by decide) ?_
                    refine zw_bipush C (v := 6) dX4_scale_86 (by decide) ?_
                    refine zw_scalli C kvX4_84 (kX4_in rfl) ⟨rfl, rfl, ⟨by decide, by decide⟩, by decide, by decide⟩ (As := [.int p1, .int 2, .int 6]) (rest := []) rfl rfl (Nat.le_of_ble_eq_true rfl) dX4_scale_88 ?_
                    refine zw_if_eq C 103 dX4_scale_91 (by decide) (fun h180 => ?_) (fun h180 => ?_)
                    · rw [if_pos h180] at hF
                      refine zw_iload_n C dX4_scale_103 1 rfl rfl ?_
                      refine zw_bipush C (v := 9) dX4_scale_104 (by decide) ?_
                      refine zw_icmp_ne C 117 dX4_scale_106 (by decide) (fun h181 => ?_) (fun h181 => ?_)
                      · rw [if_neg h181] at hF
                        refine zw_iconst C (v := 1) dX4_scale_117 (by decide) ?_
                        refine zw_goto C 122 dX4_scale_118 (by decide) ?_
                        subst hF; exact kx
                      · rw [if_pos h181] at hF
                        refine zw_aload_n C dX4_scale_109 0 rfl rfl ?_
                        refine zw_iload_n C dX4_scale_110 3 rfl rfl ?_
                        refine zw_calli C kvX4_91 (kX4_isThing rfl) ⟨rfl, rfl, ⟨by decide, by decide⟩, by decide, by decide⟩ FX4 0 (As := [.int p3]) (rest := []) rfl rfl rfl (Nat.le_of_ble_eq_true rfl) dX4_scale_111 ?_
                        refine zw_if_eq C 121 dX4_scale_114 (by decide) (fun h182 => ?_) (fun h182 => ?_)
                        · rw [if_pos h182] at hF
                          refine zw_iconst C (v := 0) dX4_scale_121 (by decide) ?_
                          subst hF; exact kx
                        · rw [if_neg h182] at hF
                          refine zw_iconst C (v := 1) dX4_scale_117 (by decide) ?_
                          refine zw_goto C 122 dX4_scale_118 (by decide) ?_
                          subst hF; exact kx
                    · rw [if_neg h180] at hF
                      refine zw_aload_n C dX4_scale_94 0 rfl rfl ?_
                      refine zw_iconst C (v := 0) dX4_scale_95 (by decide) ?_
                      refine zw_iload_n C dX4_scale_96 3 rfl rfl ?_
                      refine zw_calli C kvX4_153 (kX4_is (vp_in_iff.mpr ⟨by decide, by decide⟩) rfl) ⟨rfl, rfl, ⟨by decide, by decide⟩, by decide, by decide⟩ FX4 0 (As := [.int 0, .int p3]) (rest := []) rfl rfl rfl (Nat.le_of_ble_eq_true rfl) dX4_scale_97 ?_
                      refine zw_if_eq C 121 dX4_scale_100 (by decide) (fun h183 => ?_) (fun h183 => ?_)
                      · rw [if_pos h183] at hF
                        refine zw_iconst C (v := 0) dX4_scale_121 (by decide) ?_
                        subst hF; exact kx
                      · rw [if_neg h183] at hF
                        refine zw_iload_n C dX4_scale_103 1 rfl rfl ?_
                        refine zw_bipush C (v := 9) dX4_scale_104 (by decide) ?_
                        refine zw_icmp_ne C 117 dX4_scale_106 (by decide) (fun h184 => ?_) (fun h184 => ?_)
                        · rw [if_neg h184] at hF
                          refine zw_iconst C (v := 1) dX4_scale_117 (by decide) ?_
                          refine zw_goto C 122 dX4_scale_118 (by decide) ?_
                          subst hF; exact kx
                        · rw [if_pos h184] at hF
                          refine zw_aload_n C dX4_scale_109 0 rfl rfl ?_
                          refine zw_iload_n C dX4_scale_110 3 rfl rfl ?_
                          refine zw_calli C kvX4_91 (kX4_isThing rfl) ⟨rfl, rfl, ⟨by decide, by decide⟩, by decide, by decide⟩ FX4 0 (As := [.int p3]) (rest := []) rfl rfl rfl (Nat.le_of_ble_eq_true rfl) dX4_scale_111 ?_
                          refine zw_if_eq C 121 dX4_scale_114 (by decide) (fun h185 => ?_) (fun h185 => ?_)
                          · rw [if_pos h185] at hF
                            refine zw_iconst C (v := 0) dX4_scale_121 (by decide) ?_
                            subst hF; exact kx
                          · rw [if_neg h185] at hF
                            refine zw_iconst C (v := 1) dX4_scale_117 (by decide) ?_
                            refine zw_goto C 122 dX4_scale_118 (by decide) ?_
                            subst hF; exact kx
                  · rw [if_pos h179] at hF
                    refine zw_aload_n C dX4_scale_75 0 rfl rfl ?_
                    refine zw_iconst C (v := 1) dX4_scale_76 (by decide) ?_
                    refine zw_iload_n C dX4_scale_77 2 rfl rfl ?_
                    refine zw_calli C kvX4_153 (kX4_is (vp_in_iff.mpr ⟨by decide, by decide⟩) rfl) ⟨rfl, rfl, ⟨by decide, by decide⟩, by decide, by decide⟩ FX4 0 (As := [.int 1, .int p2]) (rest := []) rfl rfl rfl (Nat.le_of_ble_eq_true rfl) dX4_scale_78 ?_
                    refine zw_if_eq C 121 dX4_scale_81 (by decide) (fun h186 => ?_) (fun h186 => ?_)
                    · rw [if_pos h186] at hF
                      refine zw_iconst C (v := 0) dX4_scale_121 (by decide) ?_
                      subst hF; exact kx
                    · rw [if_neg h186] at hF
                      refine zw_iload_n C dX4_scale_84 1 rfl rfl ?_
                      refine zw_iconst C (v := 2) dX4_scale_85 (by decide) ?_
                      refine zw_bipush C (v := 6) dX4_scale_86 (by decide) ?_
                      refine zw_scalli C kvX4_84 (kX4_in rfl) ⟨rfl, rfl, ⟨by decide, by decide⟩, by decide, by decide⟩ (As := [.int p1, .int 2, .int 6]) (rest := []) rfl rfl (Nat.le_of_ble_eq_true rfl) dX4_scale_88 ?_
                      refine zw_if_eq C 103 dX4_scale_91 (by decide) (fun h187 => ?_) (fun h187 => ?_)
                      · rw [if_pos h187] at hF
                        refine zw_iload_n C dX4_scale_103 1 rfl rfl ?_
                        refine zw_bipush C (v := 9) dX4_scale_104 (by decide) ?_
                        refine zw_icmp_ne C 117 dX4_scale_106 (by decide) (fun h188 => ?_) (fun h188 => ?_)
                        · rw [if_neg h188] at hF
                          refine zw_iconst C (v := 1) dX4_scale_117 (by decide) ?_
                          refine zw_goto C 122 dX4_scale_118 (by decide) ?_
                          subst hF; exact kx
                        · rw [if_pos h188] at hF
                          refine zw_aload_n C dX4_scale_109 0 rfl rfl ?_
                          refine zw_iload_n C dX4_scale_110 3 rfl rfl ?_
                          refine zw_calli C kvX4_91 (kX4_isThing rfl) ⟨rfl, rfl, ⟨by decide, by decide⟩, by decide, by decide⟩ FX4 0 (As := [.int p3]) (rest := []) rfl rfl rfl (Nat.le_of_ble_eq_true rfl) dX4_scale_111 ?_
                          refine zw_if_eq C 121 dX4_scale_114 (by decide) (fun h189 => ?_) (fun h189 => ?_)
                          · rw [if_pos h189] at hF
                            refine zw_iconst C (v := 0) dX4_scale_121 (by decide) ?_
                            subst hF; exact kx
                          · rw [if_neg h189] at hF
                            refine zw_iconst C (v := 1) dX4_scale_117 (by decide) ?_
                            refine zw_goto C 122 dX4_scale_118 (by decide) ?_
                            subst hF; exact kx
                      · rw [if_neg h187] at hF
                        refine zw_aload_n C dX4_scale_94 0 rfl rfl ?_
                        refine zw_iconst C (v := 0) dX4_scale_95 (by decide) ?_
                        refine zw_iload_n C dX4_scale_96 3 rfl rfl ?_
                        refine zw_calli C kvX4_153 (kX4_is (vp_in_iff.mpr ⟨by decide, by decide⟩) rfl) ⟨rfl, rfl, ⟨by decide, by decide⟩, by decide, by decide⟩ FX4 0 (As := [.int 0, .int p3]) (rest := []) rfl rfl rfl (Nat.le_of_ble_eq_true rfl) dX4_scale_97 ?_
                        refine zw_if_eq C 121 dX4_scale_100 (by decide) (fun h190 => ?_) (fun h190 => ?_)
                        · rw [if_pos h190] at hF
                          refine zw_iconst C (v := 0) dX4_scale_121 (by decide) ?_
                          subst hF; exact kx
                        · rw [if_neg h190] at hF
                          refine zw_iload_n C dX4_scale_103 1 rfl rfl ?_
                          refine zw_bipush C (v := 9) dX4_scale_104 (by decide) ?_
                          refine zw_icmp_ne C 117 dX4_scale_106 (by decide) (fun h191 => ?_) (fun h191 => ?_)
                          · rw [if_neg h191] at hF
                            refine zw_iconst C (v := 1) dX4_scale_117 (by decide) ?_
                            refine zw_goto C 122 dX4_scale_118 (by decide) ?_
                            subst hF; exact kx
                          · rw [if_pos h191] at hF
                            refine zw_aload_n C dX4_scale_109 0 rfl rfl ?_
                            refine zw_iload_n C dX4_scale_110 3 rfl rfl ?_
                            refine zw_calli C kvX4_91 (kX4_isThing rfl) ⟨rfl, rfl, ⟨by decide, by decide⟩, by decide, by decide⟩ FX4 0 (As := [.int p3]) (rest := []) rfl rfl rfl (Nat.le_of_ble_eq_true rfl) dX4_scale_111 ?_
                            refine zw_if_eq C 121 dX4_scale_114 (by decide) (fun h192 => ?_) (fun h192 => ?_)
                            · rw [if_pos h192] at hF
                              refine zw_iconst C (v := 0) dX4_scale_121 (by decide) ?_
                              subst hF; exact kx
                            · rw [if_neg h192] at hF
                              refine zw_iconst C (v := 1) dX4_scale_117 (by decide) ?_
                              refine zw_goto C 122 dX4_scale_118 (by decide) ?_
                              subst hF; exact kx
        · rw [if_pos h130] at hF
          refine zw_iload_n C dX4_scale_29 2 rfl rfl ?_
          refine zw_iconst C (v := 0) dX4_scale_30 (by decide) ?_
          refine zw_bipush C (v := 7) dX4_scale_31 (by decide) ?_
          refine zw_scalli C kvX4_84 (kX4_in rfl) ⟨rfl, rfl, ⟨by decide, by decide⟩, by decide, by decide⟩ (As := [.int p2, .int 0, .int 7]) (rest := []) rfl rfl (Nat.le_of_ble_eq_true rfl) dX4_scale_33 ?_
          refine zw_if_eq C 121 dX4_scale_36 (by decide) (fun h193 => ?_) (fun h193 => ?_)
          · rw [if_pos h193] at hF
            refine zw_iconst C (v := 0) dX4_scale_121 (by decide) ?_
            subst hF; exact kx
          · rw [if_neg h193] at hF
            refine zw_iload_n C dX4_scale_39 1 rfl rfl ?_
            refine zw_iconst C (v := 2) dX4_scale_40 (by decide) ?_
            refine zw_iconst C (v := 5) dX4_scale_41 (by decide) ?_
            refine zw_scalli C kvX4_84 (kX4_in rfl) ⟨rfl, rfl, ⟨by decide, by decide⟩, by decide, by decide⟩ (As := [.int p1, .int 2, .int 5]) (rest := []) rfl rfl (Nat.le_of_ble_eq_true rfl) dX4_scale_42 ?_
            refine zw_if_ne C 60 dX4_scale_45 (by decide) (fun h194 => ?_) (fun h194 => ?_)
            · rw [if_neg h194] at hF
              refine zw_aload_n C dX4_scale_60 0 rfl rfl ?_
              refine zw_iconst C (v := 0) dX4_scale_61 (by decide) ?_
              refine zw_iload_n C dX4_scale_62 2 rfl rfl ?_
              refine zw_calli C kvX4_153 (kX4_is (vp_in_iff.mpr ⟨by decide, by decide⟩) rfl) ⟨rfl, rfl, ⟨by decide, by decide⟩, by decide, by decide⟩ FX4 0 (As := [.int 0, .int p2]) (rest := []) rfl rfl rfl (Nat.le_of_ble_eq_true rfl) dX4_scale_63 ?_
              refine zw_if_eq C 121 dX4_scale_66 (by decide) (fun h195 => ?_) (fun h195 => ?_)
              · rw [if_pos h195] at hF
                refine zw_iconst C (v := 0) dX4_scale_121 (by decide) ?_
                subst hF; exact kx
              · rw [if_neg h195] at hF
                refine zw_iload_n C dX4_scale_69 1 rfl rfl ?_
                refine zw_bipush C (v := 6) dX4_scale_70 (by decide) ?_
                refine zw_icmp_ne C 84 dX4_scale_72 (by decide) (fun h196 => ?_) (fun h196 => ?_)
                · rw [if_neg h196] at hF
                  refine zw_iload_n C dX4_scale_84 1 rfl rfl ?_
                  refine zw_iconst C (v := 2) dX4_scale_85 (by decide) ?_
                  refine zw_bipush C (v := 6) dX4_scale_86 (by decide) ?_
                  refine zw_scalli C kvX4_84 (kX4_in rfl) ⟨rfl, rfl, ⟨by decide, by decide⟩, by decide, by decide⟩ (As := [.int p1, .int 2, .int 6]) (rest := []) rfl rfl (Nat.le_of_ble_eq_true rfl) dX4_scale_88 ?_
                  refine zw_if_eq C 103 dX4_scale_91 (by decide) (fun h197 => ?_) (fun h197 => ?_)
                  · rw [if_pos h197] at hF
                    refine zw_iload_n C dX4_scale_103 1 rfl rfl ?_
                    refine zw_bipush C (v := 9) dX4_scale_104 (by decide) ?_
                    refine zw_icmp_ne C 117 dX4_scale_106 (by decide) (fun h198 => ?_) (fun h198 => ?_)
                    · rw [if_neg h198] at hF
                      refine zw_iconst C (v := 1) dX4_scale_117 (by decide) ?_
                      refine zw_goto C 122 dX4_scale_118 (by decide) ?_
                      subst hF; exact kx
                    · rw [if_pos h198] at hF
                      refine zw_aload_n C dX4_scale_109 0 rfl rfl ?_
                      refine zw_iload_n C dX4_scale_110 3 rfl rfl ?_
                      refine zw_calli C kvX4_91 (kX4_isThing rfl) ⟨rfl, rfl, ⟨by decide, by decide⟩, by decide, by decide⟩ FX4 0 (As := [.int p3]) (rest := []) rfl rfl rfl (Nat.le_of_ble_eq_true rfl) dX4_scale_111 ?_
                      refine zw_if_eq C 121 dX4_scale_114 (by decide) (fun h199 => ?_) (fun h199 => ?_)
                      · rw [if_pos h199] at hF
                        refine zw_iconst C (v := 0) dX4_scale_121 (by decide) ?_
                        subst hF; exact kx
                      · rw [if_neg h199] at hF
                        refine zw_iconst C (v := 1) dX4_scale_117 (by decide) ?_
                        refine zw_goto C 122 dX4_scale_118 (by decide) ?_
                        subst hF; exact kx
                  · rw [if_neg h197] at hF
                    refine zw_aload_n C dX4_scale_94 0 rfl rfl ?_
                    refine zw_iconst C (v := 0) dX4_scale_95 (by decide) ?_
                    refine zw_iload_n C dX4_scale_96 3 rfl rfl ?_
                    refine zw_calli C kvX4_153 (kX4_is (vp_in_iff.mpr ⟨by decide, by decide⟩) rfl) ⟨rfl, rfl, ⟨by decide, by decide⟩, by decide, by decide⟩ FX4 0 (As := [.int 0, .int p3]) (rest := []) rfl rfl rfl (Nat.le_of_ble_eq_true rfl) dX4_scale_97 ?_
                    refine zw_if_eq C 121 dX4_scale_100 (by decide) (fun h200 => ?_) (fun h200 => ?_)
                    · rw [if_pos h200] at hF
                      refine zw_iconst C (v := 0) dX4_scale_121 (by decide) ?_
                      subst hF; exact kx
                    · rw [if_neg h200] at hF
                      refine zw_iload_n C dX4_scale_103 1 rfl rfl ?_
                      refine zw_bipush C (v := 9) dX4_scale_104 (by decide) ?_
                      refine zw_icmp_ne C 117 dX4_scale_106 (by decide) (fun h201 => ?_) (fun h201 => ?_)
                      · rw [if_neg h201] at hF
                        refine zw_iconst C (v := 1) dX4_scale_117 (by decide) ?_
                        refine zw_goto C 122 dX4_scale_118 (by decide) ?_
                        subst hF; exact kx
                      · rw [if_pos h201] at hF
                        refine zw_aload_n C dX4_scale_109 0 rfl rfl ?_
                        refine zw_iload_n C dX4_scale_110 3 rfl rfl ?_
                        refine zw_calli C kvX4_91 (kX4_isThing rfl) ⟨rfl, rfl, ⟨by decide, by decide⟩, by decide, by decide⟩ FX4 0 (As := [.int p3]) (rest := []) rfl rfl rfl (Nat.le_of_ble_eq_true rfl) dX4_scale_111 ?_
                        refine zw_if_eq C 121 dX4_scale_114 (by decide) (fun h202 => ?_) (fun h202 => ?_)
                        · rw [if_pos h202] at hF
                          refine zw_iconst C (v := 0) dX4_scale_121 (by decide) ?_
                          subst hF; exact kx
                        · rw [if_neg h202] at hF
                          refine zw_iconst C (v := 1) dX4_scale_117 (by decide) ?_
                          refine zw_goto C 122 dX4_scale_118 (by decide) ?_
                          subst hF; exact kx
                · rw [if_pos h196] at hF
                  refine zw_aload_n C dX4_scale_75 0 rfl rfl ?_
                  refine zw_iconst C (v := 1) dX4_scale_76 (by decide) ?_
                  refine zw_iload_n C dX4_scale_77 2 rfl rfl ?_
                  refine zw_calli C kvX4_153 (kX4_is (vp_in_iff.mpr ⟨by decide, by decide⟩) rfl) ⟨rfl, rfl, ⟨by decide, by decide⟩, by decide, by decide⟩ FX4 0 (As := [.int 1, .int p2]) (rest := []) rfl rfl rfl (Nat.le_of_ble_eq_true rfl) dX4_scale_78 ?_
                  refine zw_if_eq C 121 dX4_scale_81 (by decide) (fun h203 => ?_) (fun h203 => ?_)
                  · rw [if_pos h203] at hF
                    refine zw_iconst C (v := 0) dX4_scale_121 (by decide) ?_
                    subst hF; exact kx
                  · rw [if_neg h203] at hF
                    refine zw_iload_n C dX4_scale_84 1 rfl rfl ?_
                    refine zw_iconst C (v := 2) dX4_scale_85 (by decide) ?_
                    refine zw_bipush C (v := 6) dX4_scale_86 (by decide) ?_
                    refine zw_scalli C kvX4_84 (kX4_in rfl) ⟨rfl, rfl, ⟨by decide, by decide⟩, by decide, by decide⟩ (As := [.int p1, .int 2, .int 6]) (rest := []) rfl rfl (Nat.le_of_ble_eq_true rfl) dX4_scale_88 ?_
                    refine zw_if_eq C 103 dX4_scale_91 (by decide) (fun h204 => ?_) (fun h204 => ?_)
                    · rw [if_pos h204] at hF
                      refine zw_iload_n C dX4_scale_103 1 rfl rfl ?_
                      refine zw_bipush C (v := 9) dX4_scale_104 (by decide) ?_
                      refine zw_icmp_ne C 117 dX4_scale_106 (by decide) (fun h205 => ?_) (fun h205 => ?_)
                      · rw [if_neg h205] at hF
                        refine zw_iconst C (v := 1) dX4_scale_117 (by decide) ?_
                        refine zw_goto C 122 dX4_scale_118 (by decide) ?_
                        subst hF; exact kx
                      · rw [if_pos h205] at hF
                        refine zw_aload_n C dX4_scale_109 0 rfl rfl ?_
                        refine zw_iload_n C dX4_scale_110 3 rfl rfl ?_
                        refine zw_calli C kvX4_91 (kX4_isThing rfl) ⟨rfl, rfl, ⟨by decide, by decide⟩, by decide, by decide⟩ FX4 0 (As := [.int p3]) (rest := []) rfl rfl rfl (Nat.le_of_ble_eq_true rfl) dX4_scale_111 ?_
                        refine zw_if_eq C 121 dX4_scale_114 (by decide) (fun h206 => ?_) (fun h206 => ?_)
                        · rw [if_pos h206] at hF
                          refine zw_iconst C (v := 0) dX4_scale_121 (by decide) ?_
                          subst hF; exact kx
                        · rw [if_neg h206] at hF
                          refine zw_iconst C (v := 1) dX4_scale_117 (by decide) ?_
                          refine zw_goto C 122 dX4_scale_118 (by decide) ?_
                          subst hF; exact kx
                    · rw [if_neg h204] at hF
                      refine zw_aload_n C dX4_scale_94 0 rfl rfl ?_
                      refine zw_iconst C (v := 0) dX4_scale_95 (by decide) ?_
                      refine zw_iload_n C dX4_scale_96 3 rfl rfl ?_
                      refine zw_calli C kvX4_153 (kX4_is (vp_in_iff.mpr ⟨by decide, by decide⟩) rfl) ⟨rfl, rfl, ⟨by decide, by decide⟩, by decide, by decide⟩ FX4 0 (As := [.int 0, .int p3]) (rest := []) rfl rfl rfl (Nat.le_of_ble_eq_true rfl) dX4_scale_97 ?_
                      refine zw_if_eq C 121 dX4_scale_100 (by decide) (fun h207 => ?_) (fun h207 => ?_)
                      · rw [if_pos h207] at hF
                        refine zw_iconst C (v := 0) dX4_scale_121 (by decide) ?_
                        subst hF; exact kx
                      · rw [if_neg h207] at hF
                        refine zw_iload_n C dX4_scale_103 1 rfl rfl ?_
                        refine zw_bipush C (v := 9) dX4_scale_104 (by decide) ?_
                        refine zw_icmp_ne C 117 dX4_scale_106 (by decide) (fun h208 => ?_) (fun h208 => ?_)
                        · rw [if_neg h208] at hF
                          refine zw_iconst C (v := 1) dX4_scale_117 (by decide) ?_
                          refine zw_goto C 122 dX4_scale_118 (by decide) ?_
                          subst hF; exact kx
                        · rw [if_pos h208] at hF
                          refine zw_aload_n C dX4_scale_109 0 rfl rfl ?_
                          refine zw_iload_n C dX4_scale_110 3 rfl rfl ?_
                          refine zw_calli C kvX4_91 (kX4_isThing rfl) ⟨rfl, rfl, ⟨by decide, by decide⟩, by decide, by decide⟩ FX4 0 (As := [.int p3]) (rest := []) rfl rfl rfl (Nat.le_of_ble_eq_true rfl) dX4_scale_111 ?_
                          refine zw_if_eq C 121 dX4_scale_114 (by decide) (fun h209 => ?_) (fun h209 => ?_)
                          · rw [if_pos h209] at hF
                            refine zw_iconst C (v := 0) dX4_scale_121 (by decide) ?_
                            subst hF; exact kx
                          · rw [if_neg h209] at hF
                            refine zw_iconst C (v := 1) dX4_scale_117 (by decide) ?_
                            refine zw_goto C 122 dX4_scale_118 (by decide) ?_
                            subst hF; exact kx
            · rw [if_pos h194] at hF
              refine zw_iload_n C dX4_scale_48 1 rfl rfl ?_
              refine zw_bipush C (v := 7) dX4_scale_49 (by decide) ?_
              refine zw_icmp_eq C 60 dX4_scale_51 (by decide) (fun h210 => ?_) (fun h210 => ?_)
              · rw [if_pos h210] at hF
                refine zw_aload_n C dX4_scale_60 0 rfl rfl ?_
                refine zw_iconst C (v := 0) dX4_scale_61 (by decide) ?_
                refine zw_iload_n C dX4_scale_62 2 rfl rfl ?_
                refine zw_calli C kvX4_153 (kX4_is (vp_in_iff.mpr ⟨by decide, by decide⟩) rfl) ⟨rfl, rfl, ⟨by decide, by decide⟩, by decide, by decide⟩ FX4 0 (As := [.int 0, .int p2]) (rest := []) rfl rfl rfl (Nat.le_of_ble_eq_true rfl) dX4_scale_63 ?_
                refine zw_if_eq C 121 dX4_scale_66 (by decide) (fun h211 => ?_) (fun h211 => ?_)
                · rw [if_pos h211] at hF
                  refine zw_iconst C (v := 0) dX4_scale_121 (by decide) ?_
                  subst hF; exact kx
                · rw [if_neg h211] at hF
                  refine zw_iload_n C dX4_scale_69 1 rfl rfl ?_
                  refine zw_bipush C (v := 6) dX4_scale_70 (by decide) ?_
                  refine zw_icmp_ne C 84 dX4_scale_72 (by decide) (fun h212 => ?_) (fun h212 => ?_)
                  · rw [if_neg h212] at hF
                    refine zw_iload_n C dX4_scale_84 1 rfl rfl ?_
                    refine zw_iconst C (v := 2) dX4_scale_85 (by decide) ?_
                    refine zw_bipush C (v := 6) dX4_scale_86 (by decide) ?_
                    refine zw_scalli C kvX4_84 (kX4_in rfl) ⟨rfl, rfl, ⟨by decide, by decide⟩, by decide, by decide⟩ (As := [.int p1, .int 2, .int 6]) (rest := []) rfl rfl (Nat.le_of_ble_eq_true rfl) dX4_scale_88 ?_
                    refine zw_if_eq C 103 dX4_scale_91 (by decide) (fun h213 => ?_) (fun h213 => ?_)
                    · rw [if_pos h213] at hF
                      refine zw_iload_n C dX4_scale_103 1 rfl rfl ?_
                      refine zw_bipush C (v := 9) dX4_scale_104 (by decide) ?_
                      refine zw_icmp_ne C 117 dX4_scale_106 (by decide) (fun h214 => ?_) (fun h214 => ?_)
                      · rw [if_neg h214] at hF
                        refine zw_iconst C (v := 1) dX4_scale_117 (by decide) ?_
                        refine zw_goto C 122 dX4_scale_118 (by decide) ?_
                        subst hF; exact kx
                      · rw [if_pos h214] at hF
                        refine zw_aload_n C dX4_scale_109 0 rfl rfl ?_
                        refine zw_iload_n C dX4_scale_110 3 rfl rfl ?_
                        refine zw_calli C kvX4_91 (kX4_isThing rfl) ⟨rfl, rfl, ⟨by decide, by decide⟩, by decide, by decide⟩ FX4 0 (As := [.int p3]) (rest := []) rfl rfl rfl (Nat.le_of_ble_eq_true rfl) dX4_scale_111 ?_
                        refine zw_if_eq C 121 dX4_scale_114 (by decide) (fun h215 => ?_) (fun h215 => ?_)
                        · rw [if_pos h215] at hF
                          refine zw_iconst C (v := 0) dX4_scale_121 (by decide) ?_
                          subst hF; exact kx
                        · rw [if_neg h215] at hF
                          refine zw_iconst C (v := 1) dX4_scale_117 (by decide) ?_
                          refine zw_goto C 122 dX4_scale_118 (by decide) ?_
                          subst hF; exact kx
                    · rw [if_neg h213] at hF
                      refine zw_aload_n C dX4_scale_94 0 rfl rfl ?_
                      refine zw_iconst C (v := 0) dX4_scale_95 (by decide) ?_
                      refine zw_iload_n C dX4_scale_96 3 rfl rfl ?_
                      refine zw_calli C kvX4_153 (kX4_is (vp_in_iff.mpr ⟨by decide, by decide⟩) rfl) ⟨rfl, rfl, ⟨by decide, by decide⟩, by decide, by decide⟩ FX4 0 (As := [.int 0, .int p3]) (rest := []) rfl rfl rfl (Nat.le_of_ble_eq_true rfl) dX4_scale_97 ?_
                      refine zw_if_eq C 121 dX4_scale_100 (by decide) (fun h216 => ?_) (fun h216 => ?_)
                      · rw [if_pos h216] at hF
                        refine zw_iconst C (v := 0) dX4_scale_121 (by decide) ?_
                        subst hF; exact kx
                      · rw [if_neg h216] at hF
                        refine zw_iload_n C dX4_scale_103 1 rfl rfl ?_
                        refine zw_bipush C (v := 9) dX4_scale_104 (by decide) ?_
                        refine zw_icmp_ne C 117 dX4_scale_106 (by decide) (fun h217 => ?_) (fun h217 => ?_)
                        · rw [if_neg h217] at hF
                          refine zw_iconst C (v := 1) dX4_scale_117 (by decide) ?_
                          refine zw_goto C 122 dX4_scale_118 (by decide) ?_
                          subst hF; exact kx
                        · rw [if_pos h217] at hF
                          refine zw_aload_n C dX4_scale_109 0 rfl rfl ?_
                          refine zw_iload_n C dX4_scale_110 3 rfl rfl ?_
                          refine zw_calli C kvX4_91 (kX4_isThing rfl) ⟨rfl, rfl, ⟨by decide, by decide⟩, by decide, by decide⟩ FX4 0 (As := [.int p3]) (rest := []) rfl rfl rfl (Nat.le_of_ble_eq_true rfl) dX4_scale_111 ?_
                          refine zw_if_eq C 121 dX4_scale_114 (by decide) (fun h218 => ?_) (fun h218 => ?_)
                          · rw [if_pos h218] at hF
                            refine zw_iconst C (v := 0) dX4_scale_121 (by decide) ?_
                            subst hF; exact kx
                          · rw [if_neg h218] at hF
                            refine zw_iconst C (v := 1) dX4_scale_117 (by decide) ?_
                            refine zw_goto C 122 dX4_scale_118 (by decide) ?_
                            subst hF; exact kx
                  · rw [if_pos h212] at hF
                    refine zw_aload_n C dX4_scale_75 0 rfl rfl ?_
                    refine zw_iconst C (v := 1) dX4_scale_76 (by decide) ?_
                    refine zw_iload_n C dX4_scale_77 2 rfl rfl ?_
                    refine zw_calli C kvX4_153 (kX4_is (vp_in_iff.mpr ⟨by decide, by decide⟩) rfl) ⟨rfl, rfl, ⟨by decide, by decide⟩, by decide, by decide⟩ FX4 0 (As := [.int 1, .int p2]) (rest := []) rfl rfl rfl (Nat.le_of_ble_eq_true rfl) dX4_scale_78 ?_
                    refine zw_if_eq C 121 dX4_scale_81 (by decide) (fun h219 => ?_) (fun h219 => ?_)
                    · rw [if_pos h219] at hF
                      refine zw_iconst C (v := 0) dX4_scale_121 (by decide) ?_
                      subst hF; exact kx
                    · rw [if_neg h219] at hF
                      refine zw_iload_n C dX4_scale_84 1 rfl rfl ?_
                      refine zw_iconst C (v := 2) dX4_scale_85 (by decide) ?_
                      refine zw_bipush C (v := 6) dX4_scale_86 (by decide) ?_
                      refine zw_scalli C kvX4_84 (kX4_in rfl) ⟨rfl, rfl, ⟨by decide, by decide⟩, by decide, by decide⟩ (As := [.int p1, .int 2, .int 6]) (rest := []) rfl rfl (Nat.le_of_ble_eq_true rfl) dX4_scale_88 ?_
                      refine zw_if_eq C 103 dX4_scale_91 (by decide) (fun h220 => ?_) (fun h220 => ?_)
                      · rw [if_pos h220] at hF
                        refine zw_iload_n C dX4_scale_103 1 rfl rfl ?_
                        refine zw_bipush C (v := 9) dX4_scale_104 (by decide) ?_
                        refine zw_icmp_ne C 117 dX4_scale_106 (by decide) (fun h221 => ?_) (fun h221 => ?_)
                        · rw [if_neg h221] at hF
                          refine zw_iconst C (v := 1) dX4_scale_117 (by decide) ?_
                          refine zw_goto C 122 dX4_scale_118 (by decide) ?_
                          subst hF; exact kx
                        · rw [if_pos h221] at hF
                          refine zw_aload_n C dX4_scale_109 0 rfl rfl ?_
                          refine zw_iload_n C dX4_scale_110 3 rfl rfl ?_
                          refine zw_calli C kvX4_91 (kX4_isThing rfl) ⟨rfl, rfl, ⟨by decide, by decide⟩, by decide, by decide⟩ FX4 0 (As := [.int p3]) (rest := []) rfl rfl rfl (Nat.le_of_ble_eq_true rfl) dX4_scale_111 ?_
                          refine zw_if_eq C 121 dX4_scale_114 (by decide) (fun h222 => ?_) (fun h222 => ?_)
                          · rw [if_pos h222] at hF
                            refine zw_iconst C (v := 0) dX4_scale_121 (by decide) ?_
                            subst hF; exact kx
                          · rw [if_neg h222] at hF
                            refine zw_iconst C (v := 1) dX4_scale_117 (by decide) ?_
                            refine zw_goto C 122 dX4_scale_118 (by decide) ?_
                            subst hF; exact kx
                      · rw [if_neg h220] at hF
                        refine zw_aload_n C dX4_scale_94 0 rfl rfl ?_
                        refine zw_iconst C (v := 0) dX4_scale_95 (by decide) ?_
                        refine zw_iload_n C dX4_scale_96 3 rfl rfl ?_
                        refine zw_calli C kvX4_153 (kX4_is (vp_in_iff.mpr ⟨by decide, by decide⟩) rfl) ⟨rfl, rfl, ⟨by decide, by decide⟩, by decide, by decide⟩ FX4 0 (As := [.int 0, .int p3]) (rest := []) rfl rfl rfl (Nat.le_of_ble_eq_true rfl) dX4_scale_97 ?_
                        refine zw_if_eq C 121 dX4_scale_100 (by decide) (fun h223 => ?_) (fun h223 => ?_)
                        · rw [if_pos h223] at hF
                          refine zw_iconst C (v := 0) dX4_scale_121 (by decide) ?_
                          subst hF; exact kx
                        · rw [if_neg h223] at hF
                          refine zw_iload_n C dX4_scale_103 1 rfl rfl ?_
                          refine zw_bipush C (v := 9) dX4_scale_104 (by decide) ?_
                          refine zw_icmp_ne C 117 dX4_scale_106 (by decide) (fun h224 => ?_) (fun h224 => ?_)
                          · rw [if_neg h224] at hF
                            refine zw_iconst C (v := 1) dX4_scale_117 (by decide) ?_
                            refine zw_goto C 122 dX4_scale_118 (by decide) ?_
                            subst hF; exact kx
                          · rw [if_pos h224] at hF
                            refine zw_aload_n C dX4_scale_109 0 rfl rfl ?_
                            refine zw_iload_n C dX4_scale_110 3 rfl rfl ?_
                            refine zw_calli C kvX4_91 (kX4_isThing rfl) ⟨rfl, rfl, ⟨by decide, by decide⟩, by decide, by decide⟩ FX4 0 (As := [.int p3]) (rest := []) rfl rfl rfl (Nat.le_of_ble_eq_true rfl) dX4_scale_111 ?_
                            refine zw_if_eq C 121 dX4_scale_114 (by decide) (fun h225 => ?_) (fun h225 => ?_)
                            · rw [if_pos h225] at hF
                              refine zw_iconst C (v := 0) dX4_scale_121 (by decide) ?_
                              subst hF; exact kx
                            · rw [if_neg h225] at hF
                              refine zw_iconst C (v := 1) dX4_scale_117 (by decide) ?_
                              refine zw_goto C 122 dX4_scale_118 (by decide) ?_
                              subst hF; exact kx
              · rw [if_neg h210] at hF
                refine zw_iload_n C dX4_scale_54 1 rfl rfl ?_
                refine zw_bipush C (v := 9) dX4_scale_55 (by decide) ?_
                refine zw_icmp_ne C 69 dX4_scale_57 (by decide) (fun h226 => ?_) (fun h226 => ?_)
                · rw [if_neg h226] at hF
                  refine zw_iload_n C dX4_scale_69 1 rfl rfl ?_
                  refine zw_bipush C (v := 6) dX4_scale_70 (by decide) ?_
                  refine zw_icmp_ne C 84 dX4_scale_72 (by decide) (fun h227 => ?_) (fun h227 => ?_)
                  · rw [if_neg h227] at hF
                    refine zw_iload_n C dX4_scale_84 1 rfl rfl ?_
                    refine zw_iconst C (v := 2) dX4_scale_85 (by decide) ?_
                    refine zw_bipush C (v := 6) dX4_scale_86 (by decide) ?_
                    refine zw_scalli C kvX4_84 (kX4_in rfl) ⟨rfl, rfl, ⟨by decide, by decide⟩, by decide, by decide⟩ (As := [.int p1, .int 2, .int 6]) (rest := []) rfl rfl (Nat.le_of_ble_eq_true rfl) dX4_scale_88 ?_
                    refine zw_if_eq C 103 dX4_scale_91 (by decide) (fun h228 => ?_) (fun h228 => ?_)
                    · rw [if_pos h228] at hF
                      refine zw_iload_n C dX4_scale_103 1 rfl rfl ?_
                      refine zw_bipush C (v := 9) dX4_scale_104 (by decide) ?_
                      refine zw_icmp_ne C 117 dX4_scale_106 (by decide) (fun h229 => ?_) (fun h229 => ?_)
                      · rw [if_neg h229] at hF
                        refine zw_iconst C (v := 1) dX4_scale_117 (by decide) ?_
                        refine zw_goto C 122 dX4_scale_118 (by decide) ?_
                        subst hF; exact kx
                      · rw [if_pos h229] at hF
                        refine zw_aload_n C dX4_scale_109 0 rfl rfl ?_
                        refine zw_iload_n C dX4_scale_110 3 rfl rfl ?_
                        refine zw_calli C kvX4_91 (kX4_isThing rfl) ⟨rfl, rfl, ⟨by decide, by decide⟩, by decide, by decide⟩ FX4 0 (As := [.int p3]) (rest := []) rfl rfl rfl (Nat.le_of_ble_eq_true rfl) dX4_scale_111 ?_
                        refine zw_if_eq C 121 dX4_scale_114 (by decide) (fun h230 => ?_) (fun h230 => ?_)
                        · rw [if_pos h230] at hF
                          refine zw_iconst C (v := 0) dX4_scale_121 (by decide) ?_
                          subst hF; exact kx
                        · rw [if_neg h230] at hF
                          refine zw_iconst C (v := 1) dX4_scale_117 (by decide) ?_
                          refine zw_goto C 122 dX4_scale_118 (by decide) ?_
                          subst hF; exact kx
                    · rw [if_neg h228] at hF
                      refine zw_aload_n C dX4_scale_94 0 rfl rfl ?_
                      refine zw_iconst C (v := 0) dX4_scale_95 (by decide) ?_
                      refine zw_iload_n C dX4_scale_96 3 rfl rfl ?_
                      refine zw_calli C kvX4_153 (kX4_is (vp_in_iff.mpr ⟨by decide, by decide⟩) rfl) ⟨rfl, rfl, ⟨by decide, by decide⟩, by decide, by decide⟩ FX4 0 (As := [.int 0, .int p3]) (rest := []) rfl rfl rfl (Nat.le_of_ble_eq_true rfl) dX4_scale_97 ?_
                      refine zw_if_eq C 121 dX4_scale_100 (by decide) (fun h231 => ?_) (fun h231 => ?_)
                      · rw [if_pos h231] at hF
                        refine zw_iconst C (v := 0) dX4_scale_121 (by decide) ?_
                        subst hF; exact kx
                      · rw [if_neg h231] at hF
                        refine zw_iload_n C dX4_scale_103 1 rfl rfl ?_
                        refine zw_bipush C (v := 9) dX4_scale_104 (by decide) ?_
                        refine zw_icmp_ne C 117 dX4_scale_106 (by decide) (fun h232 => ?_) (fun h232 => ?_)
                        · rw [if_neg h232] at hF
                          refine zw_iconst C (v := 1) dX4_scale_117 (by decide) ?_
                          refine zw_goto C 122 dX4_scale_118 (by decide) ?_
                          subst hF; exact kx
                        · rw [if_pos h232] at hF
                          refine zw_aload_n C dX4_scale_109 0 rfl rfl ?_
                          refine zw_iload_n C dX4_scale_110 3 rfl rfl ?_
                          refine zw_calli C kvX4_91 (kX4_isThing rfl) ⟨rfl, rfl, ⟨by decide, by decide⟩, by decide, by decide⟩ FX4 0 (As := [.int p3]) (rest := []) rfl rfl rfl (Nat.le_of_ble_eq_true rfl) dX4_scale_111 ?_
                          refine zw_if_eq C 121 dX4_scale_114 (by decide) (fun h233 => ?_) (fun h233 => ?_)
                          · rw [if_pos h233] at hF
                            refine zw_iconst C (v := 0) dX4_scale_121 (by decide) ?_
                            subst hF; exact kx
                          · rw [if_neg h233] at hF
                            refine zw_iconst C (v := 1) dX4_scale_117 (by decide) ?_
                            refine zw_goto C 122 dX4_scale_118 (by decide) ?_
                            subst hF; exact kx
                  · rw [if_pos h227] at hF
                    refine zw_aload_n C dX4_scale_75 0 rfl rfl ?_
                    refine zw_iconst C (v := 1) dX4_scale_76 (by decide) ?_
                    refine zw_iload_n C dX4_scale_77 2 rfl rfl ?_
                    refine zw_calli C kvX4_153 (kX4_is (vp_in_iff.mpr ⟨by decide, by decide⟩) rfl) ⟨rfl, rfl, ⟨by decide, by decide⟩, by decide, by decide⟩ FX4 0 (As := [.int 1, .int p2]) (rest := []) rfl rfl rfl (Nat.le_of_ble_eq_true rfl) dX4_scale_78 ?_
                    refine zw_if_eq C 121 dX4_scale_81 (by decide) (fun h234 => ?_) (fun h234 => ?_)
                    · rw [if_pos h234] at hF
                      refine zw_iconst C (v := 0) dX4_scale_121 (by decide) ?_
                      subst hF; exact kx
                    · rw [if_neg h234] at hF
                      refine zw_iload_n C dX4_scale_84 1 rfl rfl ?_
                      refine zw_iconst C (v := 2) dX4_scale_85 (by decide) ?_
                      refine zw_bipush C (v := 6) dX4_scale_86 (by decide) ?_
                      refine zw_scalli C kvX4_84 (kX4_in rfl) ⟨rfl, rfl, ⟨by decide, by decide⟩, by decide, by decide⟩ (As := [.int p1, .int 2, .int 6]) (rest := []) rfl rfl (Nat.le_of_ble_eq_true rfl) dX4_scale_88 ?_
                      refine zw_if_eq C 103 dX4_scale_91 (by decide) (fun h235 => ?_) (fun h235 => ?_)
                      · rw [if_pos h235] at hF
                        refine zw_iload_n C dX4_scale_103 1 rfl rfl ?_
                        refine zw_bipush C (v := 9) dX4_scale_104 (by decide) ?_
                        refine zw_icmp_ne C 117 dX4_scale_106 (by decide) (fun h236 => ?_) (fun h236 => ?_)
                        · rw [if_neg h236] at hF
                          refine zw_iconst C (v := 1) dX4_scale_117 (by decide) ?_
                          refine zw_goto C 122 dX4_scale_118 (by decide) ?_
                          subst hF; exact kx
                        · rw [if_pos h236] at hF
                          refine zw_aload_n C dX4_scale_109 0 rfl rfl ?_
                          refine zw_iload_n C dX4_scale_110 3 rfl rfl ?_
                          refine zw_calli C kvX4_91 (kX4_isThing rfl) ⟨rfl, rfl, ⟨by decide, by decide⟩, by decide, by decide⟩ FX4 0 (As := [.int p3]) (rest := []) rfl rfl rfl (Nat.le_of_ble_eq_true rfl) dX4_scale_111 ?_
                          refine zw_if_eq C 121 dX4_scale_114 (by decide) (fun h237 => ?_) (fun h237 => ?_)
                          · rw [if_pos h237] at hF
                            refine zw_iconst C (v := 0) dX4_scale_121 (by decide) ?_
                            subst hF; exact kx
                          · rw [if_neg h237] at hF
                            refine zw_iconst C (v := 1) dX4_scale_117 (by decide) ?_
                            refine zw_goto C 122 dX4_scale_118 (by decide) ?_
                            subst hF; exact kx
                      · rw [if_neg h235] at hF
                        refine zw_aload_n C dX4_scale_94 0 rfl rfl ?_
                        refine zw_iconst C (v := 0) dX4_scale_95 (by decide) ?_
                        refine zw_iload_n C dX4_scale_96 3 rfl rfl ?_
                        refine zw_calli C kvX4_153 (kX4_is (vp_in_iff.mpr ⟨by decide, by decide⟩) rfl) ⟨rfl, rfl, ⟨by decide, by decide⟩, by decide, by decide⟩ FX4 0 (As := [.int 0, .int p3]) (rest := []) rfl rfl rfl (Nat.le_of_ble_eq_true rfl) dX4_scale_97 ?_
                        refine zw_if_eq C 121 dX4_scale_100 (by decide) (fun h238 => ?_) (fun h238 => ?_)
                        · rw [if_pos h238] at hF
                          refine zw_iconst C (v := 0) dX4_scale_121 (by decide) ?_
                          subst hF; exact kx
                        · rw [if_neg h238] at hF
                          refine zw_iload_n C dX4_scale_103 1 rfl rfl ?_
                          refine zw_bipush C (v := 9) dX4_scale_104 (by decide) ?_
                          refine zw_icmp_ne C 117 dX4_scale_106 (by decide) (fun h239 => ?_) (fun h239 => ?_)
                          · rw [if_neg h239] at hF
                            refine zw_iconst C (v := 1) dX4_scale_117 (by decide) ?_
                            refine zw_goto C 122 dX4_scale_118 (by decide) ?_
                            subst hF; exact kx
                          · rw [if_pos h239] at hF
                            refine zw_aload_n C dX4_scale_109 0 rfl rfl ?_
                            refine zw_iload_n C dX4_scale_110 3 rfl rfl ?_
                            refine zw_calli C kvX4_91 (kX4_isThing rfl) ⟨rfl, rfl, ⟨by decide, by decide⟩, by decide, by decide⟩ FX4 0 (As := [.int p3]) (rest := []) rfl rfl rfl (Nat.le_of_ble_eq_true rfl) dX4_scale_111 ?_
                            refine zw_if_eq C 121 dX4_scale_114 (by decide) (fun h240 => ?_) (fun h240 => ?_)
                            · rw [if_pos h240] at hF
                              refine zw_iconst C (v := 0) dX4_scale_121 (by decide) ?_
                              subst hF; exact kx
                            · rw [if_neg h240] at hF
                              refine zw_iconst C (v := 1) dX4_scale_117 (by decide) ?_
                              refine zw_goto C 122 dX4_scale_118 (by decide) ?_
                              subst hF; exact kx
                · rw [if_pos h226] at hF
                  refine zw_aload_n C dX4_scale_60 0 rfl rfl ?_
                  refine zw_iconst C (v := 0) dX4_scale_61 (by decide) ?_
                  refine zw_iload_n C dX4_scale_62 2 rfl rfl ?_
                  refine zw_calli C kvX4_153 (kX4_is (vp_in_iff.mpr ⟨by decide, by decide⟩) rfl) ⟨rfl, rfl, ⟨by decide, by decide⟩, by decide, by decide⟩ FX4 0 (As := [.int 0, .int p2]) (rest := []) rfl rfl rfl (Nat.le_of_ble_eq_true rfl) dX4_scale_63 ?_
                  refine zw_if_eq C 121 dX4_scale_66 (by decide) (fun h241 => ?_) (fun h241 => ?_)
                  · rw [if_pos h241] at hF
                    refine zw_iconst C (v := 0) dX4_scale_121 (by decide) ?_
                    subst hF; exact kx
                  · rw [if_neg h241] at hF
                    refine zw_iload_n C dX4_scale_69 1 rfl rfl ?_
                    refine zw_bipush C (v := 6) dX4_scale_70 (by decide) ?_
                    refine zw_icmp_ne C 84 dX4_scale_72 (by decide) (fun h242 => ?_) (fun h242 => ?_)
                    · rw [if_neg h242] at hF
                      refine zw_iload_n C dX4_scale_84 1 rfl rfl ?_
                      refine zw_iconst C (v := 2) dX4_scale_85 (by decide) ?_
                      refine zw_bipush C (v := 6) dX4_scale_86 (by decide) ?_
                      refine zw_scalli C kvX4_84 (kX4_in rfl) ⟨rfl, rfl, ⟨by decide, by decide⟩, by decide, by decide⟩ (As := [.int p1, .int 2, .int 6]) (rest := []) rfl rfl (Nat.le_of_ble_eq_true rfl) dX4_scale_88 ?_
                      refine zw_if_eq C 103 dX4_scale_91 (by decide) (fun h243 => ?_) (fun h243 => ?_)
                      · rw [if_pos h243] at hF
                        refine zw_iload_n C dX4_scale_103 1 rfl rfl ?_
                        refine zw_bipush C (v := 9) dX4_scale_104 (by decide) ?_
                        refine zw_icmp_ne C 117 dX4_scale_106 (by decide) (fun h244 => ?_) (fun h244 => ?_)
                        · rw [if_neg h244] at hF
                          refine zw_iconst C (v := 1) dX4_scale_117 (by decide) ?_
                          refine zw_goto C 122 dX4_scale_118 (by decide) ?_
                          subst hF; exact kx
                        · rw [if_pos h244] at hF
                          refine zw_aload_n C dX4_scale_109 0 rfl rfl ?_
                          refine zw_iload_n C dX4_scale_110 3 rfl rfl ?_
                          refine zw_calli C kvX4_91 (kX4_isThing rfl) ⟨rfl, rfl, ⟨by decide, by decide⟩, by decide, by decide⟩ FX4 0 (As := [.int p3]) (rest := []) rfl rfl rfl (Nat.le_of_ble_eq_true rfl) dX4_scale_111 ?_
                          refine zw_if_eq C 121 dX4_scale_114 (by decide) (fun h245 => ?_) (fun h245 => ?_)
                          · rw [if_pos h245] at hF
                            refine zw_iconst C (v := 0) dX4_scale_121 (by decide) ?_
                            subst hF; exact kx
                          · rw [if_neg h245] at hF
                            refine zw_iconst C (v := 1) dX4_scale_117 (by decide) ?_
                            refine zw_goto C 122 dX4_scale_118 (by decide) ?_
                            subst hF; exact kx
                      · rw [if_neg h243] at hF
                        refine zw_aload_n C dX4_scale_94 0 rfl rfl ?_
                        refine zw_iconst C (v := 0) dX4_scale_95 (by decide) ?_
                        refine zw_iload_n C dX4_scale_96 3 rfl rfl ?_
                        refine zw_calli C kvX4_153 (kX4_is (vp_in_iff.mpr ⟨by decide, by decide⟩) rfl) ⟨rfl, rfl, ⟨by decide, by decide⟩, by decide, by decide⟩ FX4 0 (As := [.int 0, .int p3]) (rest := []) rfl rfl rfl (Nat.le_of_ble_eq_true rfl) dX4_scale_97 ?_
                        refine zw_if_eq C 121 dX4_scale_100 (by decide) (fun h246 => ?_) (fun h246 => ?_)
                        · rw [if_pos h246] at hF
                          refine zw_iconst C (v := 0) dX4_scale_121 (by decide) ?_
                          subst hF; exact kx
                        · rw [if_neg h246] at hF
                          refine zw_iload_n C dX4_scale_103 1 rfl rfl ?_
                          refine zw_bipush C (v := 9) dX4_scale_104 (by decide) ?_
                          refine zw_icmp_ne C 117 dX4_scale_106 (by decide) (fun h247 => ?_) (fun h247 => ?_)
                          · rw [if_neg h247] at hF
                            refine zw_iconst C (v := 1) dX4_scale_117 (by decide) ?_
                            refine zw_goto C 122 dX4_scale_118 (by decide) ?_
                            subst hF; exact kx
                          · rw [if_pos h247] at hF
                            refine zw_aload_n C dX4_scale_109 0 rfl rfl ?_
                            refine zw_iload_n C dX4_scale_110 3 rfl rfl ?_
                            refine zw_calli C kvX4_91 (kX4_isThing rfl) ⟨rfl, rfl, ⟨by decide, by decide⟩, by decide, by decide⟩ FX4 0 (As := [.int p3]) (rest := []) rfl rfl rfl (Nat.le_of_ble_eq_true rfl) dX4_scale_111 ?_
                            refine zw_if_eq C 121 dX4_scale_114 (by decide) (fun h248 => ?_) (fun h248 => ?_)
                            · rw [if_pos h248] at hF
                              refine zw_iconst C (v := 0) dX4_scale_121 (by decide) ?_
                              subst hF; exact kx
                            · rw [if_neg h248] at hF
                              refine zw_iconst C (v := 1) dX4_scale_117 (by decide) ?_
                              refine zw_goto C 122 dX4_scale_118 (by decide) ?_
                              subst hF; exact kx
                    · rw [if_pos h242] at hF
                      refine zw_aload_n C dX4_scale_75 0 rfl rfl ?_
                      refine zw_iconst C (v := 1) dX4_scale_76 (by decide) ?_
                      refine zw_iload_n C dX4_scale_77 2 rfl rfl ?_
                      refine zw_calli C kvX4_153 (kX4_is (vp_in_iff.mpr ⟨by decide, by decide⟩) rfl) ⟨rfl, rfl, ⟨by decide, by decide⟩, by decide, by decide⟩ FX4 0 (As := [.int 1, .int p2]) (rest := []) rfl rfl rfl (Nat.le_of_ble_eq_true rfl) dX4_scale_78 ?_
                      refine zw_if_eq C 121 dX4_scale_81 (by decide) (fun h249 => ?_) (fun h249 => ?_)
                      · rw [if_pos h249] at hF
                        refine zw_iconst C (v := 0) dX4_scale_121 (by decide) ?_
                        subst hF; exact kx
                      · rw [if_neg h249] at hF
                        refine zw_iload_n C dX4_scale_84 1 rfl rfl ?_
                        refine zw_iconst C (v := 2) dX4_scale_85 (by decide) ?_
                        refine zw_bipush C (v := 6) dX4_scale_86 (by decide) ?_
                        refine zw_scalli C kvX4_84 (kX4_in rfl) ⟨rfl, rfl, ⟨by decide, by decide⟩, by decide, by decide⟩ (As := [.int p1, .int 2, .int 6]) (rest := []) rfl rfl (Nat.le_of_ble_eq_true rfl) dX4_scale_88 ?_
                        refine zw_if_eq C 103 dX4_scale_91 (by decide) (fun h250 => ?_) (fun h250 => ?_)
                        · rw [if_pos h250] at hF
                          refine zw_iload_n C dX4_scale_103 1 rfl rfl ?_
                          refine zw_bipush C (v := 9) dX4_scale_104 (by decide) ?_
                          refine zw_icmp_ne C 117 dX4_scale_106 (by decide) (fun h251 => ?_) (fun h251 => ?_)
                          · rw [if_neg h251] at hF
                            refine zw_iconst C (v := 1) dX4_scale_117 (by decide) ?_
                            refine zw_goto C 122 dX4_scale_118 (by decide) ?_
                            subst hF; exact kx
                          · rw [if_pos h251] at hF
                            refine zw_aload_n C dX4_scale_109 0 rfl rfl ?_
                            refine zw_iload_n C dX4_scale_110 3 rfl rfl ?_
                            refine zw_calli C kvX4_91 (kX4_isThing rfl) ⟨rfl, rfl, ⟨by decide, by decide⟩, by decide, by decide⟩ FX4 0 (As := [.int p3]) (rest := []) rfl rfl rfl (Nat.le_of_ble_eq_true rfl) dX4_scale_111 ?_
                            refine zw_if_eq C 121 dX4_scale_114 (by decide) (fun h252 => ?_) (fun h252 => ?_)
                            · rw [if_pos h252] at hF
                              refine zw_iconst C (v := 0) dX4_scale_121 (by decide) ?_
                              subst hF; exact kx
                            · rw [if_neg h252] at hF
                              refine zw_iconst C (v := 1) dX4_scale_117 (by decide) ?_
                              refine zw_goto C 122 dX4_scale_118 (by decide) ?_
                              subst hF; exact kx
                        · rw [if_neg h250] at hF
                          refine zw_aload_n C dX4_scale_94 0 rfl rfl ?_
                          refine zw_iconst C (v := 0) dX4_scale_95 (by decide) ?_
                          refine zw_iload_n C dX4_scale_96 3 rfl rfl ?_
                          refine zw_calli C kvX4_153 (kX4_is (vp_in_iff.mpr ⟨by decide, by decide⟩) rfl) ⟨rfl, rfl, ⟨by decide, by decide⟩, by decide, by decide⟩ FX4 0 (As := [.int 0, .int p3]) (rest := []) rfl rfl rfl (Nat.le_of_ble_eq_true rfl) dX4_scale_97 ?_
                          refine zw_if_eq C 121 dX4_scale_100 (by decide) (fun h253 => ?_) (fun h253 => ?_)
                          · rw [if_pos h253] at hF
                            refine zw_iconst C (v := 0) dX4_scale_121 (by decide) ?_
                            subst hF; exact kx
                          · rw [if_neg h253] at hF
                            refine zw_iload_n C dX4_scale_103 1 rfl rfl ?_
                            refine zw_bipush C (v := 9) dX4_scale_104 (by decide) ?_
                            refine zw_icmp_ne C 117 dX4_scale_106 (by decide) (fun h254 => ?_) (fun h254 => ?_)
                            · rw [if_neg h254] at hF
                              refine zw_iconst C (v := 1) dX4_scale_117 (by decide) ?_
                              refine zw_goto C 122 dX4_scale_118 (by decide) ?_
                              subst hF; exact kx
                            · rw [if_pos h254] at hF
                              refine zw_aload_n C dX4_scale_109 0 rfl rfl ?_
                              refine zw_iload_n C dX4_scale_110 3 rfl rfl ?_
                              refine zw_calli C kvX4_91 (kX4_isThing rfl) ⟨rfl, rfl, ⟨by decide, by decide⟩, by decide, by decide⟩ FX4 0 (As := [.int p3]) (rest := []) rfl rfl rfl (Nat.le_of_ble_eq_true rfl) dX4_scale_111 ?_
                              refine zw_if_eq C 121 dX4_scale_114 (by decide) (fun h255 => ?_) (fun h255 => ?_)
                              · rw [if_pos h255] at hF
                                refine zw_iconst C (v := 0) dX4_scale_121 (by decide) ?_
                                subst hF; exact kx
                              · rw [if_neg h255] at hF
                                refine zw_iconst C (v := 1) dX4_scale_117 (by decide) ?_
                                refine zw_goto C 122 dX4_scale_118 (by decide) ?_
                                subst hF; exact kx
noncomputable def fX4_tell (B0 : Int32) (B2 : Int64) (B3 : (Nat → Int64)) (B4 : (Nat → Int64)) (K0 : (Nat → Int32)) (K1 : (Nat → Int32)) (K2 : (Nat → Int32)) (K3 : (Nat → Int32)) (K4 : (Nat → Int64)) (E0 : (Nat → Int32)) (M0 : Int32) (M1 : (Nat → Int32)) (M2 : (Nat → Int32)) (M3 : (Nat → Int32)) (M4 : (Nat → Int32)) (M5 : (Nat → Int64)) (M6 : Int64) (M7 : Int32) (U0 : Int32) (U1 : Int32) (U2 : Int32) (U3 : Int32) (U4 : Int32) (U5 : Int32) (p1 : Int32) (p2 : Int32) : Int32 × Int64 × (Nat → Int32) × Int32 × (Nat → Int32) × (Nat → Int32) × (Nat → Int32) × (Nat → Int32) × (Nat → Int64) × Int64 × Int32 × Int32 × Int32 × Int32 × Int32 × Int32 × Int32 := (if (fX4_is K0 0 p1) = 0 then ((-1), B2, E0, M0, M1, M2, M3, M4, M5, M6, M7, U0, U2, U3, U1, U4, U5) else (if (fX4_isThing B0 p2) = 0 then ((-1), B2, E0, M0, M1, M2, M3, M4, M5, M6, M7, U0, U2, U3, U1, U4, U5) else (if U3 < 2000 then (zw_l (fX4_startsCall) (fun q4 => (zw_l (fX4_ask B3 B4 K1 K2 K3 K4 E0 M1 M2 M3 M4 M5 M6 q4.2 U2 U3 0 p1 p2 p2) (fun q6 => (if q6.1 = 0 then (zw_l (fX4_ends q6.2.2.2.2.2.2.2.2.2.1 q6.2.2.2.2.2.2.2.2.2.2.1 U1 q6.2.2.2.2.2.2.2.2.2.2.2.1 q6.2.2.2.2.2.2.2.2.2.2.2.2 U4 U5 1) (fun q9 => (q9.1, B2, q6.2.1, q6.2.2.1, q6.2.2.2.1, q6.2.2.2.2.1, q6.2.2.2.2.2.1, q6.2.2.2.2.2.2.1, q6.2.2.2.2.2.2.2.1, q6.2.2.2.2.2.2.2.2.1, q6.2.2.2.2.2.2.2.2.2.1, q6.2.2.2.2.2.2.2.2.2.2.1, q6.2.2.2.2.2.2.2.2.2.2.2.1, q9.2.2.1, q9.2.1, q9.2.2.2.1, q9.2.2.2.2))) else (zw_l (fX4_ends q6.2.2.2.2.2.2.2.2.2.1 q6.2.2.2.2.2.2.2.2.2.2.1 U1 q6.2.2.2.2.2.2.2.2.2.2.2.1 q6.2.2.2.2.2.2.2.2.2.2.2.2 U4 U5 1) (fun q11 => (q11.1, q6.2.2.2.2.2.2.2.2.1, q6.2.1, q6.2.2.1, q6.2.2.2.1, q6.2.2.2.2.1, q6.2.2.2.2.2.1, q6.2.2.2.2.2.2.1, q6.2.2.2.2.2.2.2.1, q6.2.2.2.2.2.2.2.2.1, q6.2.2.2.2.2.2.2.2.2.1, q6.2.2.2.2.2.2.2.2.2.2.1, q6.2.2.2.2.2.2.2.2.2.2.2.1, q11.2.2.1, q11.2.1, q11.2.2.2.1, q11.2.2.2.2)))))))) else ((-2), B2, E0, M0, M1, M2, M3, M4, M5, M6, M7, U0, U2, U3, U1, U4, U5))))
set_option maxHeartbeats 4000000 in
set_option maxRecDepth 100000 in
theorem kX4_tell {l : Launch} {D : va_G} {cI cL : ClassId} {b : Nat → Nat} {B0 : Int32} {B1 : Int32} {B2 : Int64} {B3 : (Nat → Int64)} {B4 : (Nat → Int64)} {B5 : (Nat → Int32)} {B6 : (Nat → Int32)} {K0 : (Nat → Int32)} {K1 : (Nat → Int32)} {K2 : (Nat → Int32)} {K3 : (Nat → Int32)} {K4 : (Nat → Int64)} {E0 : (Nat → Int32)} {M0 : Int32} {M1 : (Nat → Int32)} {M2 : (Nat → Int32)} {M3 : (Nat → Int32)} {M4 : (Nat → Int32)} {M5 : (Nat → Int64)} {M6 : Int64} {M7 : Int32} {U0 : Int32} {U1 : Int32} {U2 : Int32} {U3 : Int32} {U4 : Int32} {U5 : Int32} {G0 : Int32} {G1 : (Nat → Int64)} {G2 : (Nat → Int32)} {G3 : (Nat → Int64)} {G4 : (Nat → Int32)} {N0 : (Nat → Int64)} {N1 : (Nat → Int32)} {N2 : (Nat → Int64)} {N3 : (Nat → Int32)} {p1 : Int32} {p2 : Int32} {q : Int32 × Int64 × (Nat → Int32) × Int32 × (Nat → Int32) × (Nat → Int32) × (Nat → Int32) × (Nat → Int32) × (Nat → Int64) × Int64 × Int32 × Int32 × Int32 × Int32 × Int32 × Int32 × Int32} {nt k sn vn on : Nat} {J : (Nat → Int32) → Int32 → Int32 → Int32 → Prop} (hy1 : dm_B B0 B1 B5 nt k) (hy2 : dm_K K0 sn vn on) (hy3 : mJ B3 B4 K1 K2 K3 K4 J sn vn on nt) (hy4 : J E0 0 U2 U3) (hF : fX4_tell B0 B2 B3 B4 K0 K1 K2 K3 K4 E0 M0 M1 M2 M3 M4 M5 M6 M7 U0 U1 U2 U3 U4 U5 p1 p2 = q) : zw_Mi l yX4_tell cX4_tell 3 .int D (zw_tys cI cL) (zw_rm 4 102) [.ref (b 0), .int p1, .int p2] (wM cI cL b B0 B1 B2 B3 B4 B5 B6 K0 K1 K2 K3 K4 E0 M0 M1 M2 M3 M4 M5 M6 M7 U0 U1 U2 U3 U4 U5 G0 G1 G2 G3 G4 N0 N1 N2 N3) (wM cI cL b B0 B1 q.2.1 B3 B4 B5 B6 K0 K1 K2 K3 K4 q.2.2.1 q.2.2.2.1 q.2.2.2.2.1 q.2.2.2.2.2.1 q.2.2.2.2.2.2.1 q.2.2.2.2.2.2.2.1 q.2.2.2.2.2.2.2.2.1 q.2.2.2.2.2.2.2.2.2.1 q.2.2.2.2.2.2.2.2.2.2.1 q.2.2.2.2.2.2.2.2.2.2.2.1 q.2.2.2.2.2.2.2.2.2.2.2.2.2.2.1 q.2.2.2.2.2.2.2.2.2.2.2.2.1 q.2.2.2.2.2.2.2.2.2.2.2.2.2.1 q.2.2.2.2.2.2.2.2.2.2.2.2.2.2.2.1 q.2.2.2.2.2.2.2.2.2.2.2.2.2.2.2.2 G0 G1 G2 G3 G4 N0 N1 N2 N3) q.1 := by
  unfold fX4_tell at hF
  refine zw_Mi_of (own := RX4) (by decide) rfl (Nat.le_of_ble_eq_true rfl) ?_
  intro p e s m args below meth c A C hr hlk
  refine zw_eq (lv2 := [(0, .ref (b 0)), (1, .int p1), (2, .int p2)]) rfl rfl rfl ?_
  refine zw_aload_n C dX4_tell_0 0 rfl rfl ?_
  refine zw_iconst C (v := 0) dX4_tell_1 (by decide) ?_
  refine zw_iload_n C dX4_tell_2 1 rfl rfl ?_
  refine zw_calli C kvX4_153 (kX4_is (vp_in_iff.mpr ⟨by decide, by decide⟩) rfl) ⟨rfl, rfl, ⟨by decide, by decide⟩, by decide, by decide⟩ FX4 0 (As := [.int 0, .int p1]) (rest := []) rfl rfl rfl (Nat.le_of_ble_eq_true rfl) dX4_tell_3 ?_
  refine zw_if_eq C 17 dX4_tell_6 (by decide) (fun h1 => ?_) (fun h1 => ?_)
  · rw [if_pos h1] at hF
    refine zw_iconst C (v := (-1)) dX4_tell_17 (by decide) ?_
    subst hF; dsimp only
    exact zw_ireturn C hr hlk dX4_tell_18 rfl rfl
  · rw [if_neg h1] at hF
    refine zw_aload_n C dX4_tell_9 0 rfl rfl ?_
    refine zw_iload_n C dX4_tell_10 2 rfl rfl ?_
    refine zw_calli C kvX4_91 (kX4_isThing rfl) ⟨rfl, rfl, ⟨by decide, by decide⟩, by decide, by decide⟩ FX4 0 (As := [.int p2]) (rest := []) rfl rfl rfl (Nat.le_of_ble_eq_true rfl) dX4_tell_11 ?_
    refine zw_if_ne C 19 dX4_tell_14 (by decide) (fun h2 => ?_) (fun h2 => ?_)
    · rw [if_neg h2] at hF
      refine zw_aload_n C dX4_tell_19 0 rfl rfl ?_
      refine zw_get C FX4 0 22 (v := .int U3) rfl (by decide) lkX4_127 rfl dX4_tell_20 ?_
      refine zw_sipush C (v := 2000) dX4_tell_23 (by decide) ?_
      refine zw_icmp_lt C 32 dX4_tell_26 (by decide) (fun h3 => ?_) (fun h3 => ?_)
      · rw [if_pos h3] at hF
        refine zw_aload_n C dX4_tell_32 0 rfl rfl ?_
        obtain ⟨q4, e5⟩ : ∃ z, fX4_startsCall = z := ⟨_, rfl⟩
        rw [zw_l_eq e5] at hF
        refine zw_callv C kvX4_161 (kX4_startsCall e5) ⟨rfl, rfl, ⟨by decide, by decide⟩, by decide, by decide⟩ FX4 0 (As := []) (rest := []) rfl rfl rfl (Nat.le_of_ble_eq_true rfl) dX4_tell_33 ?_
        refine zw_aload_n C dX4_tell_36 0 rfl rfl ?_
        refine zw_iconst C (v := 0) dX4_tell_37 (by decide) ?_
        refine zw_iload_n C dX4_tell_38 1 rfl rfl ?_
        refine zw_iload_n C dX4_tell_39 2 rfl rfl ?_
        refine zw_iload_n C dX4_tell_40 2 rfl rfl ?_
        obtain ⟨q6, e7⟩ : ∃ z, fX4_ask B3 B4 K1 K2 K3 K4 E0 M1 M2 M3 M4 M5 M6 q4.2 U2 U3 0 p1 p2 p2 = z := ⟨_, rfl⟩
        rw [zw_l_eq e7] at hF
        refine zw_calli C kvX4_164 (kX4_askK (mJ_ex0 hy3 (st_J (by assumption) hy4) (dm_is (by assumption) hy2.2.2.2.1 hy2.1) (dm_thingIn hy1 (by assumption))) e7) ⟨rfl, rfl, ⟨by decide, by decide⟩, by decide, by decide⟩ FX4 0 (As := [.int 0, .int p1, .int p2, .int p2]) (rest := []) rfl rfl rfl (Nat.le_of_ble_eq_true rfl) dX4_tell_41 ?_
        refine zw_if_eq C 55 dX4_tell_44 (by decide) (fun h8 => ?_) (fun h8 => ?_)
        · rw [if_pos h8] at hF
          refine zw_aload_n C dX4_tell_55 0 rfl rfl ?_
          refine zw_iconst C (v := 1) dX4_tell_56 (by decide) ?_
          obtain ⟨q9, e10⟩ : ∃ z, fX4_ends q6.2.2.2.2.2.2.2.2.2.1 q6.2.2.2.2.2.2.2.2.2.2.1 U1 q6.2.2.2.2.2.2.2.2.2.2.2.1 q6.2.2.2.2.2.2.2.2.2.2.2.2 U4 U5 1 = z := ⟨_, rfl⟩
          rw [zw_l_eq e10] at hF
          refine zw_calli C kvX4_168 (kX4_ends e10) ⟨rfl, rfl, ⟨by decide, by decide⟩, by decide, by decide⟩ FX4 0 (As := [.int 1]) (rest := []) rfl rfl rfl (Nat.le_of_ble_eq_true rfl) dX4_tell_57 ?_
          subst hF; dsimp only
          exact zw_ireturn C hr hlk dX4_tell_60 rfl rfl
        · rw [if_neg h8] at hF
          refine zw_aload_n C dX4_tell_47 0 rfl rfl ?_
          refine zw_aload_n C dX4_tell_48 0 rfl rfl ?_
          refine zw_get C FX4 0 17 (v := .long q6.2.2.2.2.2.2.2.2.1) rfl (by decide) lkX4_107 rfl dX4_tell_49 ?_
          refine zw_put C FX4 GX4 0 25 (v := .long q6.2.2.2.2.2.2.2.2.1) (ws2 := (wM cI cL b B0 B1 q6.2.2.2.2.2.2.2.2.1 B3 B4 B5 B6 K0 K1 K2 K3 K4 q6.2.1 q6.2.2.1 q6.2.2.2.1 q6.2.2.2.2.1 q6.2.2.2.2.2.1 q6.2.2.2.2.2.2.1 q6.2.2.2.2.2.2.2.1 q6.2.2.2.2.2.2.2.2.1 q6.2.2.2.2.2.2.2.2.2.1 q6.2.2.2.2.2.2.2.2.2.2.1 U1 q6.2.2.2.2.2.2.2.2.2.2.2.1 q6.2.2.2.2.2.2.2.2.2.2.2.2 U4 U5 G0 G1 G2 G3 G4 N0 N1 N2 N3)) rfl (by decide) lkX4_172 rfl rfl rfl (Nat.le_of_ble_eq_true rfl) rfl dX4_tell_52 ?_
          refine zw_aload_n C dX4_tell_55 0 rfl rfl ?_
          refine zw_iconst C (v := 1) dX4_tell_56 (by decide) ?_
          obtain ⟨q11, e12⟩ : ∃ z, fX4_ends q6.2.2.2.2.2.2.2.2.2.1 q6.2.2.2.2.2.2.2.2.2.2.1 U1 q6.2.2.2.2.2.2.2.2.2.2.2.1 q6.2.2.2.2.2.2.2.2.2.2.2.2 U4 U5 1 = z := ⟨_, rfl⟩
          rw [zw_l_eq e12] at hF
          refine zw_calli C kvX4_168 (kX4_ends e12) ⟨rfl, rfl, ⟨by decide, by decide⟩, by decide, by decide⟩ FX4 0 (As := [.int 1]) (rest := []) rfl rfl rfl (Nat.le_of_ble_eq_true rfl) dX4_tell_57 ?_
          subst hF; dsimp only
          exact zw_ireturn C hr hlk dX4_tell_60 rfl rfl
      · rw [if_neg h3] at hF
        refine zw_bipush C (v := (-2)) dX4_tell_29 (by decide) ?_
        subst hF; dsimp only
        exact zw_ireturn C hr hlk dX4_tell_31 rfl rfl
    · rw [if_pos h2] at hF
      refine zw_iconst C (v := (-1)) dX4_tell_17 (by decide) ?_
      subst hF; dsimp only
      exact zw_ireturn C hr hlk dX4_tell_18 rfl rfl
theorem dm_ok8 {B0 x y z : Int32} {K0 : Nat → Int32} (h : ¬ fX4_scaleOk B0 K0 x y z = 0) (hx : x = 8) : vp_in y 8 := by
  subst hx
  by_cases h1 : fX4_in y 0 7 = 0
  · refine absurd ?_ h
    unfold fX4_scaleOk
    rw [if_neg (by decide), if_neg (by decide), if_pos rfl, if_pos h1]
  · obtain ⟨j, hj, rfl⟩ := dm_inC (n := 7) (by decide) rfl h1
    exact vp_in_nI (by omega) (by decide)
theorem dm_ok9 {B0 x y z : Int32} {K0 : Nat → Int32} (h : ¬ fX4_scaleOk B0 K0 x y z = 0) (hx : x = 9) : (¬ fX4_is K0 0 y = 0) ∧ ¬ fX4_isThing B0 z = 0 := by
  subst hx
  unfold fX4_scaleOk at h
  rw [if_neg (by decide), if_neg (by decide), if_neg (by decide), if_pos (by decide), if_neg (by decide), if_pos rfl] at h
  by_cases h1 : fX4_is K0 0 y = 0
  · rw [if_pos h1] at h; exact absurd rfl h
  · rw [if_neg h1, if_neg (by decide), if_pos (by decide), if_pos rfl] at h
    by_cases h2 : fX4_isThing B0 z = 0
    · rw [if_pos h2] at h; exact absurd rfl h
    · exact ⟨h1, h2⟩
noncomputable def fX4_scale (B0 : Int32) (B3 : (Nat → Int64)) (B4 : (Nat → Int64)) (K0 : (Nat → Int32)) (K1 : (Nat → Int32)) (K2 : (Nat → Int32)) (K3 : (Nat → Int32)) (K4 : (Nat → Int64)) (E0 : (Nat → Int32)) (M0 : Int32) (M1 : (Nat → Int32)) (M2 : (Nat → Int32)) (M3 : (Nat → Int32)) (M4 : (Nat → Int32)) (M5 : (Nat → Int64)) (M6 : Int64) (M7 : Int32) (U0 : Int32) (U1 : Int32) (U2 : Int32) (U3 : Int32) (U4 : Int32) (U5 : Int32) (p1 : Int32) (p2 : Int32) (p3 : Int32) : Int32 × (Nat → Int32) × (Nat → Int32) × (Nat → Int32) × (Nat → Int32) × (Nat → Int64) × (Nat → Int32) × Int32 × (Nat → Int32) × (Nat → Int32) × (Nat → Int32) × (Nat → Int32) × (Nat → Int64) × Int64 × Int32 × Int32 × Int32 × Int32 × Int32 × Int32 × Int32 := (zw_l (fX4_scaleOk B0 K0 p1 p2 p3) (fun q1 => (if q1 = 0 then ((-1), K0, K1, K2, K3, K4, E0, M0, M1, M2, M3, M4, M5, M6, M7, U0, U2, U3, U1, U4, U5) else (if (K0 (0 : Int32).toNatClampNeg) = 24 then ((-2), K0, K1, K2, K3, K4, E0, M0, M1, M2, M3, M4, M5, M6, M7, U0, U2, U3, U1, U4, U5) else (if p1 = 9 then (if U3 < 2000 then (if p1 = 9 then (zw_l (fX4_startsCall) (fun q23 => (zw_l (fX4_ask B3 B4 K1 K2 K3 K4 E0 M1 M2 M3 M4 M5 M6 q23.2 U2 U3 0 p2 p3 p3) (fun q25 => (zw_l (fX4_ends q25.2.2.2.2.2.2.2.2.2.1 q25.2.2.2.2.2.2.2.2.2.2.1 U1 q25.2.2.2.2.2.2.2.2.2.2.2.1 q25.2.2.2.2.2.2.2.2.2.2.2.2 U4 U5 1) (fun q27 => (if 0 ≤ q27.1 then (zw_l (fX4_made K0 K1 K2 K3 K4 q25.2.1 0 p1 p2 p3 q25.2.2.2.2.2.2.2.2.1) (fun q30 => (q30.1, q30.2.1, q30.2.2.1, q30.2.2.2.1, q30.2.2.2.2.1, q30.2.2.2.2.2.1, q30.2.2.2.2.2.2, q25.2.2.1, q25.2.2.2.1, q25.2.2.2.2.1, q25.2.2.2.2.2.1, q25.2.2.2.2.2.2.1, q25.2.2.2.2.2.2.2.1, q25.2.2.2.2.2.2.2.2.1, q25.2.2.2.2.2.2.2.2.2.1, q25.2.2.2.2.2.2.2.2.2.2.1, q25.2.2.2.2.2.2.2.2.2.2.2.1, q27.2.2.1, q27.2.1, q27.2.2.2.1, q27.2.2.2.2))) else (q27.1, K0, K1, K2, K3, K4, q25.2.1, q25.2.2.1, q25.2.2.2.1, q25.2.2.2.2.1, q25.2.2.2.2.2.1, q25.2.2.2.2.2.2.1, q25.2.2.2.2.2.2.2.1, q25.2.2.2.2.2.2.2.2.1, q25.2.2.2.2.2.2.2.2.2.1, q25.2.2.2.2.2.2.2.2.2.2.1, q25.2.2.2.2.2.2.2.2.2.2.2.1, q27.2.2.1, q27.2.1, q27.2.2.2.1, q27.2.2.2.2)))))))) else (if p1 = 8 then (zw_l (fX4_made K0 K1 K2 K3 K4 E0 0 p1 p2 p3 (B4 p2.toNatClampNeg)) (fun q35 => (q35.1, q35.2.1, q35.2.2.1, q35.2.2.2.1, q35.2.2.2.2.1, q35.2.2.2.2.2.1, q35.2.2.2.2.2.2, M0, M1, M2, M3, M4, M5, M6, M7, U0, U2, U3, U1, U4, U5))) else (zw_l (fX4_made K0 K1 K2 K3 K4 E0 0 p1 p2 p3 0) (fun q33 => (q33.1, q33.2.1, q33.2.2.1, q33.2.2.2.1, q33.2.2.2.2.1, q33.2.2.2.2.2.1, q33.2.2.2.2.2.2, M0, M1, M2, M3, M4, M5, M6, M7, U0, U2, U3, U1, U4, U5))))) else ((-2), K0, K1, K2, K3, K4, E0, M0, M1, M2, M3, M4, M5, M6, M7, U0, U2, U3, U1, U4, U5)) else (if p1 = 9 then (zw_l (fX4_startsCall) (fun q7 => (zw_l (fX4_ask B3 B4 K1 K2 K3 K4 E0 M1 M2 M3 M4 M5 M6 q7.2 U2 U3 0 p2 p3 p3) (fun q9 => (zw_l (fX4_ends q9.2.2.2.2.2.2.2.2.2.1 q9.2.2.2.2.2.2.2.2.2.2.1 U1 q9.2.2.2.2.2.2.2.2.2.2.2.1 q9.2.2.2.2.2.2.2.2.2.2.2.2 U4 U5 1) (fun q11 => (if 0 ≤ q11.1 then (zw_l (fX4_made K0 K1 K2 K3 K4 q9.2.1 0 p1 p2 p3 q9.2.2.2.2.2.2.2.2.1) (fun q14 => (q14.1, q14.2.1, q14.2.2.1, q14.2.2.2.1, q14.2.2.2.2.1, q14.2.2.2.2.2.1, q14.2.2.2.2.2.2, q9.2.2.1, q9.2.2.2.1, q9.2.2.2.2.1, q9.2.2.2.2.2.1, q9.2.2.2.2.2.2.1, q9.2.2.2.2.2.2.2.1, q9.2.2.2.2.2.2.2.2.1, q9.2.2.2.2.2.2.2.2.2.1, q9.2.2.2.2.2.2.2.2.2.2.1, q9.2.2.2.2.2.2.2.2.2.2.2.1, q11.2.2.1, q11.2.1, q11.2.2.2.1, q11.2.2.2.2))) else (q11.1, K0, K1, K2, K3, K4, q9.2.1, q9.2.2.1, q9.2.2.2.1, q9.2.2.2.2.1, q9.2.2.2.2.2.1, q9.2.2.2.2.2.2.1, q9.2.2.2.2.2.2.2.1, q9.2.2.2.2.2.2.2.2.1, q9.2.2.2.2.2.2.2.2.2.1, q9.2.2.2.2.2.2.2.2.2.2.1, q9.2.2.2.2.2.2.2.2.2.2.2.1, q11.2.2.1, q11.2.1, q11.2.2.2.1, q11.2.2.2.2)))))))) else (if p1 = 8 then (zw_l (fX4_made K0 K1 K2 K3 K4 E0 0 p1 p2 p3 (B4 p2.toNatClampNeg)) (fun q19 => (q19.1, q19.2.1, q19.2.2.1, q19.2.2.2.1, q19.2.2.2.2.1, q19.2.2.2.2.2.1, q19.2.2.2.2.2.2, M0, M1, M2, M3, M4, M5, M6, M7, U0, U2, U3, U1, U4, U5))) else (zw_l (fX4_made K0 K1 K2 K3 K4 E0 0 p1 p2 p3 0) (fun q17 => (q17.1, q17.2.1, q17.2.2.1, q17.2.2.2.1, q17.2.2.2.2.1, q17.2.2.2.2.2.1, q17.2.2.2.2.2.2, M0, M1, M2, M3, M4, M5, M6, M7, U0, U2, U3, U1, U4, U5))))))))))
set_option maxHeartbeats 4000000 in
set_option maxRecDepth 100000 in
theorem kX4_scale {l : Launch} {D : va_G} {cI cL : ClassId} {b : Nat → Nat} {B0 : Int32} {B1 : Int32} {B2 : Int64} {B3 : (Nat → Int64)} {B4 : (Nat → Int64)} {B5 : (Nat → Int32)} {B6 : (Nat → Int32)} {K0 : (Nat → Int32)} {K1 : (Nat → Int32)} {K2 : (Nat → Int32)} {K3 : (Nat → Int32)} {K4 : (Nat → Int64)} {E0 : (Nat → Int32)} {M0 : Int32} {M1 : (Nat → Int32)} {M2 : (Nat → Int32)} {M3 : (Nat → Int32)} {M4 : (Nat → Int32)} {M5 : (Nat → Int64)} {M6 : Int64} {M7 : Int32} {U0 : Int32} {U1 : Int32} {U2 : Int32} {U3 : Int32} {U4 : Int32} {U5 : Int32} {G0 : Int32} {G1 : (Nat → Int64)} {G2 : (Nat → Int32)} {G3 : (Nat → Int64)} {G4 : (Nat → Int32)} {N0 : (Nat → Int64)} {N1 : (Nat → Int32)} {N2 : (Nat → Int64)} {N3 : (Nat → Int32)} {p1 : Int32} {p2 : Int32} {p3 : Int32} {q : Int32 × (Nat → Int32) × (Nat → Int32) × (Nat → Int32) × (Nat → Int32) × (Nat → Int64) × (Nat → Int32) × Int32 × (Nat → Int32) × (Nat → Int32) × (Nat → Int32) × (Nat → Int32) × (Nat → Int64) × Int64 × Int32 × Int32 × Int32 × Int32 × Int32 × Int32 × Int32} {nt k sn vn on : Nat} {J : (Nat → Int32) → Int32 → Int32 → Int32 → Prop} (hy1 : dm_B B0 B1 B5 nt k) (hy2 : dm_K K0 sn vn on) (hy3 : mJ B3 B4 K1 K2 K3 K4 J sn vn on nt) (hy4 : J E0 0 U2 U3) (hF : fX4_scale B0 B3 B4 K0 K1 K2 K3 K4 E0 M0 M1 M2 M3 M4 M5 M6 M7 U0 U1 U2 U3 U4 U5 p1 p2 p3 = q) : zw_Mi l yX4_scale cX4_scale 7 .int D (zw_tys cI cL) (zw_rm 4 102) [.ref (b 0), .int p1, .int p2, .int p3] (wM cI cL b B0 B1 B2 B3 B4 B5 B6 K0 K1 K2 K3 K4 E0 M0 M1 M2 M3 M4 M5 M6 M7 U0 U1 U2 U3 U4 U5 G0 G1 G2 G3 G4 N0 N1 N2 N3) (wM cI cL b B0 B1 B2 B3 B4 B5 B6 q.2.1 q.2.2.1 q.2.2.2.1 q.2.2.2.2.1 q.2.2.2.2.2.1 q.2.2.2.2.2.2.1 q.2.2.2.2.2.2.2.1 q.2.2.2.2.2.2.2.2.1 q.2.2.2.2.2.2.2.2.2.1 q.2.2.2.2.2.2.2.2.2.2.1 q.2.2.2.2.2.2.2.2.2.2.2.1 q.2.2.2.2.2.2.2.2.2.2.2.2.1 q.2.2.2.2.2.2.2.2.2.2.2.2.2.1 q.2.2.2.2.2.2.2.2.2.2.2.2.2.2.1 q.2.2.2.2.2.2.2.2.2.2.2.2.2.2.2.1 q.2.2.2.2.2.2.2.2.2.2.2.2.2.2.2.2.2.2.1 q.2.2.2.2.2.2.2.2.2.2.2.2.2.2.2.2.1 q.2.2.2.2.2.2.2.2.2.2.2.2.2.2.2.2.2.1 q.2.2.2.2.2.2.2.2.2.2.2.2.2.2.2.2.2.2.2.1 q.2.2.2.2.2.2.2.2.2.2.2.2.2.2.2.2.2.2.2.2 G0 G1 G2 G3 G4 N0 N1 N2 N3) q.1 := by
  unfold fX4_scale at hF
  refine zw_Mi_of (own := RX4) (by decide) rfl (Nat.le_of_ble_eq_true rfl) ?_
  intro p e s m args below meth c A C hr hlk
  refine zw_eq (lv2 := [(0, .ref (b 0)), (1, .int p1), (2, .int p2), (3, .int p3)]) rfl rfl rfl ?_
  obtain ⟨q1, e2⟩ : ∃ z, fX4_scaleOk B0 K0 p1 p2 p3 = z := ⟨_, rfl⟩
  rw [zw_l_eq e2] at hF
  refine kX4_scaleOk C e2 ?_
  refine zw_istore C dX4_scale_122 (by decide) rfl ?_
  refine zw_iload C dX4_scale_124 0 rfl ?_
  refine zw_if_ne C 131 dX4_scale_126 (by decide) (fun h3 => ?_) (fun h3 => ?_)
  · rw [if_neg h3] at hF
    refine zw_aload_n C dX4_scale_131 1 rfl rfl ?_
    refine zw_get C FX4 0 5 (v := .ref (b 4)) rfl (by decide) lkX4_20 rfl dX4_scale_132 ?_
    refine zw_iconst C (v := 0) dX4_scale_135 (by decide) ?_
    refine zw_iald C 4 0 (f := K0) (i := 0) rfl rfl (vp_in_iff.mpr ⟨by decide, by decide⟩) dX4_scale_136 ?_
    refine zw_bipush C (v := 24) dX4_scale_137 (by decide) ?_
    refine zw_icmp_eq C 158 dX4_scale_139 (by decide) (fun h4 => ?_) (fun h4 => ?_)
    · rw [if_pos h4] at hF
      refine zw_bipush C (v := (-2)) dX4_scale_158 (by decide) ?_
      subst hF; dsimp only
      exact zw_ireturn C hr hlk dX4_scale_160 rfl rfl
    · rw [if_neg h4] at hF
      refine zw_iload_n C dX4_scale_142 2 rfl rfl ?_
      refine zw_bipush C (v := 9) dX4_scale_143 (by decide) ?_
      refine zw_icmp_ne C 161 dX4_scale_145 (by decide) (fun h5 => ?_) (fun h5 => ?_)
      · rw [if_neg h5] at hF
        refine zw_iload_n C dX4_scale_161 2 rfl rfl ?_
        refine zw_bipush C (v := 9) dX4_scale_162 (by decide) ?_
        refine zw_icmp_eq C 192 dX4_scale_164 (by decide) (fun h6 => ?_) (fun h6 => ?_)
        · rw [if_pos h6] at hF
          refine zw_aload_n C dX4_scale_192 1 rfl rfl ?_
          obtain ⟨q7, e8⟩ : ∃ z, fX4_startsCall = z := ⟨_, rfl⟩
          rw [zw_l_eq e8] at hF
          refine zw_callv C kvX4_161 (kX4_startsCall e8) ⟨rfl, rfl, ⟨by decide, by decide⟩, by decide, by decide⟩ FX4 0 (As := []) (rest := []) rfl rfl rfl (Nat.le_of_ble_eq_true rfl) dX4_scale_193 ?_
          refine zw_aload_n C dX4_scale_196 1 rfl rfl ?_
          refine zw_iconst C (v := 0) dX4_scale_197 (by decide) ?_
          refine zw_iload_n C dX4_scale_198 3 rfl rfl ?_
          refine zw_iload_n C dX4_scale_199 4 rfl rfl ?_
          refine zw_iload_n C dX4_scale_200 4 rfl rfl ?_
          obtain ⟨q9, e10⟩ : ∃ z, fX4_ask B3 B4 K1 K2 K3 K4 E0 M1 M2 M3 M4 M5 M6 q7.2 U2 U3 0 p2 p3 p3 = z := ⟨_, rfl⟩
          rw [zw_l_eq e10] at hF
          refine zw_calli C kvX4_164 (kX4_askK (mJ_ex0 hy3 (st_J (by assumption) hy4) (dm_is (dm_ok9 (by rw [‹fX4_scaleOk _ _ _ _ _ = _›]; assumption) (by assumption)).1 hy2.2.2.2.1 hy2.1) (dm_thingIn hy1 (dm_ok9 (by rw [‹fX4_scaleOk _ _ _ _ _ = _›]; assumption) (by assumption)).2)) e10) ⟨rfl, rfl, ⟨by decide, by decide⟩, by decide, by decide⟩ FX4 0 (As := [.int 0, .int p2, .int p3, .int p3]) (rest := []) rfl rfl rfl (Nat.le_of_ble_eq_true rfl) dX4_scale_201 ?_
          refine zw_istore C dX4_scale_204 (by decide) rfl ?_
          refine zw_aload_n C dX4_scale_206 2 rfl rfl ?_
          refine zw_iconst C (v := 1) dX4_scale_207 (by decide) ?_
          obtain ⟨q11, e12⟩ : ∃ z, fX4_ends q9.2.2.2.2.2.2.2.2.2.1 q9.2.2.2.2.2.2.2.2.2.2.1 U1 q9.2.2.2.2.2.2.2.2.2.2.2.1 q9.2.2.2.2.2.2.2.2.2.2.2.2 U4 U5 1 = z := ⟨_, rfl⟩
          rw [zw_l_eq e12] at hF
          refine zw_calli C kvX4_168 (kX4_ends e12) ⟨rfl, rfl, ⟨by decide, by decide⟩, by decide, by decide⟩ FX4 0 (As := [.int 1]) (rest := []) rfl rfl rfl (Nat.le_of_ble_eq_true rfl) dX4_scale_208 ?_
          refine zw_istore C dX4_scale_211 (by decide) rfl ?_
          refine zw_iload C dX4_scale_213 0 rfl ?_
          refine zw_if_ge C 223 dX4_scale_215 (by decide) (fun h13 => ?_) (fun h13 => ?_)
          · rw [if_pos h13] at hF
            refine zw_aload_n C dX4_scale_223 3 rfl rfl ?_
            refine zw_iconst C (v := 0) dX4_scale_224 (by decide) ?_
            refine zw_iload_n C dX4_scale_225 4 rfl rfl ?_
            refine zw_iload_n C dX4_scale_226 5 rfl rfl ?_
            refine zw_iload_n C dX4_scale_227 6 rfl rfl ?_
            refine zw_aload_n C dX4_scale_228 3 rfl rfl ?_
            refine zw_get C FX4 0 17 (v := .long q9.2.2.2.2.2.2.2.2.1) rfl (by decide) lkX4_107 rfl dX4_scale_229 ?_
            obtain ⟨q14, e15⟩ : ∃ z, fX4_made K0 K1 K2 K3 K4 q9.2.1 0 p1 p2 p3 q9.2.2.2.2.2.2.2.2.1 = z := ⟨_, rfl⟩
            rw [zw_l_eq e15] at hF
            refine zw_calli C kvX4_157 (kX4_made (vp_in_iff.mpr ⟨by decide, by decide⟩) (dm_made (j := 0) rfl (by decide) hy2.2.2.2.1 hy2.1 (by assumption)) e15) ⟨rfl, rfl, ⟨by decide, by decide⟩, by decide, by decide⟩ FX4 0 (As := [.int 0, .int p1, .int p2, .int p3, .long q9.2.2.2.2.2.2.2.2.1]) (rest := []) rfl rfl rfl (Nat.le_of_ble_eq_true rfl) dX4_scale_232 ?_
            subst hF; dsimp only
            exact zw_ireturn C hr hlk dX4_scale_235 rfl rfl
          · rw [if_neg h13] at hF
            refine zw_iload C dX4_scale_218 0 rfl ?_
            refine zw_goto C 235 dX4_scale_220 (by decide) ?_
            subst hF; dsimp only
            exact zw_ireturn C hr hlk dX4_scale_235 rfl rfl
        · rw [if_neg h6] at hF
          refine zw_aload_n C dX4_scale_167 1 rfl rfl ?_
          refine zw_iconst C (v := 0) dX4_scale_168 (by decide) ?_
          refine zw_iload_n C dX4_scale_169 2 rfl rfl ?_
          refine zw_iload_n C dX4_scale_170 3 rfl rfl ?_
          refine zw_iload_n C dX4_scale_171 4 rfl rfl ?_
          refine zw_iload_n C dX4_scale_172 2 rfl rfl ?_
          refine zw_bipush C (v := 8) dX4_scale_173 (by decide) ?_
          refine zw_icmp_ne C 187 dX4_scale_175 (by decide) (fun h16 => ?_) (fun h16 => ?_)
          · rw [if_neg h16] at hF
            refine zw_lconst C (v := 0) dX4_scale_187 (by decide) ?_
            obtain ⟨q17, e18⟩ : ∃ z, fX4_made K0 K1 K2 K3 K4 E0 0 p1 p2 p3 0 = z := ⟨_, rfl⟩
            rw [zw_l_eq e18] at hF
            refine zw_calli C kvX4_157 (kX4_made (vp_in_iff.mpr ⟨by decide, by decide⟩) (dm_made (j := 0) rfl (by decide) hy2.2.2.2.1 hy2.1 (by assumption)) e18) ⟨rfl, rfl, ⟨by decide, by decide⟩, by decide, by decide⟩ FX4 0 (As := [.int 0, .int p1, .int p2, .int p3, .long 0]) (rest := []) rfl rfl rfl (Nat.le_of_ble_eq_true rfl) dX4_scale_188 ?_
            subst hF; dsimp only
            exact zw_ireturn C hr hlk dX4_scale_191 rfl rfl
          · rw [if_pos h16] at hF
            refine zw_aload_n C dX4_scale_178 1 rfl rfl ?_
            refine zw_get C FX4 0 2 (v := .ref (b 2)) rfl (by decide) lkX4_13 rfl dX4_scale_179 ?_
            refine zw_iload_n C dX4_scale_182 3 rfl rfl ?_
            refine zw_lald C 2 1 (f := B4) (i := p2) rfl rfl (dm_ok8 (by rw [‹fX4_scaleOk _ _ _ _ _ = _›]; assumption) (by assumption)) dX4_scale_183 ?_
            refine zw_goto C 188 dX4_scale_184 (by decide) ?_
            obtain ⟨q19, e20⟩ : ∃ z, fX4_made K0 K1 K2 K3 K4 E0 0 p1 p2 p3 (B4 p2.toNatClampNeg) = z := ⟨_, rfl⟩
            rw [zw_l_eq e20] at hF
            refine zw_calli C kvX4_157 (kX4_made (vp_in_iff.mpr ⟨by decide, by decide⟩) (dm_made (j := 0) rfl (by decide) hy2.2.2.2.1 hy2.1 (by assumption)) e20) ⟨rfl, rfl, ⟨by decide, by decide⟩, by decide, by decide⟩ FX4 0 (As := [.int 0, .int p1, .int p2, .int p3, .long (B4 p2.toNatClampNeg)]) (rest := []) rfl rfl rfl (Nat.le_of_ble_eq_true rfl) dX4_scale_188 ?_
            subst hF; dsimp only
            exact zw_ireturn C hr hlk dX4_scale_191 rfl rfl
      · rw [if_pos h5] at hF
        refine zw_aload_n C dX4_scale_148 1 rfl rfl ?_
        refine zw_get C FX4 0 22 (v := .int U3) rfl (by decide) lkX4_127 rfl dX4_scale_149 ?_
        refine zw_sipush C (v := 2000) dX4_scale_152 (by decide) ?_
        refine zw_icmp_lt C 161 dX4_scale_155 (by decide) (fun h21 => ?_) (fun h21 => ?_)
        · rw [if_pos h21] at hF
          refine zw_iload_n C dX4_scale_161 2 rfl rfl ?_
          refine zw_bipush C (v := 9) dX4_scale_162 (by decide) ?_
          refine zw_icmp_eq C 192 dX4_scale_164 (by decide) (fun h22 => ?_) (fun h22 => ?_)
          · rw [if_pos h22] at hF
            refine zw_aload_n C dX4_scale_192 1 rfl rfl ?_
            obtain ⟨q23, e24⟩ : ∃ z, fX4_startsCall = z := ⟨_, rfl⟩
            rw [zw_l_eq e24] at hF
            refine zw_callv C kvX4_161 (kX4_startsCall e24) ⟨rfl, rfl, ⟨by decide, by decide⟩, by decide, by decide⟩ FX4 0 (As := []) (rest := []) rfl rfl rfl (Nat.le_of_ble_eq_true rfl) dX4_scale_193 ?_
            refine zw_aload_n C dX4_scale_196 1 rfl rfl ?_
            refine zw_iconst C (v := 0) dX4_scale_197 (by decide) ?_
            refine zw_iload_n C dX4_scale_198 3 rfl rfl ?_
            refine zw_iload_n C dX4_scale_199 4 rfl rfl ?_
            refine zw_iload_n C dX4_scale_200 4 rfl rfl ?_
            obtain ⟨q25, e26⟩ : ∃ z, fX4_ask B3 B4 K1 K2 K3 K4 E0 M1 M2 M3 M4 M5 M6 q23.2 U2 U3 0 p2 p3 p3 = z := ⟨_, rfl⟩
            rw [zw_l_eq e26] at hF
            refine zw_calli C kvX4_164 (kX4_askK (mJ_ex0 hy3 (st_J (by assumption) hy4) (dm_is (dm_ok9 (by rw [‹fX4_scaleOk _ _ _ _ _ = _›]; assumption) (by assumption)).1 hy2.2.2.2.1 hy2.1) (dm_thingIn hy1 (dm_ok9 (by rw [‹fX4_scaleOk _ _ _ _ _ = _›]; assumption) (by assumption)).2)) e26) ⟨rfl, rfl, ⟨by decide, by decide⟩, by decide, by decide⟩ FX4 0 (As := [.int 0, .int p2, .int p3, .int p3]) (rest := []) rfl rfl rfl (Nat.le_of_ble_eq_true rfl) dX4_scale_201 ?_
            refine zw_istore C dX4_scale_204 (by decide) rfl ?_
            refine zw_aload_n C dX4_scale_206 2 rfl rfl ?_
            refine zw_iconst C (v := 1) dX4_scale_207 (by decide) ?_
            obtain ⟨q27, e28⟩ : ∃ z, fX4_ends q25.2.2.2.2.2.2.2.2.2.1 q25.2.2.2.2.2.2.2.2.2.2.1 U1 q25.2.2.2.2.2.2.2.2.2.2.2.1 q25.2.2.2.2.2.2.2.2.2.2.2.2 U4 U5 1 = z := ⟨_, rfl⟩
            rw [zw_l_eq e28] at hF
            refine zw_calli C kvX4_168 (kX4_ends e28) ⟨rfl, rfl, ⟨by decide, by decide⟩, by decide, by decide⟩ FX4 0 (As := [.int 1]) (rest := []) rfl rfl rfl (Nat.le_of_ble_eq_true rfl) dX4_scale_208 ?_
            refine zw_istore C dX4_scale_211 (by decide) rfl ?_
            refine zw_iload C dX4_scale_213 0 rfl ?_
            refine zw_if_ge C 223 dX4_scale_215 (by decide) (fun h29 => ?_) (fun h29 => ?_)
            · rw [if_pos h29] at hF
              refine zw_aload_n C dX4_scale_223 3 rfl rfl ?_
              refine zw_iconst C (v := 0) dX4_scale_224 (by decide) ?_
              refine zw_iload_n C dX4_scale_225 4 rfl rfl ?_
              refine zw_iload_n C dX4_scale_226 5 rfl rfl ?_
              refine zw_iload_n C dX4_scale_227 6 rfl rfl ?_
              refine zw_aload_n C dX4_scale_228 3 rfl rfl ?_
              refine zw_get C FX4 0 17 (v := .long q25.2.2.2.2.2.2.2.2.1) rfl (by decide) lkX4_107 rfl dX4_scale_229 ?_
              obtain ⟨q30, e31⟩ : ∃ z, fX4_made K0 K1 K2 K3 K4 q25.2.1 0 p1 p2 p3 q25.2.2.2.2.2.2.2.2.1 = z := ⟨_, rfl⟩
              rw [zw_l_eq e31] at hF
              refine zw_calli C kvX4_157 (kX4_made (vp_in_iff.mpr ⟨by decide, by decide⟩) (dm_made (j := 0) rfl (by decide) hy2.2.2.2.1 hy2.1 (by assumption)) e31) ⟨rfl, rfl, ⟨by decide, by decide⟩, by decide, by decide⟩ FX4 0 (As := [.int 0, .int p1, .int p2, .int p3, .long q25.2.2.2.2.2.2.2.2.1]) (rest := []) rfl rfl rfl (Nat.le_of_ble_eq_true rfl) dX4_scale_232 ?_
              subst hF; dsimp only
              exact zw_ireturn C hr hlk dX4_scale_235 rfl rfl
            · rw [if_neg h29] at hF
              refine zw_iload C dX4_scale_218 0 rfl ?_
              refine zw_goto C 235 dX4_scale_220 (by decide) ?_
              subst hF; dsimp only
              exact zw_ireturn C hr hlk dX4_scale_235 rfl rfl
          · rw [if_neg h22] at hF
            refine zw_aload_n C dX4_scale_167 1 rfl rfl ?_
            refine zw_iconst C (v := 0) dX4_scale_168 (by decide) ?_
            refine zw_iload_n C dX4_scale_169 2 rfl rfl ?_
            refine zw_iload_n C dX4_scale_170 3 rfl rfl ?_
            refine zw_iload_n C dX4_scale_171 4 rfl rfl ?_
            refine zw_iload_n C dX4_scale_172 2 rfl rfl ?_
            refine zw_bipush C (v := 8) dX4_scale_173 (by decide) ?_
            refine zw_icmp_ne C 187 dX4_scale_175 (by decide) (fun h32 => ?_) (fun h32 => ?_)
            · rw [if_neg h32] at hF
              refine zw_lconst C (v := 0) dX4_scale_187 (by decide) ?_
              obtain ⟨q33, e34⟩ : ∃ z, fX4_made K0 K1 K2 K3 K4 E0 0 p1 p2 p3 0 = z := ⟨_, rfl⟩
              rw [zw_l_eq e34] at hF
              refine zw_calli C kvX4_157 (kX4_made (vp_in_iff.mpr ⟨by decide, by decide⟩) (dm_made (j := 0) rfl (by decide) hy2.2.2.2.1 hy2.1 (by assumption)) e34) ⟨rfl, rfl, ⟨by decide, by decide⟩, by decide, by decide⟩ FX4 0 (As := [.int 0, .int p1, .int p2, .int p3, .long 0]) (rest := []) rfl rfl rfl (Nat.le_of_ble_eq_true rfl) dX4_scale_188 ?_
              subst hF; dsimp only
              exact zw_ireturn C hr hlk dX4_scale_191 rfl rfl
            · rw [if_pos h32] at hF
              refine zw_aload_n C dX4_scale_178 1 rfl rfl ?_
              refine zw_get C FX4 0 2 (v := .ref (b 2)) rfl (by decide) lkX4_13 rfl dX4_scale_179 ?_
              refine zw_iload_n C dX4_scale_182 3 rfl rfl ?_
              refine zw_lald C 2 1 (f := B4) (i := p2) rfl rfl (dm_ok8 (by rw [‹fX4_scaleOk _ _ _ _ _ = _›]; assumption) (by assumption)) dX4_scale_183 ?_
              refine zw_goto C 188 dX4_scale_184 (by decide) ?_
              obtain ⟨q35, e36⟩ : ∃ z, fX4_made K0 K1 K2 K3 K4 E0 0 p1 p2 p3 (B4 p2.toNatClampNeg) = z := ⟨_, rfl⟩
              rw [zw_l_eq e36] at hF
              refine zw_calli C kvX4_157 (kX4_made (vp_in_iff.mpr ⟨by decide, by decide⟩) (dm_made (j := 0) rfl (by decide) hy2.2.2.2.1 hy2.1 (by assumption)) e36) ⟨rfl, rfl, ⟨by decide, by decide⟩, by decide, by decide⟩ FX4 0 (As := [.int 0, .int p1, .int p2, .int p3, .long (B4 p2.toNatClampNeg)]) (rest := []) rfl rfl rfl (Nat.le_of_ble_eq_true rfl) dX4_scale_188 ?_
              subst hF; dsimp only
              exact zw_ireturn C hr hlk dX4_scale_191 rfl rfl
        · rw [if_neg h21] at hF
          refine zw_bipush C (v := (-2)) dX4_scale_158 (by decide) ?_
          subst hF; dsimp only
          exact zw_ireturn C hr hlk dX4_scale_160 rfl rfl
  · rw [if_pos h3] at hF
    refine zw_iconst C (v := (-1)) dX4_scale_129 (by decide) ?_
    subst hF; dsimp only
    exact zw_ireturn C hr hlk dX4_scale_130 rfl rfl
