def fX3_makeNow (B : dB) (S : dS) (V : dV) (T : dT) (p1 : Int32) (p2 : Int32) : Int32 × dS × (Nat → Int64) × dT := (zw_l (fX2_opensCall T) (fun q1 => (if q1.1 = 0 then ((-2), S, V.2.2.2.1, q1.2) else (zw_l ((zA B.2.2.2.1 B.2.2.2.2.1 S.1 S.2.1 S.2.2.1 V.1 V.2.1 V.2.2.1 73).1 (S.2.2.2.1, V.2.2.2.1, q1.2) p1 p2) (fun q4 => (if (fX2_hasFailure q4.2.2.2) = 0 then (zw_l (fX1_make (S.1, S.2.1, S.2.2.1, q4.2.1, S.2.2.2.2) 9 p1 p2 q4.1) (fun q7 => (q7.1, q7.2, q4.2.2.1, q4.2.2.2))) else (zw_l (fX2_endFailedCall q4.2.2.2) (fun q9 => (q9.1, (S.1, S.2.1, S.2.2.1, q4.2.1, S.2.2.2.2), q4.2.2.1, q9.2)))))))))
set_option maxHeartbeats 4000000 in
set_option maxRecDepth 100000 in
theorem kX3_makeNow {l : Launch} {D : va_G} {cI cL : ClassId} {a : Nat → Nat} {B : dB} {S : dS} {V : dV} {O : dO} {G : dG} {F : dF} {T : dT} {p1 : Int32} {p2 : Int32} {q : Int32 × dS × (Nat → Int64) × dT} {nt k sn vn on : Nat} {rs rv ro : Nat → Nat} (hy1 : dz_B B nt k) (hy2 : dz_K S V O sn vn on rs rv ro) (hy3 : vp_in p1 sn) (hy4 : vp_in p2 nt) (hy5 : vp_in S.2.2.2.2 24) (hF : fX3_makeNow B S V T p1 p2 = q) : zw_Mi l yX3_makeNow cX3_makeNow 5 .int D (zw_tys cI cL) (zw_rm 153 4604) [.ref (a 0), .int p1, .int p2] (wD cI cL a B S V O G F T) (wD cI cL a B q.2.1 (V.1, V.2.1, V.2.2.1, q.2.2.1, V.2.2.2.2) O G F q.2.2.2) q.1 := by
  unfold fX3_makeNow at hF
  refine zw_Mi_of (own := RX3) (by decide) rfl (Nat.le_of_ble_eq_true rfl) ?_
  intro p e s m args below meth c A C hr hlk
  refine zw_eq (lv2 := [(0, .ref (a 0)), (1, .int p1), (2, .int p2)]) rfl rfl rfl ?_
  refine zw_aload_n C dX3_makeNow_0 0 rfl rfl ?_
  refine zw_get C FX3 0 11 (v := .ref (a 30)) rfl (by decide) lkX3_56 rfl dX3_makeNow_1 ?_
  obtain ⟨q1, e2⟩ : ∃ z, fX2_opensCall T = z := ⟨_, rfl⟩
  rw [zw_l_eq e2] at hF
  refine zw_calli C kvX3_103 (kX2_opensCall e2) ⟨rfl, rfl, ⟨by decide, by decide⟩, by decide, by decide⟩ FX2 30 (As := []) (rest := []) rfl rfl rfl (Nat.le_of_ble_eq_true rfl) dX3_makeNow_4 ?_
  refine zw_if_ne C 13 dX3_makeNow_7 (by decide) (fun h3 => ?_) (fun h3 => ?_)
  · rw [if_neg h3] at hF
    refine zw_aload_n C dX3_makeNow_13 0 rfl rfl ?_
    refine zw_iload_n C dX3_makeNow_14 1 rfl rfl ?_
    refine zw_iload_n C dX3_makeNow_15 2 rfl rfl ?_
    obtain ⟨q4, e5⟩ : ∃ z, (zA B.2.2.2.1 B.2.2.2.2.1 S.1 S.2.1 S.2.2.1 V.1 V.2.1 V.2.2.1 73).1 (S.2.2.2.1, V.2.2.2.1, q1.2) p1 p2 = z := ⟨_, rfl⟩
    rw [zw_l_eq e5] at hF
    refine zw_calll C kvX3_106 (kAS hy2 hy1.1 (S.2.2.2.1, V.2.2.2.1, q1.2) p1 p2 _ hy3 hy4 e5) ⟨rfl, rfl, ⟨by decide, by decide⟩, by decide, by decide⟩ FX3 0 (As := [.int p1, .int p2]) (rest := []) rfl rfl rfl (Nat.le_of_ble_eq_true rfl) dX3_makeNow_16 ?_
    refine zw_lstore_n C dX3_makeNow_19 rfl (by decide) rfl ?_
    refine zw_aload_n C dX3_makeNow_20 1 rfl rfl ?_
    refine zw_get C FX3 0 11 (v := .ref (a 30)) rfl (by decide) lkX3_56 rfl dX3_makeNow_21 ?_
    refine zw_calli C kvX3_110 (kX2_hasFailure rfl) ⟨rfl, rfl, ⟨by decide, by decide⟩, by decide, by decide⟩ FX2 30 (As := []) (rest := []) rfl rfl rfl (Nat.le_of_ble_eq_true rfl) dX3_makeNow_24 ?_
    refine zw_if_eq C 38 dX3_makeNow_27 (by decide) (fun h6 => ?_) (fun h6 => ?_)
    · rw [if_pos h6] at hF
      refine zw_aload_n C dX3_makeNow_38 1 rfl rfl ?_
      refine zw_get C FX3 0 6 (v := .ref (a 5)) rfl (by decide) lkX3_33 rfl dX3_makeNow_39 ?_
      refine zw_bipush C (v := 9) dX3_makeNow_42 (by decide) ?_
      refine zw_iload_n C dX3_makeNow_44 2 rfl rfl ?_
      refine zw_iload_n C dX3_makeNow_45 3 rfl rfl ?_
      refine zw_lload_n C dX3_makeNow_46 0 rfl rfl ?_
      obtain ⟨q7, e8⟩ : ∃ z, fX1_make (S.1, S.2.1, S.2.2.1, q4.2.1, S.2.2.2.2) 9 p1 p2 q4.1 = z := ⟨_, rfl⟩
      rw [zw_l_eq e8] at hF
      refine zw_calli C kvX3_90 (kX1_make_S hy5 e8) ⟨rfl, rfl, ⟨by decide, by decide⟩, by decide, by decide⟩ FX1 5 (As := [.int 9, .int p1, .int p2, .long q4.1]) (rest := []) rfl rfl rfl (Nat.le_of_ble_eq_true rfl) dX3_makeNow_47 ?_
      subst hF
      exact zw_ireturn C hr hlk dX3_makeNow_50 rfl rfl
    · rw [if_neg h6] at hF
      refine zw_aload_n C dX3_makeNow_30 1 rfl rfl ?_
      refine zw_get C FX3 0 11 (v := .ref (a 30)) rfl (by decide) lkX3_56 rfl dX3_makeNow_31 ?_
      obtain ⟨q9, e10⟩ : ∃ z, fX2_endFailedCall q4.2.2.2 = z := ⟨_, rfl⟩
      rw [zw_l_eq e10] at hF
      refine zw_calli C kvX3_113 (kX2_endFailedCall e10) ⟨rfl, rfl, ⟨by decide, by decide⟩, by decide, by decide⟩ FX2 30 (As := []) (rest := []) rfl rfl rfl (Nat.le_of_ble_eq_true rfl) dX3_makeNow_34 ?_
      subst hF
      exact zw_ireturn C hr hlk dX3_makeNow_37 rfl rfl
  · rw [if_pos h3] at hF
    refine zw_bipush C (v := (-2)) dX3_makeNow_10 (by decide) ?_
    subst hF
    exact zw_ireturn C hr hlk dX3_makeNow_12 rfl rfl
def fX3_scale (B : dB) (S : dS) (V : dV) (T : dT) (p1 : Int32) (p2 : Int32) (p3 : Int32) : Int32 × dS × (Nat → Int64) × dT := (if (fX3_canMakeScale B S V p1 p2 p3) = 0 then ((-1), S, V.2.2.2.1, T) else (if (fX1_isFull S) = 0 then (if p1 = 9 then (zw_l (fX3_makeNow B S V T p2 p3) (fun q9 => (q9.1, q9.2.1, q9.2.2.1, q9.2.2.2))) else (if p1 = 8 then (zw_l (fX1_make S p1 p2 p3 (B.2.2.2.2.1 p2.toNatClampNeg)) (fun q7 => (q7.1, q7.2, V.2.2.2.1, T))) else (zw_l (fX1_make S p1 p2 p3 0) (fun q5 => (q5.1, q5.2, V.2.2.2.1, T))))) else ((-2), S, V.2.2.2.1, T)))
set_option maxHeartbeats 4000000 in
set_option maxRecDepth 100000 in
theorem kX3_scale {l : Launch} {D : va_G} {cI cL : ClassId} {a : Nat → Nat} {B : dB} {S : dS} {V : dV} {O : dO} {G : dG} {F : dF} {T : dT} {p1 : Int32} {p2 : Int32} {p3 : Int32} {q : Int32 × dS × (Nat → Int64) × dT} {nt k sn vn on : Nat} {rs rv ro : Nat → Nat} (hy1 : dz_B B nt k) (hy2 : dz_K S V O sn vn on rs rv ro) (hF : fX3_scale B S V T p1 p2 p3 = q) : zw_Mi l yX3_scale cX3_scale 4 .int D (zw_tys cI cL) (zw_rm 154 4628) [.ref (a 0), .int p1, .int p2, .int p3] (wD cI cL a B S V O G F T) (wD cI cL a B q.2.1 (V.1, V.2.1, V.2.2.1, q.2.2.1, V.2.2.2.2) O G F q.2.2.2) q.1 := by
  unfold fX3_scale at hF
  refine zw_Mi_of (own := RX3) (by decide) rfl (Nat.le_of_ble_eq_true rfl) ?_
  intro p e s m args below meth c A C hr hlk
  refine zw_eq (lv2 := [(0, .ref (a 0)), (1, .int p1), (2, .int p2), (3, .int p3)]) rfl rfl rfl ?_
  refine zw_aload_n C dX3_scale_0 0 rfl rfl ?_
  refine zw_iload_n C dX3_scale_1 1 rfl rfl ?_
  refine zw_iload_n C dX3_scale_2 2 rfl rfl ?_
  refine zw_iload_n C dX3_scale_3 3 rfl rfl ?_
  refine zw_calli C kvX3_79 (kX3_canMakeScale rfl) ⟨rfl, rfl, ⟨by decide, by decide⟩, by decide, by decide⟩ FX3 0 (As := [.int p1, .int p2, .int p3]) (rest := []) rfl rfl rfl (Nat.le_of_ble_eq_true rfl) dX3_scale_4 ?_
  refine zw_if_ne C 12 dX3_scale_7 (by decide) (fun h1 => ?_) (fun h1 => ?_)
  · rw [if_neg h1] at hF
    refine zw_aload_n C dX3_scale_12 0 rfl rfl ?_
    refine zw_get C FX3 0 6 (v := .ref (a 5)) rfl (by decide) lkX3_33 rfl dX3_scale_13 ?_
    refine zw_calli C kvX3_83 (kX1_isFull_S rfl) ⟨rfl, rfl, ⟨by decide, by decide⟩, by decide, by decide⟩ FX1 5 (As := []) (rest := []) rfl rfl rfl (Nat.le_of_ble_eq_true rfl) dX3_scale_16 ?_
    refine zw_if_eq C 25 dX3_scale_19 (by decide) (fun h2 => ?_) (fun h2 => ?_)
    · rw [if_pos h2] at hF
      refine zw_iload_n C dX3_scale_25 1 rfl rfl ?_
      refine zw_bipush C (v := 9) dX3_scale_26 (by decide) ?_
      refine zw_icmp_ne C 38 dX3_scale_28 (by decide) (fun h3 => ?_) (fun h3 => ?_)
      · rw [if_neg h3] at hF
        refine zw_aload_n C dX3_scale_38 0 rfl rfl ?_
        refine zw_get C FX3 0 6 (v := .ref (a 5)) rfl (by decide) lkX3_33 rfl dX3_scale_39 ?_
        refine zw_iload_n C dX3_scale_42 1 rfl rfl ?_
        refine zw_iload_n C dX3_scale_43 2 rfl rfl ?_
        refine zw_iload_n C dX3_scale_44 3 rfl rfl ?_
        refine zw_iload_n C dX3_scale_45 1 rfl rfl ?_
        refine zw_bipush C (v := 8) dX3_scale_46 (by decide) ?_
        refine zw_icmp_ne C 60 dX3_scale_48 (by decide) (fun h4 => ?_) (fun h4 => ?_)
        · rw [if_neg h4] at hF
          refine zw_lconst C (v := 0) dX3_scale_60 (by decide) ?_
          obtain ⟨q5, e6⟩ : ∃ z, fX1_make S p1 p2 p3 0 = z := ⟨_, rfl⟩
          rw [zw_l_eq e6] at hF
          refine zw_calli C kvX3_90 (kX1_make_S (dz_notFull (by assumption) hy2.2.2.2.1 hy2.1).2 e6) ⟨rfl, rfl, ⟨by decide, by decide⟩, by decide, by decide⟩ FX1 5 (As := [.int p1, .int p2, .int p3, .long 0]) (rest := []) rfl rfl rfl (Nat.le_of_ble_eq_true rfl) dX3_scale_61 ?_
          subst hF
          exact zw_ireturn C hr hlk dX3_scale_64 rfl rfl
        · rw [if_pos h4] at hF
          refine zw_aload_n C dX3_scale_51 0 rfl rfl ?_
          refine zw_get C FX3 0 2 (v := .ref (a 2)) rfl (by decide) lkX3_17 rfl dX3_scale_52 ?_
          refine zw_iload_n C dX3_scale_55 2 rfl rfl ?_
          refine zw_lald C 2 1 (f := B.2.2.2.2.1) (i := p2) rfl rfl (dz_can8 (by assumption) (by assumption)) dX3_scale_56 ?_
          refine zw_goto C 61 dX3_scale_57 (by decide) ?_
          obtain ⟨q7, e8⟩ : ∃ z, fX1_make S p1 p2 p3 (B.2.2.2.2.1 p2.toNatClampNeg) = z := ⟨_, rfl⟩
          rw [zw_l_eq e8] at hF
          refine zw_calli C kvX3_90 (kX1_make_S (dz_notFull (by assumption) hy2.2.2.2.1 hy2.1).2 e8) ⟨rfl, rfl, ⟨by decide, by decide⟩, by decide, by decide⟩ FX1 5 (As := [.int p1, .int p2, .int p3, .long (B.2.2.2.2.1 p2.toNatClampNeg)]) (rest := []) rfl rfl rfl (Nat.le_of_ble_eq_true rfl) dX3_scale_61 ?_
          subst hF
          exact zw_ireturn C hr hlk dX3_scale_64 rfl rfl
      · rw [if_pos h3] at hF
        refine zw_aload_n C dX3_scale_31 0 rfl rfl ?_
        refine zw_iload_n C dX3_scale_32 2 rfl rfl ?_
        refine zw_iload_n C dX3_scale_33 3 rfl rfl ?_
        obtain ⟨q9, e10⟩ : ∃ z, fX3_makeNow B S V T p2 p3 = z := ⟨_, rfl⟩
        rw [zw_l_eq e10] at hF
        refine zw_calli C kvX3_87 (kX3_makeNow hy1 hy2 (dz_hasIn (dz_can9 (by assumption) (by assumption)).1 hy2.2.2.2.1 hy2.1) (dz_thingIn (dz_can9 (by assumption) (by assumption)).2 hy1.2.2.1 hy1.1) (dz_notFull (by assumption) hy2.2.2.2.1 hy2.1).2 e10) ⟨rfl, rfl, ⟨by decide, by decide⟩, by decide, by decide⟩ FX3 0 (As := [.int p2, .int p3]) (rest := []) rfl rfl rfl (Nat.le_of_ble_eq_true rfl) dX3_scale_34 ?_
        subst hF
        exact zw_ireturn C hr hlk dX3_scale_37 rfl rfl
    · rw [if_neg h2] at hF
      refine zw_bipush C (v := (-2)) dX3_scale_22 (by decide) ?_
      subst hF
      exact zw_ireturn C hr hlk dX3_scale_24 rfl rfl
  · rw [if_pos h1] at hF
    refine zw_iconst C (v := (-1)) dX3_scale_10 (by decide) ?_
    subst hF
    exact zw_ireturn C hr hlk dX3_scale_11 rfl rfl
