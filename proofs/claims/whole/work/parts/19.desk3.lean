def fX3_canMakeScale (B : dB) (S : dS) (V : dV) (p1 : Int32) (p2 : Int32) (p3 : Int32) : Int32 := (if p1 = 0 then fX3_isColumn p2 else (if p1 = 1 then 1 else (if p1 = 2 then (if (fX1_has S p2) = 0 then 0 else (if (fX1_has S p3) = 0 then 0 else 1)) else (if p1 = 3 then (if (fX1_has S p2) = 0 then 0 else (if (fX1_has S p3) = 0 then 0 else 1)) else (if p1 = 4 then (if (fX1_has S p2) = 0 then 0 else (if (fX1_has S p3) = 0 then 0 else 1)) else (if p1 = 5 then (if (fX1_has S p2) = 0 then 0 else (if (fX1_has S p3) = 0 then 0 else 1)) else (if p1 = 6 then (if (fX1_has V p2) = 0 then 0 else (if (fX1_has S p3) = 0 then 0 else 1)) else (if p1 = 7 then fX1_has S p2 else (if p1 = 8 then fX3_isPlaceOfRow p2.toInt64 else (if p1 = 9 then (if (fX1_has S p2) = 0 then 0 else (if (fX3_isThing B p3) = 0 then 0 else 1)) else (if p1 = 10 then 1 else (if p1 = 11 then 1 else 0))))))))))))
set_option maxHeartbeats 4000000 in
set_option maxRecDepth 100000 in
theorem kX3_canMakeScale {l : Launch} {D : va_G} {cI cL : ClassId} {a : Nat → Nat} {B : dB} {S : dS} {V : dV} {O : dO} {G : dG} {F : dF} {T : dT} {p1 : Int32} {p2 : Int32} {p3 : Int32} {q : Int32} (hF : fX3_canMakeScale B S V p1 p2 p3 = q) : zw_Mi l yX3_canMakeScale cX3_canMakeScale 4 .boolean D (zw_tys cI cL) (zw_rm 1 21) [.ref (a 0), .int p1, .int p2, .int p3] (wD cI cL a B S V O G F T) (wD cI cL a B S V O G F T) q := by
  unfold fX3_canMakeScale at hF
  refine zw_Mi_of (own := RX3) (by decide) rfl (Nat.le_of_ble_eq_true rfl) ?_
  intro p e s m args below meth c A C hr hlk
  refine zw_eq (lv2 := [(0, .ref (a 0)), (1, .int p1), (2, .int p2), (3, .int p3)]) rfl rfl rfl ?_
  refine zw_iload_n C dX3_canMakeScale_0 1 rfl rfl ?_
  by_cases h1 : p1 = 0
  · rw [if_pos h1] at hF
    refine zw_tableIn C 64 dX3_canMakeScale_1 (by rw [h1]; decide) (by rw [h1]; decide) (by rw [h1]; rfl) (by decide) ?_
    refine zw_iload_n C dX3_canMakeScale_64 2 rfl rfl ?_
    refine zw_scalli C kvX3_72 (kX3_isColumn rfl) ⟨rfl, rfl, ⟨by decide, by decide⟩, by decide, by decide⟩ (As := [.int p2]) (rest := []) rfl rfl (Nat.le_of_ble_eq_true rfl) dX3_canMakeScale_65 ?_
    subst hF
    exact zw_zreturn C hr hlk (zw_nb bb_fX3_isColumn) dX3_canMakeScale_68 rfl rfl
  rw [if_neg h1] at hF
  by_cases h2 : p1 = 1
  · rw [if_pos h2] at hF
    refine zw_tableIn C 165 dX3_canMakeScale_1 (by rw [h2]; decide) (by rw [h2]; decide) (by rw [h2]; rfl) (by decide) ?_
    refine zw_iconst C (v := 1) dX3_canMakeScale_165 (by decide) ?_
    subst hF
    exact zw_zreturn C hr hlk rfl dX3_canMakeScale_166 rfl rfl
  rw [if_neg h2] at hF
  by_cases h3 : p1 = 2
  · rw [if_pos h3] at hF
    refine zw_tableIn C 69 dX3_canMakeScale_1 (by rw [h3]; decide) (by rw [h3]; decide) (by rw [h3]; rfl) (by decide) ?_
    refine zw_aload_n C dX3_canMakeScale_69 0 rfl rfl ?_
    refine zw_get C FX3 0 6 (v := .ref (a 5)) rfl (by decide) lkX3_33 rfl dX3_canMakeScale_70 ?_
    refine zw_iload_n C dX3_canMakeScale_73 2 rfl rfl ?_
    refine zw_calli C kvX3_100 (kX1_has_S rfl) ⟨rfl, rfl, ⟨by decide, by decide⟩, by decide, by decide⟩ FX1 5 (As := [.int p2]) (rest := []) rfl rfl rfl (Nat.le_of_ble_eq_true rfl) dX3_canMakeScale_74 ?_
    refine zw_if_eq C 95 dX3_canMakeScale_77 (by decide) (fun h4 => ?_) (fun h4 => ?_)
    · rw [if_pos h4] at hF
      refine zw_iconst C (v := 0) dX3_canMakeScale_95 (by decide) ?_
      subst hF
      exact zw_zreturn C hr hlk rfl dX3_canMakeScale_96 rfl rfl
    · rw [if_neg h4] at hF
      refine zw_aload_n C dX3_canMakeScale_80 0 rfl rfl ?_
      refine zw_get C FX3 0 6 (v := .ref (a 5)) rfl (by decide) lkX3_33 rfl dX3_canMakeScale_81 ?_
      refine zw_iload_n C dX3_canMakeScale_84 3 rfl rfl ?_
      refine zw_calli C kvX3_100 (kX1_has_S rfl) ⟨rfl, rfl, ⟨by decide, by decide⟩, by decide, by decide⟩ FX1 5 (As := [.int p3]) (rest := []) rfl rfl rfl (Nat.le_of_ble_eq_true rfl) dX3_canMakeScale_85 ?_
      refine zw_if_eq C 95 dX3_canMakeScale_88 (by decide) (fun h5 => ?_) (fun h5 => ?_)
      · rw [if_pos h5] at hF
        refine zw_iconst C (v := 0) dX3_canMakeScale_95 (by decide) ?_
        subst hF
        exact zw_zreturn C hr hlk rfl dX3_canMakeScale_96 rfl rfl
      · rw [if_neg h5] at hF
        refine zw_iconst C (v := 1) dX3_canMakeScale_91 (by decide) ?_
        refine zw_goto C 96 dX3_canMakeScale_92 (by decide) ?_
        subst hF
        exact zw_zreturn C hr hlk rfl dX3_canMakeScale_96 rfl rfl
  rw [if_neg h3] at hF
  by_cases h6 : p1 = 3
  · rw [if_pos h6] at hF
    refine zw_tableIn C 69 dX3_canMakeScale_1 (by rw [h6]; decide) (by rw [h6]; decide) (by rw [h6]; rfl) (by decide) ?_
    refine zw_aload_n C dX3_canMakeScale_69 0 rfl rfl ?_
    refine zw_get C FX3 0 6 (v := .ref (a 5)) rfl (by decide) lkX3_33 rfl dX3_canMakeScale_70 ?_
    refine zw_iload_n C dX3_canMakeScale_73 2 rfl rfl ?_
    refine zw_calli C kvX3_100 (kX1_has_S rfl) ⟨rfl, rfl, ⟨by decide, by decide⟩, by decide, by decide⟩ FX1 5 (As := [.int p2]) (rest := []) rfl rfl rfl (Nat.le_of_ble_eq_true rfl) dX3_canMakeScale_74 ?_
    refine zw_if_eq C 95 dX3_canMakeScale_77 (by decide) (fun h7 => ?_) (fun h7 => ?_)
    · rw [if_pos h7] at hF
      refine zw_iconst C (v := 0) dX3_canMakeScale_95 (by decide) ?_
      subst hF
      exact zw_zreturn C hr hlk rfl dX3_canMakeScale_96 rfl rfl
    · rw [if_neg h7] at hF
      refine zw_aload_n C dX3_canMakeScale_80 0 rfl rfl ?_
      refine zw_get C FX3 0 6 (v := .ref (a 5)) rfl (by decide) lkX3_33 rfl dX3_canMakeScale_81 ?_
      refine zw_iload_n C dX3_canMakeScale_84 3 rfl rfl ?_
      refine zw_calli C kvX3_100 (kX1_has_S rfl) ⟨rfl, rfl, ⟨by decide, by decide⟩, by decide, by decide⟩ FX1 5 (As := [.int p3]) (rest := []) rfl rfl rfl (Nat.le_of_ble_eq_true rfl) dX3_canMakeScale_85 ?_
      refine zw_if_eq C 95 dX3_canMakeScale_88 (by decide) (fun h8 => ?_) (fun h8 => ?_)
      · rw [if_pos h8] at hF
        refine zw_iconst C (v := 0) dX3_canMakeScale_95 (by decide) ?_
        subst hF
        exact zw_zreturn C hr hlk rfl dX3_canMakeScale_96 rfl rfl
      · rw [if_neg h8] at hF
        refine zw_iconst C (v := 1) dX3_canMakeScale_91 (by decide) ?_
        refine zw_goto C 96 dX3_canMakeScale_92 (by decide) ?_
        subst hF
        exact zw_zreturn C hr hlk rfl dX3_canMakeScale_96 rfl rfl
  rw [if_neg h6] at hF
  by_cases h9 : p1 = 4
  · rw [if_pos h9] at hF
    refine zw_tableIn C 69 dX3_canMakeScale_1 (by rw [h9]; decide) (by rw [h9]; decide) (by rw [h9]; rfl) (by decide) ?_
    refine zw_aload_n C dX3_canMakeScale_69 0 rfl rfl ?_
    refine zw_get C FX3 0 6 (v := .ref (a 5)) rfl (by decide) lkX3_33 rfl dX3_canMakeScale_70 ?_
    refine zw_iload_n C dX3_canMakeScale_73 2 rfl rfl ?_
    refine zw_calli C kvX3_100 (kX1_has_S rfl) ⟨rfl, rfl, ⟨by decide, by decide⟩, by decide, by decide⟩ FX1 5 (As := [.int p2]) (rest := []) rfl rfl rfl (Nat.le_of_ble_eq_true rfl) dX3_canMakeScale_74 ?_
    refine zw_if_eq C 95 dX3_canMakeScale_77 (by decide) (fun h10 => ?_) (fun h10 => ?_)
    · rw [if_pos h10] at hF
      refine zw_iconst C (v := 0) dX3_canMakeScale_95 (by decide) ?_
      subst hF
      exact zw_zreturn C hr hlk rfl dX3_canMakeScale_96 rfl rfl
    · rw [if_neg h10] at hF
      refine zw_aload_n C dX3_canMakeScale_80 0 rfl rfl ?_
      refine zw_get C FX3 0 6 (v := .ref (a 5)) rfl (by decide) lkX3_33 rfl dX3_canMakeScale_81 ?_
      refine zw_iload_n C dX3_canMakeScale_84 3 rfl rfl ?_
      refine zw_calli C kvX3_100 (kX1_has_S rfl) ⟨rfl, rfl, ⟨by decide, by decide⟩, by decide, by decide⟩ FX1 5 (As := [.int p3]) (rest := []) rfl rfl rfl (Nat.le_of_ble_eq_true rfl) dX3_canMakeScale_85 ?_
      refine zw_if_eq C 95 dX3_canMakeScale_88 (by decide) (fun h11 => ?_) (fun h11 => ?_)
      · rw [if_pos h11] at hF
        refine zw_iconst C (v := 0) dX3_canMakeScale_95 (by decide) ?_
        subst hF
        exact zw_zreturn C hr hlk rfl dX3_canMakeScale_96 rfl rfl
      · rw [if_neg h11] at hF
        refine zw_iconst C (v := 1) dX3_canMakeScale_91 (by decide) ?_
        refine zw_goto C 96 dX3_canMakeScale_92 (by decide) ?_
        subst hF
        exact zw_zreturn C hr hlk rfl dX3_canMakeScale_96 rfl rfl
  rw [if_neg h9] at hF
  by_cases h12 : p1 = 5
  · rw [if_pos h12] at hF
    refine zw_tableIn C 69 dX3_canMakeScale_1 (by rw [h12]; decide) (by rw [h12]; decide) (by rw [h12]; rfl) (by decide) ?_
    refine zw_aload_n C dX3_canMakeScale_69 0 rfl rfl ?_
    refine zw_get C FX3 0 6 (v := .ref (a 5)) rfl (by decide) lkX3_33 rfl dX3_canMakeScale_70 ?_
    refine zw_iload_n C dX3_canMakeScale_73 2 rfl rfl ?_
    refine zw_calli C kvX3_100 (kX1_has_S rfl) ⟨rfl, rfl, ⟨by decide, by decide⟩, by decide, by decide⟩ FX1 5 (As := [.int p2]) (rest := []) rfl rfl rfl (Nat.le_of_ble_eq_true rfl) dX3_canMakeScale_74 ?_
    refine zw_if_eq C 95 dX3_canMakeScale_77 (by decide) (fun h13 => ?_) (fun h13 => ?_)
    · rw [if_pos h13] at hF
      refine zw_iconst C (v := 0) dX3_canMakeScale_95 (by decide) ?_
      subst hF
      exact zw_zreturn C hr hlk rfl dX3_canMakeScale_96 rfl rfl
    · rw [if_neg h13] at hF
      refine zw_aload_n C dX3_canMakeScale_80 0 rfl rfl ?_
      refine zw_get C FX3 0 6 (v := .ref (a 5)) rfl (by decide) lkX3_33 rfl dX3_canMakeScale_81 ?_
      refine zw_iload_n C dX3_canMakeScale_84 3 rfl rfl ?_
      refine zw_calli C kvX3_100 (kX1_has_S rfl) ⟨rfl, rfl, ⟨by decide, by decide⟩, by decide, by decide⟩ FX1 5 (As := [.int p3]) (rest := []) rfl rfl rfl (Nat.le_of_ble_eq_true rfl) dX3_canMakeScale_85 ?_
      refine zw_if_eq C 95 dX3_canMakeScale_88 (by decide) (fun h14 => ?_) (fun h14 => ?_)
      · rw [if_pos h14] at hF
        refine zw_iconst C (v := 0) dX3_canMakeScale_95 (by decide) ?_
        subst hF
        exact zw_zreturn C hr hlk rfl dX3_canMakeScale_96 rfl rfl
      · rw [if_neg h14] at hF
        refine zw_iconst C (v := 1) dX3_canMakeScale_91 (by decide) ?_
        refine zw_goto C 96 dX3_canMakeScale_92 (by decide) ?_
        subst hF
        exact zw_zreturn C hr hlk rfl dX3_canMakeScale_96 rfl rfl
  rw [if_neg h12] at hF
  by_cases h15 : p1 = 6
  · rw [if_pos h15] at hF
    refine zw_tableIn C 97 dX3_canMakeScale_1 (by rw [h15]; decide) (by rw [h15]; decide) (by rw [h15]; rfl) (by decide) ?_
    refine zw_aload_n C dX3_canMakeScale_97 0 rfl rfl ?_
    refine zw_get C FX3 0 7 (v := .ref (a 10)) rfl (by decide) lkX3_37 rfl dX3_canMakeScale_98 ?_
    refine zw_iload_n C dX3_canMakeScale_101 2 rfl rfl ?_
    refine zw_calli C kvX3_100 (kX1_has_V rfl) ⟨rfl, rfl, ⟨by decide, by decide⟩, by decide, by decide⟩ FX1 10 (As := [.int p2]) (rest := []) rfl rfl rfl (Nat.le_of_ble_eq_true rfl) dX3_canMakeScale_102 ?_
    refine zw_if_eq C 123 dX3_canMakeScale_105 (by decide) (fun h16 => ?_) (fun h16 => ?_)
    · rw [if_pos h16] at hF
      refine zw_iconst C (v := 0) dX3_canMakeScale_123 (by decide) ?_
      subst hF
      exact zw_zreturn C hr hlk rfl dX3_canMakeScale_124 rfl rfl
    · rw [if_neg h16] at hF
      refine zw_aload_n C dX3_canMakeScale_108 0 rfl rfl ?_
      refine zw_get C FX3 0 6 (v := .ref (a 5)) rfl (by decide) lkX3_33 rfl dX3_canMakeScale_109 ?_
      refine zw_iload_n C dX3_canMakeScale_112 3 rfl rfl ?_
      refine zw_calli C kvX3_100 (kX1_has_S rfl) ⟨rfl, rfl, ⟨by decide, by decide⟩, by decide, by decide⟩ FX1 5 (As := [.int p3]) (rest := []) rfl rfl rfl (Nat.le_of_ble_eq_true rfl) dX3_canMakeScale_113 ?_
      refine zw_if_eq C 123 dX3_canMakeScale_116 (by decide) (fun h17 => ?_) (fun h17 => ?_)
      · rw [if_pos h17] at hF
        refine zw_iconst C (v := 0) dX3_canMakeScale_123 (by decide) ?_
        subst hF
        exact zw_zreturn C hr hlk rfl dX3_canMakeScale_124 rfl rfl
      · rw [if_neg h17] at hF
        refine zw_iconst C (v := 1) dX3_canMakeScale_119 (by decide) ?_
        refine zw_goto C 124 dX3_canMakeScale_120 (by decide) ?_
        subst hF
        exact zw_zreturn C hr hlk rfl dX3_canMakeScale_124 rfl rfl
  rw [if_neg h15] at hF
  by_cases h18 : p1 = 7
  · rw [if_pos h18] at hF
    refine zw_tableIn C 125 dX3_canMakeScale_1 (by rw [h18]; decide) (by rw [h18]; decide) (by rw [h18]; rfl) (by decide) ?_
    refine zw_aload_n C dX3_canMakeScale_125 0 rfl rfl ?_
    refine zw_get C FX3 0 6 (v := .ref (a 5)) rfl (by decide) lkX3_33 rfl dX3_canMakeScale_126 ?_
    refine zw_iload_n C dX3_canMakeScale_129 2 rfl rfl ?_
    refine zw_calli C kvX3_100 (kX1_has_S rfl) ⟨rfl, rfl, ⟨by decide, by decide⟩, by decide, by decide⟩ FX1 5 (As := [.int p2]) (rest := []) rfl rfl rfl (Nat.le_of_ble_eq_true rfl) dX3_canMakeScale_130 ?_
    subst hF
    exact zw_zreturn C hr hlk (zw_nb bb_fX1_has) dX3_canMakeScale_133 rfl rfl
  rw [if_neg h18] at hF
  by_cases h19 : p1 = 8
  · rw [if_pos h19] at hF
    refine zw_tableIn C 134 dX3_canMakeScale_1 (by rw [h19]; decide) (by rw [h19]; decide) (by rw [h19]; rfl) (by decide) ?_
    refine zw_iload_n C dX3_canMakeScale_134 2 rfl rfl ?_
    refine zw_i2l C dX3_canMakeScale_135 ?_
    refine zw_scalli C kvX3_75 (kX3_isPlaceOfRow rfl) ⟨rfl, rfl, ⟨by decide, by decide⟩, by decide, by decide⟩ (As := [.long p2.toInt64]) (rest := []) rfl rfl (Nat.le_of_ble_eq_true rfl) dX3_canMakeScale_136 ?_
    subst hF
    exact zw_zreturn C hr hlk (zw_nb bb_fX3_isPlaceOfRow) dX3_canMakeScale_139 rfl rfl
  rw [if_neg h19] at hF
  by_cases h20 : p1 = 9
  · rw [if_pos h20] at hF
    refine zw_tableIn C 140 dX3_canMakeScale_1 (by rw [h20]; decide) (by rw [h20]; decide) (by rw [h20]; rfl) (by decide) ?_
    refine zw_aload_n C dX3_canMakeScale_140 0 rfl rfl ?_
    refine zw_get C FX3 0 6 (v := .ref (a 5)) rfl (by decide) lkX3_33 rfl dX3_canMakeScale_141 ?_
    refine zw_iload_n C dX3_canMakeScale_144 2 rfl rfl ?_
    refine zw_calli C kvX3_100 (kX1_has_S rfl) ⟨rfl, rfl, ⟨by decide, by decide⟩, by decide, by decide⟩ FX1 5 (As := [.int p2]) (rest := []) rfl rfl rfl (Nat.le_of_ble_eq_true rfl) dX3_canMakeScale_145 ?_
    refine zw_if_eq C 163 dX3_canMakeScale_148 (by decide) (fun h21 => ?_) (fun h21 => ?_)
    · rw [if_pos h21] at hF
      refine zw_iconst C (v := 0) dX3_canMakeScale_163 (by decide) ?_
      subst hF
      exact zw_zreturn C hr hlk rfl dX3_canMakeScale_164 rfl rfl
    · rw [if_neg h21] at hF
      refine zw_aload_n C dX3_canMakeScale_151 0 rfl rfl ?_
      refine zw_iload_n C dX3_canMakeScale_152 3 rfl rfl ?_
      refine zw_calli C kvX3_68 (kX3_isThing rfl) ⟨rfl, rfl, ⟨by decide, by decide⟩, by decide, by decide⟩ FX3 0 (As := [.int p3]) (rest := []) rfl rfl rfl (Nat.le_of_ble_eq_true rfl) dX3_canMakeScale_153 ?_
      refine zw_if_eq C 163 dX3_canMakeScale_156 (by decide) (fun h22 => ?_) (fun h22 => ?_)
      · rw [if_pos h22] at hF
        refine zw_iconst C (v := 0) dX3_canMakeScale_163 (by decide) ?_
        subst hF
        exact zw_zreturn C hr hlk rfl dX3_canMakeScale_164 rfl rfl
      · rw [if_neg h22] at hF
        refine zw_iconst C (v := 1) dX3_canMakeScale_159 (by decide) ?_
        refine zw_goto C 164 dX3_canMakeScale_160 (by decide) ?_
        subst hF
        exact zw_zreturn C hr hlk rfl dX3_canMakeScale_164 rfl rfl
  rw [if_neg h20] at hF
  by_cases h23 : p1 = 10
  · rw [if_pos h23] at hF
    refine zw_tableIn C 165 dX3_canMakeScale_1 (by rw [h23]; decide) (by rw [h23]; decide) (by rw [h23]; rfl) (by decide) ?_
    refine zw_iconst C (v := 1) dX3_canMakeScale_165 (by decide) ?_
    subst hF
    exact zw_zreturn C hr hlk rfl dX3_canMakeScale_166 rfl rfl
  rw [if_neg h23] at hF
  by_cases h24 : p1 = 11
  · rw [if_pos h24] at hF
    refine zw_tableIn C 165 dX3_canMakeScale_1 (by rw [h24]; decide) (by rw [h24]; decide) (by rw [h24]; rfl) (by decide) ?_
    refine zw_iconst C (v := 1) dX3_canMakeScale_165 (by decide) ?_
    subst hF
    exact zw_zreturn C hr hlk rfl dX3_canMakeScale_166 rfl rfl
  rw [if_neg h24] at hF
  refine zw_tableOut C 167 dX3_canMakeScale_1 (zw_tout (n := 11) (by decide) (fun k hk => by match k, hk with | 0, _ => exact h1 | 1, _ => exact h2 | 2, _ => exact h3 | 3, _ => exact h6 | 4, _ => exact h9 | 5, _ => exact h12 | 6, _ => exact h15 | 7, _ => exact h18 | 8, _ => exact h19 | 9, _ => exact h20 | 10, _ => exact h23 | 11, _ => exact h24 | k + 12, hk => exact absurd hk (by omega))) (by decide) ?_
  refine zw_iconst C (v := 0) dX3_canMakeScale_167 (by decide) ?_
  subst hF
  exact zw_zreturn C hr hlk rfl dX3_canMakeScale_168 rfl rfl
def fX3_canMakeSieve (S : dS) (V : dV) (p1 : Int32) (p2 : Int32) (p3 : Int32) : Int32 := (if p1 = 0 then 1 else (if p1 = 1 then (if (fX1_has S p2) = 0 then 0 else (if (fX1_has S p3) = 0 then 0 else 1)) else (if p1 = 2 then (if (fX1_has S p2) = 0 then 0 else (if (fX1_has S p3) = 0 then 0 else 1)) else (if p1 = 3 then fX1_has V p2 else (if p1 = 4 then (if (fX1_has V p2) = 0 then 0 else (if (fX1_has V p3) = 0 then 0 else 1)) else (if p1 = 5 then (if (fX1_has V p2) = 0 then 0 else (if (fX1_has V p3) = 0 then 0 else 1)) else (if p1 = 6 then 1 else (if p1 = 7 then 1 else (if p1 = 8 then fX1_has V p2 else (if p1 = 9 then 1 else 0))))))))))
set_option maxHeartbeats 4000000 in
set_option maxRecDepth 100000 in
theorem kX3_canMakeSieve {l : Launch} {D : va_G} {cI cL : ClassId} {a : Nat → Nat} {B : dB} {S : dS} {V : dV} {O : dO} {G : dG} {F : dF} {T : dT} {p1 : Int32} {p2 : Int32} {p3 : Int32} {q : Int32} (hF : fX3_canMakeSieve S V p1 p2 p3 = q) : zw_Mi l yX3_canMakeSieve cX3_canMakeSieve 4 .boolean D (zw_tys cI cL) (zw_rm 1 21) [.ref (a 0), .int p1, .int p2, .int p3] (wD cI cL a B S V O G F T) (wD cI cL a B S V O G F T) q := by
  unfold fX3_canMakeSieve at hF
  refine zw_Mi_of (own := RX3) (by decide) rfl (Nat.le_of_ble_eq_true rfl) ?_
  intro p e s m args below meth c A C hr hlk
  refine zw_eq (lv2 := [(0, .ref (a 0)), (1, .int p1), (2, .int p2), (3, .int p3)]) rfl rfl rfl ?_
  refine zw_iload_n C dX3_canMakeSieve_0 1 rfl rfl ?_
  by_cases h1 : p1 = 0
  · rw [if_pos h1] at hF
    refine zw_tableIn C 121 dX3_canMakeSieve_1 (by rw [h1]; decide) (by rw [h1]; decide) (by rw [h1]; rfl) (by decide) ?_
    refine zw_iconst C (v := 1) dX3_canMakeSieve_121 (by decide) ?_
    subst hF
    exact zw_zreturn C hr hlk rfl dX3_canMakeSieve_122 rfl rfl
  rw [if_neg h1] at hF
  by_cases h2 : p1 = 1
  · rw [if_pos h2] at hF
    refine zw_tableIn C 56 dX3_canMakeSieve_1 (by rw [h2]; decide) (by rw [h2]; decide) (by rw [h2]; rfl) (by decide) ?_
    refine zw_aload_n C dX3_canMakeSieve_56 0 rfl rfl ?_
    refine zw_get C FX3 0 6 (v := .ref (a 5)) rfl (by decide) lkX3_33 rfl dX3_canMakeSieve_57 ?_
    refine zw_iload_n C dX3_canMakeSieve_60 2 rfl rfl ?_
    refine zw_calli C kvX3_100 (kX1_has_S rfl) ⟨rfl, rfl, ⟨by decide, by decide⟩, by decide, by decide⟩ FX1 5 (As := [.int p2]) (rest := []) rfl rfl rfl (Nat.le_of_ble_eq_true rfl) dX3_canMakeSieve_61 ?_
    refine zw_if_eq C 82 dX3_canMakeSieve_64 (by decide) (fun h3 => ?_) (fun h3 => ?_)
    · rw [if_pos h3] at hF
      refine zw_iconst C (v := 0) dX3_canMakeSieve_82 (by decide) ?_
      subst hF
      exact zw_zreturn C hr hlk rfl dX3_canMakeSieve_83 rfl rfl
    · rw [if_neg h3] at hF
      refine zw_aload_n C dX3_canMakeSieve_67 0 rfl rfl ?_
      refine zw_get C FX3 0 6 (v := .ref (a 5)) rfl (by decide) lkX3_33 rfl dX3_canMakeSieve_68 ?_
      refine zw_iload_n C dX3_canMakeSieve_71 3 rfl rfl ?_
      refine zw_calli C kvX3_100 (kX1_has_S rfl) ⟨rfl, rfl, ⟨by decide, by decide⟩, by decide, by decide⟩ FX1 5 (As := [.int p3]) (rest := []) rfl rfl rfl (Nat.le_of_ble_eq_true rfl) dX3_canMakeSieve_72 ?_
      refine zw_if_eq C 82 dX3_canMakeSieve_75 (by decide) (fun h4 => ?_) (fun h4 => ?_)
      · rw [if_pos h4] at hF
        refine zw_iconst C (v := 0) dX3_canMakeSieve_82 (by decide) ?_
        subst hF
        exact zw_zreturn C hr hlk rfl dX3_canMakeSieve_83 rfl rfl
      · rw [if_neg h4] at hF
        refine zw_iconst C (v := 1) dX3_canMakeSieve_78 (by decide) ?_
        refine zw_goto C 83 dX3_canMakeSieve_79 (by decide) ?_
        subst hF
        exact zw_zreturn C hr hlk rfl dX3_canMakeSieve_83 rfl rfl
  rw [if_neg h2] at hF
  by_cases h5 : p1 = 2
  · rw [if_pos h5] at hF
    refine zw_tableIn C 56 dX3_canMakeSieve_1 (by rw [h5]; decide) (by rw [h5]; decide) (by rw [h5]; rfl) (by decide) ?_
    refine zw_aload_n C dX3_canMakeSieve_56 0 rfl rfl ?_
    refine zw_get C FX3 0 6 (v := .ref (a 5)) rfl (by decide) lkX3_33 rfl dX3_canMakeSieve_57 ?_
    refine zw_iload_n C dX3_canMakeSieve_60 2 rfl rfl ?_
    refine zw_calli C kvX3_100 (kX1_has_S rfl) ⟨rfl, rfl, ⟨by decide, by decide⟩, by decide, by decide⟩ FX1 5 (As := [.int p2]) (rest := []) rfl rfl rfl (Nat.le_of_ble_eq_true rfl) dX3_canMakeSieve_61 ?_
    refine zw_if_eq C 82 dX3_canMakeSieve_64 (by decide) (fun h6 => ?_) (fun h6 => ?_)
    · rw [if_pos h6] at hF
      refine zw_iconst C (v := 0) dX3_canMakeSieve_82 (by decide) ?_
      subst hF
      exact zw_zreturn C hr hlk rfl dX3_canMakeSieve_83 rfl rfl
    · rw [if_neg h6] at hF
      refine zw_aload_n C dX3_canMakeSieve_67 0 rfl rfl ?_
      refine zw_get C FX3 0 6 (v := .ref (a 5)) rfl (by decide) lkX3_33 rfl dX3_canMakeSieve_68 ?_
      refine zw_iload_n C dX3_canMakeSieve_71 3 rfl rfl ?_
      refine zw_calli C kvX3_100 (kX1_has_S rfl) ⟨rfl, rfl, ⟨by decide, by decide⟩, by decide, by decide⟩ FX1 5 (As := [.int p3]) (rest := []) rfl rfl rfl (Nat.le_of_ble_eq_true rfl) dX3_canMakeSieve_72 ?_
      refine zw_if_eq C 82 dX3_canMakeSieve_75 (by decide) (fun h7 => ?_) (fun h7 => ?_)
      · rw [if_pos h7] at hF
        refine zw_iconst C (v := 0) dX3_canMakeSieve_82 (by decide) ?_
        subst hF
        exact zw_zreturn C hr hlk rfl dX3_canMakeSieve_83 rfl rfl
      · rw [if_neg h7] at hF
        refine zw_iconst C (v := 1) dX3_canMakeSieve_78 (by decide) ?_
        refine zw_goto C 83 dX3_canMakeSieve_79 (by decide) ?_
        subst hF
        exact zw_zreturn C hr hlk rfl dX3_canMakeSieve_83 rfl rfl
  rw [if_neg h5] at hF
  by_cases h8 : p1 = 3
  · rw [if_pos h8] at hF
    refine zw_tableIn C 84 dX3_canMakeSieve_1 (by rw [h8]; decide) (by rw [h8]; decide) (by rw [h8]; rfl) (by decide) ?_
    refine zw_aload_n C dX3_canMakeSieve_84 0 rfl rfl ?_
    refine zw_get C FX3 0 7 (v := .ref (a 10)) rfl (by decide) lkX3_37 rfl dX3_canMakeSieve_85 ?_
    refine zw_iload_n C dX3_canMakeSieve_88 2 rfl rfl ?_
    refine zw_calli C kvX3_100 (kX1_has_V rfl) ⟨rfl, rfl, ⟨by decide, by decide⟩, by decide, by decide⟩ FX1 10 (As := [.int p2]) (rest := []) rfl rfl rfl (Nat.le_of_ble_eq_true rfl) dX3_canMakeSieve_89 ?_
    subst hF
    exact zw_zreturn C hr hlk (zw_nb bb_fX1_has) dX3_canMakeSieve_92 rfl rfl
  rw [if_neg h8] at hF
  by_cases h9 : p1 = 4
  · rw [if_pos h9] at hF
    refine zw_tableIn C 93 dX3_canMakeSieve_1 (by rw [h9]; decide) (by rw [h9]; decide) (by rw [h9]; rfl) (by decide) ?_
    refine zw_aload_n C dX3_canMakeSieve_93 0 rfl rfl ?_
    refine zw_get C FX3 0 7 (v := .ref (a 10)) rfl (by decide) lkX3_37 rfl dX3_canMakeSieve_94 ?_
    refine zw_iload_n C dX3_canMakeSieve_97 2 rfl rfl ?_
    refine zw_calli C kvX3_100 (kX1_has_V rfl) ⟨rfl, rfl, ⟨by decide, by decide⟩, by decide, by decide⟩ FX1 10 (As := [.int p2]) (rest := []) rfl rfl rfl (Nat.le_of_ble_eq_true rfl) dX3_canMakeSieve_98 ?_
    refine zw_if_eq C 119 dX3_canMakeSieve_101 (by decide) (fun h10 => ?_) (fun h10 => ?_)
    · rw [if_pos h10] at hF
      refine zw_iconst C (v := 0) dX3_canMakeSieve_119 (by decide) ?_
      subst hF
      exact zw_zreturn C hr hlk rfl dX3_canMakeSieve_120 rfl rfl
    · rw [if_neg h10] at hF
      refine zw_aload_n C dX3_canMakeSieve_104 0 rfl rfl ?_
      refine zw_get C FX3 0 7 (v := .ref (a 10)) rfl (by decide) lkX3_37 rfl dX3_canMakeSieve_105 ?_
      refine zw_iload_n C dX3_canMakeSieve_108 3 rfl rfl ?_
      refine zw_calli C kvX3_100 (kX1_has_V rfl) ⟨rfl, rfl, ⟨by decide, by decide⟩, by decide, by decide⟩ FX1 10 (As := [.int p3]) (rest := []) rfl rfl rfl (Nat.le_of_ble_eq_true rfl) dX3_canMakeSieve_109 ?_
      refine zw_if_eq C 119 dX3_canMakeSieve_112 (by decide) (fun h11 => ?_) (fun h11 => ?_)
      · rw [if_pos h11] at hF
        refine zw_iconst C (v := 0) dX3_canMakeSieve_119 (by decide) ?_
        subst hF
        exact zw_zreturn C hr hlk rfl dX3_canMakeSieve_120 rfl rfl
      · rw [if_neg h11] at hF
        refine zw_iconst C (v := 1) dX3_canMakeSieve_115 (by decide) ?_
        refine zw_goto C 120 dX3_canMakeSieve_116 (by decide) ?_
        subst hF
        exact zw_zreturn C hr hlk rfl dX3_canMakeSieve_120 rfl rfl
  rw [if_neg h9] at hF
  by_cases h12 : p1 = 5
  · rw [if_pos h12] at hF
    refine zw_tableIn C 93 dX3_canMakeSieve_1 (by rw [h12]; decide) (by rw [h12]; decide) (by rw [h12]; rfl) (by decide) ?_
    refine zw_aload_n C dX3_canMakeSieve_93 0 rfl rfl ?_
    refine zw_get C FX3 0 7 (v := .ref (a 10)) rfl (by decide) lkX3_37 rfl dX3_canMakeSieve_94 ?_
    refine zw_iload_n C dX3_canMakeSieve_97 2 rfl rfl ?_
    refine zw_calli C kvX3_100 (kX1_has_V rfl) ⟨rfl, rfl, ⟨by decide, by decide⟩, by decide, by decide⟩ FX1 10 (As := [.int p2]) (rest := []) rfl rfl rfl (Nat.le_of_ble_eq_true rfl) dX3_canMakeSieve_98 ?_
    refine zw_if_eq C 119 dX3_canMakeSieve_101 (by decide) (fun h13 => ?_) (fun h13 => ?_)
    · rw [if_pos h13] at hF
      refine zw_iconst C (v := 0) dX3_canMakeSieve_119 (by decide) ?_
      subst hF
      exact zw_zreturn C hr hlk rfl dX3_canMakeSieve_120 rfl rfl
    · rw [if_neg h13] at hF
      refine zw_aload_n C dX3_canMakeSieve_104 0 rfl rfl ?_
      refine zw_get C FX3 0 7 (v := .ref (a 10)) rfl (by decide) lkX3_37 rfl dX3_canMakeSieve_105 ?_
      refine zw_iload_n C dX3_canMakeSieve_108 3 rfl rfl ?_
      refine zw_calli C kvX3_100 (kX1_has_V rfl) ⟨rfl, rfl, ⟨by decide, by decide⟩, by decide, by decide⟩ FX1 10 (As := [.int p3]) (rest := []) rfl rfl rfl (Nat.le_of_ble_eq_true rfl) dX3_canMakeSieve_109 ?_
      refine zw_if_eq C 119 dX3_canMakeSieve_112 (by decide) (fun h14 => ?_) (fun h14 => ?_)
      · rw [if_pos h14] at hF
        refine zw_iconst C (v := 0) dX3_canMakeSieve_119 (by decide) ?_
        subst hF
        exact zw_zreturn C hr hlk rfl dX3_canMakeSieve_120 rfl rfl
      · rw [if_neg h14] at hF
        refine zw_iconst C (v := 1) dX3_canMakeSieve_115 (by decide) ?_
        refine zw_goto C 120 dX3_canMakeSieve_116 (by decide) ?_
        subst hF
        exact zw_zreturn C hr hlk rfl dX3_canMakeSieve_120 rfl rfl
  rw [if_neg h12] at hF
  by_cases h15 : p1 = 6
  · rw [if_pos h15] at hF
    refine zw_tableIn C 121 dX3_canMakeSieve_1 (by rw [h15]; decide) (by rw [h15]; decide) (by rw [h15]; rfl) (by decide) ?_
    refine zw_iconst C (v := 1) dX3_canMakeSieve_121 (by decide) ?_
    subst hF
    exact zw_zreturn C hr hlk rfl dX3_canMakeSieve_122 rfl rfl
  rw [if_neg h15] at hF
  by_cases h16 : p1 = 7
  · rw [if_pos h16] at hF
    refine zw_tableIn C 121 dX3_canMakeSieve_1 (by rw [h16]; decide) (by rw [h16]; decide) (by rw [h16]; rfl) (by decide) ?_
    refine zw_iconst C (v := 1) dX3_canMakeSieve_121 (by decide) ?_
    subst hF
    exact zw_zreturn C hr hlk rfl dX3_canMakeSieve_122 rfl rfl
  rw [if_neg h16] at hF
  by_cases h17 : p1 = 8
  · rw [if_pos h17] at hF
    refine zw_tableIn C 84 dX3_canMakeSieve_1 (by rw [h17]; decide) (by rw [h17]; decide) (by rw [h17]; rfl) (by decide) ?_
    refine zw_aload_n C dX3_canMakeSieve_84 0 rfl rfl ?_
    refine zw_get C FX3 0 7 (v := .ref (a 10)) rfl (by decide) lkX3_37 rfl dX3_canMakeSieve_85 ?_
    refine zw_iload_n C dX3_canMakeSieve_88 2 rfl rfl ?_
    refine zw_calli C kvX3_100 (kX1_has_V rfl) ⟨rfl, rfl, ⟨by decide, by decide⟩, by decide, by decide⟩ FX1 10 (As := [.int p2]) (rest := []) rfl rfl rfl (Nat.le_of_ble_eq_true rfl) dX3_canMakeSieve_89 ?_
    subst hF
    exact zw_zreturn C hr hlk (zw_nb bb_fX1_has) dX3_canMakeSieve_92 rfl rfl
  rw [if_neg h17] at hF
  by_cases h18 : p1 = 9
  · rw [if_pos h18] at hF
    refine zw_tableIn C 121 dX3_canMakeSieve_1 (by rw [h18]; decide) (by rw [h18]; decide) (by rw [h18]; rfl) (by decide) ?_
    refine zw_iconst C (v := 1) dX3_canMakeSieve_121 (by decide) ?_
    subst hF
    exact zw_zreturn C hr hlk rfl dX3_canMakeSieve_122 rfl rfl
  rw [if_neg h18] at hF
  refine zw_tableOut C 123 dX3_canMakeSieve_1 (zw_tout (n := 9) (by decide) (fun k hk => by match k, hk with | 0, _ => exact h1 | 1, _ => exact h2 | 2, _ => exact h5 | 3, _ => exact h8 | 4, _ => exact h9 | 5, _ => exact h12 | 6, _ => exact h15 | 7, _ => exact h16 | 8, _ => exact h17 | 9, _ => exact h18 | k + 10, hk => exact absurd hk (by omega))) (by decide) ?_
  refine zw_iconst C (v := 0) dX3_canMakeSieve_123 (by decide) ?_
  subst hF
  exact zw_zreturn C hr hlk rfl dX3_canMakeSieve_124 rfl rfl
def fX3_canMakeOrder (S : dS) (V : dV) (O : dO) (p1 : Int32) (p2 : Int32) (p3 : Int32) : Int32 := (if p1 = 0 then fX1_has S p2 else (if p1 = 1 then fX1_has O p2 else (if p1 = 2 then (if (fX1_has O p2) = 0 then 0 else (if (fX1_has O p3) = 0 then 0 else 1)) else (if p1 = 3 then fX1_has V p2 else (if p1 = 4 then 1 else (if p1 = 5 then 1 else 0))))))
set_option maxHeartbeats 4000000 in
set_option maxRecDepth 100000 in
theorem kX3_canMakeOrder {l : Launch} {D : va_G} {cI cL : ClassId} {a : Nat → Nat} {B : dB} {S : dS} {V : dV} {O : dO} {G : dG} {F : dF} {T : dT} {p1 : Int32} {p2 : Int32} {p3 : Int32} {q : Int32} (hF : fX3_canMakeOrder S V O p1 p2 p3 = q) : zw_Mi l yX3_canMakeOrder cX3_canMakeOrder 4 .boolean D (zw_tys cI cL) (zw_rm 1 21) [.ref (a 0), .int p1, .int p2, .int p3] (wD cI cL a B S V O G F T) (wD cI cL a B S V O G F T) q := by
  unfold fX3_canMakeOrder at hF
  refine zw_Mi_of (own := RX3) (by decide) rfl (Nat.le_of_ble_eq_true rfl) ?_
  intro p e s m args below meth c A C hr hlk
  refine zw_eq (lv2 := [(0, .ref (a 0)), (1, .int p1), (2, .int p2), (3, .int p3)]) rfl rfl rfl ?_
  refine zw_iload_n C dX3_canMakeOrder_0 1 rfl rfl ?_
  by_cases h1 : p1 = 0
  · rw [if_pos h1] at hF
    refine zw_tableIn C 40 dX3_canMakeOrder_1 (by rw [h1]; decide) (by rw [h1]; decide) (by rw [h1]; rfl) (by decide) ?_
    refine zw_aload_n C dX3_canMakeOrder_40 0 rfl rfl ?_
    refine zw_get C FX3 0 6 (v := .ref (a 5)) rfl (by decide) lkX3_33 rfl dX3_canMakeOrder_41 ?_
    refine zw_iload_n C dX3_canMakeOrder_44 2 rfl rfl ?_
    refine zw_calli C kvX3_100 (kX1_has_S rfl) ⟨rfl, rfl, ⟨by decide, by decide⟩, by decide, by decide⟩ FX1 5 (As := [.int p2]) (rest := []) rfl rfl rfl (Nat.le_of_ble_eq_true rfl) dX3_canMakeOrder_45 ?_
    subst hF
    exact zw_zreturn C hr hlk (zw_nb bb_fX1_has) dX3_canMakeOrder_48 rfl rfl
  rw [if_neg h1] at hF
  by_cases h2 : p1 = 1
  · rw [if_pos h2] at hF
    refine zw_tableIn C 49 dX3_canMakeOrder_1 (by rw [h2]; decide) (by rw [h2]; decide) (by rw [h2]; rfl) (by decide) ?_
    refine zw_aload_n C dX3_canMakeOrder_49 0 rfl rfl ?_
    refine zw_get C FX3 0 8 (v := .ref (a 15)) rfl (by decide) lkX3_40 rfl dX3_canMakeOrder_50 ?_
    refine zw_iload_n C dX3_canMakeOrder_53 2 rfl rfl ?_
    refine zw_calli C kvX3_100 (kX1_has_O rfl) ⟨rfl, rfl, ⟨by decide, by decide⟩, by decide, by decide⟩ FX1 15 (As := [.int p2]) (rest := []) rfl rfl rfl (Nat.le_of_ble_eq_true rfl) dX3_canMakeOrder_54 ?_
    subst hF
    exact zw_zreturn C hr hlk (zw_nb bb_fX1_has) dX3_canMakeOrder_57 rfl rfl
  rw [if_neg h2] at hF
  by_cases h3 : p1 = 2
  · rw [if_pos h3] at hF
    refine zw_tableIn C 58 dX3_canMakeOrder_1 (by rw [h3]; decide) (by rw [h3]; decide) (by rw [h3]; rfl) (by decide) ?_
    refine zw_aload_n C dX3_canMakeOrder_58 0 rfl rfl ?_
    refine zw_get C FX3 0 8 (v := .ref (a 15)) rfl (by decide) lkX3_40 rfl dX3_canMakeOrder_59 ?_
    refine zw_iload_n C dX3_canMakeOrder_62 2 rfl rfl ?_
    refine zw_calli C kvX3_100 (kX1_has_O rfl) ⟨rfl, rfl, ⟨by decide, by decide⟩, by decide, by decide⟩ FX1 15 (As := [.int p2]) (rest := []) rfl rfl rfl (Nat.le_of_ble_eq_true rfl) dX3_canMakeOrder_63 ?_
    refine zw_if_eq C 84 dX3_canMakeOrder_66 (by decide) (fun h4 => ?_) (fun h4 => ?_)
    · rw [if_pos h4] at hF
      refine zw_iconst C (v := 0) dX3_canMakeOrder_84 (by decide) ?_
      subst hF
      exact zw_zreturn C hr hlk rfl dX3_canMakeOrder_85 rfl rfl
    · rw [if_neg h4] at hF
      refine zw_aload_n C dX3_canMakeOrder_69 0 rfl rfl ?_
      refine zw_get C FX3 0 8 (v := .ref (a 15)) rfl (by decide) lkX3_40 rfl dX3_canMakeOrder_70 ?_
      refine zw_iload_n C dX3_canMakeOrder_73 3 rfl rfl ?_
      refine zw_calli C kvX3_100 (kX1_has_O rfl) ⟨rfl, rfl, ⟨by decide, by decide⟩, by decide, by decide⟩ FX1 15 (As := [.int p3]) (rest := []) rfl rfl rfl (Nat.le_of_ble_eq_true rfl) dX3_canMakeOrder_74 ?_
      refine zw_if_eq C 84 dX3_canMakeOrder_77 (by decide) (fun h5 => ?_) (fun h5 => ?_)
      · rw [if_pos h5] at hF
        refine zw_iconst C (v := 0) dX3_canMakeOrder_84 (by decide) ?_
        subst hF
        exact zw_zreturn C hr hlk rfl dX3_canMakeOrder_85 rfl rfl
      · rw [if_neg h5] at hF
        refine zw_iconst C (v := 1) dX3_canMakeOrder_80 (by decide) ?_
        refine zw_goto C 85 dX3_canMakeOrder_81 (by decide) ?_
        subst hF
        exact zw_zreturn C hr hlk rfl dX3_canMakeOrder_85 rfl rfl
  rw [if_neg h3] at hF
  by_cases h6 : p1 = 3
  · rw [if_pos h6] at hF
    refine zw_tableIn C 86 dX3_canMakeOrder_1 (by rw [h6]; decide) (by rw [h6]; decide) (by rw [h6]; rfl) (by decide) ?_
    refine zw_aload_n C dX3_canMakeOrder_86 0 rfl rfl ?_
    refine zw_get C FX3 0 7 (v := .ref (a 10)) rfl (by decide) lkX3_37 rfl dX3_canMakeOrder_87 ?_
    refine zw_iload_n C dX3_canMakeOrder_90 2 rfl rfl ?_
    refine zw_calli C kvX3_100 (kX1_has_V rfl) ⟨rfl, rfl, ⟨by decide, by decide⟩, by decide, by decide⟩ FX1 10 (As := [.int p2]) (rest := []) rfl rfl rfl (Nat.le_of_ble_eq_true rfl) dX3_canMakeOrder_91 ?_
    subst hF
    exact zw_zreturn C hr hlk (zw_nb bb_fX1_has) dX3_canMakeOrder_94 rfl rfl
  rw [if_neg h6] at hF
  by_cases h7 : p1 = 4
  · rw [if_pos h7] at hF
    refine zw_tableIn C 95 dX3_canMakeOrder_1 (by rw [h7]; decide) (by rw [h7]; decide) (by rw [h7]; rfl) (by decide) ?_
    refine zw_iconst C (v := 1) dX3_canMakeOrder_95 (by decide) ?_
    subst hF
    exact zw_zreturn C hr hlk rfl dX3_canMakeOrder_96 rfl rfl
  rw [if_neg h7] at hF
  by_cases h8 : p1 = 5
  · rw [if_pos h8] at hF
    refine zw_tableIn C 95 dX3_canMakeOrder_1 (by rw [h8]; decide) (by rw [h8]; decide) (by rw [h8]; rfl) (by decide) ?_
    refine zw_iconst C (v := 1) dX3_canMakeOrder_95 (by decide) ?_
    subst hF
    exact zw_zreturn C hr hlk rfl dX3_canMakeOrder_96 rfl rfl
  rw [if_neg h8] at hF
  refine zw_tableOut C 97 dX3_canMakeOrder_1 (zw_tout (n := 5) (by decide) (fun k hk => by match k, hk with | 0, _ => exact h1 | 1, _ => exact h2 | 2, _ => exact h3 | 3, _ => exact h6 | 4, _ => exact h7 | 5, _ => exact h8 | k + 6, hk => exact absurd hk (by omega))) (by decide) ?_
  refine zw_iconst C (v := 0) dX3_canMakeOrder_97 (by decide) ?_
  subst hF
  exact zw_zreturn C hr hlk rfl dX3_canMakeOrder_98 rfl rfl
def fX3_sieve (S : dS) (V : dV) (p1 : Int32) (p2 : Int32) (p3 : Int32) : Int32 × dV := (if (fX3_canMakeSieve S V p1 p2 p3) = 0 then ((-1), V) else (if (fX1_isFull V) = 0 then (zw_l (fX1_make V p1 p2 p3 0) (fun q3 => (q3.1, q3.2))) else ((-2), V)))
set_option maxHeartbeats 4000000 in
set_option maxRecDepth 100000 in
theorem kX3_sieve {l : Launch} {D : va_G} {cI cL : ClassId} {a : Nat → Nat} {B : dB} {S : dS} {V : dV} {O : dO} {G : dG} {F : dF} {T : dT} {p1 : Int32} {p2 : Int32} {p3 : Int32} {q : Int32 × dV} {nt k sn vn on : Nat} {rs rv ro : Nat → Nat} (hy1 : dz_B B nt k) (hy2 : dz_K S V O sn vn on rs rv ro) (hF : fX3_sieve S V p1 p2 p3 = q) : zw_Mi l yX3_sieve cX3_sieve 4 .int D (zw_tys cI cL) (zw_rm 2 44) [.ref (a 0), .int p1, .int p2, .int p3] (wD cI cL a B S V O G F T) (wD cI cL a B S q.2 O G F T) q.1 := by
  unfold fX3_sieve at hF
  refine zw_Mi_of (own := RX3) (by decide) rfl (Nat.le_of_ble_eq_true rfl) ?_
  intro p e s m args below meth c A C hr hlk
  refine zw_eq (lv2 := [(0, .ref (a 0)), (1, .int p1), (2, .int p2), (3, .int p3)]) rfl rfl rfl ?_
  refine zw_aload_n C dX3_sieve_0 0 rfl rfl ?_
  refine zw_iload_n C dX3_sieve_1 1 rfl rfl ?_
  refine zw_iload_n C dX3_sieve_2 2 rfl rfl ?_
  refine zw_iload_n C dX3_sieve_3 3 rfl rfl ?_
  refine zw_calli C kvX3_94 (kX3_canMakeSieve rfl) ⟨rfl, rfl, ⟨by decide, by decide⟩, by decide, by decide⟩ FX3 0 (As := [.int p1, .int p2, .int p3]) (rest := []) rfl rfl rfl (Nat.le_of_ble_eq_true rfl) dX3_sieve_4 ?_
  refine zw_if_ne C 12 dX3_sieve_7 (by decide) (fun h1 => ?_) (fun h1 => ?_)
  · rw [if_neg h1] at hF
    refine zw_aload_n C dX3_sieve_12 0 rfl rfl ?_
    refine zw_get C FX3 0 7 (v := .ref (a 10)) rfl (by decide) lkX3_37 rfl dX3_sieve_13 ?_
    refine zw_calli C kvX3_83 (kX1_isFull_V rfl) ⟨rfl, rfl, ⟨by decide, by decide⟩, by decide, by decide⟩ FX1 10 (As := []) (rest := []) rfl rfl rfl (Nat.le_of_ble_eq_true rfl) dX3_sieve_16 ?_
    refine zw_if_eq C 27 dX3_sieve_19 (by decide) (fun h2 => ?_) (fun h2 => ?_)
    · rw [if_pos h2] at hF
      refine zw_aload_n C dX3_sieve_27 0 rfl rfl ?_
      refine zw_get C FX3 0 7 (v := .ref (a 10)) rfl (by decide) lkX3_37 rfl dX3_sieve_28 ?_
      refine zw_iload_n C dX3_sieve_31 1 rfl rfl ?_
      refine zw_iload_n C dX3_sieve_32 2 rfl rfl ?_
      refine zw_iload_n C dX3_sieve_33 3 rfl rfl ?_
      refine zw_lconst C (v := 0) dX3_sieve_34 (by decide) ?_
      obtain ⟨q3, e4⟩ : ∃ z, fX1_make V p1 p2 p3 0 = z := ⟨_, rfl⟩
      rw [zw_l_eq e4] at hF
      refine zw_calli C kvX3_90 (kX1_make_V (dz_notFull (by assumption) hy2.2.2.2.2.1 hy2.2.1).2 e4) ⟨rfl, rfl, ⟨by decide, by decide⟩, by decide, by decide⟩ FX1 10 (As := [.int p1, .int p2, .int p3, .long 0]) (rest := []) rfl rfl rfl (Nat.le_of_ble_eq_true rfl) dX3_sieve_35 ?_
      subst hF
      exact zw_ireturn C hr hlk dX3_sieve_38 rfl rfl
    · rw [if_neg h2] at hF
      refine zw_bipush C (v := (-2)) dX3_sieve_22 (by decide) ?_
      refine zw_goto C 38 dX3_sieve_24 (by decide) ?_
      subst hF
      exact zw_ireturn C hr hlk dX3_sieve_38 rfl rfl
  · rw [if_pos h1] at hF
    refine zw_iconst C (v := (-1)) dX3_sieve_10 (by decide) ?_
    subst hF
    exact zw_ireturn C hr hlk dX3_sieve_11 rfl rfl
def fX3_order (S : dS) (V : dV) (O : dO) (p1 : Int32) (p2 : Int32) (p3 : Int32) : Int32 × dO := (if (fX3_canMakeOrder S V O p1 p2 p3) = 0 then ((-1), O) else (if (fX1_isFull O) = 0 then (zw_l (fX1_make O p1 p2 p3 0) (fun q3 => (q3.1, q3.2))) else ((-2), O)))
set_option maxHeartbeats 4000000 in
set_option maxRecDepth 100000 in
theorem kX3_order {l : Launch} {D : va_G} {cI cL : ClassId} {a : Nat → Nat} {B : dB} {S : dS} {V : dV} {O : dO} {G : dG} {F : dF} {T : dT} {p1 : Int32} {p2 : Int32} {p3 : Int32} {q : Int32 × dO} {nt k sn vn on : Nat} {rs rv ro : Nat → Nat} (hy1 : dz_B B nt k) (hy2 : dz_K S V O sn vn on rs rv ro) (hF : fX3_order S V O p1 p2 p3 = q) : zw_Mi l yX3_order cX3_order 4 .int D (zw_tys cI cL) (zw_rm 2 44) [.ref (a 0), .int p1, .int p2, .int p3] (wD cI cL a B S V O G F T) (wD cI cL a B S V q.2 G F T) q.1 := by
  unfold fX3_order at hF
  refine zw_Mi_of (own := RX3) (by decide) rfl (Nat.le_of_ble_eq_true rfl) ?_
  intro p e s m args below meth c A C hr hlk
  refine zw_eq (lv2 := [(0, .ref (a 0)), (1, .int p1), (2, .int p2), (3, .int p3)]) rfl rfl rfl ?_
  refine zw_aload_n C dX3_order_0 0 rfl rfl ?_
  refine zw_iload_n C dX3_order_1 1 rfl rfl ?_
  refine zw_iload_n C dX3_order_2 2 rfl rfl ?_
  refine zw_iload_n C dX3_order_3 3 rfl rfl ?_
  refine zw_calli C kvX3_97 (kX3_canMakeOrder rfl) ⟨rfl, rfl, ⟨by decide, by decide⟩, by decide, by decide⟩ FX3 0 (As := [.int p1, .int p2, .int p3]) (rest := []) rfl rfl rfl (Nat.le_of_ble_eq_true rfl) dX3_order_4 ?_
  refine zw_if_ne C 12 dX3_order_7 (by decide) (fun h1 => ?_) (fun h1 => ?_)
  · rw [if_neg h1] at hF
    refine zw_aload_n C dX3_order_12 0 rfl rfl ?_
    refine zw_get C FX3 0 8 (v := .ref (a 15)) rfl (by decide) lkX3_40 rfl dX3_order_13 ?_
    refine zw_calli C kvX3_83 (kX1_isFull_O rfl) ⟨rfl, rfl, ⟨by decide, by decide⟩, by decide, by decide⟩ FX1 15 (As := []) (rest := []) rfl rfl rfl (Nat.le_of_ble_eq_true rfl) dX3_order_16 ?_
    refine zw_if_eq C 27 dX3_order_19 (by decide) (fun h2 => ?_) (fun h2 => ?_)
    · rw [if_pos h2] at hF
      refine zw_aload_n C dX3_order_27 0 rfl rfl ?_
      refine zw_get C FX3 0 8 (v := .ref (a 15)) rfl (by decide) lkX3_40 rfl dX3_order_28 ?_
      refine zw_iload_n C dX3_order_31 1 rfl rfl ?_
      refine zw_iload_n C dX3_order_32 2 rfl rfl ?_
      refine zw_iload_n C dX3_order_33 3 rfl rfl ?_
      refine zw_lconst C (v := 0) dX3_order_34 (by decide) ?_
      obtain ⟨q3, e4⟩ : ∃ z, fX1_make O p1 p2 p3 0 = z := ⟨_, rfl⟩
      rw [zw_l_eq e4] at hF
      refine zw_calli C kvX3_90 (kX1_make_O (dz_notFull (by assumption) hy2.2.2.2.2.2.1 hy2.2.2.1).2 e4) ⟨rfl, rfl, ⟨by decide, by decide⟩, by decide, by decide⟩ FX1 15 (As := [.int p1, .int p2, .int p3, .long 0]) (rest := []) rfl rfl rfl (Nat.le_of_ble_eq_true rfl) dX3_order_35 ?_
      subst hF
      exact zw_ireturn C hr hlk dX3_order_38 rfl rfl
    · rw [if_neg h2] at hF
      refine zw_bipush C (v := (-2)) dX3_order_22 (by decide) ?_
      refine zw_goto C 38 dX3_order_24 (by decide) ?_
      subst hF
      exact zw_ireturn C hr hlk dX3_order_38 rfl rfl
  · rw [if_pos h1] at hF
    refine zw_iconst C (v := (-1)) dX3_order_10 (by decide) ?_
    subst hF
    exact zw_ireturn C hr hlk dX3_order_11 rfl rfl
def fX3_tell (B : dB) (S : dS) (V : dV) (T : dT) (p1 : Int32) (p2 : Int32) : Int32 × Int64 × (Nat → Int64) × (Nat → Int64) × dT := (if (fX1_has S p1) = 0 then ((-1), B.2.2.1, S.2.2.2.1, V.2.2.2.1, T) else (if (fX3_isThing B p2) = 0 then ((-1), B.2.2.1, S.2.2.2.1, V.2.2.2.1, T) else (zw_l (fX2_opensCall T) (fun q3 => (if q3.1 = 0 then ((-2), B.2.2.1, S.2.2.2.1, V.2.2.2.1, q3.2) else (zw_l ((zA B.2.2.2.1 B.2.2.2.2.1 S.1 S.2.1 S.2.2.1 V.1 V.2.1 V.2.2.1 73).1 (S.2.2.2.1, V.2.2.2.1, q3.2) p1 p2) (fun q6 => (if (fX2_hasFailure q6.2.2.2) = 0 then (1, q6.1, q6.2.1, q6.2.2.1, q6.2.2.2) else (zw_l (fX2_endFailedCall q6.2.2.2) (fun q9 => (q9.1, B.2.2.1, q6.2.1, q6.2.2.1, q9.2)))))))))))
set_option maxHeartbeats 4000000 in
set_option maxRecDepth 100000 in
theorem kX3_tell {l : Launch} {D : va_G} {cI cL : ClassId} {a : Nat → Nat} {B : dB} {S : dS} {V : dV} {O : dO} {G : dG} {F : dF} {T : dT} {p1 : Int32} {p2 : Int32} {q : Int32 × Int64 × (Nat → Int64) × (Nat → Int64) × dT} {nt k sn vn on : Nat} {rs rv ro : Nat → Nat} (hy1 : dz_B B nt k) (hy2 : dz_K S V O sn vn on rs rv ro) (hF : fX3_tell B S V T p1 p2 = q) : zw_Mi l yX3_tell cX3_tell 5 .int D (zw_tys cI cL) (zw_rm 153 4604) [.ref (a 0), .int p1, .int p2] (wD cI cL a B S V O G F T) (wD cI cL a (B.1, B.2.1, q.2.1, B.2.2.2.1, B.2.2.2.2.1, B.2.2.2.2.2.1, B.2.2.2.2.2.2) (S.1, S.2.1, S.2.2.1, q.2.2.1, S.2.2.2.2) (V.1, V.2.1, V.2.2.1, q.2.2.2.1, V.2.2.2.2) O G F q.2.2.2.2) q.1 := by
  unfold fX3_tell at hF
  refine zw_Mi_of (own := RX3) (by decide) rfl (Nat.le_of_ble_eq_true rfl) ?_
  intro p e s m args below meth c A C hr hlk
  refine zw_eq (lv2 := [(0, .ref (a 0)), (1, .int p1), (2, .int p2)]) rfl rfl rfl ?_
  refine zw_aload_n C dX3_tell_0 0 rfl rfl ?_
  refine zw_get C FX3 0 6 (v := .ref (a 5)) rfl (by decide) lkX3_33 rfl dX3_tell_1 ?_
  refine zw_iload_n C dX3_tell_4 1 rfl rfl ?_
  refine zw_calli C kvX3_100 (kX1_has_S rfl) ⟨rfl, rfl, ⟨by decide, by decide⟩, by decide, by decide⟩ FX1 5 (As := [.int p1]) (rest := []) rfl rfl rfl (Nat.le_of_ble_eq_true rfl) dX3_tell_5 ?_
  refine zw_if_eq C 19 dX3_tell_8 (by decide) (fun h1 => ?_) (fun h1 => ?_)
  · rw [if_pos h1] at hF
    refine zw_iconst C (v := (-1)) dX3_tell_19 (by decide) ?_
    subst hF
    exact zw_ireturn C hr hlk dX3_tell_20 rfl rfl
  · rw [if_neg h1] at hF
    refine zw_aload_n C dX3_tell_11 0 rfl rfl ?_
    refine zw_iload_n C dX3_tell_12 2 rfl rfl ?_
    refine zw_calli C kvX3_68 (kX3_isThing rfl) ⟨rfl, rfl, ⟨by decide, by decide⟩, by decide, by decide⟩ FX3 0 (As := [.int p2]) (rest := []) rfl rfl rfl (Nat.le_of_ble_eq_true rfl) dX3_tell_13 ?_
    refine zw_if_ne C 21 dX3_tell_16 (by decide) (fun h2 => ?_) (fun h2 => ?_)
    · rw [if_neg h2] at hF
      refine zw_aload_n C dX3_tell_21 0 rfl rfl ?_
      refine zw_get C FX3 0 11 (v := .ref (a 30)) rfl (by decide) lkX3_56 rfl dX3_tell_22 ?_
      obtain ⟨q3, e4⟩ : ∃ z, fX2_opensCall T = z := ⟨_, rfl⟩
      rw [zw_l_eq e4] at hF
      refine zw_calli C kvX3_103 (kX2_opensCall e4) ⟨rfl, rfl, ⟨by decide, by decide⟩, by decide, by decide⟩ FX2 30 (As := []) (rest := []) rfl rfl rfl (Nat.le_of_ble_eq_true rfl) dX3_tell_25 ?_
      refine zw_if_ne C 34 dX3_tell_28 (by decide) (fun h5 => ?_) (fun h5 => ?_)
      · rw [if_neg h5] at hF
        refine zw_aload_n C dX3_tell_34 0 rfl rfl ?_
        refine zw_iload_n C dX3_tell_35 1 rfl rfl ?_
        refine zw_iload_n C dX3_tell_36 2 rfl rfl ?_
        obtain ⟨q6, e7⟩ : ∃ z, (zA B.2.2.2.1 B.2.2.2.2.1 S.1 S.2.1 S.2.2.1 V.1 V.2.1 V.2.2.1 73).1 (S.2.2.2.1, V.2.2.2.1, q3.2) p1 p2 = z := ⟨_, rfl⟩
        rw [zw_l_eq e7] at hF
        refine zw_calll C kvX3_106 (kAS hy2 hy1.1 (S.2.2.2.1, V.2.2.2.1, q3.2) p1 p2 _ (dz_hasIn (by assumption) hy2.2.2.2.1 hy2.1) (dz_thingIn (by assumption) hy1.2.2.1 hy1.1) e7) ⟨rfl, rfl, ⟨by decide, by decide⟩, by decide, by decide⟩ FX3 0 (As := [.int p1, .int p2]) (rest := []) rfl rfl rfl (Nat.le_of_ble_eq_true rfl) dX3_tell_37 ?_
        refine zw_lstore_n C dX3_tell_40 rfl (by decide) rfl ?_
        refine zw_aload_n C dX3_tell_41 1 rfl rfl ?_
        refine zw_get C FX3 0 11 (v := .ref (a 30)) rfl (by decide) lkX3_56 rfl dX3_tell_42 ?_
        refine zw_calli C kvX3_110 (kX2_hasFailure rfl) ⟨rfl, rfl, ⟨by decide, by decide⟩, by decide, by decide⟩ FX2 30 (As := []) (rest := []) rfl rfl rfl (Nat.le_of_ble_eq_true rfl) dX3_tell_45 ?_
        refine zw_if_eq C 59 dX3_tell_48 (by decide) (fun h8 => ?_) (fun h8 => ?_)
        · rw [if_pos h8] at hF
          refine zw_aload_n C dX3_tell_59 1 rfl rfl ?_
          refine zw_lload_n C dX3_tell_60 0 rfl rfl ?_
          refine zw_put C FX3 GX3 0 12 (v := .long q6.1) (ws2 := (wD cI cL a (B.1, B.2.1, q6.1, B.2.2.2.1, B.2.2.2.2.1, B.2.2.2.2.2.1, B.2.2.2.2.2.2) (S.1, S.2.1, S.2.2.1, q6.2.1, S.2.2.2.2) (V.1, V.2.1, V.2.2.1, q6.2.2.1, V.2.2.2.2) O G F q6.2.2.2)) rfl (by decide) lkX3_60 rfl rfl rfl (Nat.le_of_ble_eq_true rfl) rfl dX3_tell_61 ?_
          refine zw_iconst C (v := 1) dX3_tell_64 (by decide) ?_
          subst hF
          exact zw_ireturn C hr hlk dX3_tell_65 rfl rfl
        · rw [if_neg h8] at hF
          refine zw_aload_n C dX3_tell_51 1 rfl rfl ?_
          refine zw_get C FX3 0 11 (v := .ref (a 30)) rfl (by decide) lkX3_56 rfl dX3_tell_52 ?_
          obtain ⟨q9, e10⟩ : ∃ z, fX2_endFailedCall q6.2.2.2 = z := ⟨_, rfl⟩
          rw [zw_l_eq e10] at hF
          refine zw_calli C kvX3_113 (kX2_endFailedCall e10) ⟨rfl, rfl, ⟨by decide, by decide⟩, by decide, by decide⟩ FX2 30 (As := []) (rest := []) rfl rfl rfl (Nat.le_of_ble_eq_true rfl) dX3_tell_55 ?_
          subst hF
          exact zw_ireturn C hr hlk dX3_tell_58 rfl rfl
      · rw [if_pos h5] at hF
        refine zw_bipush C (v := (-2)) dX3_tell_31 (by decide) ?_
        subst hF
        exact zw_ireturn C hr hlk dX3_tell_33 rfl rfl
    · rw [if_pos h2] at hF
      refine zw_iconst C (v := (-1)) dX3_tell_19 (by decide) ?_
      subst hF
      exact zw_ireturn C hr hlk dX3_tell_20 rfl rfl
def fX3_takeDraft (B5 : (Nat → Int32)) (B6 : (Nat → Int32)) (p1 : Int32) : Int32 × (Nat → Int32) := (p1, va_cpy B6 B5 (0 : Int32).toNatClampNeg (0 : Int32).toNatClampNeg p1.toNatClampNeg)
set_option maxHeartbeats 4000000 in
set_option maxRecDepth 100000 in
theorem kX3_takeDraft {l : Launch} {D : va_G} {cI cL : ClassId} {a : Nat → Nat} {B : dB} {S : dS} {V : dV} {O : dO} {G : dG} {F : dF} {T : dT} {p1 : Int32} {q : Int32 × (Nat → Int32)} {B5 B6 : Nat → Int32} (hy1 : zw_le p1 40) (hF : fX3_takeDraft B5 B6 p1 = q) : zw_Mv l yX3_takeDraft cX3_takeDraft 2 D (zw_tys cI cL) (zw_rm 1 60) [.ref (a 0), .int p1] (wD cI cL a (B.1, B.2.1, B.2.2.1, B.2.2.2.1, B.2.2.2.2.1, B5, B6) S V O G F T) (wD cI cL a (B.1, q.1, B.2.2.1, B.2.2.2.1, B.2.2.2.2.1, q.2, B6) S V O G F T) := by
  unfold fX3_takeDraft at hF
  refine zw_Mv_of (own := RX3) (by decide) rfl (Nat.le_of_ble_eq_true rfl) ?_
  intro p e s m args below meth c A C hr hlk
  refine zw_eq (lv2 := [(0, .ref (a 0)), (1, .int p1)]) rfl rfl rfl ?_
  refine zw_aload_n C dX3_takeDraft_0 0 rfl rfl ?_
  refine zw_get C FX3 0 4 (v := .ref (a 4)) rfl (by decide) lkX3_24 rfl dX3_takeDraft_1 ?_
  refine zw_iconst C (v := 0) dX3_takeDraft_4 (by decide) ?_
  refine zw_aload_n C dX3_takeDraft_5 0 rfl rfl ?_
  refine zw_get C FX3 0 3 (v := .ref (a 3)) rfl (by decide) lkX3_20 rfl dX3_takeDraft_6 ?_
  refine zw_iconst C (v := 0) dX3_takeDraft_9 (by decide) ?_
  refine zw_iload_n C dX3_takeDraft_10 1 rfl rfl ?_
  refine zw_copyi C 4 3 lkmX3_125 (f := B6) (g := B5) (ws2 := (wD cI cL a (B.1, B.2.1, B.2.2.1, B.2.2.2.1, B.2.2.2.2.1, va_cpy B6 B5 (0 : Int32).toNatClampNeg (0 : Int32).toNatClampNeg p1.toNatClampNeg, B6) S V O G F T)) rfl rfl rfl (by decide) (by decide) (dz_cp hy1) (by decide) (by decide) (Nat.le_of_ble_eq_true rfl) rfl dX3_takeDraft_11 ?_
  refine zw_aload_n C dX3_takeDraft_14 0 rfl rfl ?_
  refine zw_iload_n C dX3_takeDraft_15 1 rfl rfl ?_
  refine zw_put C FX3 GX3 0 5 (v := .int p1) (ws2 := (wD cI cL a (B.1, p1, B.2.2.1, B.2.2.2.1, B.2.2.2.2.1, va_cpy B6 B5 (0 : Int32).toNatClampNeg (0 : Int32).toNatClampNeg p1.toNatClampNeg, B6) S V O G F T)) rfl (by decide) lkX3_27 rfl rfl rfl (Nat.le_of_ble_eq_true rfl) rfl dX3_takeDraft_16 ?_
  subst hF
  exact zw_return C hr hlk dX3_takeDraft_19 rfl
