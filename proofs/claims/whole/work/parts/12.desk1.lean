def fX3_isColumn (p1 : Int32) : Int32 := (if p1 < 0 then 0 else (if 3 ≤ p1 then 0 else 1))
set_option maxHeartbeats 4000000 in
set_option maxRecDepth 100000 in
theorem kX3_isColumn {l : Launch} {D : va_G} {cI cL : ClassId} {a : Nat → Nat} {B : dB} {S : dS} {V : dV} {O : dO} {G : dG} {F : dF} {T : dT} {p1 : Int32} {q : Int32} (hF : fX3_isColumn p1 = q) : zw_Mi l yX3_isColumn cX3_isColumn 1 .boolean D (zw_tys cI cL) (zw_rm 0 0) [.int p1] (wD cI cL a B S V O G F T) (wD cI cL a B S V O G F T) q := by
  unfold fX3_isColumn at hF
  refine zw_Mi_of (own := RX3) (by decide) rfl (Nat.le_of_ble_eq_true rfl) ?_
  intro p e s m args below meth c A C hr hlk
  refine zw_eq (lv2 := [(0, .int p1)]) rfl rfl rfl ?_
  refine zw_iload_n C dX3_isColumn_0 0 rfl rfl ?_
  refine zw_if_lt C 13 dX3_isColumn_1 (by decide) (fun h1 => ?_) (fun h1 => ?_)
  · rw [if_pos h1] at hF
    refine zw_iconst C (v := 0) dX3_isColumn_13 (by decide) ?_
    subst hF
    exact zw_zreturn C hr hlk rfl dX3_isColumn_14 rfl rfl
  · rw [if_neg h1] at hF
    refine zw_iload_n C dX3_isColumn_4 0 rfl rfl ?_
    refine zw_iconst C (v := 3) dX3_isColumn_5 (by decide) ?_
    refine zw_icmp_ge C 13 dX3_isColumn_6 (by decide) (fun h2 => ?_) (fun h2 => ?_)
    · rw [if_pos h2] at hF
      refine zw_iconst C (v := 0) dX3_isColumn_13 (by decide) ?_
      subst hF
      exact zw_zreturn C hr hlk rfl dX3_isColumn_14 rfl rfl
    · rw [if_neg h2] at hF
      refine zw_iconst C (v := 1) dX3_isColumn_9 (by decide) ?_
      refine zw_goto C 14 dX3_isColumn_10 (by decide) ?_
      subst hF
      exact zw_zreturn C hr hlk rfl dX3_isColumn_14 rfl rfl
def fX3_isPlaceOfRow (p1 : Int64) : Int32 := (if (lg_cmp p1 0) < 0 then 0 else (if 0 ≤ (lg_cmp p1 8) then 0 else 1))
set_option maxHeartbeats 4000000 in
set_option maxRecDepth 100000 in
theorem kX3_isPlaceOfRow {l : Launch} {D : va_G} {cI cL : ClassId} {a : Nat → Nat} {B : dB} {S : dS} {V : dV} {O : dO} {G : dG} {F : dF} {T : dT} {p1 : Int64} {q : Int32} (hF : fX3_isPlaceOfRow p1 = q) : zw_Mi l yX3_isPlaceOfRow cX3_isPlaceOfRow 2 .boolean D (zw_tys cI cL) (zw_rm 0 0) [.long p1] (wD cI cL a B S V O G F T) (wD cI cL a B S V O G F T) q := by
  unfold fX3_isPlaceOfRow at hF
  refine zw_Mi_of (own := RX3) (by decide) rfl (Nat.le_of_ble_eq_true rfl) ?_
  intro p e s m args below meth c A C hr hlk
  refine zw_eq (lv2 := [(0, .long p1)]) rfl rfl rfl ?_
  refine zw_lload_n C dX3_isPlaceOfRow_0 0 rfl rfl ?_
  refine zw_lconst C (v := 0) dX3_isPlaceOfRow_1 (by decide) ?_
  refine zw_lcmp C dX3_isPlaceOfRow_2 ?_
  refine zw_if_lt C 18 dX3_isPlaceOfRow_3 (by decide) (fun h1 => ?_) (fun h1 => ?_)
  · rw [if_pos h1] at hF
    refine zw_iconst C (v := 0) dX3_isPlaceOfRow_18 (by decide) ?_
    subst hF
    exact zw_zreturn C hr hlk rfl dX3_isPlaceOfRow_19 rfl rfl
  · rw [if_neg h1] at hF
    refine zw_lload_n C dX3_isPlaceOfRow_6 0 rfl rfl ?_
    refine zw_ldc2 C lkcX3_163 dX3_isPlaceOfRow_7 ?_
    refine zw_lcmp C dX3_isPlaceOfRow_10 ?_
    refine zw_if_ge C 18 dX3_isPlaceOfRow_11 (by decide) (fun h2 => ?_) (fun h2 => ?_)
    · rw [if_pos h2] at hF
      refine zw_iconst C (v := 0) dX3_isPlaceOfRow_18 (by decide) ?_
      subst hF
      exact zw_zreturn C hr hlk rfl dX3_isPlaceOfRow_19 rfl rfl
    · rw [if_neg h2] at hF
      refine zw_iconst C (v := 1) dX3_isPlaceOfRow_14 (by decide) ?_
      refine zw_goto C 19 dX3_isPlaceOfRow_15 (by decide) ?_
      subst hF
      exact zw_zreturn C hr hlk rfl dX3_isPlaceOfRow_19 rfl rfl
def fX3_cellOf (p1 : Int32) (p2 : Int32) : Int32 := (p1 * 3) + p2
set_option maxHeartbeats 4000000 in
set_option maxRecDepth 100000 in
theorem kX3_cellOf {l : Launch} {D : va_G} {cI cL : ClassId} {a : Nat → Nat} {B : dB} {S : dS} {V : dV} {O : dO} {G : dG} {F : dF} {T : dT} {p1 : Int32} {p2 : Int32} {q : Int32} (hF : fX3_cellOf p1 p2 = q) : zw_Mi l yX3_cellOf cX3_cellOf 2 .int D (zw_tys cI cL) (zw_rm 0 0) [.int p1, .int p2] (wD cI cL a B S V O G F T) (wD cI cL a B S V O G F T) q := by
  unfold fX3_cellOf at hF
  refine zw_Mi_of (own := RX3) (by decide) rfl (Nat.le_of_ble_eq_true rfl) ?_
  intro p e s m args below meth c A C hr hlk
  refine zw_eq (lv2 := [(0, .int p1), (1, .int p2)]) rfl rfl rfl ?_
  refine zw_iload_n C dX3_cellOf_0 0 rfl rfl ?_
  refine zw_iconst C (v := 3) dX3_cellOf_1 (by decide) ?_
  refine zw_imul C dX3_cellOf_2 ?_
  refine zw_iload_n C dX3_cellOf_3 1 rfl rfl ?_
  refine zw_iadd C dX3_cellOf_4 ?_
  subst hF
  exact zw_ireturn C hr hlk dX3_cellOf_5 rfl rfl
def fX3_lesserFirst (p1 : Int64) (p2 : Int64) : Int32 := (if (lg_cmp p1 p2) = 0 then 0 else (if 0 ≤ (lg_cmp p1 p2) then 1 else (-1)))
set_option maxHeartbeats 4000000 in
set_option maxRecDepth 100000 in
theorem kX3_lesserFirst {l : Launch} {D : va_G} {cI cL : ClassId} {a : Nat → Nat} {B : dB} {S : dS} {V : dV} {O : dO} {G : dG} {F : dF} {T : dT} {p1 : Int64} {p2 : Int64} {q : Int32} (hF : fX3_lesserFirst p1 p2 = q) : zw_Mi l yX3_lesserFirst cX3_lesserFirst 4 .int D (zw_tys cI cL) (zw_rm 0 0) [.long p1, .long p2] (wD cI cL a B S V O G F T) (wD cI cL a B S V O G F T) q := by
  unfold fX3_lesserFirst at hF
  refine zw_Mi_of (own := RX3) (by decide) rfl (Nat.le_of_ble_eq_true rfl) ?_
  intro p e s m args below meth c A C hr hlk
  refine zw_eq (lv2 := [(0, .long p1), (2, .long p2)]) rfl rfl rfl ?_
  refine zw_lload_n C dX3_lesserFirst_0 0 rfl rfl ?_
  refine zw_lload_n C dX3_lesserFirst_1 1 rfl rfl ?_
  refine zw_lcmp C dX3_lesserFirst_2 ?_
  refine zw_if_ne C 8 dX3_lesserFirst_3 (by decide) (fun h1 => ?_) (fun h1 => ?_)
  · rw [if_neg h1] at hF
    refine zw_lload_n C dX3_lesserFirst_8 0 rfl rfl ?_
    refine zw_lload_n C dX3_lesserFirst_9 1 rfl rfl ?_
    refine zw_lcmp C dX3_lesserFirst_10 ?_
    refine zw_if_ge C 18 dX3_lesserFirst_11 (by decide) (fun h2 => ?_) (fun h2 => ?_)
    · rw [if_pos h2] at hF
      refine zw_iconst C (v := 1) dX3_lesserFirst_18 (by decide) ?_
      subst hF
      exact zw_ireturn C hr hlk dX3_lesserFirst_19 rfl rfl
    · rw [if_neg h2] at hF
      refine zw_iconst C (v := (-1)) dX3_lesserFirst_14 (by decide) ?_
      refine zw_goto C 19 dX3_lesserFirst_15 (by decide) ?_
      subst hF
      exact zw_ireturn C hr hlk dX3_lesserFirst_19 rfl rfl
  · rw [if_pos h1] at hF
    refine zw_iconst C (v := 0) dX3_lesserFirst_6 (by decide) ?_
    subst hF
    exact zw_ireturn C hr hlk dX3_lesserFirst_7 rfl rfl
def fX3_isThing (B : dB) (p1 : Int32) : Int32 := (if p1 < 0 then 0 else (if B.1 ≤ p1 then 0 else 1))
set_option maxHeartbeats 4000000 in
set_option maxRecDepth 100000 in
theorem kX3_isThing {l : Launch} {D : va_G} {cI cL : ClassId} {a : Nat → Nat} {B : dB} {S : dS} {V : dV} {O : dO} {G : dG} {F : dF} {T : dT} {p1 : Int32} {q : Int32} (hF : fX3_isThing B p1 = q) : zw_Mi l yX3_isThing cX3_isThing 2 .boolean D (zw_tys cI cL) (zw_rm 0 0) [.ref (a 0), .int p1] (wD cI cL a B S V O G F T) (wD cI cL a B S V O G F T) q := by
  unfold fX3_isThing at hF
  refine zw_Mi_of (own := RX3) (by decide) rfl (Nat.le_of_ble_eq_true rfl) ?_
  intro p e s m args below meth c A C hr hlk
  refine zw_eq (lv2 := [(0, .ref (a 0)), (1, .int p1)]) rfl rfl rfl ?_
  refine zw_iload_n C dX3_isThing_0 1 rfl rfl ?_
  refine zw_if_lt C 16 dX3_isThing_1 (by decide) (fun h1 => ?_) (fun h1 => ?_)
  · rw [if_pos h1] at hF
    refine zw_iconst C (v := 0) dX3_isThing_16 (by decide) ?_
    subst hF
    exact zw_zreturn C hr hlk rfl dX3_isThing_17 rfl rfl
  · rw [if_neg h1] at hF
    refine zw_iload_n C dX3_isThing_4 1 rfl rfl ?_
    refine zw_aload_n C dX3_isThing_5 0 rfl rfl ?_
    refine zw_get C FX3 0 1 (v := .int B.1) rfl (by decide) lkX3_13 rfl dX3_isThing_6 ?_
    refine zw_icmp_ge C 16 dX3_isThing_9 (by decide) (fun h2 => ?_) (fun h2 => ?_)
    · rw [if_pos h2] at hF
      refine zw_iconst C (v := 0) dX3_isThing_16 (by decide) ?_
      subst hF
      exact zw_zreturn C hr hlk rfl dX3_isThing_17 rfl rfl
    · rw [if_neg h2] at hF
      refine zw_iconst C (v := 1) dX3_isThing_12 (by decide) ?_
      refine zw_goto C 17 dX3_isThing_13 (by decide) ?_
      subst hF
      exact zw_zreturn C hr hlk rfl dX3_isThing_17 rfl rfl
def fX3_answer (B : dB) : Int64 := B.2.2.1
set_option maxHeartbeats 4000000 in
set_option maxRecDepth 100000 in
theorem kX3_answer {l : Launch} {D : va_G} {cI cL : ClassId} {a : Nat → Nat} {B : dB} {S : dS} {V : dV} {O : dO} {G : dG} {F : dF} {T : dT} {q : Int64} (hF : fX3_answer B = q) : zw_Ml l yX3_answer cX3_answer 1 D (zw_tys cI cL) (zw_rm 0 0) [.ref (a 0)] (wD cI cL a B S V O G F T) (wD cI cL a B S V O G F T) q := by
  unfold fX3_answer at hF
  refine zw_Ml_of (own := RX3) (by decide) rfl (Nat.le_of_ble_eq_true rfl) ?_
  intro p e s m args below meth c A C hr hlk
  refine zw_eq (lv2 := [(0, .ref (a 0))]) rfl rfl rfl ?_
  refine zw_aload_n C dX3_answer_0 0 rfl rfl ?_
  refine zw_get C FX3 0 12 (v := .long B.2.2.1) rfl (by decide) lkX3_60 rfl dX3_answer_1 ?_
  subst hF
  exact zw_lreturn C hr hlk dX3_answer_4 rfl rfl
def fX3_count (B : dB) (S : dS) (V : dV) (O : dO) (G : dG) (T : dT) (p1 : Int32) : Int32 := (if p1 = 0 then B.1 else (if p1 = 1 then S.2.2.2.2 else (if p1 = 2 then V.2.2.2.2 else (if p1 = 3 then O.2.2.2.2 else (if p1 = 4 then B.2.1 else (if p1 = 5 then G.2.2.2.2 else (if p1 = 6 then T.1 else (if p1 = 7 then T.2.1 else (if p1 = 8 then T.2.2.1 else (if p1 = 9 then T.2.2.2.1 else (if p1 = 10 then T.2.2.2.2.1 else (-1))))))))))))
set_option maxHeartbeats 4000000 in
set_option maxRecDepth 100000 in
theorem kX3_count {l : Launch} {D : va_G} {cI cL : ClassId} {a : Nat → Nat} {B : dB} {S : dS} {V : dV} {O : dO} {G : dG} {F : dF} {T : dT} {p1 : Int32} {q : Int32} (hF : fX3_count B S V O G T p1 = q) : zw_Mi l yX3_count cX3_count 2 .int D (zw_tys cI cL) (zw_rm 0 0) [.ref (a 0), .int p1] (wD cI cL a B S V O G F T) (wD cI cL a B S V O G F T) q := by
  unfold fX3_count at hF
  refine zw_Mi_of (own := RX3) (by decide) rfl (Nat.le_of_ble_eq_true rfl) ?_
  intro p e s m args below meth c A C hr hlk
  refine zw_eq (lv2 := [(0, .ref (a 0)), (1, .int p1)]) rfl rfl rfl ?_
  refine zw_iload_n C dX3_count_0 1 rfl rfl ?_
  by_cases h1 : p1 = 0
  · rw [if_pos h1] at hF
    refine zw_tableIn C 60 dX3_count_1 (by rw [h1]; decide) (by rw [h1]; decide) (by rw [h1]; rfl) (by decide) ?_
    refine zw_aload_n C dX3_count_60 0 rfl rfl ?_
    refine zw_get C FX3 0 1 (v := .int B.1) rfl (by decide) lkX3_13 rfl dX3_count_61 ?_
    subst hF
    exact zw_ireturn C hr hlk dX3_count_64 rfl rfl
  rw [if_neg h1] at hF
  by_cases h2 : p1 = 1
  · rw [if_pos h2] at hF
    refine zw_tableIn C 65 dX3_count_1 (by rw [h2]; decide) (by rw [h2]; decide) (by rw [h2]; rfl) (by decide) ?_
    refine zw_aload_n C dX3_count_65 0 rfl rfl ?_
    refine zw_get C FX3 0 6 (v := .ref (a 5)) rfl (by decide) lkX3_33 rfl dX3_count_66 ?_
    refine zw_get C FX1 5 4 (v := .int S.2.2.2.2) rfl (by decide) lkX3_147 rfl dX3_count_69 ?_
    subst hF
    exact zw_ireturn C hr hlk dX3_count_72 rfl rfl
  rw [if_neg h2] at hF
  by_cases h3 : p1 = 2
  · rw [if_pos h3] at hF
    refine zw_tableIn C 73 dX3_count_1 (by rw [h3]; decide) (by rw [h3]; decide) (by rw [h3]; rfl) (by decide) ?_
    refine zw_aload_n C dX3_count_73 0 rfl rfl ?_
    refine zw_get C FX3 0 7 (v := .ref (a 10)) rfl (by decide) lkX3_37 rfl dX3_count_74 ?_
    refine zw_get C FX1 10 4 (v := .int V.2.2.2.2) rfl (by decide) lkX3_147 rfl dX3_count_77 ?_
    subst hF
    exact zw_ireturn C hr hlk dX3_count_80 rfl rfl
  rw [if_neg h3] at hF
  by_cases h4 : p1 = 3
  · rw [if_pos h4] at hF
    refine zw_tableIn C 81 dX3_count_1 (by rw [h4]; decide) (by rw [h4]; decide) (by rw [h4]; rfl) (by decide) ?_
    refine zw_aload_n C dX3_count_81 0 rfl rfl ?_
    refine zw_get C FX3 0 8 (v := .ref (a 15)) rfl (by decide) lkX3_40 rfl dX3_count_82 ?_
    refine zw_get C FX1 15 4 (v := .int O.2.2.2.2) rfl (by decide) lkX3_147 rfl dX3_count_85 ?_
    subst hF
    exact zw_ireturn C hr hlk dX3_count_88 rfl rfl
  rw [if_neg h4] at hF
  by_cases h5 : p1 = 4
  · rw [if_pos h5] at hF
    refine zw_tableIn C 89 dX3_count_1 (by rw [h5]; decide) (by rw [h5]; decide) (by rw [h5]; rfl) (by decide) ?_
    refine zw_aload_n C dX3_count_89 0 rfl rfl ?_
    refine zw_get C FX3 0 5 (v := .int B.2.1) rfl (by decide) lkX3_27 rfl dX3_count_90 ?_
    subst hF
    exact zw_ireturn C hr hlk dX3_count_93 rfl rfl
  rw [if_neg h5] at hF
  by_cases h6 : p1 = 5
  · rw [if_pos h6] at hF
    refine zw_tableIn C 94 dX3_count_1 (by rw [h6]; decide) (by rw [h6]; decide) (by rw [h6]; rfl) (by decide) ?_
    refine zw_aload_n C dX3_count_94 0 rfl rfl ?_
    refine zw_get C FX3 0 9 (v := .ref (a 20)) rfl (by decide) lkX3_46 rfl dX3_count_95 ?_
    refine zw_get C FX0 20 4 (v := .int G.2.2.2.2) rfl (by decide) lkX3_141 rfl dX3_count_98 ?_
    subst hF
    exact zw_ireturn C hr hlk dX3_count_101 rfl rfl
  rw [if_neg h6] at hF
  by_cases h7 : p1 = 6
  · rw [if_pos h7] at hF
    refine zw_tableIn C 102 dX3_count_1 (by rw [h7]; decide) (by rw [h7]; decide) (by rw [h7]; rfl) (by decide) ?_
    refine zw_aload_n C dX3_count_102 0 rfl rfl ?_
    refine zw_get C FX3 0 11 (v := .ref (a 30)) rfl (by decide) lkX3_56 rfl dX3_count_103 ?_
    refine zw_get C FX2 30 0 (v := .int T.1) rfl (by decide) lkX3_148 rfl dX3_count_106 ?_
    subst hF
    exact zw_ireturn C hr hlk dX3_count_109 rfl rfl
  rw [if_neg h7] at hF
  by_cases h8 : p1 = 7
  · rw [if_pos h8] at hF
    refine zw_tableIn C 110 dX3_count_1 (by rw [h8]; decide) (by rw [h8]; decide) (by rw [h8]; rfl) (by decide) ?_
    refine zw_aload_n C dX3_count_110 0 rfl rfl ?_
    refine zw_get C FX3 0 11 (v := .ref (a 30)) rfl (by decide) lkX3_56 rfl dX3_count_111 ?_
    refine zw_get C FX2 30 1 (v := .int T.2.1) rfl (by decide) lkX3_151 rfl dX3_count_114 ?_
    subst hF
    exact zw_ireturn C hr hlk dX3_count_117 rfl rfl
  rw [if_neg h8] at hF
  by_cases h9 : p1 = 8
  · rw [if_pos h9] at hF
    refine zw_tableIn C 118 dX3_count_1 (by rw [h9]; decide) (by rw [h9]; decide) (by rw [h9]; rfl) (by decide) ?_
    refine zw_aload_n C dX3_count_118 0 rfl rfl ?_
    refine zw_get C FX3 0 11 (v := .ref (a 30)) rfl (by decide) lkX3_56 rfl dX3_count_119 ?_
    refine zw_get C FX2 30 2 (v := .int T.2.2.1) rfl (by decide) lkX3_154 rfl dX3_count_122 ?_
    subst hF
    exact zw_ireturn C hr hlk dX3_count_125 rfl rfl
  rw [if_neg h9] at hF
  by_cases h10 : p1 = 9
  · rw [if_pos h10] at hF
    refine zw_tableIn C 126 dX3_count_1 (by rw [h10]; decide) (by rw [h10]; decide) (by rw [h10]; rfl) (by decide) ?_
    refine zw_aload_n C dX3_count_126 0 rfl rfl ?_
    refine zw_get C FX3 0 11 (v := .ref (a 30)) rfl (by decide) lkX3_56 rfl dX3_count_127 ?_
    refine zw_get C FX2 30 3 (v := .int T.2.2.2.1) rfl (by decide) lkX3_157 rfl dX3_count_130 ?_
    subst hF
    exact zw_ireturn C hr hlk dX3_count_133 rfl rfl
  rw [if_neg h10] at hF
  by_cases h11 : p1 = 10
  · rw [if_pos h11] at hF
    refine zw_tableIn C 134 dX3_count_1 (by rw [h11]; decide) (by rw [h11]; decide) (by rw [h11]; rfl) (by decide) ?_
    refine zw_aload_n C dX3_count_134 0 rfl rfl ?_
    refine zw_get C FX3 0 11 (v := .ref (a 30)) rfl (by decide) lkX3_56 rfl dX3_count_135 ?_
    refine zw_get C FX2 30 4 (v := .int T.2.2.2.2.1) rfl (by decide) lkX3_160 rfl dX3_count_138 ?_
    subst hF
    exact zw_ireturn C hr hlk dX3_count_141 rfl rfl
  rw [if_neg h11] at hF
  refine zw_tableOut C 142 dX3_count_1 (zw_tout (n := 10) (by decide) (fun k hk => by match k, hk with | 0, _ => exact h1 | 1, _ => exact h2 | 2, _ => exact h3 | 3, _ => exact h4 | 4, _ => exact h5 | 5, _ => exact h6 | 6, _ => exact h7 | 7, _ => exact h8 | 8, _ => exact h9 | 9, _ => exact h10 | 10, _ => exact h11 | k + 11, hk => exact absurd hk (by omega))) (by decide) ?_
  refine zw_iconst C (v := (-1)) dX3_count_142 (by decide) ?_
  subst hF
  exact zw_ireturn C hr hlk dX3_count_143 rfl rfl
def fX0_clear (F : dF) : dF := (F.1, F.2.1, F.2.2.1, F.2.2.2.1, 0)
set_option maxHeartbeats 4000000 in
set_option maxRecDepth 100000 in
theorem kX0_clear_F {l : Launch} {D : va_G} {cI cL : ClassId} {a : Nat → Nat} {B : dB} {S : dS} {V : dV} {O : dO} {G : dG} {F : dF} {T : dT} {q : dF} (hF : fX0_clear F = q) : zw_Mv l yX0_clear cX0_clear 1 D (zw_tys cI cL) (zw_rm 0 0) [.ref (a 25)] (wD cI cL a B S V O G F T) (wD cI cL a B S V O G q T) := by
  unfold fX0_clear at hF
  refine zw_Mv_of (own := RX0) (by decide) rfl (Nat.le_of_ble_eq_true rfl) ?_
  intro p e s m args below meth c A C hr hlk
  refine zw_eq (lv2 := [(0, .ref (a 25))]) rfl rfl rfl ?_
  refine zw_aload_n C dX0_clear_0 0 rfl rfl ?_
  refine zw_iconst C (v := 0) dX0_clear_1 (by decide) ?_
  refine zw_put C FX0 GX0 25 4 (v := .int 0) (ws2 := (wD cI cL a B S V O G (F.1, F.2.1, F.2.2.1, F.2.2.2.1, 0) T)) rfl (by decide) lkX0_25 rfl rfl rfl (Nat.le_of_ble_eq_true rfl) rfl dX0_clear_2 ?_
  subst hF
  exact zw_return C hr hlk dX0_clear_5 rfl
def fX0_tellOf (G : dG) (p1 : Int32) (p2 : Int32) : Int64 := (if p1 < 0 then 0 else (if p1 < G.2.2.2.2 then (if p2 = 0 then G.1 p1.toNatClampNeg else (if p2 = 1 then (G.2.1 p1.toNatClampNeg).toInt64 else (if p2 = 2 then G.2.2.1 p1.toNatClampNeg else (if p2 = 3 then (G.2.2.2.1 p1.toNatClampNeg).toInt64 else 0)))) else 0))
set_option maxHeartbeats 4000000 in
set_option maxRecDepth 100000 in
theorem kX0_tellOf_G {l : Launch} {D : va_G} {cI cL : ClassId} {a : Nat → Nat} {B : dB} {S : dS} {V : dV} {O : dO} {G : dG} {F : dF} {T : dT} {p1 : Int32} {p2 : Int32} {q : Int64} (hy1 : zw_le G.2.2.2.2 40) (hF : fX0_tellOf G p1 p2 = q) : zw_Ml l yX0_tellOf cX0_tellOf 3 D (zw_tys cI cL) (zw_rm 0 0) [.ref (a 20), .int p1, .int p2] (wD cI cL a B S V O G F T) (wD cI cL a B S V O G F T) q := by
  unfold fX0_tellOf at hF
  refine zw_Ml_of (own := RX0) (by decide) rfl (Nat.le_of_ble_eq_true rfl) ?_
  intro p e s m args below meth c A C hr hlk
  refine zw_eq (lv2 := [(0, .ref (a 20)), (1, .int p1), (2, .int p2)]) rfl rfl rfl ?_
  refine zw_iload_n C dX0_tellOf_0 1 rfl rfl ?_
  refine zw_if_lt C 12 dX0_tellOf_1 (by decide) (fun h1 => ?_) (fun h1 => ?_)
  · rw [if_pos h1] at hF
    refine zw_lconst C (v := 0) dX0_tellOf_12 (by decide) ?_
    subst hF
    exact zw_lreturn C hr hlk dX0_tellOf_13 rfl rfl
  · rw [if_neg h1] at hF
    refine zw_iload_n C dX0_tellOf_4 1 rfl rfl ?_
    refine zw_aload_n C dX0_tellOf_5 0 rfl rfl ?_
    refine zw_get C FX0 20 4 (v := .int G.2.2.2.2) rfl (by decide) lkX0_25 rfl dX0_tellOf_6 ?_
    refine zw_icmp_lt C 14 dX0_tellOf_9 (by decide) (fun h2 => ?_) (fun h2 => ?_)
    · rw [if_pos h2] at hF
      refine zw_iload_n C dX0_tellOf_14 2 rfl rfl ?_
      by_cases h3 : p2 = 0
      · rw [if_pos h3] at hF
        refine zw_tableIn C 44 dX0_tellOf_15 (by rw [h3]; decide) (by rw [h3]; decide) (by rw [h3]; rfl) (by decide) ?_
        refine zw_aload_n C dX0_tellOf_44 0 rfl rfl ?_
        refine zw_get C FX0 20 0 (v := .ref (a 21)) rfl (by decide) lkX0_9 rfl dX0_tellOf_45 ?_
        refine zw_iload_n C dX0_tellOf_48 1 rfl rfl ?_
        refine zw_lald C 21 1 (f := G.1) (i := p1) rfl rfl (zw_ix2 (by assumption) (by assumption) hy1 (by decide)) dX0_tellOf_49 ?_
        subst hF
        exact zw_lreturn C hr hlk dX0_tellOf_50 rfl rfl
      rw [if_neg h3] at hF
      by_cases h4 : p2 = 1
      · rw [if_pos h4] at hF
        refine zw_tableIn C 51 dX0_tellOf_15 (by rw [h4]; decide) (by rw [h4]; decide) (by rw [h4]; rfl) (by decide) ?_
        refine zw_aload_n C dX0_tellOf_51 0 rfl rfl ?_
        refine zw_get C FX0 20 1 (v := .ref (a 22)) rfl (by decide) lkX0_15 rfl dX0_tellOf_52 ?_
        refine zw_iload_n C dX0_tellOf_55 1 rfl rfl ?_
        refine zw_iald C 22 0 (f := G.2.1) (i := p1) rfl rfl (zw_ix2 (by assumption) (by assumption) hy1 (by decide)) dX0_tellOf_56 ?_
        refine zw_i2l C dX0_tellOf_57 ?_
        subst hF
        exact zw_lreturn C hr hlk dX0_tellOf_58 rfl rfl
      rw [if_neg h4] at hF
      by_cases h5 : p2 = 2
      · rw [if_pos h5] at hF
        refine zw_tableIn C 59 dX0_tellOf_15 (by rw [h5]; decide) (by rw [h5]; decide) (by rw [h5]; rfl) (by decide) ?_
        refine zw_aload_n C dX0_tellOf_59 0 rfl rfl ?_
        refine zw_get C FX0 20 2 (v := .ref (a 23)) rfl (by decide) lkX0_19 rfl dX0_tellOf_60 ?_
        refine zw_iload_n C dX0_tellOf_63 1 rfl rfl ?_
        refine zw_lald C 23 1 (f := G.2.2.1) (i := p1) rfl rfl (zw_ix2 (by assumption) (by assumption) hy1 (by decide)) dX0_tellOf_64 ?_
        subst hF
        exact zw_lreturn C hr hlk dX0_tellOf_65 rfl rfl
      rw [if_neg h5] at hF
      by_cases h6 : p2 = 3
      · rw [if_pos h6] at hF
        refine zw_tableIn C 66 dX0_tellOf_15 (by rw [h6]; decide) (by rw [h6]; decide) (by rw [h6]; rfl) (by decide) ?_
        refine zw_aload_n C dX0_tellOf_66 0 rfl rfl ?_
        refine zw_get C FX0 20 3 (v := .ref (a 24)) rfl (by decide) lkX0_22 rfl dX0_tellOf_67 ?_
        refine zw_iload_n C dX0_tellOf_70 1 rfl rfl ?_
        refine zw_iald C 24 0 (f := G.2.2.2.1) (i := p1) rfl rfl (zw_ix2 (by assumption) (by assumption) hy1 (by decide)) dX0_tellOf_71 ?_
        refine zw_i2l C dX0_tellOf_72 ?_
        subst hF
        exact zw_lreturn C hr hlk dX0_tellOf_73 rfl rfl
      rw [if_neg h6] at hF
      refine zw_tableOut C 74 dX0_tellOf_15 (zw_tout (n := 3) (by decide) (fun k hk => by match k, hk with | 0, _ => exact h3 | 1, _ => exact h4 | 2, _ => exact h5 | 3, _ => exact h6 | k + 4, hk => exact absurd hk (by omega))) (by decide) ?_
      refine zw_lconst C (v := 0) dX0_tellOf_74 (by decide) ?_
      subst hF
      exact zw_lreturn C hr hlk dX0_tellOf_75 rfl rfl
    · rw [if_neg h2] at hF
      refine zw_lconst C (v := 0) dX0_tellOf_12 (by decide) ?_
      subst hF
      exact zw_lreturn C hr hlk dX0_tellOf_13 rfl rfl
def fX3_groups (G : dG) (p1 : Int32) (p2 : Int32) : Int64 := fX0_tellOf G p1 p2
set_option maxHeartbeats 4000000 in
set_option maxRecDepth 100000 in
theorem kX3_groups {l : Launch} {D : va_G} {cI cL : ClassId} {a : Nat → Nat} {B : dB} {S : dS} {V : dV} {O : dO} {G : dG} {F : dF} {T : dT} {p1 : Int32} {p2 : Int32} {q : Int64} (hy1 : zw_le G.2.2.2.2 40) (hF : fX3_groups G p1 p2 = q) : zw_Ml l yX3_groups cX3_groups 3 D (zw_tys cI cL) (zw_rm 1 22) [.ref (a 0), .int p1, .int p2] (wD cI cL a B S V O G F T) (wD cI cL a B S V O G F T) q := by
  unfold fX3_groups at hF
  refine zw_Ml_of (own := RX3) (by decide) rfl (Nat.le_of_ble_eq_true rfl) ?_
  intro p e s m args below meth c A C hr hlk
  refine zw_eq (lv2 := [(0, .ref (a 0)), (1, .int p1), (2, .int p2)]) rfl rfl rfl ?_
  refine zw_aload_n C dX3_groups_0 0 rfl rfl ?_
  refine zw_get C FX3 0 9 (v := .ref (a 20)) rfl (by decide) lkX3_46 rfl dX3_groups_1 ?_
  refine zw_iload_n C dX3_groups_4 1 rfl rfl ?_
  refine zw_iload_n C dX3_groups_5 2 rfl rfl ?_
  refine zw_calll C kvX3_144 (kX0_tellOf_G hy1 rfl) ⟨rfl, rfl, ⟨by decide, by decide⟩, by decide, by decide⟩ FX0 20 (As := [.int p1, .int p2]) (rest := []) rfl rfl rfl (Nat.le_of_ble_eq_true rfl) dX3_groups_6 ?_
  subst hF
  exact zw_lreturn C hr hlk dX3_groups_9 rfl rfl
