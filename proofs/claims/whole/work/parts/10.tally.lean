def fX2_hasFailure (T : dT) : Int32 := (if T.2.2.2.2.2 = 0 then 0 else 1)
set_option maxHeartbeats 4000000 in
set_option maxRecDepth 100000 in
theorem kX2_hasFailure {l : Launch} {D : va_G} {cI cL : ClassId} {a : Nat → Nat} {B : dB} {S : dS} {V : dV} {O : dO} {G : dG} {F : dF} {T : dT} {q : Int32} (hF : fX2_hasFailure T = q) : zw_Mi l yX2_hasFailure cX2_hasFailure 1 .boolean D (zw_tys cI cL) (zw_rm 0 0) [.ref (a 30)] (wD cI cL a B S V O G F T) (wD cI cL a B S V O G F T) q := by
  unfold fX2_hasFailure at hF
  refine zw_Mi_of (own := RX2) (by decide) rfl (Nat.le_of_ble_eq_true rfl) ?_
  intro p e s m args below meth c A C hr hlk
  refine zw_eq (lv2 := [(0, .ref (a 30))]) rfl rfl rfl ?_
  refine zw_aload_n C dX2_hasFailure_0 0 rfl rfl ?_
  refine zw_get C FX2 30 5 (v := .int T.2.2.2.2.2) rfl (by decide) lkX2_27 rfl dX2_hasFailure_1 ?_
  refine zw_if_eq C 11 dX2_hasFailure_4 (by decide) (fun h1 => ?_) (fun h1 => ?_)
  · rw [if_pos h1] at hF
    refine zw_iconst C (v := 0) dX2_hasFailure_11 (by decide) ?_
    subst hF
    exact zw_zreturn C hr hlk rfl dX2_hasFailure_12 rfl rfl
  · rw [if_neg h1] at hF
    refine zw_iconst C (v := 1) dX2_hasFailure_7 (by decide) ?_
    refine zw_goto C 12 dX2_hasFailure_8 (by decide) ?_
    subst hF
    exact zw_zreturn C hr hlk rfl dX2_hasFailure_12 rfl rfl
def fX2_opensCall (T : dT) : Int32 × dT := (if T.2.2.1 < 2000 then (1, (0, T.2.1, T.2.2.1, T.2.2.2.1, T.2.2.2.2.1, 0)) else (0, T))
set_option maxHeartbeats 4000000 in
set_option maxRecDepth 100000 in
theorem kX2_opensCall {l : Launch} {D : va_G} {cI cL : ClassId} {a : Nat → Nat} {B : dB} {S : dS} {V : dV} {O : dO} {G : dG} {F : dF} {T : dT} {q : Int32 × dT} (hF : fX2_opensCall T = q) : zw_Mi l yX2_opensCall cX2_opensCall 1 .boolean D (zw_tys cI cL) (zw_rm 0 0) [.ref (a 30)] (wD cI cL a B S V O G F T) (wD cI cL a B S V O G F q.2) q.1 := by
  unfold fX2_opensCall at hF
  refine zw_Mi_of (own := RX2) (by decide) rfl (Nat.le_of_ble_eq_true rfl) ?_
  intro p e s m args below meth c A C hr hlk
  refine zw_eq (lv2 := [(0, .ref (a 30))]) rfl rfl rfl ?_
  refine zw_aload_n C dX2_opensCall_0 0 rfl rfl ?_
  refine zw_get C FX2 30 2 (v := .int T.2.2.1) rfl (by decide) lkX2_18 rfl dX2_opensCall_1 ?_
  refine zw_sipush C (v := 2000) dX2_opensCall_4 (by decide) ?_
  refine zw_icmp_lt C 12 dX2_opensCall_7 (by decide) (fun h1 => ?_) (fun h1 => ?_)
  · rw [if_pos h1] at hF
    refine zw_aload_n C dX2_opensCall_12 0 rfl rfl ?_
    refine zw_iconst C (v := 0) dX2_opensCall_13 (by decide) ?_
    refine zw_put C FX2 GX2 30 0 (v := .int 0) (ws2 := (wD cI cL a B S V O G F (0, T.2.1, T.2.2.1, T.2.2.2.1, T.2.2.2.2.1, T.2.2.2.2.2))) rfl (by decide) lkX2_9 rfl rfl rfl (Nat.le_of_ble_eq_true rfl) rfl dX2_opensCall_14 ?_
    refine zw_aload_n C dX2_opensCall_17 0 rfl rfl ?_
    refine zw_iconst C (v := 0) dX2_opensCall_18 (by decide) ?_
    refine zw_put C FX2 GX2 30 5 (v := .int 0) (ws2 := (wD cI cL a B S V O G F (0, T.2.1, T.2.2.1, T.2.2.2.1, T.2.2.2.2.1, 0))) rfl (by decide) lkX2_27 rfl rfl rfl (Nat.le_of_ble_eq_true rfl) rfl dX2_opensCall_19 ?_
    refine zw_iconst C (v := 1) dX2_opensCall_22 (by decide) ?_
    subst hF
    exact zw_zreturn C hr hlk rfl dX2_opensCall_23 rfl rfl
  · rw [if_neg h1] at hF
    refine zw_iconst C (v := 0) dX2_opensCall_10 (by decide) ?_
    subst hF
    exact zw_zreturn C hr hlk rfl dX2_opensCall_11 rfl rfl
def fX2_fail (T : dT) (p1 : Int32) : dT := (if (fX2_hasFailure T) = 0 then (T.1, T.2.1, T.2.2.1, T.2.2.2.1, T.2.2.2.2.1, p1) else T)
set_option maxHeartbeats 4000000 in
set_option maxRecDepth 100000 in
theorem kX2_fail {l : Launch} {D : va_G} {cI cL : ClassId} {a : Nat → Nat} {B : dB} {S : dS} {V : dV} {O : dO} {G : dG} {F : dF} {T : dT} {p1 : Int32} {q : dT} (hF : fX2_fail T p1 = q) : zw_Mv l yX2_fail cX2_fail 2 D (zw_tys cI cL) (zw_rm 1 20) [.ref (a 30), .int p1] (wD cI cL a B S V O G F T) (wD cI cL a B S V O G F q) := by
  unfold fX2_fail at hF
  refine zw_Mv_of (own := RX2) (by decide) rfl (Nat.le_of_ble_eq_true rfl) ?_
  intro p e s m args below meth c A C hr hlk
  refine zw_eq (lv2 := [(0, .ref (a 30)), (1, .int p1)]) rfl rfl rfl ?_
  refine zw_aload_n C dX2_fail_0 0 rfl rfl ?_
  refine zw_calli C kvX2_30 (kX2_hasFailure rfl) ⟨rfl, rfl, ⟨by decide, by decide⟩, by decide, by decide⟩ FX2 30 (As := []) (rest := []) rfl rfl rfl (Nat.le_of_ble_eq_true rfl) dX2_fail_1 ?_
  refine zw_if_ne C 12 dX2_fail_4 (by decide) (fun h1 => ?_) (fun h1 => ?_)
  · rw [if_neg h1] at hF
    subst hF
    exact zw_return C hr hlk dX2_fail_12 rfl
  · rw [if_pos h1] at hF
    refine zw_aload_n C dX2_fail_7 0 rfl rfl ?_
    refine zw_iload_n C dX2_fail_8 1 rfl rfl ?_
    refine zw_put C FX2 GX2 30 5 (v := .int p1) (ws2 := (wD cI cL a B S V O G F (T.1, T.2.1, T.2.2.1, T.2.2.2.1, T.2.2.2.2.1, p1))) rfl (by decide) lkX2_27 rfl rfl rfl (Nat.le_of_ble_eq_true rfl) rfl dX2_fail_9 ?_
    subst hF
    exact zw_return C hr hlk dX2_fail_12 rfl
def fX2_beginsAsking (T : dT) : Int32 × dT := (if (fX2_hasFailure T) = 0 then (if T.1 < 2000 then (1, (T.1 + 1, T.2.1 + 1, T.2.2.1, T.2.2.2.1, T.2.2.2.2.1, T.2.2.2.2.2)) else (zw_l (fX2_fail T 4) (fun q3 => (0, q3)))) else (0, T))
set_option maxHeartbeats 4000000 in
set_option maxRecDepth 100000 in
theorem kX2_beginsAsking {l : Launch} {D : va_G} {cI cL : ClassId} {a : Nat → Nat} {B : dB} {S : dS} {V : dV} {O : dO} {G : dG} {F : dF} {T : dT} {q : Int32 × dT} (hF : fX2_beginsAsking T = q) : zw_Mi l yX2_beginsAsking cX2_beginsAsking 1 .boolean D (zw_tys cI cL) (zw_rm 2 41) [.ref (a 30)] (wD cI cL a B S V O G F T) (wD cI cL a B S V O G F q.2) q.1 := by
  unfold fX2_beginsAsking at hF
  refine zw_Mi_of (own := RX2) (by decide) rfl (Nat.le_of_ble_eq_true rfl) ?_
  intro p e s m args below meth c A C hr hlk
  refine zw_eq (lv2 := [(0, .ref (a 30))]) rfl rfl rfl ?_
  refine zw_aload_n C dX2_beginsAsking_0 0 rfl rfl ?_
  refine zw_calli C kvX2_30 (kX2_hasFailure rfl) ⟨rfl, rfl, ⟨by decide, by decide⟩, by decide, by decide⟩ FX2 30 (As := []) (rest := []) rfl rfl rfl (Nat.le_of_ble_eq_true rfl) dX2_beginsAsking_1 ?_
  refine zw_if_eq C 9 dX2_beginsAsking_4 (by decide) (fun h1 => ?_) (fun h1 => ?_)
  · rw [if_pos h1] at hF
    refine zw_aload_n C dX2_beginsAsking_9 0 rfl rfl ?_
    refine zw_get C FX2 30 0 (v := .int T.1) rfl (by decide) lkX2_9 rfl dX2_beginsAsking_10 ?_
    refine zw_sipush C (v := 2000) dX2_beginsAsking_13 (by decide) ?_
    refine zw_icmp_lt C 26 dX2_beginsAsking_16 (by decide) (fun h2 => ?_) (fun h2 => ?_)
    · rw [if_pos h2] at hF
      refine zw_aload_n C dX2_beginsAsking_26 0 rfl rfl ?_
      refine zw_dup C dX2_beginsAsking_27 rfl ?_
      refine zw_get C FX2 30 0 (v := .int T.1) rfl (by decide) lkX2_9 rfl dX2_beginsAsking_28 ?_
      refine zw_iconst C (v := 1) dX2_beginsAsking_31 (by decide) ?_
      refine zw_iadd C dX2_beginsAsking_32 ?_
      refine zw_put C FX2 GX2 30 0 (v := .int (T.1 + 1)) (ws2 := (wD cI cL a B S V O G F (T.1 + 1, T.2.1, T.2.2.1, T.2.2.2.1, T.2.2.2.2.1, T.2.2.2.2.2))) rfl (by decide) lkX2_9 rfl rfl rfl (Nat.le_of_ble_eq_true rfl) rfl dX2_beginsAsking_33 ?_
      refine zw_aload_n C dX2_beginsAsking_36 0 rfl rfl ?_
      refine zw_dup C dX2_beginsAsking_37 rfl ?_
      refine zw_get C FX2 30 1 (v := .int T.2.1) rfl (by decide) lkX2_15 rfl dX2_beginsAsking_38 ?_
      refine zw_iconst C (v := 1) dX2_beginsAsking_41 (by decide) ?_
      refine zw_iadd C dX2_beginsAsking_42 ?_
      refine zw_put C FX2 GX2 30 1 (v := .int (T.2.1 + 1)) (ws2 := (wD cI cL a B S V O G F (T.1 + 1, T.2.1 + 1, T.2.2.1, T.2.2.2.1, T.2.2.2.2.1, T.2.2.2.2.2))) rfl (by decide) lkX2_15 rfl rfl rfl (Nat.le_of_ble_eq_true rfl) rfl dX2_beginsAsking_43 ?_
      refine zw_iconst C (v := 1) dX2_beginsAsking_46 (by decide) ?_
      subst hF
      exact zw_zreturn C hr hlk rfl dX2_beginsAsking_47 rfl rfl
    · rw [if_neg h2] at hF
      refine zw_aload_n C dX2_beginsAsking_19 0 rfl rfl ?_
      refine zw_iconst C (v := 4) dX2_beginsAsking_20 (by decide) ?_
      obtain ⟨q3, e4⟩ : ∃ z, fX2_fail T 4 = z := ⟨_, rfl⟩
      rw [zw_l_eq e4] at hF
      refine zw_callv C kvX2_34 (kX2_fail e4) ⟨rfl, rfl, ⟨by decide, by decide⟩, by decide, by decide⟩ FX2 30 (As := [.int 4]) (rest := []) rfl rfl rfl (Nat.le_of_ble_eq_true rfl) dX2_beginsAsking_21 ?_
      refine zw_iconst C (v := 0) dX2_beginsAsking_24 (by decide) ?_
      subst hF
      exact zw_zreturn C hr hlk rfl dX2_beginsAsking_25 rfl rfl
  · rw [if_neg h1] at hF
    refine zw_iconst C (v := 0) dX2_beginsAsking_7 (by decide) ?_
    subst hF
    exact zw_zreturn C hr hlk rfl dX2_beginsAsking_8 rfl rfl
def fX2_meetsFailure (T : dT) : Int32 × dT := (if (fX2_hasFailure T) = 0 then (0, T) else (if T.2.2.2.2.2 = 4 then (0, T) else (1, (T.1, T.2.1, T.2.2.1 + 1, T.2.2.2.1, T.2.2.2.2.1, 0))))
set_option maxHeartbeats 4000000 in
set_option maxRecDepth 100000 in
theorem kX2_meetsFailure {l : Launch} {D : va_G} {cI cL : ClassId} {a : Nat → Nat} {B : dB} {S : dS} {V : dV} {O : dO} {G : dG} {F : dF} {T : dT} {q : Int32 × dT} (hF : fX2_meetsFailure T = q) : zw_Mi l yX2_meetsFailure cX2_meetsFailure 1 .boolean D (zw_tys cI cL) (zw_rm 1 20) [.ref (a 30)] (wD cI cL a B S V O G F T) (wD cI cL a B S V O G F q.2) q.1 := by
  unfold fX2_meetsFailure at hF
  refine zw_Mi_of (own := RX2) (by decide) rfl (Nat.le_of_ble_eq_true rfl) ?_
  intro p e s m args below meth c A C hr hlk
  refine zw_eq (lv2 := [(0, .ref (a 30))]) rfl rfl rfl ?_
  refine zw_aload_n C dX2_meetsFailure_0 0 rfl rfl ?_
  refine zw_calli C kvX2_30 (kX2_hasFailure rfl) ⟨rfl, rfl, ⟨by decide, by decide⟩, by decide, by decide⟩ FX2 30 (As := []) (rest := []) rfl rfl rfl (Nat.le_of_ble_eq_true rfl) dX2_meetsFailure_1 ?_
  refine zw_if_eq C 15 dX2_meetsFailure_4 (by decide) (fun h1 => ?_) (fun h1 => ?_)
  · rw [if_pos h1] at hF
    refine zw_iconst C (v := 0) dX2_meetsFailure_15 (by decide) ?_
    subst hF
    exact zw_zreturn C hr hlk rfl dX2_meetsFailure_16 rfl rfl
  · rw [if_neg h1] at hF
    refine zw_aload_n C dX2_meetsFailure_7 0 rfl rfl ?_
    refine zw_get C FX2 30 5 (v := .int T.2.2.2.2.2) rfl (by decide) lkX2_27 rfl dX2_meetsFailure_8 ?_
    refine zw_iconst C (v := 4) dX2_meetsFailure_11 (by decide) ?_
    refine zw_icmp_ne C 17 dX2_meetsFailure_12 (by decide) (fun h2 => ?_) (fun h2 => ?_)
    · rw [if_neg h2] at hF
      refine zw_aload_n C dX2_meetsFailure_17 0 rfl rfl ?_
      refine zw_iconst C (v := 0) dX2_meetsFailure_18 (by decide) ?_
      refine zw_put C FX2 GX2 30 5 (v := .int 0) (ws2 := (wD cI cL a B S V O G F (T.1, T.2.1, T.2.2.1, T.2.2.2.1, T.2.2.2.2.1, 0))) rfl (by decide) lkX2_27 rfl rfl rfl (Nat.le_of_ble_eq_true rfl) rfl dX2_meetsFailure_19 ?_
      refine zw_aload_n C dX2_meetsFailure_22 0 rfl rfl ?_
      refine zw_dup C dX2_meetsFailure_23 rfl ?_
      refine zw_get C FX2 30 2 (v := .int T.2.2.1) rfl (by decide) lkX2_18 rfl dX2_meetsFailure_24 ?_
      refine zw_iconst C (v := 1) dX2_meetsFailure_27 (by decide) ?_
      refine zw_iadd C dX2_meetsFailure_28 ?_
      refine zw_put C FX2 GX2 30 2 (v := .int (T.2.2.1 + 1)) (ws2 := (wD cI cL a B S V O G F (T.1, T.2.1, T.2.2.1 + 1, T.2.2.2.1, T.2.2.2.2.1, 0))) rfl (by decide) lkX2_18 rfl rfl rfl (Nat.le_of_ble_eq_true rfl) rfl dX2_meetsFailure_29 ?_
      refine zw_iconst C (v := 1) dX2_meetsFailure_32 (by decide) ?_
      subst hF
      exact zw_zreturn C hr hlk rfl dX2_meetsFailure_33 rfl rfl
    · rw [if_pos h2] at hF
      refine zw_iconst C (v := 0) dX2_meetsFailure_15 (by decide) ?_
      subst hF
      exact zw_zreturn C hr hlk rfl dX2_meetsFailure_16 rfl rfl
def fX2_endFailedCall (T : dT) : Int32 × dT := ((-10) - T.2.2.2.2.2, (T.1, T.2.1, T.2.2.1 + 1, T.2.2.2.1 + 1, T.2.2.2.2.2, T.2.2.2.2.2))
set_option maxHeartbeats 4000000 in
set_option maxRecDepth 100000 in
theorem kX2_endFailedCall {l : Launch} {D : va_G} {cI cL : ClassId} {a : Nat → Nat} {B : dB} {S : dS} {V : dV} {O : dO} {G : dG} {F : dF} {T : dT} {q : Int32 × dT} (hF : fX2_endFailedCall T = q) : zw_Mi l yX2_endFailedCall cX2_endFailedCall 1 .int D (zw_tys cI cL) (zw_rm 0 0) [.ref (a 30)] (wD cI cL a B S V O G F T) (wD cI cL a B S V O G F q.2) q.1 := by
  unfold fX2_endFailedCall at hF
  refine zw_Mi_of (own := RX2) (by decide) rfl (Nat.le_of_ble_eq_true rfl) ?_
  intro p e s m args below meth c A C hr hlk
  refine zw_eq (lv2 := [(0, .ref (a 30))]) rfl rfl rfl ?_
  refine zw_aload_n C dX2_endFailedCall_0 0 rfl rfl ?_
  refine zw_dup C dX2_endFailedCall_1 rfl ?_
  refine zw_get C FX2 30 2 (v := .int T.2.2.1) rfl (by decide) lkX2_18 rfl dX2_endFailedCall_2 ?_
  refine zw_iconst C (v := 1) dX2_endFailedCall_5 (by decide) ?_
  refine zw_iadd C dX2_endFailedCall_6 ?_
  refine zw_put C FX2 GX2 30 2 (v := .int (T.2.2.1 + 1)) (ws2 := (wD cI cL a B S V O G F (T.1, T.2.1, T.2.2.1 + 1, T.2.2.2.1, T.2.2.2.2.1, T.2.2.2.2.2))) rfl (by decide) lkX2_18 rfl rfl rfl (Nat.le_of_ble_eq_true rfl) rfl dX2_endFailedCall_7 ?_
  refine zw_aload_n C dX2_endFailedCall_10 0 rfl rfl ?_
  refine zw_dup C dX2_endFailedCall_11 rfl ?_
  refine zw_get C FX2 30 3 (v := .int T.2.2.2.1) rfl (by decide) lkX2_21 rfl dX2_endFailedCall_12 ?_
  refine zw_iconst C (v := 1) dX2_endFailedCall_15 (by decide) ?_
  refine zw_iadd C dX2_endFailedCall_16 ?_
  refine zw_put C FX2 GX2 30 3 (v := .int (T.2.2.2.1 + 1)) (ws2 := (wD cI cL a B S V O G F (T.1, T.2.1, T.2.2.1 + 1, T.2.2.2.1 + 1, T.2.2.2.2.1, T.2.2.2.2.2))) rfl (by decide) lkX2_21 rfl rfl rfl (Nat.le_of_ble_eq_true rfl) rfl dX2_endFailedCall_17 ?_
  refine zw_aload_n C dX2_endFailedCall_20 0 rfl rfl ?_
  refine zw_aload_n C dX2_endFailedCall_21 0 rfl rfl ?_
  refine zw_get C FX2 30 5 (v := .int T.2.2.2.2.2) rfl (by decide) lkX2_27 rfl dX2_endFailedCall_22 ?_
  refine zw_put C FX2 GX2 30 4 (v := .int T.2.2.2.2.2) (ws2 := (wD cI cL a B S V O G F (T.1, T.2.1, T.2.2.1 + 1, T.2.2.2.1 + 1, T.2.2.2.2.2, T.2.2.2.2.2))) rfl (by decide) lkX2_24 rfl rfl rfl (Nat.le_of_ble_eq_true rfl) rfl dX2_endFailedCall_25 ?_
  refine zw_bipush C (v := (-10)) dX2_endFailedCall_28 (by decide) ?_
  refine zw_aload_n C dX2_endFailedCall_30 0 rfl rfl ?_
  refine zw_get C FX2 30 5 (v := .int T.2.2.2.2.2) rfl (by decide) lkX2_27 rfl dX2_endFailedCall_31 ?_
  refine zw_isub C dX2_endFailedCall_34 ?_
  subst hF
  exact zw_ireturn C hr hlk dX2_endFailedCall_35 rfl rfl
