def bF (fV : dFV) (d : dY) (p1 : Int32) (p2 : Int32) : Int32 × dY := (zw_l (fV d p1 p2) (fun q1 => (zw_l (fX2_meetsFailure q1.2.2.2) (fun q3 => (if q3.1 = 0 then (if q1.1 = 0 then (0, q1.2.1, q1.2.2.1, q3.2) else (1, q1.2.1, q1.2.2.1, q3.2)) else (0, q1.2.1, q1.2.2.1, q3.2))))))
set_option maxHeartbeats 4000000 in
set_option maxRecDepth 100000 in
theorem kbF {l : Launch} {D : va_G} {cI cL : ClassId} {a : Nat → Nat} {B : dB} {S : dS} {V : dV} {O : dO} {G : dG} {F : dF} {n vn tn : Nat} {rv : Nat → Nat} {fV : dFV} (HV : CV l D cI cL a B S V O G F (dz_rm n) (dz_op vn rv n) (fun t => vp_in t tn) fV) (d : dY) (p1 : Int32) (p2 : Int32) (q : Int32 × dY) (hy1 : dz_op vn rv n p1) (hy2 : vp_in p2 tn) (hF : bF fV d p1 p2 = q) : zw_Mi l yX3_askSafely cX3_askSafely 4 .boolean D (zw_tys cI cL) (zw_rm (2 * n + 7) (60 * n + 230)) [.ref (a 0), .int p1, .int p2] (dW cI cL a B S V O G F d) (dW cI cL a B S V O G F q.2) q.1 := by
  unfold bF at hF
  refine zw_Mi_of (own := RX3) (by decide) rfl (Nat.le_of_ble_eq_true rfl) ?_
  intro p e s m args below meth c A C hr hlk
  refine zw_eq (ws2 := (wD cI cL a B (S.1, S.2.1, S.2.2.1, d.1, S.2.2.2.2) (V.1, V.2.1, V.2.2.1, d.2.1, V.2.2.2.2) O G F d.2.2)) (lv2 := [(0, .ref (a 0)), (1, .int p1), (2, .int p2)]) rfl rfl rfl ?_
  refine zw_aload_n C dX3_askSafely_0 0 rfl rfl ?_
  refine zw_iload_n C dX3_askSafely_1 1 rfl rfl ?_
  refine zw_iload_n C dX3_askSafely_2 2 rfl rfl ?_
  obtain ⟨q1, e2⟩ : ∃ z, fV d p1 p2 = z := ⟨_, rfl⟩
  rw [zw_l_eq e2] at hF
  refine zw_calli C kvX3_117 (HV d p1 p2 _ hy1 hy2 e2) ⟨rfl, rfl, ⟨by show 2 * n + 6 + 1 ≤ 2 * n + 7; omega, by show 8 + (5 + 11) + (60 * n + 200) ≤ 60 * n + 230; omega⟩, Nat.le_refl _, Nat.le_refl _⟩ FX3 0 (As := [.int p1, .int p2]) (rest := []) rfl rfl rfl (Nat.le_of_ble_eq_true rfl) dX3_askSafely_3 ?_
  refine zw_istore_n C dX3_askSafely_6 rfl (by decide) rfl ?_
  refine zw_aload_n C dX3_askSafely_7 1 rfl rfl ?_
  refine zw_get C FX3 0 11 (v := .ref (a 30)) rfl (by decide) lkX3_56 rfl dX3_askSafely_8 ?_
  obtain ⟨q3, e4⟩ : ∃ z, fX2_meetsFailure q1.2.2.2 = z := ⟨_, rfl⟩
  rw [zw_l_eq e4] at hF
  refine zw_calli C kvX3_221 (kX2_meetsFailure e4) ⟨rfl, rfl, ⟨by show 1 + 1 ≤ 2 * n + 7; omega, by show 8 + (1 + 11) + (20) ≤ 60 * n + 230; omega⟩, Nat.le_refl _, Nat.le_refl _⟩ FX2 30 (As := []) (rest := []) rfl rfl rfl (Nat.le_of_ble_eq_true rfl) dX3_askSafely_11 ?_
  refine zw_if_ne C 25 dX3_askSafely_14 (by decide) (fun h5 => ?_) (fun h5 => ?_)
  · rw [if_neg h5] at hF
    refine zw_iconst C (v := 0) dX3_askSafely_25 (by decide) ?_
    subst hF
    exact zw_zreturn C hr hlk rfl dX3_askSafely_26 rfl rfl
  · rw [if_pos h5] at hF
    refine zw_iload_n C dX3_askSafely_17 0 rfl rfl ?_
    refine zw_if_eq C 25 dX3_askSafely_18 (by decide) (fun h6 => ?_) (fun h6 => ?_)
    · rw [if_pos h6] at hF
      refine zw_iconst C (v := 0) dX3_askSafely_25 (by decide) ?_
      subst hF
      exact zw_zreturn C hr hlk rfl dX3_askSafely_26 rfl rfl
    · rw [if_neg h6] at hF
      refine zw_iconst C (v := 1) dX3_askSafely_21 (by decide) ?_
      refine zw_goto C 26 dX3_askSafely_22 (by decide) ?_
      subst hF
      exact zw_zreturn C hr hlk rfl dX3_askSafely_26 rfl rfl
def bR (fV : dFV) (d : dY) (p1 : Int32) (p2 : Int32) : Int32 × dY := (zw_l (fV d p1 p2) (fun q1 => (if q1.1 = 0 then (1, q1.2.1, q1.2.2.1, q1.2.2.2) else (0, q1.2.1, q1.2.2.1, q1.2.2.2))))
set_option maxHeartbeats 4000000 in
set_option maxRecDepth 100000 in
theorem kbR {l : Launch} {D : va_G} {cI cL : ClassId} {a : Nat → Nat} {B : dB} {S : dS} {V : dV} {O : dO} {G : dG} {F : dF} {n vn tn : Nat} {rv : Nat → Nat} {fV : dFV} (HV : CV l D cI cL a B S V O G F (dz_rm n) (dz_op vn rv n) (fun t => vp_in t tn) fV) (d : dY) (p1 : Int32) (p2 : Int32) (q : Int32 × dY) (hy1 : dz_op vn rv n p1) (hy2 : vp_in p2 tn) (hF : bR fV d p1 p2 = q) : zw_Mi l yX3_rankBySieve cX3_rankBySieve 3 .int D (zw_tys cI cL) (zw_rm (2 * n + 7) (60 * n + 230)) [.ref (a 0), .int p1, .int p2] (dW cI cL a B S V O G F d) (dW cI cL a B S V O G F q.2) q.1 := by
  unfold bR at hF
  refine zw_Mi_of (own := RX3) (by decide) rfl (Nat.le_of_ble_eq_true rfl) ?_
  intro p e s m args below meth c A C hr hlk
  refine zw_eq (ws2 := (wD cI cL a B (S.1, S.2.1, S.2.2.1, d.1, S.2.2.2.2) (V.1, V.2.1, V.2.2.1, d.2.1, V.2.2.2.2) O G F d.2.2)) (lv2 := [(0, .ref (a 0)), (1, .int p1), (2, .int p2)]) rfl rfl rfl ?_
  refine zw_aload_n C dX3_rankBySieve_0 0 rfl rfl ?_
  refine zw_iload_n C dX3_rankBySieve_1 1 rfl rfl ?_
  refine zw_iload_n C dX3_rankBySieve_2 2 rfl rfl ?_
  obtain ⟨q1, e2⟩ : ∃ z, fV d p1 p2 = z := ⟨_, rfl⟩
  rw [zw_l_eq e2] at hF
  refine zw_calli C kvX3_117 (HV d p1 p2 _ hy1 hy2 e2) ⟨rfl, rfl, ⟨by show 2 * n + 6 + 1 ≤ 2 * n + 7; omega, by show 8 + (5 + 11) + (60 * n + 200) ≤ 60 * n + 230; omega⟩, Nat.le_refl _, Nat.le_refl _⟩ FX3 0 (As := [.int p1, .int p2]) (rest := []) rfl rfl rfl (Nat.le_of_ble_eq_true rfl) dX3_rankBySieve_3 ?_
  refine zw_if_eq C 13 dX3_rankBySieve_6 (by decide) (fun h3 => ?_) (fun h3 => ?_)
  · rw [if_pos h3] at hF
    refine zw_iconst C (v := 1) dX3_rankBySieve_13 (by decide) ?_
    subst hF
    exact zw_ireturn C hr hlk dX3_rankBySieve_14 rfl rfl
  · rw [if_neg h3] at hF
    refine zw_iconst C (v := 0) dX3_rankBySieve_9 (by decide) ?_
    refine zw_goto C 14 dX3_rankBySieve_10 (by decide) ?_
    subst hF
    exact zw_ireturn C hr hlk dX3_rankBySieve_14 rfl rfl
def bH (fO : dFO) (d : dY) (p1 : Int32) (p2 : Int32) (p3 : Int32) (p4 : Int32) : Int32 × dY := (zw_l (fO d p1 p3 p4) (fun q1 => (if q1.1 = 0 then (zw_l (fO q1.2 p2 p3 p4) (fun q4 => (q4.1, q4.2.1, q4.2.2.1, q4.2.2.2))) else (q1.1, q1.2.1, q1.2.2.1, q1.2.2.2))))
set_option maxHeartbeats 4000000 in
set_option maxRecDepth 100000 in
theorem kbH {l : Launch} {D : va_G} {cI cL : ClassId} {a : Nat → Nat} {B : dB} {S : dS} {V : dV} {O : dO} {G : dG} {F : dF} {n on tn : Nat} {ro : Nat → Nat} {fO : dFO} (HO : CO l D cI cL a B S V O G F (dz_rm n) (dz_op on ro n) (fun t => vp_in t tn) fO) (d : dY) (p1 : Int32) (p2 : Int32) (p3 : Int32) (p4 : Int32) (q : Int32 × dY) (hy1 : dz_op on ro n p1) (hy2 : dz_op on ro n p2) (hy3 : vp_in p3 tn) (hy4 : vp_in p4 tn) (hF : bH fO d p1 p2 p3 p4 = q) : zw_Mi l yX3_askThen cX3_askThen 6 .int D (zw_tys cI cL) (zw_rm (2 * n + 7) (60 * n + 230)) [.ref (a 0), .int p1, .int p2, .int p3, .int p4] (dW cI cL a B S V O G F d) (dW cI cL a B S V O G F q.2) q.1 := by
  unfold bH at hF
  refine zw_Mi_of (own := RX3) (by decide) rfl (Nat.le_of_ble_eq_true rfl) ?_
  intro p e s m args below meth c A C hr hlk
  refine zw_eq (ws2 := (wD cI cL a B (S.1, S.2.1, S.2.2.1, d.1, S.2.2.2.2) (V.1, V.2.1, V.2.2.1, d.2.1, V.2.2.2.2) O G F d.2.2)) (lv2 := [(0, .ref (a 0)), (1, .int p1), (2, .int p2), (3, .int p3), (4, .int p4)]) rfl rfl rfl ?_
  refine zw_aload_n C dX3_askThen_0 0 rfl rfl ?_
  refine zw_iload_n C dX3_askThen_1 1 rfl rfl ?_
  refine zw_iload_n C dX3_askThen_2 3 rfl rfl ?_
  refine zw_iload C dX3_askThen_3 4 rfl ?_
  obtain ⟨q1, e2⟩ : ∃ z, fO d p1 p3 p4 = z := ⟨_, rfl⟩
  rw [zw_l_eq e2] at hF
  refine zw_calli C kvX3_165 (HO d p1 p3 p4 _ hy1 hy3 hy4 e2) ⟨rfl, rfl, ⟨by show 2 * n + 6 + 1 ≤ 2 * n + 7; omega, by show 8 + (6 + 11) + (60 * n + 200) ≤ 60 * n + 230; omega⟩, Nat.le_refl _, Nat.le_refl _⟩ FX3 0 (As := [.int p1, .int p3, .int p4]) (rest := []) rfl rfl rfl (Nat.le_of_ble_eq_true rfl) dX3_askThen_5 ?_
  refine zw_istore C dX3_askThen_8 (by decide) rfl ?_
  refine zw_iload C dX3_askThen_10 0 rfl ?_
  refine zw_if_eq C 20 dX3_askThen_12 (by decide) (fun h3 => ?_) (fun h3 => ?_)
  · rw [if_pos h3] at hF
    refine zw_aload_n C dX3_askThen_20 1 rfl rfl ?_
    refine zw_iload_n C dX3_askThen_21 3 rfl rfl ?_
    refine zw_iload_n C dX3_askThen_22 4 rfl rfl ?_
    refine zw_iload C dX3_askThen_23 5 rfl ?_
    obtain ⟨q4, e5⟩ : ∃ z, fO q1.2 p2 p3 p4 = z := ⟨_, rfl⟩
    rw [zw_l_eq e5] at hF
    refine zw_calli C kvX3_165 (HO q1.2 p2 p3 p4 _ hy2 hy3 hy4 e5) ⟨rfl, rfl, ⟨by show 2 * n + 6 + 1 ≤ 2 * n + 7; omega, by show 8 + (6 + 11) + (60 * n + 200) ≤ 60 * n + 230; omega⟩, Nat.le_refl _, Nat.le_refl _⟩ FX3 0 (As := [.int p2, .int p3, .int p4]) (rest := []) rfl rfl rfl (Nat.le_of_ble_eq_true rfl) dX3_askThen_25 ?_
    subst hF
    exact zw_ireturn C hr hlk dX3_askThen_28 rfl rfl
  · rw [if_neg h3] at hF
    refine zw_iload C dX3_askThen_15 0 rfl ?_
    refine zw_goto C 28 dX3_askThen_17 (by decide) ?_
    subst hF
    exact zw_ireturn C hr hlk dX3_askThen_28 rfl rfl
theorem bb_bF {fV : dFV} {d : dY} {x t : Int32} {q : Int32 × dY} (h : bF fV d x t = q) : q.1 = 0 ∨ q.1 = 1 := by
  subst h
  unfold bF zw_l
  dsimp only
  split
  · split <;> simp
  · simp
theorem dk_cell {S : dS} {V : dV} {O : dO} {sn vn on n tn : Nat} {rs rv ro : Nat → Nat} {p t : Int32} (htn : tn ≤ 40) (hT : dz_tab S V O sn vn on rs rv ro) (hi : dz_op sn rs (n + 1) p) (ht : vp_in t tn) (hk : S.1 p.toNatClampNeg = 0) : vp_in (fX3_cellOf t (S.2.1 p.toNatClampNeg)) 120 := by
  obtain ⟨c, hc, e⟩ := dk_S0 hT hi hk
  obtain ⟨j, hj, e2⟩ := vp_in_of ht (by omega)
  exact (dz_cell (by omega) hc e2 e).2
def bS (fS : dFS) (fV : dFV) (ce rw : Nat → Int64) (sk sa sb : Nat → Int32) (d : dY) (p1 : Int32) (p2 : Int32) : Int64 × dY := (zw_l (fX2_beginsAsking d.2.2) (fun q1 => (if q1.1 = 0 then (0, d.1, d.2.1, q1.2) else (if (sk p1.toNatClampNeg) = 0 then (ce (fX3_cellOf p2 (sa p1.toNatClampNeg)).toNatClampNeg, d.1, d.2.1, q1.2) else (if (sk p1.toNatClampNeg) = 1 then (((sa p1.toNatClampNeg).toInt64) + ((sb p1.toNatClampNeg).toInt64), d.1, d.2.1, q1.2) else (if (sk p1.toNatClampNeg) = 2 then (zw_l (fS (d.1, d.2.1, q1.2) (sa p1.toNatClampNeg) p2) (fun q7 => (zw_l (fS q7.2 (sb p1.toNatClampNeg) p2) (fun q9 => (q7.1 + q9.1, q9.2.1, q9.2.2.1, q9.2.2.2))))) else (if (sk p1.toNatClampNeg) = 3 then (zw_l (fS (d.1, d.2.1, q1.2) (sa p1.toNatClampNeg) p2) (fun q12 => (zw_l (fS q12.2 (sb p1.toNatClampNeg) p2) (fun q14 => (q12.1 * q14.1, q14.2.1, q14.2.2.1, q14.2.2.2))))) else (if (sk p1.toNatClampNeg) = 4 then (zw_l (fS (d.1, d.2.1, q1.2) (sa p1.toNatClampNeg) p2) (fun q17 => (zw_l (fS q17.2 (sb p1.toNatClampNeg) p2) (fun q19 => (zw_l (fX3_quotient q19.2.2.2 q17.1 q19.1) (fun q21 => (q21.1, q19.2.1, q19.2.2.1, q21.2))))))) else (if (sk p1.toNatClampNeg) = 5 then (zw_l (fS (d.1, d.2.1, q1.2) (sa p1.toNatClampNeg) p2) (fun q24 => (zw_l (fS q24.2 (sb p1.toNatClampNeg) p2) (fun q26 => (if q26.1 < q24.1 then q26.1 else q24.1, q26.2.1, q26.2.2.1, q26.2.2.2))))) else (if (sk p1.toNatClampNeg) = 6 then (zw_l (fV (d.1, d.2.1, q1.2) (sa p1.toNatClampNeg) p2) (fun q29 => (if q29.1 = 0 then (0, q29.2.1, q29.2.2.1, q29.2.2.2) else (zw_l (fS q29.2 (sb p1.toNatClampNeg) p2) (fun q32 => (q32.1, q32.2.1, q32.2.2.1, q32.2.2.2)))))) else (if (sk p1.toNatClampNeg) = 7 then (zw_l (fS (d.1, d.2.1, q1.2) (sa p1.toNatClampNeg) p2) (fun q35 => (zw_l (fX3_itemAt rw q35.2.2.2 q35.1) (fun q37 => (q37.1, q35.2.1, q35.2.2.1, q37.2))))) else (if (sk p1.toNatClampNeg) = 8 then (d.1 p1.toNatClampNeg, d.1, d.2.1, q1.2) else (if (sk p1.toNatClampNeg) = 9 then (d.1 p1.toNatClampNeg, d.1, d.2.1, q1.2) else (if (sk p1.toNatClampNeg) = 10 then (zw_l (fX1_countAsked d.1 p1) (fun q42 => (((q42.1 - 1) * ((sa p1.toNatClampNeg).toInt64)) + ((sb p1.toNatClampNeg).toInt64), q42.2, d.2.1, q1.2))) else (zw_l (fX2_fail q1.2 3) (fun q44 => (0, d.1, d.2.1, q44)))))))))))))))))
set_option maxHeartbeats 4000000 in
set_option maxRecDepth 100000 in
theorem kbS {l : Launch} {D : va_G} {cI cL : ClassId} {a : Nat → Nat} {B : dB} {S : dS} {V : dV} {O : dO} {G : dG} {F : dF} {n sn vn on tn : Nat} {rs rv ro : Nat → Nat} {fS : dFS} {fV : dFV} (hsn : sn ≤ 24) (hvn : vn ≤ 24) (hon : on ≤ 24) (htn : tn ≤ 40) (hT : dz_tab S V O sn vn on rs rv ro) (HS : CS l D cI cL a B S V O G F (dz_rm n) (dz_op sn rs n) (fun t => vp_in t tn) fS) (HV : CV l D cI cL a B S V O G F (dz_rm n) (dz_op vn rv n) (fun t => vp_in t tn) fV) (d : dY) (p1 : Int32) (p2 : Int32) (q : Int64 × dY) (hy1 : dz_op sn rs (n + 1) p1) (hy2 : vp_in p2 tn) (hF : bS fS fV B.2.2.2.1 B.2.2.2.2.1 S.1 S.2.1 S.2.2.1 d p1 p2 = q) : zw_Ml l yX3_askScale cX3_askScale 5 D (zw_tys cI cL) (dz_rm (n + 1)) [.ref (a 0), .int p1, .int p2] (dW cI cL a B S V O G F d) (dW cI cL a B S V O G F q.2) q.1 := by
  unfold bS at hF
  refine zw_Ml_of (own := RX3) (by decide) rfl (Nat.le_of_ble_eq_true rfl) ?_
  intro p e s m args below meth c A C hr hlk
  refine zw_eq (ws2 := (wD cI cL a B (S.1, S.2.1, S.2.2.1, d.1, S.2.2.2.2) (V.1, V.2.1, V.2.2.1, d.2.1, V.2.2.2.2) O G F d.2.2)) (lv2 := [(0, .ref (a 0)), (1, .int p1), (2, .int p2)]) rfl rfl rfl ?_
  refine zw_aload_n C dX3_askScale_0 0 rfl rfl ?_
  refine zw_get C FX3 0 11 (v := .ref (a 30)) rfl (by decide) lkX3_56 rfl dX3_askScale_1 ?_
  obtain ⟨q1, e2⟩ : ∃ z, fX2_beginsAsking d.2.2 = z := ⟨_, rfl⟩
  rw [zw_l_eq e2] at hF
  refine zw_calli C kvX3_169 (kX2_beginsAsking e2) ⟨rfl, rfl, ⟨by show 2 + 1 ≤ 2 * (n + 1) + 6; omega, by show 8 + (1 + 11) + (41) ≤ 60 * (n + 1) + 200; omega⟩, Nat.le_refl _, Nat.le_refl _⟩ FX2 30 (As := []) (rest := []) rfl rfl rfl (Nat.le_of_ble_eq_true rfl) dX3_askScale_4 ?_
  refine zw_if_ne C 12 dX3_askScale_7 (by decide) (fun h3 => ?_) (fun h3 => ?_)
  · rw [if_neg h3] at hF
    refine zw_aload_n C dX3_askScale_12 0 rfl rfl ?_
    refine zw_get C FX3 0 6 (v := .ref (a 5)) rfl (by decide) lkX3_33 rfl dX3_askScale_13 ?_
    refine zw_get C FX1 5 1 (v := .ref (a 7)) rfl (by decide) lkX3_172 rfl dX3_askScale_16 ?_
    refine zw_iload_n C dX3_askScale_19 1 rfl rfl ?_
    refine zw_iald C 7 0 (f := S.2.1) (i := p1) rfl rfl (dz_opIn hy1 hsn) dX3_askScale_20 ?_
    refine zw_istore_n C dX3_askScale_21 rfl (by decide) rfl ?_
    refine zw_aload_n C dX3_askScale_22 1 rfl rfl ?_
    refine zw_get C FX3 0 6 (v := .ref (a 5)) rfl (by decide) lkX3_33 rfl dX3_askScale_23 ?_
    refine zw_get C FX1 5 2 (v := .ref (a 8)) rfl (by decide) lkX3_175 rfl dX3_askScale_26 ?_
    refine zw_iload_n C dX3_askScale_29 2 rfl rfl ?_
    refine zw_iald C 8 0 (f := S.2.2.1) (i := p1) rfl rfl (dz_opIn hy1 hsn) dX3_askScale_30 ?_
    refine zw_istore C dX3_askScale_31 (by decide) rfl ?_
    refine zw_aload_n C dX3_askScale_33 2 rfl rfl ?_
    refine zw_get C FX3 0 6 (v := .ref (a 5)) rfl (by decide) lkX3_33 rfl dX3_askScale_34 ?_
    refine zw_get C FX1 5 0 (v := .ref (a 6)) rfl (by decide) lkX3_178 rfl dX3_askScale_37 ?_
    refine zw_iload_n C dX3_askScale_40 3 rfl rfl ?_
    refine zw_iald C 6 0 (f := S.1) (i := p1) rfl rfl (dz_opIn hy1 hsn) dX3_askScale_41 ?_
    by_cases h4 : (S.1 p1.toNatClampNeg) = 0
    · rw [if_pos h4] at hF
      refine zw_tableIn C 100 dX3_askScale_42 (by rw [h4]; decide) (by rw [h4]; decide) (by rw [h4]; rfl) (by decide) ?_
      refine zw_aload_n C dX3_askScale_100 2 rfl rfl ?_
      refine zw_get C FX3 0 0 (v := .ref (a 1)) rfl (by decide) lkX3_9 rfl dX3_askScale_101 ?_
      refine zw_iload_n C dX3_askScale_104 4 rfl rfl ?_
      refine zw_iload_n C dX3_askScale_105 1 rfl rfl ?_
      refine zw_scalli C kvX3_64 (kX3_cellOf rfl) ⟨rfl, rfl, ⟨by show 0 + 1 ≤ 2 * (n + 1) + 6; omega, by show 8 + (2 + 11) + (0) ≤ 60 * (n + 1) + 200; omega⟩, Nat.le_refl _, Nat.le_refl _⟩ (As := [.int p2, .int (S.2.1 p1.toNatClampNeg)]) (rest := [.ref (a 1)]) rfl rfl (Nat.le_of_ble_eq_true rfl) dX3_askScale_106 ?_
      refine zw_lald C 1 1 (f := B.2.2.2.1) (i := (fX3_cellOf p2 (S.2.1 p1.toNatClampNeg))) rfl rfl (dk_cell htn hT hy1 hy2 (by assumption)) dX3_askScale_109 ?_
      subst hF
      exact zw_lreturn C hr hlk dX3_askScale_110 rfl rfl
    rw [if_neg h4] at hF
    by_cases h5 : (S.1 p1.toNatClampNeg) = 1
    · rw [if_pos h5] at hF
      refine zw_tableIn C 111 dX3_askScale_42 (by rw [h5]; decide) (by rw [h5]; decide) (by rw [h5]; rfl) (by decide) ?_
      refine zw_iload_n C dX3_askScale_111 1 rfl rfl ?_
      refine zw_i2l C dX3_askScale_112 ?_
      refine zw_iload C dX3_askScale_113 0 rfl ?_
      refine zw_i2l C dX3_askScale_115 ?_
      refine zw_ladd C dX3_askScale_116 ?_
      subst hF
      exact zw_lreturn C hr hlk dX3_askScale_117 rfl rfl
    rw [if_neg h5] at hF
    by_cases h6 : (S.1 p1.toNatClampNeg) = 2
    · rw [if_pos h6] at hF
      refine zw_tableIn C 118 dX3_askScale_42 (by rw [h6]; decide) (by rw [h6]; decide) (by rw [h6]; rfl) (by decide) ?_
      refine zw_aload_n C dX3_askScale_118 2 rfl rfl ?_
      refine zw_iload_n C dX3_askScale_119 1 rfl rfl ?_
      refine zw_iload_n C dX3_askScale_120 4 rfl rfl ?_
      obtain ⟨q7, e8⟩ : ∃ z, fS (d.1, d.2.1, q1.2) (S.2.1 p1.toNatClampNeg) p2 = z := ⟨_, rfl⟩
      rw [zw_l_eq e8] at hF
      refine zw_calll C kvX3_106 (HS (d.1, d.2.1, q1.2) (S.2.1 p1.toNatClampNeg) p2 _ (dk_S2 hT hy1 (Or.inl (by assumption))).1 hy2 e8) ⟨rfl, rfl, ⟨by show 2 * n + 6 + 1 ≤ 2 * (n + 1) + 6; omega, by show 8 + (5 + 11) + (60 * n + 200) ≤ 60 * (n + 1) + 200; omega⟩, Nat.le_refl _, Nat.le_refl _⟩ FX3 0 (As := [.int (S.2.1 p1.toNatClampNeg), .int p2]) (rest := []) rfl rfl rfl (Nat.le_of_ble_eq_true rfl) dX3_askScale_121 ?_
      refine zw_aload_n C dX3_askScale_124 2 rfl rfl ?_
      refine zw_iload C dX3_askScale_125 0 rfl ?_
      refine zw_iload_n C dX3_askScale_127 4 rfl rfl ?_
      obtain ⟨q9, e10⟩ : ∃ z, fS q7.2 (S.2.2.1 p1.toNatClampNeg) p2 = z := ⟨_, rfl⟩
      rw [zw_l_eq e10] at hF
      refine zw_calll C kvX3_106 (HS q7.2 (S.2.2.1 p1.toNatClampNeg) p2 _ (dk_S2 hT hy1 (Or.inl (by assumption))).2 hy2 e10) ⟨rfl, rfl, ⟨by show 2 * n + 6 + 1 ≤ 2 * (n + 1) + 6; omega, by show 8 + (5 + 11) + (60 * n + 200) ≤ 60 * (n + 1) + 200; omega⟩, Nat.le_refl _, Nat.le_refl _⟩ FX3 0 (As := [.int (S.2.2.1 p1.toNatClampNeg), .int p2]) (rest := [.long q7.1]) rfl rfl rfl (Nat.le_of_ble_eq_true rfl) dX3_askScale_128 ?_
      refine zw_ladd C dX3_askScale_131 ?_
      subst hF
      exact zw_lreturn C hr hlk dX3_askScale_132 rfl rfl
    rw [if_neg h6] at hF
    by_cases h11 : (S.1 p1.toNatClampNeg) = 3
    · rw [if_pos h11] at hF
      refine zw_tableIn C 133 dX3_askScale_42 (by rw [h11]; decide) (by rw [h11]; decide) (by rw [h11]; rfl) (by decide) ?_
      refine zw_aload_n C dX3_askScale_133 2 rfl rfl ?_
      refine zw_iload_n C dX3_askScale_134 1 rfl rfl ?_
      refine zw_iload_n C dX3_askScale_135 4 rfl rfl ?_
      obtain ⟨q12, e13⟩ : ∃ z, fS (d.1, d.2.1, q1.2) (S.2.1 p1.toNatClampNeg) p2 = z := ⟨_, rfl⟩
      rw [zw_l_eq e13] at hF
      refine zw_calll C kvX3_106 (HS (d.1, d.2.1, q1.2) (S.2.1 p1.toNatClampNeg) p2 _ (dk_S2 hT hy1 (Or.inr (Or.inl (by assumption)))).1 hy2 e13) ⟨rfl, rfl, ⟨by show 2 * n + 6 + 1 ≤ 2 * (n + 1) + 6; omega, by show 8 + (5 + 11) + (60 * n + 200) ≤ 60 * (n + 1) + 200; omega⟩, Nat.le_refl _, Nat.le_refl _⟩ FX3 0 (As := [.int (S.2.1 p1.toNatClampNeg), .int p2]) (rest := []) rfl rfl rfl (Nat.le_of_ble_eq_true rfl) dX3_askScale_136 ?_
      refine zw_aload_n C dX3_askScale_139 2 rfl rfl ?_
      refine zw_iload C dX3_askScale_140 0 rfl ?_
      refine zw_iload_n C dX3_askScale_142 4 rfl rfl ?_
      obtain ⟨q14, e15⟩ : ∃ z, fS q12.2 (S.2.2.1 p1.toNatClampNeg) p2 = z := ⟨_, rfl⟩
      rw [zw_l_eq e15] at hF
      refine zw_calll C kvX3_106 (HS q12.2 (S.2.2.1 p1.toNatClampNeg) p2 _ (dk_S2 hT hy1 (Or.inr (Or.inl (by assumption)))).2 hy2 e15) ⟨rfl, rfl, ⟨by show 2 * n + 6 + 1 ≤ 2 * (n + 1) + 6; omega, by show 8 + (5 + 11) + (60 * n + 200) ≤ 60 * (n + 1) + 200; omega⟩, Nat.le_refl _, Nat.le_refl _⟩ FX3 0 (As := [.int (S.2.2.1 p1.toNatClampNeg), .int p2]) (rest := [.long q12.1]) rfl rfl rfl (Nat.le_of_ble_eq_true rfl) dX3_askScale_143 ?_
      refine zw_lmul C dX3_askScale_146 ?_
      subst hF
      exact zw_lreturn C hr hlk dX3_askScale_147 rfl rfl
    rw [if_neg h11] at hF
    by_cases h16 : (S.1 p1.toNatClampNeg) = 4
    · rw [if_pos h16] at hF
      refine zw_tableIn C 148 dX3_askScale_42 (by rw [h16]; decide) (by rw [h16]; decide) (by rw [h16]; rfl) (by decide) ?_
      refine zw_aload_n C dX3_askScale_148 2 rfl rfl ?_
      refine zw_aload_n C dX3_askScale_149 2 rfl rfl ?_
      refine zw_iload_n C dX3_askScale_150 1 rfl rfl ?_
      refine zw_iload_n C dX3_askScale_151 4 rfl rfl ?_
      obtain ⟨q17, e18⟩ : ∃ z, fS (d.1, d.2.1, q1.2) (S.2.1 p1.toNatClampNeg) p2 = z := ⟨_, rfl⟩
      rw [zw_l_eq e18] at hF
      refine zw_calll C kvX3_106 (HS (d.1, d.2.1, q1.2) (S.2.1 p1.toNatClampNeg) p2 _ (dk_S2 hT hy1 (Or.inr (Or.inr (Or.inl (by assumption))))).1 hy2 e18) ⟨rfl, rfl, ⟨by show 2 * n + 6 + 1 ≤ 2 * (n + 1) + 6; omega, by show 8 + (5 + 11) + (60 * n + 200) ≤ 60 * (n + 1) + 200; omega⟩, Nat.le_refl _, Nat.le_refl _⟩ FX3 0 (As := [.int (S.2.1 p1.toNatClampNeg), .int p2]) (rest := [.ref (a 0)]) rfl rfl rfl (Nat.le_of_ble_eq_true rfl) dX3_askScale_152 ?_
      refine zw_aload_n C dX3_askScale_155 2 rfl rfl ?_
      refine zw_iload C dX3_askScale_156 0 rfl ?_
      refine zw_iload_n C dX3_askScale_158 4 rfl rfl ?_
      obtain ⟨q19, e20⟩ : ∃ z, fS q17.2 (S.2.2.1 p1.toNatClampNeg) p2 = z := ⟨_, rfl⟩
      rw [zw_l_eq e20] at hF
      refine zw_calll C kvX3_106 (HS q17.2 (S.2.2.1 p1.toNatClampNeg) p2 _ (dk_S2 hT hy1 (Or.inr (Or.inr (Or.inl (by assumption))))).2 hy2 e20) ⟨rfl, rfl, ⟨by show 2 * n + 6 + 1 ≤ 2 * (n + 1) + 6; omega, by show 8 + (5 + 11) + (60 * n + 200) ≤ 60 * (n + 1) + 200; omega⟩, Nat.le_refl _, Nat.le_refl _⟩ FX3 0 (As := [.int (S.2.2.1 p1.toNatClampNeg), .int p2]) (rest := [.long q17.1, .ref (a 0)]) rfl rfl rfl (Nat.le_of_ble_eq_true rfl) dX3_askScale_159 ?_
      obtain ⟨q21, e22⟩ : ∃ z, fX3_quotient q19.2.2.2 q17.1 q19.1 = z := ⟨_, rfl⟩
      rw [zw_l_eq e22] at hF
      refine zw_calll C kvX3_181 (kX3_quotient e22) ⟨rfl, rfl, ⟨by show 2 + 1 ≤ 2 * (n + 1) + 6; omega, by show 8 + (5 + 11) + (41) ≤ 60 * (n + 1) + 200; omega⟩, Nat.le_refl _, Nat.le_refl _⟩ FX3 0 (As := [.long q17.1, .long q19.1]) (rest := []) rfl rfl rfl (Nat.le_of_ble_eq_true rfl) dX3_askScale_162 ?_
      subst hF
      exact zw_lreturn C hr hlk dX3_askScale_165 rfl rfl
    rw [if_neg h16] at hF
    by_cases h23 : (S.1 p1.toNatClampNeg) = 5
    · rw [if_pos h23] at hF
      refine zw_tableIn C 166 dX3_askScale_42 (by rw [h23]; decide) (by rw [h23]; decide) (by rw [h23]; rfl) (by decide) ?_
      refine zw_aload_n C dX3_askScale_166 2 rfl rfl ?_
      refine zw_iload_n C dX3_askScale_167 1 rfl rfl ?_
      refine zw_iload_n C dX3_askScale_168 4 rfl rfl ?_
      obtain ⟨q24, e25⟩ : ∃ z, fS (d.1, d.2.1, q1.2) (S.2.1 p1.toNatClampNeg) p2 = z := ⟨_, rfl⟩
      rw [zw_l_eq e25] at hF
      refine zw_calll C kvX3_106 (HS (d.1, d.2.1, q1.2) (S.2.1 p1.toNatClampNeg) p2 _ (dk_S2 hT hy1 (Or.inr (Or.inr (Or.inr (by assumption))))).1 hy2 e25) ⟨rfl, rfl, ⟨by show 2 * n + 6 + 1 ≤ 2 * (n + 1) + 6; omega, by show 8 + (5 + 11) + (60 * n + 200) ≤ 60 * (n + 1) + 200; omega⟩, Nat.le_refl _, Nat.le_refl _⟩ FX3 0 (As := [.int (S.2.1 p1.toNatClampNeg), .int p2]) (rest := []) rfl rfl rfl (Nat.le_of_ble_eq_true rfl) dX3_askScale_169 ?_
      refine zw_aload_n C dX3_askScale_172 2 rfl rfl ?_
      refine zw_iload C dX3_askScale_173 0 rfl ?_
      refine zw_iload_n C dX3_askScale_175 4 rfl rfl ?_
      obtain ⟨q26, e27⟩ : ∃ z, fS q24.2 (S.2.2.1 p1.toNatClampNeg) p2 = z := ⟨_, rfl⟩
      rw [zw_l_eq e27] at hF
      refine zw_calll C kvX3_106 (HS q24.2 (S.2.2.1 p1.toNatClampNeg) p2 _ (dk_S2 hT hy1 (Or.inr (Or.inr (Or.inr (by assumption))))).2 hy2 e27) ⟨rfl, rfl, ⟨by show 2 * n + 6 + 1 ≤ 2 * (n + 1) + 6; omega, by show 8 + (5 + 11) + (60 * n + 200) ≤ 60 * (n + 1) + 200; omega⟩, Nat.le_refl _, Nat.le_refl _⟩ FX3 0 (As := [.int (S.2.2.1 p1.toNatClampNeg), .int p2]) (rest := [.long q24.1]) rfl rfl rfl (Nat.le_of_ble_eq_true rfl) dX3_askScale_176 ?_
      refine zw_mminL C lkmX3_185 (by show 1 ≤ 2 * (n + 1) + 6; omega) (by show 40 ≤ 60 * (n + 1) + 200; omega) (Nat.le_of_ble_eq_true rfl) (Nat.zero_le _) (Nat.zero_le _) dX3_askScale_179 ?_
      subst hF
      exact zw_lreturn C hr hlk dX3_askScale_182 rfl rfl
    rw [if_neg h23] at hF
    by_cases h28 : (S.1 p1.toNatClampNeg) = 6
    · rw [if_pos h28] at hF
      refine zw_tableIn C 183 dX3_askScale_42 (by rw [h28]; decide) (by rw [h28]; decide) (by rw [h28]; rfl) (by decide) ?_
      refine zw_aload_n C dX3_askScale_183 2 rfl rfl ?_
      refine zw_iload_n C dX3_askScale_184 1 rfl rfl ?_
      refine zw_iload_n C dX3_askScale_185 4 rfl rfl ?_
      obtain ⟨q29, e30⟩ : ∃ z, fV (d.1, d.2.1, q1.2) (S.2.1 p1.toNatClampNeg) p2 = z := ⟨_, rfl⟩
      rw [zw_l_eq e30] at hF
      refine zw_calli C kvX3_117 (HV (d.1, d.2.1, q1.2) (S.2.1 p1.toNatClampNeg) p2 _ (dk_S6 hT hy1 (by assumption)).1 hy2 e30) ⟨rfl, rfl, ⟨by show 2 * n + 6 + 1 ≤ 2 * (n + 1) + 6; omega, by show 8 + (5 + 11) + (60 * n + 200) ≤ 60 * (n + 1) + 200; omega⟩, Nat.le_refl _, Nat.le_refl _⟩ FX3 0 (As := [.int (S.2.1 p1.toNatClampNeg), .int p2]) (rest := []) rfl rfl rfl (Nat.le_of_ble_eq_true rfl) dX3_askScale_186 ?_
      refine zw_if_eq C 202 dX3_askScale_189 (by decide) (fun h31 => ?_) (fun h31 => ?_)
      · rw [if_pos h31] at hF
        refine zw_lconst C (v := 0) dX3_askScale_202 (by decide) ?_
        subst hF
        exact zw_lreturn C hr hlk dX3_askScale_203 rfl rfl
      · rw [if_neg h31] at hF
        refine zw_aload_n C dX3_askScale_192 2 rfl rfl ?_
        refine zw_iload C dX3_askScale_193 0 rfl ?_
        refine zw_iload_n C dX3_askScale_195 4 rfl rfl ?_
        obtain ⟨q32, e33⟩ : ∃ z, fS q29.2 (S.2.2.1 p1.toNatClampNeg) p2 = z := ⟨_, rfl⟩
        rw [zw_l_eq e33] at hF
        refine zw_calll C kvX3_106 (HS q29.2 (S.2.2.1 p1.toNatClampNeg) p2 _ (dk_S6 hT hy1 (by assumption)).2 hy2 e33) ⟨rfl, rfl, ⟨by show 2 * n + 6 + 1 ≤ 2 * (n + 1) + 6; omega, by show 8 + (5 + 11) + (60 * n + 200) ≤ 60 * (n + 1) + 200; omega⟩, Nat.le_refl _, Nat.le_refl _⟩ FX3 0 (As := [.int (S.2.2.1 p1.toNatClampNeg), .int p2]) (rest := []) rfl rfl rfl (Nat.le_of_ble_eq_true rfl) dX3_askScale_196 ?_
        refine zw_goto C 203 dX3_askScale_199 (by decide) ?_
        subst hF
        exact zw_lreturn C hr hlk dX3_askScale_203 rfl rfl
    rw [if_neg h28] at hF
    by_cases h34 : (S.1 p1.toNatClampNeg) = 7
    · rw [if_pos h34] at hF
      refine zw_tableIn C 204 dX3_askScale_42 (by rw [h34]; decide) (by rw [h34]; decide) (by rw [h34]; rfl) (by decide) ?_
      refine zw_aload_n C dX3_askScale_204 2 rfl rfl ?_
      refine zw_aload_n C dX3_askScale_205 2 rfl rfl ?_
      refine zw_iload_n C dX3_askScale_206 1 rfl rfl ?_
      refine zw_iload_n C dX3_askScale_207 4 rfl rfl ?_
      obtain ⟨q35, e36⟩ : ∃ z, fS (d.1, d.2.1, q1.2) (S.2.1 p1.toNatClampNeg) p2 = z := ⟨_, rfl⟩
      rw [zw_l_eq e36] at hF
      refine zw_calll C kvX3_106 (HS (d.1, d.2.1, q1.2) (S.2.1 p1.toNatClampNeg) p2 _ (dk_S7 hT hy1 (by assumption)) hy2 e36) ⟨rfl, rfl, ⟨by show 2 * n + 6 + 1 ≤ 2 * (n + 1) + 6; omega, by show 8 + (5 + 11) + (60 * n + 200) ≤ 60 * (n + 1) + 200; omega⟩, Nat.le_refl _, Nat.le_refl _⟩ FX3 0 (As := [.int (S.2.1 p1.toNatClampNeg), .int p2]) (rest := [.ref (a 0)]) rfl rfl rfl (Nat.le_of_ble_eq_true rfl) dX3_askScale_208 ?_
      obtain ⟨q37, e38⟩ : ∃ z, fX3_itemAt B.2.2.2.2.1 q35.2.2.2 q35.1 = z := ⟨_, rfl⟩
      rw [zw_l_eq e38] at hF
      refine zw_calll C kvX3_190 (kX3_itemAt e38) ⟨rfl, rfl, ⟨by show 2 + 1 ≤ 2 * (n + 1) + 6; omega, by show 8 + (3 + 11) + (41) ≤ 60 * (n + 1) + 200; omega⟩, Nat.le_refl _, Nat.le_refl _⟩ FX3 0 (As := [.long q35.1]) (rest := []) rfl rfl rfl (Nat.le_of_ble_eq_true rfl) dX3_askScale_211 ?_
      subst hF
      exact zw_lreturn C hr hlk dX3_askScale_214 rfl rfl
    rw [if_neg h34] at hF
    by_cases h39 : (S.1 p1.toNatClampNeg) = 8
    · rw [if_pos h39] at hF
      refine zw_tableIn C 215 dX3_askScale_42 (by rw [h39]; decide) (by rw [h39]; decide) (by rw [h39]; rfl) (by decide) ?_
      refine zw_aload_n C dX3_askScale_215 2 rfl rfl ?_
      refine zw_get C FX3 0 6 (v := .ref (a 5)) rfl (by decide) lkX3_33 rfl dX3_askScale_216 ?_
      refine zw_get C FX1 5 3 (v := .ref (a 9)) rfl (by decide) lkX3_194 rfl dX3_askScale_219 ?_
      refine zw_iload_n C dX3_askScale_222 3 rfl rfl ?_
      refine zw_lald C 9 1 (f := d.1) (i := p1) rfl rfl (dz_opIn hy1 hsn) dX3_askScale_223 ?_
      subst hF
      exact zw_lreturn C hr hlk dX3_askScale_224 rfl rfl
    rw [if_neg h39] at hF
    by_cases h40 : (S.1 p1.toNatClampNeg) = 9
    · rw [if_pos h40] at hF
      refine zw_tableIn C 215 dX3_askScale_42 (by rw [h40]; decide) (by rw [h40]; decide) (by rw [h40]; rfl) (by decide) ?_
      refine zw_aload_n C dX3_askScale_215 2 rfl rfl ?_
      refine zw_get C FX3 0 6 (v := .ref (a 5)) rfl (by decide) lkX3_33 rfl dX3_askScale_216 ?_
      refine zw_get C FX1 5 3 (v := .ref (a 9)) rfl (by decide) lkX3_194 rfl dX3_askScale_219 ?_
      refine zw_iload_n C dX3_askScale_222 3 rfl rfl ?_
      refine zw_lald C 9 1 (f := d.1) (i := p1) rfl rfl (dz_opIn hy1 hsn) dX3_askScale_223 ?_
      subst hF
      exact zw_lreturn C hr hlk dX3_askScale_224 rfl rfl
    rw [if_neg h40] at hF
    by_cases h41 : (S.1 p1.toNatClampNeg) = 10
    · rw [if_pos h41] at hF
      refine zw_tableIn C 225 dX3_askScale_42 (by rw [h41]; decide) (by rw [h41]; decide) (by rw [h41]; rfl) (by decide) ?_
      refine zw_aload_n C dX3_askScale_225 2 rfl rfl ?_
      refine zw_get C FX3 0 6 (v := .ref (a 5)) rfl (by decide) lkX3_33 rfl dX3_askScale_226 ?_
      refine zw_iload_n C dX3_askScale_229 3 rfl rfl ?_
      obtain ⟨q42, e43⟩ : ∃ z, fX1_countAsked d.1 p1 = z := ⟨_, rfl⟩
      rw [zw_l_eq e43] at hF
      refine zw_calll C kvX3_197 (kX1_countAsked_S (dz_opIn hy1 hsn) e43) ⟨rfl, rfl, ⟨by show 0 + 1 ≤ 2 * (n + 1) + 6; omega, by show 8 + (2 + 11) + (0) ≤ 60 * (n + 1) + 200; omega⟩, Nat.le_refl _, Nat.le_refl _⟩ FX1 5 (As := [.int p1]) (rest := []) rfl rfl rfl (Nat.le_of_ble_eq_true rfl) dX3_askScale_230 ?_
      refine zw_lconst C (v := 1) dX3_askScale_233 (by decide) ?_
      refine zw_lsub C dX3_askScale_234 ?_
      refine zw_iload_n C dX3_askScale_235 1 rfl rfl ?_
      refine zw_i2l C dX3_askScale_236 ?_
      refine zw_lmul C dX3_askScale_237 ?_
      refine zw_iload C dX3_askScale_238 0 rfl ?_
      refine zw_i2l C dX3_askScale_240 ?_
      refine zw_ladd C dX3_askScale_241 ?_
      subst hF
      exact zw_lreturn C hr hlk dX3_askScale_242 rfl rfl
    rw [if_neg h41] at hF
    refine zw_tableOut C 243 dX3_askScale_42 (zw_tout (n := 10) (by decide) (fun k hk => by match k, hk with | 0, _ => exact h4 | 1, _ => exact h5 | 2, _ => exact h6 | 3, _ => exact h11 | 4, _ => exact h16 | 5, _ => exact h23 | 6, _ => exact h28 | 7, _ => exact h34 | 8, _ => exact h39 | 9, _ => exact h40 | 10, _ => exact h41 | k + 11, hk => exact absurd hk (by omega))) (by decide) ?_
    refine zw_aload_n C dX3_askScale_243 2 rfl rfl ?_
    refine zw_get C FX3 0 11 (v := .ref (a 30)) rfl (by decide) lkX3_56 rfl dX3_askScale_244 ?_
    refine zw_iconst C (v := 3) dX3_askScale_247 (by decide) ?_
    obtain ⟨q44, e45⟩ : ∃ z, fX2_fail q1.2 3 = z := ⟨_, rfl⟩
    rw [zw_l_eq e45] at hF
    refine zw_callv C kvX3_201 (kX2_fail e45) ⟨rfl, rfl, ⟨by show 1 + 1 ≤ 2 * (n + 1) + 6; omega, by show 8 + (2 + 11) + (20) ≤ 60 * (n + 1) + 200; omega⟩, Nat.le_refl _, Nat.le_refl _⟩ FX2 30 (As := [.int 3]) (rest := []) rfl rfl rfl (Nat.le_of_ble_eq_true rfl) dX3_askScale_248 ?_
    refine zw_lconst C (v := 0) dX3_askScale_251 (by decide) ?_
    subst hF
    exact zw_lreturn C hr hlk dX3_askScale_252 rfl rfl
  · rw [if_pos h3] at hF
    refine zw_lconst C (v := 0) dX3_askScale_10 (by decide) ?_
    subst hF
    exact zw_lreturn C hr hlk dX3_askScale_11 rfl rfl
def bV (fS : dFS) (fV : dFV) (vk va vb : Nat → Int32) (d : dY) (p1 : Int32) (p2 : Int32) : Int32 × dY := (zw_l (fX2_beginsAsking d.2.2) (fun q1 => (if q1.1 = 0 then (0, d.1, d.2.1, q1.2) else (if (vk p1.toNatClampNeg) = 0 then (1, d.1, d.2.1, q1.2) else (if (vk p1.toNatClampNeg) = 1 then (zw_l (fS (d.1, d.2.1, q1.2) (va p1.toNatClampNeg) p2) (fun q6 => (zw_l (fS q6.2 (vb p1.toNatClampNeg) p2) (fun q8 => (if (lg_cmp q6.1 q8.1) ≤ 0 then (0, q8.2.1, q8.2.2.1, q8.2.2.2) else (1, q8.2.1, q8.2.2.1, q8.2.2.2)))))) else (if (vk p1.toNatClampNeg) = 2 then (zw_l (fS (d.1, d.2.1, q1.2) (va p1.toNatClampNeg) p2) (fun q12 => (zw_l (fS q12.2 (vb p1.toNatClampNeg) p2) (fun q14 => (if (lg_cmp q12.1 q14.1) = 0 then (1, q14.2.1, q14.2.2.1, q14.2.2.2) else (0, q14.2.1, q14.2.2.1, q14.2.2.2)))))) else (if (vk p1.toNatClampNeg) = 3 then (zw_l (fV (d.1, d.2.1, q1.2) (va p1.toNatClampNeg) p2) (fun q18 => (if q18.1 = 0 then (1, q18.2.1, q18.2.2.1, q18.2.2.2) else (0, q18.2.1, q18.2.2.1, q18.2.2.2)))) else (if (vk p1.toNatClampNeg) = 4 then (zw_l (fV (d.1, d.2.1, q1.2) (va p1.toNatClampNeg) p2) (fun q22 => (if q22.1 = 0 then (0, q22.2.1, q22.2.2.1, q22.2.2.2) else (zw_l (fV q22.2 (vb p1.toNatClampNeg) p2) (fun q25 => (if q25.1 = 0 then (0, q25.2.1, q25.2.2.1, q25.2.2.2) else (1, q25.2.1, q25.2.2.1, q25.2.2.2))))))) else (if (vk p1.toNatClampNeg) = 5 then (zw_l (fV (d.1, d.2.1, q1.2) (va p1.toNatClampNeg) p2) (fun q29 => (if q29.1 = 0 then (zw_l (fV q29.2 (vb p1.toNatClampNeg) p2) (fun q32 => (if q32.1 = 0 then (0, q32.2.1, q32.2.2.1, q32.2.2.2) else (1, q32.2.1, q32.2.2.1, q32.2.2.2)))) else (1, q29.2.1, q29.2.2.1, q29.2.2.2)))) else (if (vk p1.toNatClampNeg) = 6 then (zw_l (fX1_countAsked d.2.1 p1) (fun q36 => (if (lg_cmp (q36.1 - q36.1 / ((if (va p1.toNatClampNeg) < 1 then 1 else va p1.toNatClampNeg).toInt64) * ((if (va p1.toNatClampNeg) < 1 then 1 else va p1.toNatClampNeg).toInt64)) 0) = 0 then (1, d.1, q36.2, q1.2) else (0, d.1, q36.2, q1.2)))) else (if (vk p1.toNatClampNeg) = 7 then (if (va p1.toNatClampNeg) ≤ p2 then (0, d.1, d.2.1, q1.2) else (1, d.1, d.2.1, q1.2)) else (if (vk p1.toNatClampNeg) = 8 then (zw_l (bF fV (d.1, d.2.1, q1.2) (va p1.toNatClampNeg) p2) (fun q42 => (q42.1, q42.2.1, q42.2.2.1, q42.2.2.2))) else (zw_l (fX2_fail q1.2 3) (fun q44 => (0, d.1, d.2.1, q44)))))))))))))))
set_option maxHeartbeats 4000000 in
set_option maxRecDepth 100000 in
theorem kbV {l : Launch} {D : va_G} {cI cL : ClassId} {a : Nat → Nat} {B : dB} {S : dS} {V : dV} {O : dO} {G : dG} {F : dF} {n sn vn on tn : Nat} {rs rv ro : Nat → Nat} {fS : dFS} {fV : dFV} (hsn : sn ≤ 24) (hvn : vn ≤ 24) (hon : on ≤ 24) (htn : tn ≤ 40) (hT : dz_tab S V O sn vn on rs rv ro) (HS : CS l D cI cL a B S V O G F (dz_rm n) (dz_op sn rs n) (fun t => vp_in t tn) fS) (HV : CV l D cI cL a B S V O G F (dz_rm n) (dz_op vn rv n) (fun t => vp_in t tn) fV) (d : dY) (p1 : Int32) (p2 : Int32) (q : Int32 × dY) (hy1 : dz_op vn rv (n + 1) p1) (hy2 : vp_in p2 tn) (hF : bV fS fV V.1 V.2.1 V.2.2.1 d p1 p2 = q) : zw_Mi l yX3_askSieve cX3_askSieve 5 .boolean D (zw_tys cI cL) (dz_rm (n + 1)) [.ref (a 0), .int p1, .int p2] (dW cI cL a B S V O G F d) (dW cI cL a B S V O G F q.2) q.1 := by
  unfold bV at hF
  refine zw_Mi_of (own := RX3) (by decide) rfl (Nat.le_of_ble_eq_true rfl) ?_
  intro p e s m args below meth c A C hr hlk
  refine zw_eq (ws2 := (wD cI cL a B (S.1, S.2.1, S.2.2.1, d.1, S.2.2.2.2) (V.1, V.2.1, V.2.2.1, d.2.1, V.2.2.2.2) O G F d.2.2)) (lv2 := [(0, .ref (a 0)), (1, .int p1), (2, .int p2)]) rfl rfl rfl ?_
  refine zw_aload_n C dX3_askSieve_0 0 rfl rfl ?_
  refine zw_get C FX3 0 11 (v := .ref (a 30)) rfl (by decide) lkX3_56 rfl dX3_askSieve_1 ?_
  obtain ⟨q1, e2⟩ : ∃ z, fX2_beginsAsking d.2.2 = z := ⟨_, rfl⟩
  rw [zw_l_eq e2] at hF
  refine zw_calli C kvX3_169 (kX2_beginsAsking e2) ⟨rfl, rfl, ⟨by show 2 + 1 ≤ 2 * (n + 1) + 6; omega, by show 8 + (1 + 11) + (41) ≤ 60 * (n + 1) + 200; omega⟩, Nat.le_refl _, Nat.le_refl _⟩ FX2 30 (As := []) (rest := []) rfl rfl rfl (Nat.le_of_ble_eq_true rfl) dX3_askSieve_4 ?_
  refine zw_if_ne C 12 dX3_askSieve_7 (by decide) (fun h3 => ?_) (fun h3 => ?_)
  · rw [if_neg h3] at hF
    refine zw_aload_n C dX3_askSieve_12 0 rfl rfl ?_
    refine zw_get C FX3 0 7 (v := .ref (a 10)) rfl (by decide) lkX3_37 rfl dX3_askSieve_13 ?_
    refine zw_get C FX1 10 1 (v := .ref (a 12)) rfl (by decide) lkX3_172 rfl dX3_askSieve_16 ?_
    refine zw_iload_n C dX3_askSieve_19 1 rfl rfl ?_
    refine zw_iald C 12 0 (f := V.2.1) (i := p1) rfl rfl (dz_opIn hy1 hvn) dX3_askSieve_20 ?_
    refine zw_istore_n C dX3_askSieve_21 rfl (by decide) rfl ?_
    refine zw_aload_n C dX3_askSieve_22 1 rfl rfl ?_
    refine zw_get C FX3 0 7 (v := .ref (a 10)) rfl (by decide) lkX3_37 rfl dX3_askSieve_23 ?_
    refine zw_get C FX1 10 2 (v := .ref (a 13)) rfl (by decide) lkX3_175 rfl dX3_askSieve_26 ?_
    refine zw_iload_n C dX3_askSieve_29 2 rfl rfl ?_
    refine zw_iald C 13 0 (f := V.2.2.1) (i := p1) rfl rfl (dz_opIn hy1 hvn) dX3_askSieve_30 ?_
    refine zw_istore C dX3_askSieve_31 (by decide) rfl ?_
    refine zw_aload_n C dX3_askSieve_33 2 rfl rfl ?_
    refine zw_get C FX3 0 7 (v := .ref (a 10)) rfl (by decide) lkX3_37 rfl dX3_askSieve_34 ?_
    refine zw_get C FX1 10 0 (v := .ref (a 11)) rfl (by decide) lkX3_178 rfl dX3_askSieve_37 ?_
    refine zw_iload_n C dX3_askSieve_40 3 rfl rfl ?_
    refine zw_iald C 11 0 (f := V.1) (i := p1) rfl rfl (dz_opIn hy1 hvn) dX3_askSieve_41 ?_
    by_cases h4 : (V.1 p1.toNatClampNeg) = 0
    · rw [if_pos h4] at hF
      refine zw_tableIn C 92 dX3_askSieve_42 (by rw [h4]; decide) (by rw [h4]; decide) (by rw [h4]; rfl) (by decide) ?_
      refine zw_iconst C (v := 1) dX3_askSieve_92 (by decide) ?_
      subst hF
      exact zw_zreturn C hr hlk rfl dX3_askSieve_93 rfl rfl
    rw [if_neg h4] at hF
    by_cases h5 : (V.1 p1.toNatClampNeg) = 1
    · rw [if_pos h5] at hF
      refine zw_tableIn C 94 dX3_askSieve_42 (by rw [h5]; decide) (by rw [h5]; decide) (by rw [h5]; rfl) (by decide) ?_
      refine zw_aload_n C dX3_askSieve_94 2 rfl rfl ?_
      refine zw_iload_n C dX3_askSieve_95 1 rfl rfl ?_
      refine zw_iload_n C dX3_askSieve_96 4 rfl rfl ?_
      obtain ⟨q6, e7⟩ : ∃ z, fS (d.1, d.2.1, q1.2) (V.2.1 p1.toNatClampNeg) p2 = z := ⟨_, rfl⟩
      rw [zw_l_eq e7] at hF
      refine zw_calll C kvX3_106 (HS (d.1, d.2.1, q1.2) (V.2.1 p1.toNatClampNeg) p2 _ (dk_V1 hT hy1 (Or.inl (by assumption))).1 hy2 e7) ⟨rfl, rfl, ⟨by show 2 * n + 6 + 1 ≤ 2 * (n + 1) + 6; omega, by show 8 + (5 + 11) + (60 * n + 200) ≤ 60 * (n + 1) + 200; omega⟩, Nat.le_refl _, Nat.le_refl _⟩ FX3 0 (As := [.int (V.2.1 p1.toNatClampNeg), .int p2]) (rest := []) rfl rfl rfl (Nat.le_of_ble_eq_true rfl) dX3_askSieve_97 ?_
      refine zw_aload_n C dX3_askSieve_100 2 rfl rfl ?_
      refine zw_iload C dX3_askSieve_101 0 rfl ?_
      refine zw_iload_n C dX3_askSieve_103 4 rfl rfl ?_
      obtain ⟨q8, e9⟩ : ∃ z, fS q6.2 (V.2.2.1 p1.toNatClampNeg) p2 = z := ⟨_, rfl⟩
      rw [zw_l_eq e9] at hF
      refine zw_calll C kvX3_106 (HS q6.2 (V.2.2.1 p1.toNatClampNeg) p2 _ (dk_V1 hT hy1 (Or.inl (by assumption))).2 hy2 e9) ⟨rfl, rfl, ⟨by show 2 * n + 6 + 1 ≤ 2 * (n + 1) + 6; omega, by show 8 + (5 + 11) + (60 * n + 200) ≤ 60 * (n + 1) + 200; omega⟩, Nat.le_refl _, Nat.le_refl _⟩ FX3 0 (As := [.int (V.2.2.1 p1.toNatClampNeg), .int p2]) (rest := [.long q6.1]) rfl rfl rfl (Nat.le_of_ble_eq_true rfl) dX3_askSieve_104 ?_
      refine zw_lcmp C dX3_askSieve_107 ?_
      refine zw_if_le C 115 dX3_askSieve_108 (by decide) (fun h10 => ?_) (fun h10 => ?_)
      · rw [if_pos h10] at hF
        refine zw_iconst C (v := 0) dX3_askSieve_115 (by decide) ?_
        subst hF
        exact zw_zreturn C hr hlk rfl dX3_askSieve_116 rfl rfl
      · rw [if_neg h10] at hF
        refine zw_iconst C (v := 1) dX3_askSieve_111 (by decide) ?_
        refine zw_goto C 116 dX3_askSieve_112 (by decide) ?_
        subst hF
        exact zw_zreturn C hr hlk rfl dX3_askSieve_116 rfl rfl
    rw [if_neg h5] at hF
    by_cases h11 : (V.1 p1.toNatClampNeg) = 2
    · rw [if_pos h11] at hF
      refine zw_tableIn C 117 dX3_askSieve_42 (by rw [h11]; decide) (by rw [h11]; decide) (by rw [h11]; rfl) (by decide) ?_
      refine zw_aload_n C dX3_askSieve_117 2 rfl rfl ?_
      refine zw_iload_n C dX3_askSieve_118 1 rfl rfl ?_
      refine zw_iload_n C dX3_askSieve_119 4 rfl rfl ?_
      obtain ⟨q12, e13⟩ : ∃ z, fS (d.1, d.2.1, q1.2) (V.2.1 p1.toNatClampNeg) p2 = z := ⟨_, rfl⟩
      rw [zw_l_eq e13] at hF
      refine zw_calll C kvX3_106 (HS (d.1, d.2.1, q1.2) (V.2.1 p1.toNatClampNeg) p2 _ (dk_V1 hT hy1 (Or.inr (by assumption))).1 hy2 e13) ⟨rfl, rfl, ⟨by show 2 * n + 6 + 1 ≤ 2 * (n + 1) + 6; omega, by show 8 + (5 + 11) + (60 * n + 200) ≤ 60 * (n + 1) + 200; omega⟩, Nat.le_refl _, Nat.le_refl _⟩ FX3 0 (As := [.int (V.2.1 p1.toNatClampNeg), .int p2]) (rest := []) rfl rfl rfl (Nat.le_of_ble_eq_true rfl) dX3_askSieve_120 ?_
      refine zw_aload_n C dX3_askSieve_123 2 rfl rfl ?_
      refine zw_iload C dX3_askSieve_124 0 rfl ?_
      refine zw_iload_n C dX3_askSieve_126 4 rfl rfl ?_
      obtain ⟨q14, e15⟩ : ∃ z, fS q12.2 (V.2.2.1 p1.toNatClampNeg) p2 = z := ⟨_, rfl⟩
      rw [zw_l_eq e15] at hF
      refine zw_calll C kvX3_106 (HS q12.2 (V.2.2.1 p1.toNatClampNeg) p2 _ (dk_V1 hT hy1 (Or.inr (by assumption))).2 hy2 e15) ⟨rfl, rfl, ⟨by show 2 * n + 6 + 1 ≤ 2 * (n + 1) + 6; omega, by show 8 + (5 + 11) + (60 * n + 200) ≤ 60 * (n + 1) + 200; omega⟩, Nat.le_refl _, Nat.le_refl _⟩ FX3 0 (As := [.int (V.2.2.1 p1.toNatClampNeg), .int p2]) (rest := [.long q12.1]) rfl rfl rfl (Nat.le_of_ble_eq_true rfl) dX3_askSieve_127 ?_
      refine zw_lcmp C dX3_askSieve_130 ?_
      refine zw_if_ne C 138 dX3_askSieve_131 (by decide) (fun h16 => ?_) (fun h16 => ?_)
      · rw [if_neg h16] at hF
        refine zw_iconst C (v := 0) dX3_askSieve_138 (by decide) ?_
        subst hF
        exact zw_zreturn C hr hlk rfl dX3_askSieve_139 rfl rfl
      · rw [if_pos h16] at hF
        refine zw_iconst C (v := 1) dX3_askSieve_134 (by decide) ?_
        refine zw_goto C 139 dX3_askSieve_135 (by decide) ?_
        subst hF
        exact zw_zreturn C hr hlk rfl dX3_askSieve_139 rfl rfl
    rw [if_neg h11] at hF
    by_cases h17 : (V.1 p1.toNatClampNeg) = 3
    · rw [if_pos h17] at hF
      refine zw_tableIn C 140 dX3_askSieve_42 (by rw [h17]; decide) (by rw [h17]; decide) (by rw [h17]; rfl) (by decide) ?_
      refine zw_aload_n C dX3_askSieve_140 2 rfl rfl ?_
      refine zw_iload_n C dX3_askSieve_141 1 rfl rfl ?_
      refine zw_iload_n C dX3_askSieve_142 4 rfl rfl ?_
      obtain ⟨q18, e19⟩ : ∃ z, fV (d.1, d.2.1, q1.2) (V.2.1 p1.toNatClampNeg) p2 = z := ⟨_, rfl⟩
      rw [zw_l_eq e19] at hF
      refine zw_calli C kvX3_117 (HV (d.1, d.2.1, q1.2) (V.2.1 p1.toNatClampNeg) p2 _ (dk_V3 hT hy1 (Or.inl (by assumption))) hy2 e19) ⟨rfl, rfl, ⟨by show 2 * n + 6 + 1 ≤ 2 * (n + 1) + 6; omega, by show 8 + (5 + 11) + (60 * n + 200) ≤ 60 * (n + 1) + 200; omega⟩, Nat.le_refl _, Nat.le_refl _⟩ FX3 0 (As := [.int (V.2.1 p1.toNatClampNeg), .int p2]) (rest := []) rfl rfl rfl (Nat.le_of_ble_eq_true rfl) dX3_askSieve_143 ?_
      refine zw_if_ne C 153 dX3_askSieve_146 (by decide) (fun h20 => ?_) (fun h20 => ?_)
      · rw [if_neg h20] at hF
        refine zw_iconst C (v := 0) dX3_askSieve_153 (by decide) ?_
        subst hF
        exact zw_zreturn C hr hlk rfl dX3_askSieve_154 rfl rfl
      · rw [if_pos h20] at hF
        refine zw_iconst C (v := 1) dX3_askSieve_149 (by decide) ?_
        refine zw_goto C 154 dX3_askSieve_150 (by decide) ?_
        subst hF
        exact zw_zreturn C hr hlk rfl dX3_askSieve_154 rfl rfl
    rw [if_neg h17] at hF
    by_cases h21 : (V.1 p1.toNatClampNeg) = 4
    · rw [if_pos h21] at hF
      refine zw_tableIn C 155 dX3_askSieve_42 (by rw [h21]; decide) (by rw [h21]; decide) (by rw [h21]; rfl) (by decide) ?_
      refine zw_aload_n C dX3_askSieve_155 2 rfl rfl ?_
      refine zw_iload_n C dX3_askSieve_156 1 rfl rfl ?_
      refine zw_iload_n C dX3_askSieve_157 4 rfl rfl ?_
      obtain ⟨q22, e23⟩ : ∃ z, fV (d.1, d.2.1, q1.2) (V.2.1 p1.toNatClampNeg) p2 = z := ⟨_, rfl⟩
      rw [zw_l_eq e23] at hF
      refine zw_calli C kvX3_117 (HV (d.1, d.2.1, q1.2) (V.2.1 p1.toNatClampNeg) p2 _ (dk_V4 hT hy1 (Or.inl (by assumption))).1 hy2 e23) ⟨rfl, rfl, ⟨by show 2 * n + 6 + 1 ≤ 2 * (n + 1) + 6; omega, by show 8 + (5 + 11) + (60 * n + 200) ≤ 60 * (n + 1) + 200; omega⟩, Nat.le_refl _, Nat.le_refl _⟩ FX3 0 (As := [.int (V.2.1 p1.toNatClampNeg), .int p2]) (rest := []) rfl rfl rfl (Nat.le_of_ble_eq_true rfl) dX3_askSieve_158 ?_
      refine zw_if_eq C 178 dX3_askSieve_161 (by decide) (fun h24 => ?_) (fun h24 => ?_)
      · rw [if_pos h24] at hF
        refine zw_iconst C (v := 0) dX3_askSieve_178 (by decide) ?_
        subst hF
        exact zw_zreturn C hr hlk rfl dX3_askSieve_179 rfl rfl
      · rw [if_neg h24] at hF
        refine zw_aload_n C dX3_askSieve_164 2 rfl rfl ?_
        refine zw_iload C dX3_askSieve_165 0 rfl ?_
        refine zw_iload_n C dX3_askSieve_167 4 rfl rfl ?_
        obtain ⟨q25, e26⟩ : ∃ z, fV q22.2 (V.2.2.1 p1.toNatClampNeg) p2 = z := ⟨_, rfl⟩
        rw [zw_l_eq e26] at hF
        refine zw_calli C kvX3_117 (HV q22.2 (V.2.2.1 p1.toNatClampNeg) p2 _ (dk_V4 hT hy1 (Or.inl (by assumption))).2 hy2 e26) ⟨rfl, rfl, ⟨by show 2 * n + 6 + 1 ≤ 2 * (n + 1) + 6; omega, by show 8 + (5 + 11) + (60 * n + 200) ≤ 60 * (n + 1) + 200; omega⟩, Nat.le_refl _, Nat.le_refl _⟩ FX3 0 (As := [.int (V.2.2.1 p1.toNatClampNeg), .int p2]) (rest := []) rfl rfl rfl (Nat.le_of_ble_eq_true rfl) dX3_askSieve_168 ?_
        refine zw_if_eq C 178 dX3_askSieve_171 (by decide) (fun h27 => ?_) (fun h27 => ?_)
        · rw [if_pos h27] at hF
          refine zw_iconst C (v := 0) dX3_askSieve_178 (by decide) ?_
          subst hF
          exact zw_zreturn C hr hlk rfl dX3_askSieve_179 rfl rfl
        · rw [if_neg h27] at hF
          refine zw_iconst C (v := 1) dX3_askSieve_174 (by decide) ?_
          refine zw_goto C 179 dX3_askSieve_175 (by decide) ?_
          subst hF
          exact zw_zreturn C hr hlk rfl dX3_askSieve_179 rfl rfl
    rw [if_neg h21] at hF
    by_cases h28 : (V.1 p1.toNatClampNeg) = 5
    · rw [if_pos h28] at hF
      refine zw_tableIn C 180 dX3_askSieve_42 (by rw [h28]; decide) (by rw [h28]; decide) (by rw [h28]; rfl) (by decide) ?_
      refine zw_aload_n C dX3_askSieve_180 2 rfl rfl ?_
      refine zw_iload_n C dX3_askSieve_181 1 rfl rfl ?_
      refine zw_iload_n C dX3_askSieve_182 4 rfl rfl ?_
      obtain ⟨q29, e30⟩ : ∃ z, fV (d.1, d.2.1, q1.2) (V.2.1 p1.toNatClampNeg) p2 = z := ⟨_, rfl⟩
      rw [zw_l_eq e30] at hF
      refine zw_calli C kvX3_117 (HV (d.1, d.2.1, q1.2) (V.2.1 p1.toNatClampNeg) p2 _ (dk_V4 hT hy1 (Or.inr (by assumption))).1 hy2 e30) ⟨rfl, rfl, ⟨by show 2 * n + 6 + 1 ≤ 2 * (n + 1) + 6; omega, by show 8 + (5 + 11) + (60 * n + 200) ≤ 60 * (n + 1) + 200; omega⟩, Nat.le_refl _, Nat.le_refl _⟩ FX3 0 (As := [.int (V.2.1 p1.toNatClampNeg), .int p2]) (rest := []) rfl rfl rfl (Nat.le_of_ble_eq_true rfl) dX3_askSieve_183 ?_
      refine zw_if_ne C 199 dX3_askSieve_186 (by decide) (fun h31 => ?_) (fun h31 => ?_)
      · rw [if_neg h31] at hF
        refine zw_iconst C (v := 1) dX3_askSieve_199 (by decide) ?_
        refine zw_goto C 204 dX3_askSieve_200 (by decide) ?_
        subst hF
        exact zw_zreturn C hr hlk rfl dX3_askSieve_204 rfl rfl
      · rw [if_pos h31] at hF
        refine zw_aload_n C dX3_askSieve_189 2 rfl rfl ?_
        refine zw_iload C dX3_askSieve_190 0 rfl ?_
        refine zw_iload_n C dX3_askSieve_192 4 rfl rfl ?_
        obtain ⟨q32, e33⟩ : ∃ z, fV q29.2 (V.2.2.1 p1.toNatClampNeg) p2 = z := ⟨_, rfl⟩
        rw [zw_l_eq e33] at hF
        refine zw_calli C kvX3_117 (HV q29.2 (V.2.2.1 p1.toNatClampNeg) p2 _ (dk_V4 hT hy1 (Or.inr (by assumption))).2 hy2 e33) ⟨rfl, rfl, ⟨by show 2 * n + 6 + 1 ≤ 2 * (n + 1) + 6; omega, by show 8 + (5 + 11) + (60 * n + 200) ≤ 60 * (n + 1) + 200; omega⟩, Nat.le_refl _, Nat.le_refl _⟩ FX3 0 (As := [.int (V.2.2.1 p1.toNatClampNeg), .int p2]) (rest := []) rfl rfl rfl (Nat.le_of_ble_eq_true rfl) dX3_askSieve_193 ?_
        refine zw_if_eq C 203 dX3_askSieve_196 (by decide) (fun h34 => ?_) (fun h34 => ?_)
        · rw [if_pos h34] at hF
          refine zw_iconst C (v := 0) dX3_askSieve_203 (by decide) ?_
          subst hF
          exact zw_zreturn C hr hlk rfl dX3_askSieve_204 rfl rfl
        · rw [if_neg h34] at hF
          refine zw_iconst C (v := 1) dX3_askSieve_199 (by decide) ?_
          refine zw_goto C 204 dX3_askSieve_200 (by decide) ?_
          subst hF
          exact zw_zreturn C hr hlk rfl dX3_askSieve_204 rfl rfl
    rw [if_neg h28] at hF
    by_cases h35 : (V.1 p1.toNatClampNeg) = 6
    · rw [if_pos h35] at hF
      refine zw_tableIn C 205 dX3_askSieve_42 (by rw [h35]; decide) (by rw [h35]; decide) (by rw [h35]; rfl) (by decide) ?_
      refine zw_aload_n C dX3_askSieve_205 2 rfl rfl ?_
      refine zw_get C FX3 0 7 (v := .ref (a 10)) rfl (by decide) lkX3_37 rfl dX3_askSieve_206 ?_
      refine zw_iload_n C dX3_askSieve_209 3 rfl rfl ?_
      obtain ⟨q36, e37⟩ : ∃ z, fX1_countAsked d.2.1 p1 = z := ⟨_, rfl⟩
      rw [zw_l_eq e37] at hF
      refine zw_calll C kvX3_197 (kX1_countAsked_V (dz_opIn hy1 hvn) e37) ⟨rfl, rfl, ⟨by show 0 + 1 ≤ 2 * (n + 1) + 6; omega, by show 8 + (2 + 11) + (0) ≤ 60 * (n + 1) + 200; omega⟩, Nat.le_refl _, Nat.le_refl _⟩ FX1 10 (As := [.int p1]) (rest := []) rfl rfl rfl (Nat.le_of_ble_eq_true rfl) dX3_askSieve_210 ?_
      refine zw_iload_n C dX3_askSieve_213 1 rfl rfl ?_
      refine zw_iconst C (v := 1) dX3_askSieve_214 (by decide) ?_
      refine zw_mmax C lkmX3_204 (by show 1 ≤ 2 * (n + 1) + 6; omega) (by show 40 ≤ 60 * (n + 1) + 200; omega) (Nat.le_of_ble_eq_true rfl) (Nat.zero_le _) (Nat.zero_le _) dX3_askSieve_215 ?_
      refine zw_i2l C dX3_askSieve_218 ?_
      refine zw_lrem C dX3_askSieve_219 dz_maxne ?_
      refine zw_lconst C (v := 0) dX3_askSieve_220 (by decide) ?_
      refine zw_lcmp C dX3_askSieve_221 ?_
      refine zw_if_ne C 229 dX3_askSieve_222 (by decide) (fun h38 => ?_) (fun h38 => ?_)
      · rw [if_neg h38] at hF
        refine zw_iconst C (v := 0) dX3_askSieve_229 (by decide) ?_
        subst hF
        exact zw_zreturn C hr hlk rfl dX3_askSieve_230 rfl rfl
      · rw [if_pos h38] at hF
        refine zw_iconst C (v := 1) dX3_askSieve_225 (by decide) ?_
        refine zw_goto C 230 dX3_askSieve_226 (by decide) ?_
        subst hF
        exact zw_zreturn C hr hlk rfl dX3_askSieve_230 rfl rfl
    rw [if_neg h35] at hF
    by_cases h39 : (V.1 p1.toNatClampNeg) = 7
    · rw [if_pos h39] at hF
      refine zw_tableIn C 231 dX3_askSieve_42 (by rw [h39]; decide) (by rw [h39]; decide) (by rw [h39]; rfl) (by decide) ?_
      refine zw_iload_n C dX3_askSieve_231 4 rfl rfl ?_
      refine zw_iload_n C dX3_askSieve_232 1 rfl rfl ?_
      refine zw_icmp_ge C 240 dX3_askSieve_233 (by decide) (fun h40 => ?_) (fun h40 => ?_)
      · rw [if_pos h40] at hF
        refine zw_iconst C (v := 0) dX3_askSieve_240 (by decide) ?_
        subst hF
        exact zw_zreturn C hr hlk rfl dX3_askSieve_241 rfl rfl
      · rw [if_neg h40] at hF
        refine zw_iconst C (v := 1) dX3_askSieve_236 (by decide) ?_
        refine zw_goto C 241 dX3_askSieve_237 (by decide) ?_
        subst hF
        exact zw_zreturn C hr hlk rfl dX3_askSieve_241 rfl rfl
    rw [if_neg h39] at hF
    by_cases h41 : (V.1 p1.toNatClampNeg) = 8
    · rw [if_pos h41] at hF
      refine zw_tableIn C 242 dX3_askSieve_42 (by rw [h41]; decide) (by rw [h41]; decide) (by rw [h41]; rfl) (by decide) ?_
      refine zw_aload_n C dX3_askSieve_242 2 rfl rfl ?_
      refine zw_iload_n C dX3_askSieve_243 1 rfl rfl ?_
      refine zw_iload_n C dX3_askSieve_244 4 rfl rfl ?_
      obtain ⟨q42, e43⟩ : ∃ z, bF fV (d.1, d.2.1, q1.2) (V.2.1 p1.toNatClampNeg) p2 = z := ⟨_, rfl⟩
      rw [zw_l_eq e43] at hF
      refine zw_calli C kvX3_207 (kbF HV (d.1, d.2.1, q1.2) (V.2.1 p1.toNatClampNeg) p2 _ (dk_V3 hT hy1 (Or.inr (by assumption))) hy2 e43) ⟨rfl, rfl, ⟨by show 2 * n + 7 + 1 ≤ 2 * (n + 1) + 6; omega, by show 8 + (4 + 11) + (60 * n + 230) ≤ 60 * (n + 1) + 200; omega⟩, Nat.le_refl _, Nat.le_refl _⟩ FX3 0 (As := [.int (V.2.1 p1.toNatClampNeg), .int p2]) (rest := []) rfl rfl rfl (Nat.le_of_ble_eq_true rfl) dX3_askSieve_245 ?_
      subst hF
      exact zw_zreturn C hr hlk (zw_nb (bb_bF (by assumption))) dX3_askSieve_248 rfl rfl
    rw [if_neg h41] at hF
    refine zw_tableOut C 249 dX3_askSieve_42 (zw_tout (n := 8) (by decide) (fun k hk => by match k, hk with | 0, _ => exact h4 | 1, _ => exact h5 | 2, _ => exact h11 | 3, _ => exact h17 | 4, _ => exact h21 | 5, _ => exact h28 | 6, _ => exact h35 | 7, _ => exact h39 | 8, _ => exact h41 | k + 9, hk => exact absurd hk (by omega))) (by decide) ?_
    refine zw_aload_n C dX3_askSieve_249 2 rfl rfl ?_
    refine zw_get C FX3 0 11 (v := .ref (a 30)) rfl (by decide) lkX3_56 rfl dX3_askSieve_250 ?_
    refine zw_iconst C (v := 3) dX3_askSieve_253 (by decide) ?_
    obtain ⟨q44, e45⟩ : ∃ z, fX2_fail q1.2 3 = z := ⟨_, rfl⟩
    rw [zw_l_eq e45] at hF
    refine zw_callv C kvX3_201 (kX2_fail e45) ⟨rfl, rfl, ⟨by show 1 + 1 ≤ 2 * (n + 1) + 6; omega, by show 8 + (2 + 11) + (20) ≤ 60 * (n + 1) + 200; omega⟩, Nat.le_refl _, Nat.le_refl _⟩ FX2 30 (As := [.int 3]) (rest := []) rfl rfl rfl (Nat.le_of_ble_eq_true rfl) dX3_askSieve_254 ?_
    refine zw_iconst C (v := 0) dX3_askSieve_257 (by decide) ?_
    subst hF
    exact zw_zreturn C hr hlk rfl dX3_askSieve_258 rfl rfl
  · rw [if_pos h3] at hF
    refine zw_iconst C (v := 0) dX3_askSieve_10 (by decide) ?_
    subst hF
    exact zw_zreturn C hr hlk rfl dX3_askSieve_11 rfl rfl
def bO (fS : dFS) (fV : dFV) (fO : dFO) (ok oa ob : Nat → Int32) (d : dY) (p1 : Int32) (p2 : Int32) (p3 : Int32) : Int32 × dY := (zw_l (fX2_beginsAsking d.2.2) (fun q1 => (if q1.1 = 0 then (0, d.1, d.2.1, q1.2) else (if (ok p1.toNatClampNeg) = 0 then (zw_l (fS (d.1, d.2.1, q1.2) (oa p1.toNatClampNeg) p2) (fun q5 => (zw_l (fS q5.2 (oa p1.toNatClampNeg) p3) (fun q7 => (fX3_lesserFirst q5.1 q7.1, q7.2.1, q7.2.2.1, q7.2.2.2))))) else (if (ok p1.toNatClampNeg) = 1 then (zw_l (fO (d.1, d.2.1, q1.2) (oa p1.toNatClampNeg) p2 p3) (fun q10 => (-q10.1, q10.2.1, q10.2.2.1, q10.2.2.2))) else (if (ok p1.toNatClampNeg) = 2 then (zw_l (bH fO (d.1, d.2.1, q1.2) (oa p1.toNatClampNeg) (ob p1.toNatClampNeg) p2 p3) (fun q13 => (q13.1, q13.2.1, q13.2.2.1, q13.2.2.2))) else (if (ok p1.toNatClampNeg) = 3 then (zw_l (bR fV (d.1, d.2.1, q1.2) (oa p1.toNatClampNeg) p2) (fun q16 => (zw_l (bR fV q16.2 (oa p1.toNatClampNeg) p3) (fun q18 => (fX3_lesserFirst q16.1.toInt64 q18.1.toInt64, q18.2.1, q18.2.2.1, q18.2.2.2))))) else (if (ok p1.toNatClampNeg) = 4 then (fX3_lesserFirst p2.toInt64 p3.toInt64, d.1, d.2.1, q1.2) else (zw_l (fX2_fail q1.2 3) (fun q21 => (0, d.1, d.2.1, q21)))))))))))
set_option maxHeartbeats 4000000 in
set_option maxRecDepth 100000 in
theorem kbO {l : Launch} {D : va_G} {cI cL : ClassId} {a : Nat → Nat} {B : dB} {S : dS} {V : dV} {O : dO} {G : dG} {F : dF} {n sn vn on tn : Nat} {rs rv ro : Nat → Nat} {fS : dFS} {fV : dFV} (hsn : sn ≤ 24) (hvn : vn ≤ 24) (hon : on ≤ 24) (htn : tn ≤ 40) (hT : dz_tab S V O sn vn on rs rv ro) (HS : CS l D cI cL a B S V O G F (dz_rm n) (dz_op sn rs n) (fun t => vp_in t tn) fS) (HV : CV l D cI cL a B S V O G F (dz_rm n) (dz_op vn rv n) (fun t => vp_in t tn) fV) {fO : dFO} (HO : CO l D cI cL a B S V O G F (dz_rm n) (dz_op on ro n) (fun t => vp_in t tn) fO) (d : dY) (p1 : Int32) (p2 : Int32) (p3 : Int32) (q : Int32 × dY) (hy1 : dz_op on ro (n + 1) p1) (hy2 : vp_in p2 tn) (hy3 : vp_in p3 tn) (hF : bO fS fV fO O.1 O.2.1 O.2.2.1 d p1 p2 p3 = q) : zw_Mi l yX3_askOrder cX3_askOrder 6 .int D (zw_tys cI cL) (dz_rm (n + 1)) [.ref (a 0), .int p1, .int p2, .int p3] (dW cI cL a B S V O G F d) (dW cI cL a B S V O G F q.2) q.1 := by
  unfold bO at hF
  refine zw_Mi_of (own := RX3) (by decide) rfl (Nat.le_of_ble_eq_true rfl) ?_
  intro p e s m args below meth c A C hr hlk
  refine zw_eq (ws2 := (wD cI cL a B (S.1, S.2.1, S.2.2.1, d.1, S.2.2.2.2) (V.1, V.2.1, V.2.2.1, d.2.1, V.2.2.2.2) O G F d.2.2)) (lv2 := [(0, .ref (a 0)), (1, .int p1), (2, .int p2), (3, .int p3)]) rfl rfl rfl ?_
  refine zw_aload_n C dX3_askOrder_0 0 rfl rfl ?_
  refine zw_get C FX3 0 11 (v := .ref (a 30)) rfl (by decide) lkX3_56 rfl dX3_askOrder_1 ?_
  obtain ⟨q1, e2⟩ : ∃ z, fX2_beginsAsking d.2.2 = z := ⟨_, rfl⟩
  rw [zw_l_eq e2] at hF
  refine zw_calli C kvX3_169 (kX2_beginsAsking e2) ⟨rfl, rfl, ⟨by show 2 + 1 ≤ 2 * (n + 1) + 6; omega, by show 8 + (1 + 11) + (41) ≤ 60 * (n + 1) + 200; omega⟩, Nat.le_refl _, Nat.le_refl _⟩ FX2 30 (As := []) (rest := []) rfl rfl rfl (Nat.le_of_ble_eq_true rfl) dX3_askOrder_4 ?_
  refine zw_if_ne C 12 dX3_askOrder_7 (by decide) (fun h3 => ?_) (fun h3 => ?_)
  · rw [if_neg h3] at hF
    refine zw_aload_n C dX3_askOrder_12 0 rfl rfl ?_
    refine zw_get C FX3 0 8 (v := .ref (a 15)) rfl (by decide) lkX3_40 rfl dX3_askOrder_13 ?_
    refine zw_get C FX1 15 1 (v := .ref (a 17)) rfl (by decide) lkX3_172 rfl dX3_askOrder_16 ?_
    refine zw_iload_n C dX3_askOrder_19 1 rfl rfl ?_
    refine zw_iald C 17 0 (f := O.2.1) (i := p1) rfl rfl (dz_opIn hy1 hon) dX3_askOrder_20 ?_
    refine zw_istore C dX3_askOrder_21 (by decide) rfl ?_
    refine zw_aload_n C dX3_askOrder_23 1 rfl rfl ?_
    refine zw_get C FX3 0 8 (v := .ref (a 15)) rfl (by decide) lkX3_40 rfl dX3_askOrder_24 ?_
    refine zw_get C FX1 15 2 (v := .ref (a 18)) rfl (by decide) lkX3_175 rfl dX3_askOrder_27 ?_
    refine zw_iload_n C dX3_askOrder_30 2 rfl rfl ?_
    refine zw_iald C 18 0 (f := O.2.2.1) (i := p1) rfl rfl (dz_opIn hy1 hon) dX3_askOrder_31 ?_
    refine zw_istore C dX3_askOrder_32 (by decide) rfl ?_
    refine zw_aload_n C dX3_askOrder_34 2 rfl rfl ?_
    refine zw_get C FX3 0 8 (v := .ref (a 15)) rfl (by decide) lkX3_40 rfl dX3_askOrder_35 ?_
    refine zw_get C FX1 15 0 (v := .ref (a 16)) rfl (by decide) lkX3_178 rfl dX3_askOrder_38 ?_
    refine zw_iload_n C dX3_askOrder_41 3 rfl rfl ?_
    refine zw_iald C 16 0 (f := O.1) (i := p1) rfl rfl (dz_opIn hy1 hon) dX3_askOrder_42 ?_
    by_cases h4 : (O.1 p1.toNatClampNeg) = 0
    · rw [if_pos h4] at hF
      refine zw_tableIn C 76 dX3_askOrder_43 (by rw [h4]; decide) (by rw [h4]; decide) (by rw [h4]; rfl) (by decide) ?_
      refine zw_aload_n C dX3_askOrder_76 2 rfl rfl ?_
      refine zw_iload C dX3_askOrder_77 1 rfl ?_
      refine zw_iload_n C dX3_askOrder_79 4 rfl rfl ?_
      obtain ⟨q5, e6⟩ : ∃ z, fS (d.1, d.2.1, q1.2) (O.2.1 p1.toNatClampNeg) p2 = z := ⟨_, rfl⟩
      rw [zw_l_eq e6] at hF
      refine zw_calll C kvX3_106 (HS (d.1, d.2.1, q1.2) (O.2.1 p1.toNatClampNeg) p2 _ (dk_O0 hT hy1 (by assumption)) hy2 e6) ⟨rfl, rfl, ⟨by show 2 * n + 6 + 1 ≤ 2 * (n + 1) + 6; omega, by show 8 + (5 + 11) + (60 * n + 200) ≤ 60 * (n + 1) + 200; omega⟩, Nat.le_refl _, Nat.le_refl _⟩ FX3 0 (As := [.int (O.2.1 p1.toNatClampNeg), .int p2]) (rest := []) rfl rfl rfl (Nat.le_of_ble_eq_true rfl) dX3_askOrder_80 ?_
      refine zw_aload_n C dX3_askOrder_83 2 rfl rfl ?_
      refine zw_iload C dX3_askOrder_84 1 rfl ?_
      refine zw_iload_n C dX3_askOrder_86 5 rfl rfl ?_
      obtain ⟨q7, e8⟩ : ∃ z, fS q5.2 (O.2.1 p1.toNatClampNeg) p3 = z := ⟨_, rfl⟩
      rw [zw_l_eq e8] at hF
      refine zw_calll C kvX3_106 (HS q5.2 (O.2.1 p1.toNatClampNeg) p3 _ (dk_O0 hT hy1 (by assumption)) hy3 e8) ⟨rfl, rfl, ⟨by show 2 * n + 6 + 1 ≤ 2 * (n + 1) + 6; omega, by show 8 + (5 + 11) + (60 * n + 200) ≤ 60 * (n + 1) + 200; omega⟩, Nat.le_refl _, Nat.le_refl _⟩ FX3 0 (As := [.int (O.2.1 p1.toNatClampNeg), .int p3]) (rest := [.long q5.1]) rfl rfl rfl (Nat.le_of_ble_eq_true rfl) dX3_askOrder_87 ?_
      refine zw_scalli C kvX3_210 (kX3_lesserFirst rfl) ⟨rfl, rfl, ⟨by show 0 + 1 ≤ 2 * (n + 1) + 6; omega, by show 8 + (4 + 11) + (0) ≤ 60 * (n + 1) + 200; omega⟩, Nat.le_refl _, Nat.le_refl _⟩ (As := [.long q5.1, .long q7.1]) (rest := []) rfl rfl (Nat.le_of_ble_eq_true rfl) dX3_askOrder_90 ?_
      subst hF
      exact zw_ireturn C hr hlk dX3_askOrder_93 rfl rfl
    rw [if_neg h4] at hF
    by_cases h9 : (O.1 p1.toNatClampNeg) = 1
    · rw [if_pos h9] at hF
      refine zw_tableIn C 94 dX3_askOrder_43 (by rw [h9]; decide) (by rw [h9]; decide) (by rw [h9]; rfl) (by decide) ?_
      refine zw_aload_n C dX3_askOrder_94 2 rfl rfl ?_
      refine zw_iload C dX3_askOrder_95 1 rfl ?_
      refine zw_iload_n C dX3_askOrder_97 4 rfl rfl ?_
      refine zw_iload_n C dX3_askOrder_98 5 rfl rfl ?_
      obtain ⟨q10, e11⟩ : ∃ z, fO (d.1, d.2.1, q1.2) (O.2.1 p1.toNatClampNeg) p2 p3 = z := ⟨_, rfl⟩
      rw [zw_l_eq e11] at hF
      refine zw_calli C kvX3_165 (HO (d.1, d.2.1, q1.2) (O.2.1 p1.toNatClampNeg) p2 p3 _ (dk_O1 hT hy1 (by assumption)) hy2 hy3 e11) ⟨rfl, rfl, ⟨by show 2 * n + 6 + 1 ≤ 2 * (n + 1) + 6; omega, by show 8 + (6 + 11) + (60 * n + 200) ≤ 60 * (n + 1) + 200; omega⟩, Nat.le_refl _, Nat.le_refl _⟩ FX3 0 (As := [.int (O.2.1 p1.toNatClampNeg), .int p2, .int p3]) (rest := []) rfl rfl rfl (Nat.le_of_ble_eq_true rfl) dX3_askOrder_99 ?_
      refine zw_ineg C dX3_askOrder_102 ?_
      subst hF
      exact zw_ireturn C hr hlk dX3_askOrder_103 rfl rfl
    rw [if_neg h9] at hF
    by_cases h12 : (O.1 p1.toNatClampNeg) = 2
    · rw [if_pos h12] at hF
      refine zw_tableIn C 104 dX3_askOrder_43 (by rw [h12]; decide) (by rw [h12]; decide) (by rw [h12]; rfl) (by decide) ?_
      refine zw_aload_n C dX3_askOrder_104 2 rfl rfl ?_
      refine zw_iload C dX3_askOrder_105 1 rfl ?_
      refine zw_iload C dX3_askOrder_107 0 rfl ?_
      refine zw_iload_n C dX3_askOrder_109 4 rfl rfl ?_
      refine zw_iload_n C dX3_askOrder_110 5 rfl rfl ?_
      obtain ⟨q13, e14⟩ : ∃ z, bH fO (d.1, d.2.1, q1.2) (O.2.1 p1.toNatClampNeg) (O.2.2.1 p1.toNatClampNeg) p2 p3 = z := ⟨_, rfl⟩
      rw [zw_l_eq e14] at hF
      refine zw_calli C kvX3_214 (kbH HO (d.1, d.2.1, q1.2) (O.2.1 p1.toNatClampNeg) (O.2.2.1 p1.toNatClampNeg) p2 p3 _ (dk_O2 hT hy1 (by assumption)).1 (dk_O2 hT hy1 (by assumption)).2 hy2 hy3 e14) ⟨rfl, rfl, ⟨by show 2 * n + 7 + 1 ≤ 2 * (n + 1) + 6; omega, by show 8 + (6 + 11) + (60 * n + 230) ≤ 60 * (n + 1) + 200; omega⟩, Nat.le_refl _, Nat.le_refl _⟩ FX3 0 (As := [.int (O.2.1 p1.toNatClampNeg), .int (O.2.2.1 p1.toNatClampNeg), .int p2, .int p3]) (rest := []) rfl rfl rfl (Nat.le_of_ble_eq_true rfl) dX3_askOrder_111 ?_
      subst hF
      exact zw_ireturn C hr hlk dX3_askOrder_114 rfl rfl
    rw [if_neg h12] at hF
    by_cases h15 : (O.1 p1.toNatClampNeg) = 3
    · rw [if_pos h15] at hF
      refine zw_tableIn C 115 dX3_askOrder_43 (by rw [h15]; decide) (by rw [h15]; decide) (by rw [h15]; rfl) (by decide) ?_
      refine zw_aload_n C dX3_askOrder_115 2 rfl rfl ?_
      refine zw_iload C dX3_askOrder_116 1 rfl ?_
      refine zw_iload_n C dX3_askOrder_118 4 rfl rfl ?_
      obtain ⟨q16, e17⟩ : ∃ z, bR fV (d.1, d.2.1, q1.2) (O.2.1 p1.toNatClampNeg) p2 = z := ⟨_, rfl⟩
      rw [zw_l_eq e17] at hF
      refine zw_calli C kvX3_218 (kbR HV (d.1, d.2.1, q1.2) (O.2.1 p1.toNatClampNeg) p2 _ (dk_O3 hT hy1 (by assumption)) hy2 e17) ⟨rfl, rfl, ⟨by show 2 * n + 7 + 1 ≤ 2 * (n + 1) + 6; omega, by show 8 + (3 + 11) + (60 * n + 230) ≤ 60 * (n + 1) + 200; omega⟩, Nat.le_refl _, Nat.le_refl _⟩ FX3 0 (As := [.int (O.2.1 p1.toNatClampNeg), .int p2]) (rest := []) rfl rfl rfl (Nat.le_of_ble_eq_true rfl) dX3_askOrder_119 ?_
      refine zw_i2l C dX3_askOrder_122 ?_
      refine zw_aload_n C dX3_askOrder_123 2 rfl rfl ?_
      refine zw_iload C dX3_askOrder_124 1 rfl ?_
      refine zw_iload_n C dX3_askOrder_126 5 rfl rfl ?_
      obtain ⟨q18, e19⟩ : ∃ z, bR fV q16.2 (O.2.1 p1.toNatClampNeg) p3 = z := ⟨_, rfl⟩
      rw [zw_l_eq e19] at hF
      refine zw_calli C kvX3_218 (kbR HV q16.2 (O.2.1 p1.toNatClampNeg) p3 _ (dk_O3 hT hy1 (by assumption)) hy3 e19) ⟨rfl, rfl, ⟨by show 2 * n + 7 + 1 ≤ 2 * (n + 1) + 6; omega, by show 8 + (3 + 11) + (60 * n + 230) ≤ 60 * (n + 1) + 200; omega⟩, Nat.le_refl _, Nat.le_refl _⟩ FX3 0 (As := [.int (O.2.1 p1.toNatClampNeg), .int p3]) (rest := [.long q16.1.toInt64]) rfl rfl rfl (Nat.le_of_ble_eq_true rfl) dX3_askOrder_127 ?_
      refine zw_i2l C dX3_askOrder_130 ?_
      refine zw_scalli C kvX3_210 (kX3_lesserFirst rfl) ⟨rfl, rfl, ⟨by show 0 + 1 ≤ 2 * (n + 1) + 6; omega, by show 8 + (4 + 11) + (0) ≤ 60 * (n + 1) + 200; omega⟩, Nat.le_refl _, Nat.le_refl _⟩ (As := [.long q16.1.toInt64, .long q18.1.toInt64]) (rest := []) rfl rfl (Nat.le_of_ble_eq_true rfl) dX3_askOrder_131 ?_
      subst hF
      exact zw_ireturn C hr hlk dX3_askOrder_134 rfl rfl
    rw [if_neg h15] at hF
    by_cases h20 : (O.1 p1.toNatClampNeg) = 4
    · rw [if_pos h20] at hF
      refine zw_tableIn C 135 dX3_askOrder_43 (by rw [h20]; decide) (by rw [h20]; decide) (by rw [h20]; rfl) (by decide) ?_
      refine zw_iload_n C dX3_askOrder_135 4 rfl rfl ?_
      refine zw_i2l C dX3_askOrder_136 ?_
      refine zw_iload_n C dX3_askOrder_137 5 rfl rfl ?_
      refine zw_i2l C dX3_askOrder_138 ?_
      refine zw_scalli C kvX3_210 (kX3_lesserFirst rfl) ⟨rfl, rfl, ⟨by show 0 + 1 ≤ 2 * (n + 1) + 6; omega, by show 8 + (4 + 11) + (0) ≤ 60 * (n + 1) + 200; omega⟩, Nat.le_refl _, Nat.le_refl _⟩ (As := [.long p2.toInt64, .long p3.toInt64]) (rest := []) rfl rfl (Nat.le_of_ble_eq_true rfl) dX3_askOrder_139 ?_
      subst hF
      exact zw_ireturn C hr hlk dX3_askOrder_142 rfl rfl
    rw [if_neg h20] at hF
    refine zw_tableOut C 143 dX3_askOrder_43 (zw_tout (n := 4) (by decide) (fun k hk => by match k, hk with | 0, _ => exact h4 | 1, _ => exact h9 | 2, _ => exact h12 | 3, _ => exact h15 | 4, _ => exact h20 | k + 5, hk => exact absurd hk (by omega))) (by decide) ?_
    refine zw_aload_n C dX3_askOrder_143 2 rfl rfl ?_
    refine zw_get C FX3 0 11 (v := .ref (a 30)) rfl (by decide) lkX3_56 rfl dX3_askOrder_144 ?_
    refine zw_iconst C (v := 3) dX3_askOrder_147 (by decide) ?_
    obtain ⟨q21, e22⟩ : ∃ z, fX2_fail q1.2 3 = z := ⟨_, rfl⟩
    rw [zw_l_eq e22] at hF
    refine zw_callv C kvX3_201 (kX2_fail e22) ⟨rfl, rfl, ⟨by show 1 + 1 ≤ 2 * (n + 1) + 6; omega, by show 8 + (2 + 11) + (20) ≤ 60 * (n + 1) + 200; omega⟩, Nat.le_refl _, Nat.le_refl _⟩ FX2 30 (As := [.int 3]) (rest := []) rfl rfl rfl (Nat.le_of_ble_eq_true rfl) dX3_askOrder_148 ?_
    refine zw_iconst C (v := 0) dX3_askOrder_151 (by decide) ?_
    subst hF
    exact zw_ireturn C hr hlk dX3_askOrder_152 rfl rfl
  · rw [if_pos h3] at hF
    refine zw_iconst C (v := 0) dX3_askOrder_10 (by decide) ?_
    subst hF
    exact zw_ireturn C hr hlk dX3_askOrder_11 rfl rfl
