def fX1_has (S : dS) (p1 : Int32) : Int32 := (if p1 < 0 then 0 else (if S.2.2.2.2 ≤ p1 then 0 else 1))
set_option maxHeartbeats 4000000 in
set_option maxRecDepth 100000 in
theorem kX1_has_S {l : Launch} {D : va_G} {cI cL : ClassId} {a : Nat → Nat} {B : dB} {S : dS} {V : dV} {O : dO} {G : dG} {F : dF} {T : dT} {p1 : Int32} {q : Int32} (hF : fX1_has S p1 = q) : zw_Mi l yX1_has cX1_has 2 .boolean D (zw_tys cI cL) (zw_rm 0 0) [.ref (a 5), .int p1] (wD cI cL a B S V O G F T) (wD cI cL a B S V O G F T) q := by
  unfold fX1_has at hF
  refine zw_Mi_of (own := RX1) (by decide) rfl (Nat.le_of_ble_eq_true rfl) ?_
  intro p e s m args below meth c A C hr hlk
  refine zw_eq (lv2 := [(0, .ref (a 5)), (1, .int p1)]) rfl rfl rfl ?_
  refine zw_iload_n C dX1_has_0 1 rfl rfl ?_
  refine zw_if_lt C 16 dX1_has_1 (by decide) (fun h1 => ?_) (fun h1 => ?_)
  · rw [if_pos h1] at hF
    refine zw_iconst C (v := 0) dX1_has_16 (by decide) ?_
    subst hF
    exact zw_zreturn C hr hlk rfl dX1_has_17 rfl rfl
  · rw [if_neg h1] at hF
    refine zw_iload_n C dX1_has_4 1 rfl rfl ?_
    refine zw_aload_n C dX1_has_5 0 rfl rfl ?_
    refine zw_get C FX1 5 4 (v := .int S.2.2.2.2) rfl (by decide) lkX1_23 rfl dX1_has_6 ?_
    refine zw_icmp_ge C 16 dX1_has_9 (by decide) (fun h2 => ?_) (fun h2 => ?_)
    · rw [if_pos h2] at hF
      refine zw_iconst C (v := 0) dX1_has_16 (by decide) ?_
      subst hF
      exact zw_zreturn C hr hlk rfl dX1_has_17 rfl rfl
    · rw [if_neg h2] at hF
      refine zw_iconst C (v := 1) dX1_has_12 (by decide) ?_
      refine zw_goto C 17 dX1_has_13 (by decide) ?_
      subst hF
      exact zw_zreturn C hr hlk rfl dX1_has_17 rfl rfl
def fX1_isFull (S : dS) : Int32 := (if S.2.2.2.2 < 24 then 0 else 1)
set_option maxHeartbeats 4000000 in
set_option maxRecDepth 100000 in
theorem kX1_isFull_S {l : Launch} {D : va_G} {cI cL : ClassId} {a : Nat → Nat} {B : dB} {S : dS} {V : dV} {O : dO} {G : dG} {F : dF} {T : dT} {q : Int32} (hF : fX1_isFull S = q) : zw_Mi l yX1_isFull cX1_isFull 1 .boolean D (zw_tys cI cL) (zw_rm 0 0) [.ref (a 5)] (wD cI cL a B S V O G F T) (wD cI cL a B S V O G F T) q := by
  unfold fX1_isFull at hF
  refine zw_Mi_of (own := RX1) (by decide) rfl (Nat.le_of_ble_eq_true rfl) ?_
  intro p e s m args below meth c A C hr hlk
  refine zw_eq (lv2 := [(0, .ref (a 5))]) rfl rfl rfl ?_
  refine zw_aload_n C dX1_isFull_0 0 rfl rfl ?_
  refine zw_get C FX1 5 4 (v := .int S.2.2.2.2) rfl (by decide) lkX1_23 rfl dX1_isFull_1 ?_
  refine zw_bipush C (v := 24) dX1_isFull_4 (by decide) ?_
  refine zw_icmp_lt C 13 dX1_isFull_6 (by decide) (fun h1 => ?_) (fun h1 => ?_)
  · rw [if_pos h1] at hF
    refine zw_iconst C (v := 0) dX1_isFull_13 (by decide) ?_
    subst hF
    exact zw_zreturn C hr hlk rfl dX1_isFull_14 rfl rfl
  · rw [if_neg h1] at hF
    refine zw_iconst C (v := 1) dX1_isFull_9 (by decide) ?_
    refine zw_goto C 14 dX1_isFull_10 (by decide) ?_
    subst hF
    exact zw_zreturn C hr hlk rfl dX1_isFull_14 rfl rfl
def fX1_make (S : dS) (p1 : Int32) (p2 : Int32) (p3 : Int32) (p4 : Int64) : Int32 × dS := (S.2.2.2.2, ((upd S.1 S.2.2.2.2.toNatClampNeg p1), (upd S.2.1 S.2.2.2.2.toNatClampNeg p2), (upd S.2.2.1 S.2.2.2.2.toNatClampNeg p3), (vp_updL S.2.2.2.1 S.2.2.2.2.toNatClampNeg p4), S.2.2.2.2 + 1))
set_option maxHeartbeats 4000000 in
set_option maxRecDepth 100000 in
theorem kX1_make_S {l : Launch} {D : va_G} {cI cL : ClassId} {a : Nat → Nat} {B : dB} {S : dS} {V : dV} {O : dO} {G : dG} {F : dF} {T : dT} {p1 : Int32} {p2 : Int32} {p3 : Int32} {p4 : Int64} {q : Int32 × dS} (hy1 : vp_in S.2.2.2.2 24) (hF : fX1_make S p1 p2 p3 p4 = q) : zw_Mi l yX1_make cX1_make 7 .int D (zw_tys cI cL) (zw_rm 0 0) [.ref (a 5), .int p1, .int p2, .int p3, .long p4] (wD cI cL a B S V O G F T) (wD cI cL a B q.2 V O G F T) q.1 := by
  unfold fX1_make at hF
  refine zw_Mi_of (own := RX1) (by decide) rfl (Nat.le_of_ble_eq_true rfl) ?_
  intro p e s m args below meth c A C hr hlk
  refine zw_eq (lv2 := [(0, .ref (a 5)), (1, .int p1), (2, .int p2), (3, .int p3), (4, .long p4)]) rfl rfl rfl ?_
  refine zw_aload_n C dX1_make_0 0 rfl rfl ?_
  refine zw_get C FX1 5 4 (v := .int S.2.2.2.2) rfl (by decide) lkX1_23 rfl dX1_make_1 ?_
  refine zw_istore C dX1_make_4 (by decide) rfl ?_
  refine zw_aload_n C dX1_make_6 1 rfl rfl ?_
  refine zw_get C FX1 5 0 (v := .ref (a 6)) rfl (by decide) lkX1_9 rfl dX1_make_7 ?_
  refine zw_iload C dX1_make_10 0 rfl ?_
  refine zw_iload_n C dX1_make_12 2 rfl rfl ?_
  refine zw_iast C 6 0 (f := S.1) (i := S.2.2.2.2) (ws2 := (wD cI cL a B ((upd S.1 S.2.2.2.2.toNatClampNeg p1), S.2.1, S.2.2.1, S.2.2.2.1, S.2.2.2.2) V O G F T)) rfl rfl hy1 rfl dX1_make_13 ?_
  refine zw_aload_n C dX1_make_14 1 rfl rfl ?_
  refine zw_get C FX1 5 1 (v := .ref (a 7)) rfl (by decide) lkX1_13 rfl dX1_make_15 ?_
  refine zw_iload C dX1_make_18 0 rfl ?_
  refine zw_iload_n C dX1_make_20 3 rfl rfl ?_
  refine zw_iast C 7 0 (f := S.2.1) (i := S.2.2.2.2) (ws2 := (wD cI cL a B ((upd S.1 S.2.2.2.2.toNatClampNeg p1), (upd S.2.1 S.2.2.2.2.toNatClampNeg p2), S.2.2.1, S.2.2.2.1, S.2.2.2.2) V O G F T)) rfl rfl hy1 rfl dX1_make_21 ?_
  refine zw_aload_n C dX1_make_22 1 rfl rfl ?_
  refine zw_get C FX1 5 2 (v := .ref (a 8)) rfl (by decide) lkX1_16 rfl dX1_make_23 ?_
  refine zw_iload C dX1_make_26 0 rfl ?_
  refine zw_iload_n C dX1_make_28 4 rfl rfl ?_
  refine zw_iast C 8 0 (f := S.2.2.1) (i := S.2.2.2.2) (ws2 := (wD cI cL a B ((upd S.1 S.2.2.2.2.toNatClampNeg p1), (upd S.2.1 S.2.2.2.2.toNatClampNeg p2), (upd S.2.2.1 S.2.2.2.2.toNatClampNeg p3), S.2.2.2.1, S.2.2.2.2) V O G F T)) rfl rfl hy1 rfl dX1_make_29 ?_
  refine zw_aload_n C dX1_make_30 1 rfl rfl ?_
  refine zw_get C FX1 5 3 (v := .ref (a 9)) rfl (by decide) lkX1_19 rfl dX1_make_31 ?_
  refine zw_iload C dX1_make_34 0 rfl ?_
  refine zw_lload C dX1_make_36 5 rfl ?_
  refine zw_last C 9 1 (f := S.2.2.2.1) (i := S.2.2.2.2) (ws2 := (wD cI cL a B ((upd S.1 S.2.2.2.2.toNatClampNeg p1), (upd S.2.1 S.2.2.2.2.toNatClampNeg p2), (upd S.2.2.1 S.2.2.2.2.toNatClampNeg p3), (vp_updL S.2.2.2.1 S.2.2.2.2.toNatClampNeg p4), S.2.2.2.2) V O G F T)) rfl rfl hy1 rfl dX1_make_38 ?_
  refine zw_aload_n C dX1_make_39 1 rfl rfl ?_
  refine zw_dup C dX1_make_40 rfl ?_
  refine zw_get C FX1 5 4 (v := .int S.2.2.2.2) rfl (by decide) lkX1_23 rfl dX1_make_41 ?_
  refine zw_iconst C (v := 1) dX1_make_44 (by decide) ?_
  refine zw_iadd C dX1_make_45 ?_
  refine zw_put C FX1 GX1 5 4 (v := .int (S.2.2.2.2 + 1)) (ws2 := (wD cI cL a B ((upd S.1 S.2.2.2.2.toNatClampNeg p1), (upd S.2.1 S.2.2.2.2.toNatClampNeg p2), (upd S.2.2.1 S.2.2.2.2.toNatClampNeg p3), (vp_updL S.2.2.2.1 S.2.2.2.2.toNatClampNeg p4), S.2.2.2.2 + 1) V O G F T)) rfl (by decide) lkX1_23 rfl rfl rfl (Nat.le_of_ble_eq_true rfl) rfl dX1_make_46 ?_
  refine zw_iload C dX1_make_49 0 rfl ?_
  subst hF
  exact zw_ireturn C hr hlk dX1_make_51 rfl rfl
def fX1_countAsked (S3 : (Nat → Int64)) (p1 : Int32) : Int64 × (Nat → Int64) := ((vp_updL S3 p1.toNatClampNeg ((S3 p1.toNatClampNeg) + 1)) p1.toNatClampNeg, (vp_updL S3 p1.toNatClampNeg ((S3 p1.toNatClampNeg) + 1)))
set_option maxHeartbeats 4000000 in
set_option maxRecDepth 100000 in
theorem kX1_countAsked_S {l : Launch} {D : va_G} {cI cL : ClassId} {a : Nat → Nat} {B : dB} {S : dS} {V : dV} {O : dO} {G : dG} {F : dF} {T : dT} {p1 : Int32} {q : Int64 × (Nat → Int64)} {S3 : Nat → Int64} (hy1 : vp_in p1 24) (hF : fX1_countAsked S3 p1 = q) : zw_Ml l yX1_countAsked cX1_countAsked 2 D (zw_tys cI cL) (zw_rm 0 0) [.ref (a 5), .int p1] (wD cI cL a B (S.1, S.2.1, S.2.2.1, S3, S.2.2.2.2) V O G F T) (wD cI cL a B (S.1, S.2.1, S.2.2.1, q.2, S.2.2.2.2) V O G F T) q.1 := by
  unfold fX1_countAsked at hF
  refine zw_Ml_of (own := RX1) (by decide) rfl (Nat.le_of_ble_eq_true rfl) ?_
  intro p e s m args below meth c A C hr hlk
  refine zw_eq (lv2 := [(0, .ref (a 5)), (1, .int p1)]) rfl rfl rfl ?_
  refine zw_aload_n C dX1_countAsked_0 0 rfl rfl ?_
  refine zw_get C FX1 5 3 (v := .ref (a 9)) rfl (by decide) lkX1_19 rfl dX1_countAsked_1 ?_
  refine zw_iload_n C dX1_countAsked_4 1 rfl rfl ?_
  refine zw_dup2_11 C dX1_countAsked_5 rfl rfl ?_
  refine zw_lald C 9 1 (f := S3) (i := p1) rfl rfl hy1 dX1_countAsked_6 ?_
  refine zw_lconst C (v := 1) dX1_countAsked_7 (by decide) ?_
  refine zw_ladd C dX1_countAsked_8 ?_
  refine zw_last C 9 1 (f := S3) (i := p1) (ws2 := (wD cI cL a B (S.1, S.2.1, S.2.2.1, (vp_updL S3 p1.toNatClampNeg ((S3 p1.toNatClampNeg) + 1)), S.2.2.2.2) V O G F T)) rfl rfl hy1 rfl dX1_countAsked_9 ?_
  refine zw_aload_n C dX1_countAsked_10 0 rfl rfl ?_
  refine zw_get C FX1 5 3 (v := .ref (a 9)) rfl (by decide) lkX1_19 rfl dX1_countAsked_11 ?_
  refine zw_iload_n C dX1_countAsked_14 1 rfl rfl ?_
  refine zw_lald C 9 1 (f := (vp_updL S3 p1.toNatClampNeg ((S3 p1.toNatClampNeg) + 1))) (i := p1) rfl rfl hy1 dX1_countAsked_15 ?_
  subst hF
  exact zw_lreturn C hr hlk dX1_countAsked_16 rfl rfl
set_option maxHeartbeats 4000000 in
set_option maxRecDepth 100000 in
theorem kX1_has_V {l : Launch} {D : va_G} {cI cL : ClassId} {a : Nat → Nat} {B : dB} {S : dS} {V : dV} {O : dO} {G : dG} {F : dF} {T : dT} {p1 : Int32} {q : Int32} (hF : fX1_has V p1 = q) : zw_Mi l yX1_has cX1_has 2 .boolean D (zw_tys cI cL) (zw_rm 0 0) [.ref (a 10), .int p1] (wD cI cL a B S V O G F T) (wD cI cL a B S V O G F T) q := by
  unfold fX1_has at hF
  refine zw_Mi_of (own := RX1) (by decide) rfl (Nat.le_of_ble_eq_true rfl) ?_
  intro p e s m args below meth c A C hr hlk
  refine zw_eq (lv2 := [(0, .ref (a 10)), (1, .int p1)]) rfl rfl rfl ?_
  refine zw_iload_n C dX1_has_0 1 rfl rfl ?_
  refine zw_if_lt C 16 dX1_has_1 (by decide) (fun h1 => ?_) (fun h1 => ?_)
  · rw [if_pos h1] at hF
    refine zw_iconst C (v := 0) dX1_has_16 (by decide) ?_
    subst hF
    exact zw_zreturn C hr hlk rfl dX1_has_17 rfl rfl
  · rw [if_neg h1] at hF
    refine zw_iload_n C dX1_has_4 1 rfl rfl ?_
    refine zw_aload_n C dX1_has_5 0 rfl rfl ?_
    refine zw_get C FX1 10 4 (v := .int V.2.2.2.2) rfl (by decide) lkX1_23 rfl dX1_has_6 ?_
    refine zw_icmp_ge C 16 dX1_has_9 (by decide) (fun h2 => ?_) (fun h2 => ?_)
    · rw [if_pos h2] at hF
      refine zw_iconst C (v := 0) dX1_has_16 (by decide) ?_
      subst hF
      exact zw_zreturn C hr hlk rfl dX1_has_17 rfl rfl
    · rw [if_neg h2] at hF
      refine zw_iconst C (v := 1) dX1_has_12 (by decide) ?_
      refine zw_goto C 17 dX1_has_13 (by decide) ?_
      subst hF
      exact zw_zreturn C hr hlk rfl dX1_has_17 rfl rfl
set_option maxHeartbeats 4000000 in
set_option maxRecDepth 100000 in
theorem kX1_isFull_V {l : Launch} {D : va_G} {cI cL : ClassId} {a : Nat → Nat} {B : dB} {S : dS} {V : dV} {O : dO} {G : dG} {F : dF} {T : dT} {q : Int32} (hF : fX1_isFull V = q) : zw_Mi l yX1_isFull cX1_isFull 1 .boolean D (zw_tys cI cL) (zw_rm 0 0) [.ref (a 10)] (wD cI cL a B S V O G F T) (wD cI cL a B S V O G F T) q := by
  unfold fX1_isFull at hF
  refine zw_Mi_of (own := RX1) (by decide) rfl (Nat.le_of_ble_eq_true rfl) ?_
  intro p e s m args below meth c A C hr hlk
  refine zw_eq (lv2 := [(0, .ref (a 10))]) rfl rfl rfl ?_
  refine zw_aload_n C dX1_isFull_0 0 rfl rfl ?_
  refine zw_get C FX1 10 4 (v := .int V.2.2.2.2) rfl (by decide) lkX1_23 rfl dX1_isFull_1 ?_
  refine zw_bipush C (v := 24) dX1_isFull_4 (by decide) ?_
  refine zw_icmp_lt C 13 dX1_isFull_6 (by decide) (fun h1 => ?_) (fun h1 => ?_)
  · rw [if_pos h1] at hF
    refine zw_iconst C (v := 0) dX1_isFull_13 (by decide) ?_
    subst hF
    exact zw_zreturn C hr hlk rfl dX1_isFull_14 rfl rfl
  · rw [if_neg h1] at hF
    refine zw_iconst C (v := 1) dX1_isFull_9 (by decide) ?_
    refine zw_goto C 14 dX1_isFull_10 (by decide) ?_
    subst hF
    exact zw_zreturn C hr hlk rfl dX1_isFull_14 rfl rfl
set_option maxHeartbeats 4000000 in
set_option maxRecDepth 100000 in
theorem kX1_make_V {l : Launch} {D : va_G} {cI cL : ClassId} {a : Nat → Nat} {B : dB} {S : dS} {V : dV} {O : dO} {G : dG} {F : dF} {T : dT} {p1 : Int32} {p2 : Int32} {p3 : Int32} {p4 : Int64} {q : Int32 × dS} (hy1 : vp_in V.2.2.2.2 24) (hF : fX1_make V p1 p2 p3 p4 = q) : zw_Mi l yX1_make cX1_make 7 .int D (zw_tys cI cL) (zw_rm 0 0) [.ref (a 10), .int p1, .int p2, .int p3, .long p4] (wD cI cL a B S V O G F T) (wD cI cL a B S q.2 O G F T) q.1 := by
  unfold fX1_make at hF
  refine zw_Mi_of (own := RX1) (by decide) rfl (Nat.le_of_ble_eq_true rfl) ?_
  intro p e s m args below meth c A C hr hlk
  refine zw_eq (lv2 := [(0, .ref (a 10)), (1, .int p1), (2, .int p2), (3, .int p3), (4, .long p4)]) rfl rfl rfl ?_
  refine zw_aload_n C dX1_make_0 0 rfl rfl ?_
  refine zw_get C FX1 10 4 (v := .int V.2.2.2.2) rfl (by decide) lkX1_23 rfl dX1_make_1 ?_
  refine zw_istore C dX1_make_4 (by decide) rfl ?_
  refine zw_aload_n C dX1_make_6 1 rfl rfl ?_
  refine zw_get C FX1 10 0 (v := .ref (a 11)) rfl (by decide) lkX1_9 rfl dX1_make_7 ?_
  refine zw_iload C dX1_make_10 0 rfl ?_
  refine zw_iload_n C dX1_make_12 2 rfl rfl ?_
  refine zw_iast C 11 0 (f := V.1) (i := V.2.2.2.2) (ws2 := (wD cI cL a B S ((upd V.1 V.2.2.2.2.toNatClampNeg p1), V.2.1, V.2.2.1, V.2.2.2.1, V.2.2.2.2) O G F T)) rfl rfl hy1 rfl dX1_make_13 ?_
  refine zw_aload_n C dX1_make_14 1 rfl rfl ?_
  refine zw_get C FX1 10 1 (v := .ref (a 12)) rfl (by decide) lkX1_13 rfl dX1_make_15 ?_
  refine zw_iload C dX1_make_18 0 rfl ?_
  refine zw_iload_n C dX1_make_20 3 rfl rfl ?_
  refine zw_iast C 12 0 (f := V.2.1) (i := V.2.2.2.2) (ws2 := (wD cI cL a B S ((upd V.1 V.2.2.2.2.toNatClampNeg p1), (upd V.2.1 V.2.2.2.2.toNatClampNeg p2), V.2.2.1, V.2.2.2.1, V.2.2.2.2) O G F T)) rfl rfl hy1 rfl dX1_make_21 ?_
  refine zw_aload_n C dX1_make_22 1 rfl rfl ?_
  refine zw_get C FX1 10 2 (v := .ref (a 13)) rfl (by decide) lkX1_16 rfl dX1_make_23 ?_
  refine zw_iload C dX1_make_26 0 rfl ?_
  refine zw_iload_n C dX1_make_28 4 rfl rfl ?_
  refine zw_iast C 13 0 (f := V.2.2.1) (i := V.2.2.2.2) (ws2 := (wD cI cL a B S ((upd V.1 V.2.2.2.2.toNatClampNeg p1), (upd V.2.1 V.2.2.2.2.toNatClampNeg p2), (upd V.2.2.1 V.2.2.2.2.toNatClampNeg p3), V.2.2.2.1, V.2.2.2.2) O G F T)) rfl rfl hy1 rfl dX1_make_29 ?_
  refine zw_aload_n C dX1_make_30 1 rfl rfl ?_
  refine zw_get C FX1 10 3 (v := .ref (a 14)) rfl (by decide) lkX1_19 rfl dX1_make_31 ?_
  refine zw_iload C dX1_make_34 0 rfl ?_
  refine zw_lload C dX1_make_36 5 rfl ?_
  refine zw_last C 14 1 (f := V.2.2.2.1) (i := V.2.2.2.2) (ws2 := (wD cI cL a B S ((upd V.1 V.2.2.2.2.toNatClampNeg p1), (upd V.2.1 V.2.2.2.2.toNatClampNeg p2), (upd V.2.2.1 V.2.2.2.2.toNatClampNeg p3), (vp_updL V.2.2.2.1 V.2.2.2.2.toNatClampNeg p4), V.2.2.2.2) O G F T)) rfl rfl hy1 rfl dX1_make_38 ?_
  refine zw_aload_n C dX1_make_39 1 rfl rfl ?_
  refine zw_dup C dX1_make_40 rfl ?_
  refine zw_get C FX1 10 4 (v := .int V.2.2.2.2) rfl (by decide) lkX1_23 rfl dX1_make_41 ?_
  refine zw_iconst C (v := 1) dX1_make_44 (by decide) ?_
  refine zw_iadd C dX1_make_45 ?_
  refine zw_put C FX1 GX1 10 4 (v := .int (V.2.2.2.2 + 1)) (ws2 := (wD cI cL a B S ((upd V.1 V.2.2.2.2.toNatClampNeg p1), (upd V.2.1 V.2.2.2.2.toNatClampNeg p2), (upd V.2.2.1 V.2.2.2.2.toNatClampNeg p3), (vp_updL V.2.2.2.1 V.2.2.2.2.toNatClampNeg p4), V.2.2.2.2 + 1) O G F T)) rfl (by decide) lkX1_23 rfl rfl rfl (Nat.le_of_ble_eq_true rfl) rfl dX1_make_46 ?_
  refine zw_iload C dX1_make_49 0 rfl ?_
  subst hF
  exact zw_ireturn C hr hlk dX1_make_51 rfl rfl
set_option maxHeartbeats 4000000 in
set_option maxRecDepth 100000 in
theorem kX1_countAsked_V {l : Launch} {D : va_G} {cI cL : ClassId} {a : Nat → Nat} {B : dB} {S : dS} {V : dV} {O : dO} {G : dG} {F : dF} {T : dT} {p1 : Int32} {q : Int64 × (Nat → Int64)} {S3 : Nat → Int64} (hy1 : vp_in p1 24) (hF : fX1_countAsked S3 p1 = q) : zw_Ml l yX1_countAsked cX1_countAsked 2 D (zw_tys cI cL) (zw_rm 0 0) [.ref (a 10), .int p1] (wD cI cL a B S (V.1, V.2.1, V.2.2.1, S3, V.2.2.2.2) O G F T) (wD cI cL a B S (V.1, V.2.1, V.2.2.1, q.2, V.2.2.2.2) O G F T) q.1 := by
  unfold fX1_countAsked at hF
  refine zw_Ml_of (own := RX1) (by decide) rfl (Nat.le_of_ble_eq_true rfl) ?_
  intro p e s m args below meth c A C hr hlk
  refine zw_eq (lv2 := [(0, .ref (a 10)), (1, .int p1)]) rfl rfl rfl ?_
  refine zw_aload_n C dX1_countAsked_0 0 rfl rfl ?_
  refine zw_get C FX1 10 3 (v := .ref (a 14)) rfl (by decide) lkX1_19 rfl dX1_countAsked_1 ?_
  refine zw_iload_n C dX1_countAsked_4 1 rfl rfl ?_
  refine zw_dup2_11 C dX1_countAsked_5 rfl rfl ?_
  refine zw_lald C 14 1 (f := S3) (i := p1) rfl rfl hy1 dX1_countAsked_6 ?_
  refine zw_lconst C (v := 1) dX1_countAsked_7 (by decide) ?_
  refine zw_ladd C dX1_countAsked_8 ?_
  refine zw_last C 14 1 (f := S3) (i := p1) (ws2 := (wD cI cL a B S (V.1, V.2.1, V.2.2.1, (vp_updL S3 p1.toNatClampNeg ((S3 p1.toNatClampNeg) + 1)), V.2.2.2.2) O G F T)) rfl rfl hy1 rfl dX1_countAsked_9 ?_
  refine zw_aload_n C dX1_countAsked_10 0 rfl rfl ?_
  refine zw_get C FX1 10 3 (v := .ref (a 14)) rfl (by decide) lkX1_19 rfl dX1_countAsked_11 ?_
  refine zw_iload_n C dX1_countAsked_14 1 rfl rfl ?_
  refine zw_lald C 14 1 (f := (vp_updL S3 p1.toNatClampNeg ((S3 p1.toNatClampNeg) + 1))) (i := p1) rfl rfl hy1 dX1_countAsked_15 ?_
  subst hF
  exact zw_lreturn C hr hlk dX1_countAsked_16 rfl rfl
set_option maxHeartbeats 4000000 in
set_option maxRecDepth 100000 in
theorem kX1_has_O {l : Launch} {D : va_G} {cI cL : ClassId} {a : Nat → Nat} {B : dB} {S : dS} {V : dV} {O : dO} {G : dG} {F : dF} {T : dT} {p1 : Int32} {q : Int32} (hF : fX1_has O p1 = q) : zw_Mi l yX1_has cX1_has 2 .boolean D (zw_tys cI cL) (zw_rm 0 0) [.ref (a 15), .int p1] (wD cI cL a B S V O G F T) (wD cI cL a B S V O G F T) q := by
  unfold fX1_has at hF
  refine zw_Mi_of (own := RX1) (by decide) rfl (Nat.le_of_ble_eq_true rfl) ?_
  intro p e s m args below meth c A C hr hlk
  refine zw_eq (lv2 := [(0, .ref (a 15)), (1, .int p1)]) rfl rfl rfl ?_
  refine zw_iload_n C dX1_has_0 1 rfl rfl ?_
  refine zw_if_lt C 16 dX1_has_1 (by decide) (fun h1 => ?_) (fun h1 => ?_)
  · rw [if_pos h1] at hF
    refine zw_iconst C (v := 0) dX1_has_16 (by decide) ?_
    subst hF
    exact zw_zreturn C hr hlk rfl dX1_has_17 rfl rfl
  · rw [if_neg h1] at hF
    refine zw_iload_n C dX1_has_4 1 rfl rfl ?_
    refine zw_aload_n C dX1_has_5 0 rfl rfl ?_
    refine zw_get C FX1 15 4 (v := .int O.2.2.2.2) rfl (by decide) lkX1_23 rfl dX1_has_6 ?_
    refine zw_icmp_ge C 16 dX1_has_9 (by decide) (fun h2 => ?_) (fun h2 => ?_)
    · rw [if_pos h2] at hF
      refine zw_iconst C (v := 0) dX1_has_16 (by decide) ?_
      subst hF
      exact zw_zreturn C hr hlk rfl dX1_has_17 rfl rfl
    · rw [if_neg h2] at hF
      refine zw_iconst C (v := 1) dX1_has_12 (by decide) ?_
      refine zw_goto C 17 dX1_has_13 (by decide) ?_
      subst hF
      exact zw_zreturn C hr hlk rfl dX1_has_17 rfl rfl
set_option maxHeartbeats 4000000 in
set_option maxRecDepth 100000 in
theorem kX1_isFull_O {l : Launch} {D : va_G} {cI cL : ClassId} {a : Nat → Nat} {B : dB} {S : dS} {V : dV} {O : dO} {G : dG} {F : dF} {T : dT} {q : Int32} (hF : fX1_isFull O = q) : zw_Mi l yX1_isFull cX1_isFull 1 .boolean D (zw_tys cI cL) (zw_rm 0 0) [.ref (a 15)] (wD cI cL a B S V O G F T) (wD cI cL a B S V O G F T) q := by
  unfold fX1_isFull at hF
  refine zw_Mi_of (own := RX1) (by decide) rfl (Nat.le_of_ble_eq_true rfl) ?_
  intro p e s m args below meth c A C hr hlk
  refine zw_eq (lv2 := [(0, .ref (a 15))]) rfl rfl rfl ?_
  refine zw_aload_n C dX1_isFull_0 0 rfl rfl ?_
  refine zw_get C FX1 15 4 (v := .int O.2.2.2.2) rfl (by decide) lkX1_23 rfl dX1_isFull_1 ?_
  refine zw_bipush C (v := 24) dX1_isFull_4 (by decide) ?_
  refine zw_icmp_lt C 13 dX1_isFull_6 (by decide) (fun h1 => ?_) (fun h1 => ?_)
  · rw [if_pos h1] at hF
    refine zw_iconst C (v := 0) dX1_isFull_13 (by decide) ?_
    subst hF
    exact zw_zreturn C hr hlk rfl dX1_isFull_14 rfl rfl
  · rw [if_neg h1] at hF
    refine zw_iconst C (v := 1) dX1_isFull_9 (by decide) ?_
    refine zw_goto C 14 dX1_isFull_10 (by decide) ?_
    subst hF
    exact zw_zreturn C hr hlk rfl dX1_isFull_14 rfl rfl
set_option maxHeartbeats 4000000 in
set_option maxRecDepth 100000 in
theorem kX1_make_O {l : Launch} {D : va_G} {cI cL : ClassId} {a : Nat → Nat} {B : dB} {S : dS} {V : dV} {O : dO} {G : dG} {F : dF} {T : dT} {p1 : Int32} {p2 : Int32} {p3 : Int32} {p4 : Int64} {q : Int32 × dS} (hy1 : vp_in O.2.2.2.2 24) (hF : fX1_make O p1 p2 p3 p4 = q) : zw_Mi l yX1_make cX1_make 7 .int D (zw_tys cI cL) (zw_rm 0 0) [.ref (a 15), .int p1, .int p2, .int p3, .long p4] (wD cI cL a B S V O G F T) (wD cI cL a B S V q.2 G F T) q.1 := by
  unfold fX1_make at hF
  refine zw_Mi_of (own := RX1) (by decide) rfl (Nat.le_of_ble_eq_true rfl) ?_
  intro p e s m args below meth c A C hr hlk
  refine zw_eq (lv2 := [(0, .ref (a 15)), (1, .int p1), (2, .int p2), (3, .int p3), (4, .long p4)]) rfl rfl rfl ?_
  refine zw_aload_n C dX1_make_0 0 rfl rfl ?_
  refine zw_get C FX1 15 4 (v := .int O.2.2.2.2) rfl (by decide) lkX1_23 rfl dX1_make_1 ?_
  refine zw_istore C dX1_make_4 (by decide) rfl ?_
  refine zw_aload_n C dX1_make_6 1 rfl rfl ?_
  refine zw_get C FX1 15 0 (v := .ref (a 16)) rfl (by decide) lkX1_9 rfl dX1_make_7 ?_
  refine zw_iload C dX1_make_10 0 rfl ?_
  refine zw_iload_n C dX1_make_12 2 rfl rfl ?_
  refine zw_iast C 16 0 (f := O.1) (i := O.2.2.2.2) (ws2 := (wD cI cL a B S V ((upd O.1 O.2.2.2.2.toNatClampNeg p1), O.2.1, O.2.2.1, O.2.2.2.1, O.2.2.2.2) G F T)) rfl rfl hy1 rfl dX1_make_13 ?_
  refine zw_aload_n C dX1_make_14 1 rfl rfl ?_
  refine zw_get C FX1 15 1 (v := .ref (a 17)) rfl (by decide) lkX1_13 rfl dX1_make_15 ?_
  refine zw_iload C dX1_make_18 0 rfl ?_
  refine zw_iload_n C dX1_make_20 3 rfl rfl ?_
  refine zw_iast C 17 0 (f := O.2.1) (i := O.2.2.2.2) (ws2 := (wD cI cL a B S V ((upd O.1 O.2.2.2.2.toNatClampNeg p1), (upd O.2.1 O.2.2.2.2.toNatClampNeg p2), O.2.2.1, O.2.2.2.1, O.2.2.2.2) G F T)) rfl rfl hy1 rfl dX1_make_21 ?_
  refine zw_aload_n C dX1_make_22 1 rfl rfl ?_
  refine zw_get C FX1 15 2 (v := .ref (a 18)) rfl (by decide) lkX1_16 rfl dX1_make_23 ?_
  refine zw_iload C dX1_make_26 0 rfl ?_
  refine zw_iload_n C dX1_make_28 4 rfl rfl ?_
  refine zw_iast C 18 0 (f := O.2.2.1) (i := O.2.2.2.2) (ws2 := (wD cI cL a B S V ((upd O.1 O.2.2.2.2.toNatClampNeg p1), (upd O.2.1 O.2.2.2.2.toNatClampNeg p2), (upd O.2.2.1 O.2.2.2.2.toNatClampNeg p3), O.2.2.2.1, O.2.2.2.2) G F T)) rfl rfl hy1 rfl dX1_make_29 ?_
  refine zw_aload_n C dX1_make_30 1 rfl rfl ?_
  refine zw_get C FX1 15 3 (v := .ref (a 19)) rfl (by decide) lkX1_19 rfl dX1_make_31 ?_
  refine zw_iload C dX1_make_34 0 rfl ?_
  refine zw_lload C dX1_make_36 5 rfl ?_
  refine zw_last C 19 1 (f := O.2.2.2.1) (i := O.2.2.2.2) (ws2 := (wD cI cL a B S V ((upd O.1 O.2.2.2.2.toNatClampNeg p1), (upd O.2.1 O.2.2.2.2.toNatClampNeg p2), (upd O.2.2.1 O.2.2.2.2.toNatClampNeg p3), (vp_updL O.2.2.2.1 O.2.2.2.2.toNatClampNeg p4), O.2.2.2.2) G F T)) rfl rfl hy1 rfl dX1_make_38 ?_
  refine zw_aload_n C dX1_make_39 1 rfl rfl ?_
  refine zw_dup C dX1_make_40 rfl ?_
  refine zw_get C FX1 15 4 (v := .int O.2.2.2.2) rfl (by decide) lkX1_23 rfl dX1_make_41 ?_
  refine zw_iconst C (v := 1) dX1_make_44 (by decide) ?_
  refine zw_iadd C dX1_make_45 ?_
  refine zw_put C FX1 GX1 15 4 (v := .int (O.2.2.2.2 + 1)) (ws2 := (wD cI cL a B S V ((upd O.1 O.2.2.2.2.toNatClampNeg p1), (upd O.2.1 O.2.2.2.2.toNatClampNeg p2), (upd O.2.2.1 O.2.2.2.2.toNatClampNeg p3), (vp_updL O.2.2.2.1 O.2.2.2.2.toNatClampNeg p4), O.2.2.2.2 + 1) G F T)) rfl (by decide) lkX1_23 rfl rfl rfl (Nat.le_of_ble_eq_true rfl) rfl dX1_make_46 ?_
  refine zw_iload C dX1_make_49 0 rfl ?_
  subst hF
  exact zw_ireturn C hr hlk dX1_make_51 rfl rfl
set_option maxHeartbeats 4000000 in
set_option maxRecDepth 100000 in
theorem kX1_countAsked_O {l : Launch} {D : va_G} {cI cL : ClassId} {a : Nat → Nat} {B : dB} {S : dS} {V : dV} {O : dO} {G : dG} {F : dF} {T : dT} {p1 : Int32} {q : Int64 × (Nat → Int64)} {S3 : Nat → Int64} (hy1 : vp_in p1 24) (hF : fX1_countAsked S3 p1 = q) : zw_Ml l yX1_countAsked cX1_countAsked 2 D (zw_tys cI cL) (zw_rm 0 0) [.ref (a 15), .int p1] (wD cI cL a B S V (O.1, O.2.1, O.2.2.1, S3, O.2.2.2.2) G F T) (wD cI cL a B S V (O.1, O.2.1, O.2.2.1, q.2, O.2.2.2.2) G F T) q.1 := by
  unfold fX1_countAsked at hF
  refine zw_Ml_of (own := RX1) (by decide) rfl (Nat.le_of_ble_eq_true rfl) ?_
  intro p e s m args below meth c A C hr hlk
  refine zw_eq (lv2 := [(0, .ref (a 15)), (1, .int p1)]) rfl rfl rfl ?_
  refine zw_aload_n C dX1_countAsked_0 0 rfl rfl ?_
  refine zw_get C FX1 15 3 (v := .ref (a 19)) rfl (by decide) lkX1_19 rfl dX1_countAsked_1 ?_
  refine zw_iload_n C dX1_countAsked_4 1 rfl rfl ?_
  refine zw_dup2_11 C dX1_countAsked_5 rfl rfl ?_
  refine zw_lald C 19 1 (f := S3) (i := p1) rfl rfl hy1 dX1_countAsked_6 ?_
  refine zw_lconst C (v := 1) dX1_countAsked_7 (by decide) ?_
  refine zw_ladd C dX1_countAsked_8 ?_
  refine zw_last C 19 1 (f := S3) (i := p1) (ws2 := (wD cI cL a B S V (O.1, O.2.1, O.2.2.1, (vp_updL S3 p1.toNatClampNeg ((S3 p1.toNatClampNeg) + 1)), O.2.2.2.2) G F T)) rfl rfl hy1 rfl dX1_countAsked_9 ?_
  refine zw_aload_n C dX1_countAsked_10 0 rfl rfl ?_
  refine zw_get C FX1 15 3 (v := .ref (a 19)) rfl (by decide) lkX1_19 rfl dX1_countAsked_11 ?_
  refine zw_iload_n C dX1_countAsked_14 1 rfl rfl ?_
  refine zw_lald C 19 1 (f := (vp_updL S3 p1.toNatClampNeg ((S3 p1.toNatClampNeg) + 1))) (i := p1) rfl rfl hy1 dX1_countAsked_15 ?_
  subst hF
  exact zw_lreturn C hr hlk dX1_countAsked_16 rfl rfl
