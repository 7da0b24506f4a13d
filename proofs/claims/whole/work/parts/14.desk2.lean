def fX3_thing (B : dB) (p1 : Int64) (p2 : Int64) (p3 : Int64) : Int32 × dB := (if B.1 < 40 then (B.1, (B.1 + 1, B.2.1 + 1, B.2.2.1, (vp_updL (vp_updL (vp_updL B.2.2.2.1 (fX3_cellOf B.1 0).toNatClampNeg p1) (fX3_cellOf B.1 1).toNatClampNeg p2) (fX3_cellOf B.1 2).toNatClampNeg p3), B.2.2.2.2.1, (upd B.2.2.2.2.2.1 B.2.1.toNatClampNeg B.1), B.2.2.2.2.2.2)) else ((-2), B))
set_option maxHeartbeats 4000000 in
set_option maxRecDepth 100000 in
theorem kX3_thing {l : Launch} {D : va_G} {cI cL : ClassId} {a : Nat → Nat} {B : dB} {S : dS} {V : dV} {O : dO} {G : dG} {F : dF} {T : dT} {p1 : Int64} {p2 : Int64} {p3 : Int64} {q : Int32 × dB} {n k : Nat} (hy1 : dz_B B n k) (hF : fX3_thing B p1 p2 p3 = q) : zw_Mi l yX3_thing cX3_thing 8 .int D (zw_tys cI cL) (zw_rm 1 21) [.ref (a 0), .long p1, .long p2, .long p3] (wD cI cL a B S V O G F T) (wD cI cL a q.2 S V O G F T) q.1 := by
  unfold fX3_thing at hF
  refine zw_Mi_of (own := RX3) (by decide) rfl (Nat.le_of_ble_eq_true rfl) ?_
  intro p e s m args below meth c A C hr hlk
  refine zw_eq (lv2 := [(0, .ref (a 0)), (1, .long p1), (3, .long p2), (5, .long p3)]) rfl rfl rfl ?_
  refine zw_aload_n C dX3_thing_0 0 rfl rfl ?_
  refine zw_get C FX3 0 1 (v := .int B.1) rfl (by decide) lkX3_13 rfl dX3_thing_1 ?_
  refine zw_bipush C (v := 40) dX3_thing_4 (by decide) ?_
  refine zw_icmp_lt C 12 dX3_thing_6 (by decide) (fun h1 => ?_) (fun h1 => ?_)
  · rw [if_pos h1] at hF
    refine zw_aload_n C dX3_thing_12 0 rfl rfl ?_
    refine zw_get C FX3 0 1 (v := .int B.1) rfl (by decide) lkX3_13 rfl dX3_thing_13 ?_
    refine zw_istore C dX3_thing_16 (by decide) rfl ?_
    refine zw_aload_n C dX3_thing_18 1 rfl rfl ?_
    refine zw_get C FX3 0 0 (v := .ref (a 1)) rfl (by decide) lkX3_9 rfl dX3_thing_19 ?_
    refine zw_iload C dX3_thing_22 0 rfl ?_
    refine zw_iconst C (v := 0) dX3_thing_24 (by decide) ?_
    refine zw_scalli C kvX3_64 (kX3_cellOf rfl) ⟨rfl, rfl, ⟨by decide, by decide⟩, by decide, by decide⟩ (As := [.int B.1, .int 0]) (rest := [.ref (a 1)]) rfl rfl (Nat.le_of_ble_eq_true rfl) dX3_thing_25 ?_
    refine zw_lload_n C dX3_thing_28 2 rfl rfl ?_
    refine zw_last C 1 1 (f := B.2.2.2.1) (i := (fX3_cellOf B.1 0)) (ws2 := (wD cI cL a (B.1, B.2.1, B.2.2.1, (vp_updL B.2.2.2.1 (fX3_cellOf B.1 0).toNatClampNeg p1), B.2.2.2.2.1, B.2.2.2.2.2.1, B.2.2.2.2.2.2) S V O G F T)) rfl rfl ((dz_cell (dz_full hy1 (by assumption)) (c := 0) (by decide) hy1.2.2.1 rfl).2) rfl dX3_thing_29 ?_
    refine zw_aload_n C dX3_thing_30 1 rfl rfl ?_
    refine zw_get C FX3 0 0 (v := .ref (a 1)) rfl (by decide) lkX3_9 rfl dX3_thing_31 ?_
    refine zw_iload C dX3_thing_34 0 rfl ?_
    refine zw_iconst C (v := 1) dX3_thing_36 (by decide) ?_
    refine zw_scalli C kvX3_64 (kX3_cellOf rfl) ⟨rfl, rfl, ⟨by decide, by decide⟩, by decide, by decide⟩ (As := [.int B.1, .int 1]) (rest := [.ref (a 1)]) rfl rfl (Nat.le_of_ble_eq_true rfl) dX3_thing_37 ?_
    refine zw_lload_n C dX3_thing_40 3 rfl rfl ?_
    refine zw_last C 1 1 (f := (vp_updL B.2.2.2.1 (fX3_cellOf B.1 0).toNatClampNeg p1)) (i := (fX3_cellOf B.1 1)) (ws2 := (wD cI cL a (B.1, B.2.1, B.2.2.1, (vp_updL (vp_updL B.2.2.2.1 (fX3_cellOf B.1 0).toNatClampNeg p1) (fX3_cellOf B.1 1).toNatClampNeg p2), B.2.2.2.2.1, B.2.2.2.2.2.1, B.2.2.2.2.2.2) S V O G F T)) rfl rfl ((dz_cell (dz_full hy1 (by assumption)) (c := 1) (by decide) hy1.2.2.1 rfl).2) rfl dX3_thing_41 ?_
    refine zw_aload_n C dX3_thing_42 1 rfl rfl ?_
    refine zw_get C FX3 0 0 (v := .ref (a 1)) rfl (by decide) lkX3_9 rfl dX3_thing_43 ?_
    refine zw_iload C dX3_thing_46 0 rfl ?_
    refine zw_iconst C (v := 2) dX3_thing_48 (by decide) ?_
    refine zw_scalli C kvX3_64 (kX3_cellOf rfl) ⟨rfl, rfl, ⟨by decide, by decide⟩, by decide, by decide⟩ (As := [.int B.1, .int 2]) (rest := [.ref (a 1)]) rfl rfl (Nat.le_of_ble_eq_true rfl) dX3_thing_49 ?_
    refine zw_lload C dX3_thing_52 4 rfl ?_
    refine zw_last C 1 1 (f := (vp_updL (vp_updL B.2.2.2.1 (fX3_cellOf B.1 0).toNatClampNeg p1) (fX3_cellOf B.1 1).toNatClampNeg p2)) (i := (fX3_cellOf B.1 2)) (ws2 := (wD cI cL a (B.1, B.2.1, B.2.2.1, (vp_updL (vp_updL (vp_updL B.2.2.2.1 (fX3_cellOf B.1 0).toNatClampNeg p1) (fX3_cellOf B.1 1).toNatClampNeg p2) (fX3_cellOf B.1 2).toNatClampNeg p3), B.2.2.2.2.1, B.2.2.2.2.2.1, B.2.2.2.2.2.2) S V O G F T)) rfl rfl ((dz_cell (dz_full hy1 (by assumption)) (c := 2) (by decide) hy1.2.2.1 rfl).2) rfl dX3_thing_54 ?_
    refine zw_aload_n C dX3_thing_55 1 rfl rfl ?_
    refine zw_dup C dX3_thing_56 rfl ?_
    refine zw_get C FX3 0 1 (v := .int B.1) rfl (by decide) lkX3_13 rfl dX3_thing_57 ?_
    refine zw_iconst C (v := 1) dX3_thing_60 (by decide) ?_
    refine zw_iadd C dX3_thing_61 ?_
    refine zw_put C FX3 GX3 0 1 (v := .int (B.1 + 1)) (ws2 := (wD cI cL a (B.1 + 1, B.2.1, B.2.2.1, (vp_updL (vp_updL (vp_updL B.2.2.2.1 (fX3_cellOf B.1 0).toNatClampNeg p1) (fX3_cellOf B.1 1).toNatClampNeg p2) (fX3_cellOf B.1 2).toNatClampNeg p3), B.2.2.2.2.1, B.2.2.2.2.2.1, B.2.2.2.2.2.2) S V O G F T)) rfl (by decide) lkX3_13 rfl rfl rfl (Nat.le_of_ble_eq_true rfl) rfl dX3_thing_62 ?_
    refine zw_aload_n C dX3_thing_65 1 rfl rfl ?_
    refine zw_get C FX3 0 3 (v := .ref (a 3)) rfl (by decide) lkX3_20 rfl dX3_thing_66 ?_
    refine zw_aload_n C dX3_thing_69 1 rfl rfl ?_
    refine zw_get C FX3 0 5 (v := .int B.2.1) rfl (by decide) lkX3_27 rfl dX3_thing_70 ?_
    refine zw_iload C dX3_thing_73 0 rfl ?_
    refine zw_iast C 3 0 (f := B.2.2.2.2.2.1) (i := B.2.1) (ws2 := (wD cI cL a (B.1 + 1, B.2.1, B.2.2.1, (vp_updL (vp_updL (vp_updL B.2.2.2.1 (fX3_cellOf B.1 0).toNatClampNeg p1) (fX3_cellOf B.1 1).toNatClampNeg p2) (fX3_cellOf B.1 2).toNatClampNeg p3), B.2.2.2.2.1, (upd B.2.2.2.2.2.1 B.2.1.toNatClampNeg B.1), B.2.2.2.2.2.2) S V O G F T)) rfl rfl (by rw [hy1.2.2.2.1]; exact vp_in_nI (by have := dz_full hy1 (by assumption); have := hy1.2.1; omega) (by decide)) rfl dX3_thing_75 ?_
    refine zw_aload_n C dX3_thing_76 1 rfl rfl ?_
    refine zw_dup C dX3_thing_77 rfl ?_
    refine zw_get C FX3 0 5 (v := .int B.2.1) rfl (by decide) lkX3_27 rfl dX3_thing_78 ?_
    refine zw_iconst C (v := 1) dX3_thing_81 (by decide) ?_
    refine zw_iadd C dX3_thing_82 ?_
    refine zw_put C FX3 GX3 0 5 (v := .int (B.2.1 + 1)) (ws2 := (wD cI cL a (B.1 + 1, B.2.1 + 1, B.2.2.1, (vp_updL (vp_updL (vp_updL B.2.2.2.1 (fX3_cellOf B.1 0).toNatClampNeg p1) (fX3_cellOf B.1 1).toNatClampNeg p2) (fX3_cellOf B.1 2).toNatClampNeg p3), B.2.2.2.2.1, (upd B.2.2.2.2.2.1 B.2.1.toNatClampNeg B.1), B.2.2.2.2.2.2) S V O G F T)) rfl (by decide) lkX3_27 rfl rfl rfl (Nat.le_of_ble_eq_true rfl) rfl dX3_thing_83 ?_
    refine zw_iload C dX3_thing_86 0 rfl ?_
    subst hF
    exact zw_ireturn C hr hlk dX3_thing_88 rfl rfl
  · rw [if_neg h1] at hF
    refine zw_bipush C (v := (-2)) dX3_thing_9 (by decide) ?_
    subst hF
    exact zw_ireturn C hr hlk dX3_thing_11 rfl rfl
def fX3_change (B : dB) (p1 : Int32) (p2 : Int32) (p3 : Int64) : Int32 × dB := (if (fX3_isThing B p1) = 0 then ((-1), B) else (if (fX3_isColumn p2) = 0 then ((-1), B) else (1, (B.1, B.2.1, B.2.2.1, (vp_updL B.2.2.2.1 (fX3_cellOf p1 p2).toNatClampNeg p3), B.2.2.2.2.1, B.2.2.2.2.2.1, B.2.2.2.2.2.2))))
set_option maxHeartbeats 4000000 in
set_option maxRecDepth 100000 in
theorem kX3_change {l : Launch} {D : va_G} {cI cL : ClassId} {a : Nat → Nat} {B : dB} {S : dS} {V : dV} {O : dO} {G : dG} {F : dF} {T : dT} {p1 : Int32} {p2 : Int32} {p3 : Int64} {q : Int32 × dB} {n k : Nat} (hy1 : dz_B B n k) (hF : fX3_change B p1 p2 p3 = q) : zw_Mi l yX3_change cX3_change 5 .int D (zw_tys cI cL) (zw_rm 1 21) [.ref (a 0), .int p1, .int p2, .long p3] (wD cI cL a B S V O G F T) (wD cI cL a q.2 S V O G F T) q.1 := by
  unfold fX3_change at hF
  refine zw_Mi_of (own := RX3) (by decide) rfl (Nat.le_of_ble_eq_true rfl) ?_
  intro p e s m args below meth c A C hr hlk
  refine zw_eq (lv2 := [(0, .ref (a 0)), (1, .int p1), (2, .int p2), (3, .long p3)]) rfl rfl rfl ?_
  refine zw_aload_n C dX3_change_0 0 rfl rfl ?_
  refine zw_iload_n C dX3_change_1 1 rfl rfl ?_
  refine zw_calli C kvX3_68 (kX3_isThing rfl) ⟨rfl, rfl, ⟨by decide, by decide⟩, by decide, by decide⟩ FX3 0 (As := [.int p1]) (rest := []) rfl rfl rfl (Nat.le_of_ble_eq_true rfl) dX3_change_2 ?_
  refine zw_if_eq C 15 dX3_change_5 (by decide) (fun h1 => ?_) (fun h1 => ?_)
  · rw [if_pos h1] at hF
    refine zw_iconst C (v := (-1)) dX3_change_15 (by decide) ?_
    subst hF
    exact zw_ireturn C hr hlk dX3_change_16 rfl rfl
  · rw [if_neg h1] at hF
    refine zw_iload_n C dX3_change_8 2 rfl rfl ?_
    refine zw_scalli C kvX3_72 (kX3_isColumn rfl) ⟨rfl, rfl, ⟨by decide, by decide⟩, by decide, by decide⟩ (As := [.int p2]) (rest := []) rfl rfl (Nat.le_of_ble_eq_true rfl) dX3_change_9 ?_
    refine zw_if_ne C 17 dX3_change_12 (by decide) (fun h2 => ?_) (fun h2 => ?_)
    · rw [if_neg h2] at hF
      refine zw_aload_n C dX3_change_17 0 rfl rfl ?_
      refine zw_get C FX3 0 0 (v := .ref (a 1)) rfl (by decide) lkX3_9 rfl dX3_change_18 ?_
      refine zw_iload_n C dX3_change_21 1 rfl rfl ?_
      refine zw_iload_n C dX3_change_22 2 rfl rfl ?_
      refine zw_scalli C kvX3_64 (kX3_cellOf rfl) ⟨rfl, rfl, ⟨by decide, by decide⟩, by decide, by decide⟩ (As := [.int p1, .int p2]) (rest := [.ref (a 1)]) rfl rfl (Nat.le_of_ble_eq_true rfl) dX3_change_23 ?_
      refine zw_lload_n C dX3_change_26 3 rfl rfl ?_
      refine zw_last C 1 1 (f := B.2.2.2.1) (i := (fX3_cellOf p1 p2)) (ws2 := (wD cI cL a (B.1, B.2.1, B.2.2.1, (vp_updL B.2.2.2.1 (fX3_cellOf p1 p2).toNatClampNeg p3), B.2.2.2.2.1, B.2.2.2.2.2.1, B.2.2.2.2.2.2) S V O G F T)) rfl rfl (by obtain ⟨j, hj, ej⟩ := dz_isThing (n := n) (by assumption) hy1.2.2.1; obtain ⟨i, hi, ei⟩ := dz_isColumn (by assumption); exact (dz_cell (by have := hy1.1; omega) hi ej ei).2) rfl dX3_change_27 ?_
      refine zw_iconst C (v := 1) dX3_change_28 (by decide) ?_
      subst hF
      exact zw_ireturn C hr hlk dX3_change_29 rfl rfl
    · rw [if_pos h2] at hF
      refine zw_iconst C (v := (-1)) dX3_change_15 (by decide) ?_
      subst hF
      exact zw_ireturn C hr hlk dX3_change_16 rfl rfl
def fX3_get (B : dB) (p1 : Int32) (p2 : Int32) : Int64 := (if (fX3_isThing B p1) = 0 then 0 else (if (fX3_isColumn p2) = 0 then 0 else B.2.2.2.1 (fX3_cellOf p1 p2).toNatClampNeg))
set_option maxHeartbeats 4000000 in
set_option maxRecDepth 100000 in
theorem kX3_get {l : Launch} {D : va_G} {cI cL : ClassId} {a : Nat → Nat} {B : dB} {S : dS} {V : dV} {O : dO} {G : dG} {F : dF} {T : dT} {p1 : Int32} {p2 : Int32} {q : Int64} {n k : Nat} (hy1 : dz_B B n k) (hF : fX3_get B p1 p2 = q) : zw_Ml l yX3_get cX3_get 3 D (zw_tys cI cL) (zw_rm 1 21) [.ref (a 0), .int p1, .int p2] (wD cI cL a B S V O G F T) (wD cI cL a B S V O G F T) q := by
  unfold fX3_get at hF
  refine zw_Ml_of (own := RX3) (by decide) rfl (Nat.le_of_ble_eq_true rfl) ?_
  intro p e s m args below meth c A C hr hlk
  refine zw_eq (lv2 := [(0, .ref (a 0)), (1, .int p1), (2, .int p2)]) rfl rfl rfl ?_
  refine zw_aload_n C dX3_get_0 0 rfl rfl ?_
  refine zw_iload_n C dX3_get_1 1 rfl rfl ?_
  refine zw_calli C kvX3_68 (kX3_isThing rfl) ⟨rfl, rfl, ⟨by decide, by decide⟩, by decide, by decide⟩ FX3 0 (As := [.int p1]) (rest := []) rfl rfl rfl (Nat.le_of_ble_eq_true rfl) dX3_get_2 ?_
  refine zw_if_eq C 15 dX3_get_5 (by decide) (fun h1 => ?_) (fun h1 => ?_)
  · rw [if_pos h1] at hF
    refine zw_lconst C (v := 0) dX3_get_15 (by decide) ?_
    subst hF
    exact zw_lreturn C hr hlk dX3_get_16 rfl rfl
  · rw [if_neg h1] at hF
    refine zw_iload_n C dX3_get_8 2 rfl rfl ?_
    refine zw_scalli C kvX3_72 (kX3_isColumn rfl) ⟨rfl, rfl, ⟨by decide, by decide⟩, by decide, by decide⟩ (As := [.int p2]) (rest := []) rfl rfl (Nat.le_of_ble_eq_true rfl) dX3_get_9 ?_
    refine zw_if_ne C 17 dX3_get_12 (by decide) (fun h2 => ?_) (fun h2 => ?_)
    · rw [if_neg h2] at hF
      refine zw_aload_n C dX3_get_17 0 rfl rfl ?_
      refine zw_get C FX3 0 0 (v := .ref (a 1)) rfl (by decide) lkX3_9 rfl dX3_get_18 ?_
      refine zw_iload_n C dX3_get_21 1 rfl rfl ?_
      refine zw_iload_n C dX3_get_22 2 rfl rfl ?_
      refine zw_scalli C kvX3_64 (kX3_cellOf rfl) ⟨rfl, rfl, ⟨by decide, by decide⟩, by decide, by decide⟩ (As := [.int p1, .int p2]) (rest := [.ref (a 1)]) rfl rfl (Nat.le_of_ble_eq_true rfl) dX3_get_23 ?_
      refine zw_lald C 1 1 (f := B.2.2.2.1) (i := (fX3_cellOf p1 p2)) rfl rfl (by obtain ⟨j, hj, ej⟩ := dz_isThing (n := n) (by assumption) hy1.2.2.1; obtain ⟨i, hi, ei⟩ := dz_isColumn (by assumption); exact (dz_cell (by have := hy1.1; omega) hi ej ei).2) dX3_get_26 ?_
      subst hF
      exact zw_lreturn C hr hlk dX3_get_27 rfl rfl
    · rw [if_pos h2] at hF
      refine zw_lconst C (v := 0) dX3_get_15 (by decide) ?_
      subst hF
      exact zw_lreturn C hr hlk dX3_get_16 rfl rfl
def fX3_item (B : dB) (p1 : Int32) (p2 : Int64) : Int32 × dB := (if (fX3_isPlaceOfRow p1.toInt64) = 0 then ((-1), B) else (1, (B.1, B.2.1, B.2.2.1, B.2.2.2.1, (vp_updL B.2.2.2.2.1 p1.toNatClampNeg p2), B.2.2.2.2.2.1, B.2.2.2.2.2.2)))
set_option maxHeartbeats 4000000 in
set_option maxRecDepth 100000 in
theorem kX3_item {l : Launch} {D : va_G} {cI cL : ClassId} {a : Nat → Nat} {B : dB} {S : dS} {V : dV} {O : dO} {G : dG} {F : dF} {T : dT} {p1 : Int32} {p2 : Int64} {q : Int32 × dB} (hF : fX3_item B p1 p2 = q) : zw_Mi l yX3_item cX3_item 4 .int D (zw_tys cI cL) (zw_rm 1 21) [.ref (a 0), .int p1, .long p2] (wD cI cL a B S V O G F T) (wD cI cL a q.2 S V O G F T) q.1 := by
  unfold fX3_item at hF
  refine zw_Mi_of (own := RX3) (by decide) rfl (Nat.le_of_ble_eq_true rfl) ?_
  intro p e s m args below meth c A C hr hlk
  refine zw_eq (lv2 := [(0, .ref (a 0)), (1, .int p1), (2, .long p2)]) rfl rfl rfl ?_
  refine zw_iload_n C dX3_item_0 1 rfl rfl ?_
  refine zw_i2l C dX3_item_1 ?_
  refine zw_scalli C kvX3_75 (kX3_isPlaceOfRow rfl) ⟨rfl, rfl, ⟨by decide, by decide⟩, by decide, by decide⟩ (As := [.long p1.toInt64]) (rest := []) rfl rfl (Nat.le_of_ble_eq_true rfl) dX3_item_2 ?_
  refine zw_if_ne C 10 dX3_item_5 (by decide) (fun h1 => ?_) (fun h1 => ?_)
  · rw [if_neg h1] at hF
    refine zw_aload_n C dX3_item_10 0 rfl rfl ?_
    refine zw_get C FX3 0 2 (v := .ref (a 2)) rfl (by decide) lkX3_17 rfl dX3_item_11 ?_
    refine zw_iload_n C dX3_item_14 1 rfl rfl ?_
    refine zw_lload_n C dX3_item_15 2 rfl rfl ?_
    refine zw_last C 2 1 (f := B.2.2.2.2.1) (i := p1) (ws2 := (wD cI cL a (B.1, B.2.1, B.2.2.1, B.2.2.2.1, (vp_updL B.2.2.2.2.1 p1.toNatClampNeg p2), B.2.2.2.2.2.1, B.2.2.2.2.2.2) S V O G F T)) rfl rfl (dz_placeI (by assumption)) rfl dX3_item_16 ?_
    refine zw_iconst C (v := 1) dX3_item_17 (by decide) ?_
    subst hF
    exact zw_ireturn C hr hlk dX3_item_18 rfl rfl
  · rw [if_pos h1] at hF
    refine zw_iconst C (v := (-1)) dX3_item_8 (by decide) ?_
    subst hF
    exact zw_ireturn C hr hlk dX3_item_9 rfl rfl
def fX3_list (B : dB) (p1 : Int32) : Int32 := (if p1 < 0 then (-1) else (if B.2.1 ≤ p1 then (-1) else B.2.2.2.2.2.1 p1.toNatClampNeg))
set_option maxHeartbeats 4000000 in
set_option maxRecDepth 100000 in
theorem kX3_list {l : Launch} {D : va_G} {cI cL : ClassId} {a : Nat → Nat} {B : dB} {S : dS} {V : dV} {O : dO} {G : dG} {F : dF} {T : dT} {p1 : Int32} {q : Int32} {n k : Nat} (hy1 : dz_B B n k) (hF : fX3_list B p1 = q) : zw_Mi l yX3_list cX3_list 2 .int D (zw_tys cI cL) (zw_rm 0 0) [.ref (a 0), .int p1] (wD cI cL a B S V O G F T) (wD cI cL a B S V O G F T) q := by
  unfold fX3_list at hF
  refine zw_Mi_of (own := RX3) (by decide) rfl (Nat.le_of_ble_eq_true rfl) ?_
  intro p e s m args below meth c A C hr hlk
  refine zw_eq (lv2 := [(0, .ref (a 0)), (1, .int p1)]) rfl rfl rfl ?_
  refine zw_iload_n C dX3_list_0 1 rfl rfl ?_
  refine zw_if_lt C 21 dX3_list_1 (by decide) (fun h1 => ?_) (fun h1 => ?_)
  · rw [if_pos h1] at hF
    refine zw_iconst C (v := (-1)) dX3_list_21 (by decide) ?_
    subst hF
    exact zw_ireturn C hr hlk dX3_list_22 rfl rfl
  · rw [if_neg h1] at hF
    refine zw_iload_n C dX3_list_4 1 rfl rfl ?_
    refine zw_aload_n C dX3_list_5 0 rfl rfl ?_
    refine zw_get C FX3 0 5 (v := .int B.2.1) rfl (by decide) lkX3_27 rfl dX3_list_6 ?_
    refine zw_icmp_ge C 21 dX3_list_9 (by decide) (fun h2 => ?_) (fun h2 => ?_)
    · rw [if_pos h2] at hF
      refine zw_iconst C (v := (-1)) dX3_list_21 (by decide) ?_
      subst hF
      exact zw_ireturn C hr hlk dX3_list_22 rfl rfl
    · rw [if_neg h2] at hF
      refine zw_aload_n C dX3_list_12 0 rfl rfl ?_
      refine zw_get C FX3 0 3 (v := .ref (a 3)) rfl (by decide) lkX3_20 rfl dX3_list_13 ?_
      refine zw_iload_n C dX3_list_16 1 rfl rfl ?_
      refine zw_iald C 3 0 (f := B.2.2.2.2.2.1) (i := p1) rfl rfl (zw_ix (by assumption) (by assumption) (dz_le hy1) (by decide)) dX3_list_17 ?_
      refine zw_goto C 22 dX3_list_18 (by decide) ?_
      subst hF
      exact zw_ireturn C hr hlk dX3_list_22 rfl rfl
def fX3_quotient (T : dT) (p1 : Int64) (p2 : Int64) : Int64 × dT := (if (lg_cmp p2 0) = 0 then (zw_l (fX2_fail T 1) (fun q2 => (0, q2))) else (p1 / p2, T))
set_option maxHeartbeats 4000000 in
set_option maxRecDepth 100000 in
theorem kX3_quotient {l : Launch} {D : va_G} {cI cL : ClassId} {a : Nat → Nat} {B : dB} {S : dS} {V : dV} {O : dO} {G : dG} {F : dF} {T : dT} {p1 : Int64} {p2 : Int64} {q : Int64 × dT} (hF : fX3_quotient T p1 p2 = q) : zw_Ml l yX3_quotient cX3_quotient 5 D (zw_tys cI cL) (zw_rm 2 41) [.ref (a 0), .long p1, .long p2] (wD cI cL a B S V O G F T) (wD cI cL a B S V O G F q.2) q.1 := by
  unfold fX3_quotient at hF
  refine zw_Ml_of (own := RX3) (by decide) rfl (Nat.le_of_ble_eq_true rfl) ?_
  intro p e s m args below meth c A C hr hlk
  refine zw_eq (lv2 := [(0, .ref (a 0)), (1, .long p1), (3, .long p2)]) rfl rfl rfl ?_
  refine zw_lload_n C dX3_quotient_0 2 rfl rfl ?_
  refine zw_lconst C (v := 0) dX3_quotient_1 (by decide) ?_
  refine zw_lcmp C dX3_quotient_2 ?_
  refine zw_if_ne C 16 dX3_quotient_3 (by decide) (fun h1 => ?_) (fun h1 => ?_)
  · rw [if_neg h1] at hF
    refine zw_lload_n C dX3_quotient_16 1 rfl rfl ?_
    refine zw_lload_n C dX3_quotient_17 2 rfl rfl ?_
    refine zw_ldiv C dX3_quotient_18 (fun z => (by assumption : ¬ lg_cmp p2 0 = 0) ((lg_cmp_eq _ _).mpr z)) ?_
    subst hF
    exact zw_lreturn C hr hlk dX3_quotient_19 rfl rfl
  · rw [if_pos h1] at hF
    refine zw_aload_n C dX3_quotient_6 0 rfl rfl ?_
    refine zw_get C FX3 0 11 (v := .ref (a 30)) rfl (by decide) lkX3_56 rfl dX3_quotient_7 ?_
    refine zw_iconst C (v := 1) dX3_quotient_10 (by decide) ?_
    obtain ⟨q2, e3⟩ : ∃ z, fX2_fail T 1 = z := ⟨_, rfl⟩
    rw [zw_l_eq e3] at hF
    refine zw_callv C kvX3_201 (kX2_fail e3) ⟨rfl, rfl, ⟨by decide, by decide⟩, by decide, by decide⟩ FX2 30 (As := [.int 1]) (rest := []) rfl rfl rfl (Nat.le_of_ble_eq_true rfl) dX3_quotient_11 ?_
    refine zw_lconst C (v := 0) dX3_quotient_14 (by decide) ?_
    subst hF
    exact zw_lreturn C hr hlk dX3_quotient_15 rfl rfl
def fX3_itemAt (B4 : (Nat → Int64)) (T : dT) (p1 : Int64) : Int64 × dT := (if (fX3_isPlaceOfRow p1) = 0 then (zw_l (fX2_fail T 2) (fun q2 => (0, q2))) else (B4 p1.toInt32.toNatClampNeg, T))
set_option maxHeartbeats 4000000 in
set_option maxRecDepth 100000 in
theorem kX3_itemAt {l : Launch} {D : va_G} {cI cL : ClassId} {a : Nat → Nat} {B : dB} {S : dS} {V : dV} {O : dO} {G : dG} {F : dF} {T : dT} {p1 : Int64} {q : Int64 × dT} {B4 : Nat → Int64} (hF : fX3_itemAt B4 T p1 = q) : zw_Ml l yX3_itemAt cX3_itemAt 3 D (zw_tys cI cL) (zw_rm 2 41) [.ref (a 0), .long p1] (wD cI cL a (B.1, B.2.1, B.2.2.1, B.2.2.2.1, B4, B.2.2.2.2.2.1, B.2.2.2.2.2.2) S V O G F T) (wD cI cL a (B.1, B.2.1, B.2.2.1, B.2.2.2.1, B4, B.2.2.2.2.2.1, B.2.2.2.2.2.2) S V O G F q.2) q.1 := by
  unfold fX3_itemAt at hF
  refine zw_Ml_of (own := RX3) (by decide) rfl (Nat.le_of_ble_eq_true rfl) ?_
  intro p e s m args below meth c A C hr hlk
  refine zw_eq (lv2 := [(0, .ref (a 0)), (1, .long p1)]) rfl rfl rfl ?_
  refine zw_lload_n C dX3_itemAt_0 1 rfl rfl ?_
  refine zw_scalli C kvX3_75 (kX3_isPlaceOfRow rfl) ⟨rfl, rfl, ⟨by decide, by decide⟩, by decide, by decide⟩ (As := [.long p1]) (rest := []) rfl rfl (Nat.le_of_ble_eq_true rfl) dX3_itemAt_1 ?_
  refine zw_if_ne C 17 dX3_itemAt_4 (by decide) (fun h1 => ?_) (fun h1 => ?_)
  · rw [if_neg h1] at hF
    refine zw_aload_n C dX3_itemAt_17 0 rfl rfl ?_
    refine zw_get C FX3 0 2 (v := .ref (a 2)) rfl (by decide) lkX3_17 rfl dX3_itemAt_18 ?_
    refine zw_lload_n C dX3_itemAt_21 1 rfl rfl ?_
    refine zw_l2i C dX3_itemAt_22 ?_
    refine zw_lald C 2 1 (f := B4) (i := p1.toInt32) rfl rfl (dz_placeL (by assumption)) dX3_itemAt_23 ?_
    subst hF
    exact zw_lreturn C hr hlk dX3_itemAt_24 rfl rfl
  · rw [if_pos h1] at hF
    refine zw_aload_n C dX3_itemAt_7 0 rfl rfl ?_
    refine zw_get C FX3 0 11 (v := .ref (a 30)) rfl (by decide) lkX3_56 rfl dX3_itemAt_8 ?_
    refine zw_iconst C (v := 2) dX3_itemAt_11 (by decide) ?_
    obtain ⟨q2, e3⟩ : ∃ z, fX2_fail T 2 = z := ⟨_, rfl⟩
    rw [zw_l_eq e3] at hF
    refine zw_callv C kvX3_201 (kX2_fail e3) ⟨rfl, rfl, ⟨by decide, by decide⟩, by decide, by decide⟩ FX2 30 (As := [.int 2]) (rest := []) rfl rfl rfl (Nat.le_of_ble_eq_true rfl) dX3_itemAt_12 ?_
    refine zw_lconst C (v := 0) dX3_itemAt_15 (by decide) ?_
    subst hF
    exact zw_lreturn C hr hlk dX3_itemAt_16 rfl rfl
