def fX0_placeOf_loop (F : dF) (p1 : Int64) : Nat → Int32 → Int32
  | 0, _ => 0
  | n + 1, x3 => (if F.2.2.2.2 ≤ x3 then F.2.2.2.2 else (if (lg_cmp (F.1 x3.toNatClampNeg) p1) = 0 then x3 else fX0_placeOf_loop F p1 n (x3 + 1)))
set_option maxHeartbeats 4000000 in
set_option maxRecDepth 100000 in
theorem kX0_placeOf_loop {p : Program} {l : Launch} {e : Env} {s : State} {m : MethodId} {args : Array Value} {below : List Frame} {meth : Method} {c : Code} {A : Nat → Prop} {D : va_G} {cI cL : ClassId} {a : Nat → Nat} {B : dB} {S : dS} {V : dV} {O : dO} {G : dG} {F : dF} {T : dT} {p1 : Int64} {g : Nat} (C : zw_C p s m args c D (zw_tys cI cL) A RX0 cX0_placeOf 4) (hr : meth.sig.returnType = some .int) (hlk : meth.locks = false) (g1 : g ≤ 40) (g2 : F.2.2.2.2 = nI g) : ∀ (n : Nat) (x3 : Int32) (q : Int32), (∃ i : Nat, x3 = nI i ∧ i ≤ g ∧ g < i + n) → fX0_placeOf_loop F p1 n x3 = q → zw_W p l e (zw_rm 0 0) s m args below meth c D A 4 (zw_Qi D A (wD cI cL a B S V O G F T) q below args s) 0 0 (wD cI cL a B S V O G F T) 2 [(0, .ref (a 25)), (1, .long p1), (3, .int x3)] [] := by
  intro n
  induction n with
  | zero =>
    intro x3 q hI hF
    obtain ⟨i, -, h3, h4⟩ := hI; exact absurd h4 (by omega)
  | succ n ih =>
    intro x3 q hI hF
    obtain ⟨i, z3, hi, hn⟩ := hI
    rw [fX0_placeOf_loop] at hF
    refine zw_iload_n C dX0_placeOf_2 2 rfl rfl ?_
    refine zw_aload_n C dX0_placeOf_3 0 rfl rfl ?_
    refine zw_get C FX0 25 4 (v := .int F.2.2.2.2) rfl (by decide) lkX0_25 rfl dX0_placeOf_4 ?_
    refine zw_icmp_ge C 29 dX0_placeOf_7 (by decide) (fun h1 => ?_) (fun h1 => ?_)
    · rw [if_pos h1] at hF
      refine zw_aload_n C dX0_placeOf_29 0 rfl rfl ?_
      refine zw_get C FX0 25 4 (v := .int F.2.2.2.2) rfl (by decide) lkX0_25 rfl dX0_placeOf_30 ?_
      subst hF
      exact zw_ireturn C hr hlk dX0_placeOf_33 rfl rfl
    · rw [if_neg h1] at hF
      refine zw_aload_n C dX0_placeOf_10 0 rfl rfl ?_
      refine zw_get C FX0 25 0 (v := .ref (a 26)) rfl (by decide) lkX0_9 rfl dX0_placeOf_11 ?_
      refine zw_iload_n C dX0_placeOf_14 2 rfl rfl ?_
      refine zw_lald C 26 1 (f := F.1) (i := x3) rfl rfl (by rw [z3]; exact vp_in_nI (by have := dz_lt1 g2 z3 (by assumption) hi g1; omega) (by decide)) dX0_placeOf_15 ?_
      refine zw_lload_n C dX0_placeOf_16 1 rfl rfl ?_
      refine zw_lcmp C dX0_placeOf_17 ?_
      refine zw_if_ne C 23 dX0_placeOf_18 (by decide) (fun h2 => ?_) (fun h2 => ?_)
      · rw [if_neg h2] at hF
        refine zw_iinc C (j := 2) (v := x3 + 1) dX0_placeOf_23 rfl rfl (by decide) rfl ?_
        refine zw_goto C 2 dX0_placeOf_26 (by decide) ?_
        refine zw_locals [1, 2, 0] (lv2 := [(0, .ref (a 25)), (1, .long p1), (3, .int (x3 + 1))]) rfl ?_
        exact ih (x3 + 1) q ⟨i + 1, by rw [z3]; exact nI_1 i, dz_lt1 g2 z3 (by assumption) hi g1, by omega⟩ hF
      · rw [if_pos h2] at hF
        refine zw_iload_n C dX0_placeOf_21 2 rfl rfl ?_
        subst hF
        exact zw_ireturn C hr hlk dX0_placeOf_22 rfl rfl
def fX0_placeOf (F : dF) (p1 : Int64) : Int32 := fX0_placeOf_loop F p1 41 0
set_option maxHeartbeats 4000000 in
set_option maxRecDepth 100000 in
theorem kX0_placeOf_F {l : Launch} {D : va_G} {cI cL : ClassId} {a : Nat → Nat} {B : dB} {S : dS} {V : dV} {O : dO} {G : dG} {F : dF} {T : dT} {p1 : Int64} {q : Int32} {g : Nat} (hy1 : g ≤ 40) (hy2 : F.2.2.2.2 = nI g) (hF : fX0_placeOf F p1 = q) : zw_Mi l yX0_placeOf cX0_placeOf 4 .int D (zw_tys cI cL) (zw_rm 0 0) [.ref (a 25), .long p1] (wD cI cL a B S V O G F T) (wD cI cL a B S V O G F T) q := by
  unfold fX0_placeOf at hF
  refine zw_Mi_of (own := RX0) (by decide) rfl (Nat.le_of_ble_eq_true rfl) ?_
  intro p e s m args below meth c A C hr hlk
  refine zw_eq (lv2 := [(0, .ref (a 25)), (1, .long p1)]) rfl rfl rfl ?_
  refine zw_iconst C (v := 0) dX0_placeOf_0 (by decide) ?_
  refine zw_istore_n C dX0_placeOf_1 rfl (by decide) rfl ?_
  refine zw_locals [1, 2, 0] (lv2 := [(0, .ref (a 25)), (1, .long p1), (3, .int 0)]) rfl ?_
  exact kX0_placeOf_loop C hr hlk (by assumption) (by assumption) 41 0 q ⟨0, rfl, Nat.zero_le _, by omega⟩ hF
theorem po_loop {F : dF} {p1 : Int64} {g : Nat} (g1 : g ≤ 40) (g2 : F.2.2.2.2 = nI g) : ∀ (n : Nat) (x3 : Int32), (∃ i : Nat, x3 = nI i ∧ i ≤ g ∧ g < i + n) → ∃ m : Nat, m ≤ g ∧ fX0_placeOf_loop F p1 n x3 = nI m := by
  intro n
  induction n with
  | zero => intro x3 hI; obtain ⟨i, -, h3, h4⟩ := hI; exact absurd h4 (by omega)
  | succ n ih =>
    intro x3 hI
    obtain ⟨i, z3, hi, hn⟩ := hI
    rw [fX0_placeOf_loop]
    by_cases h1 : F.2.2.2.2 ≤ x3
    · rw [if_pos h1]; exact ⟨g, Nat.le_refl _, g2⟩
    · rw [if_neg h1]
      have h2 := dz_lt1 g2 z3 h1 hi g1
      split
      · exact ⟨i, by omega, z3⟩
      · exact ih _ ⟨i + 1, by rw [z3]; exact nI_1 i, h2, by omega⟩
theorem po_in {F : dF} {p1 : Int64} {g : Nat} (g1 : g ≤ 39) (g2 : F.2.2.2.2 = nI g) : vp_in (fX0_placeOf F p1) 40 := by
  obtain ⟨m, hm, e⟩ := po_loop (p1 := p1) (by omega) g2 41 0 ⟨0, rfl, Nat.zero_le _, by omega⟩
  unfold fX0_placeOf
  rw [e]; exact vp_in_nI (by omega) (by decide)
def fX0_add (F : dF) (p1 : Int64) (p2 : Int64) (p3 : Int32) : dF := (if (fX0_placeOf F p1) = F.2.2.2.2 then ((vp_updL F.1 (fX0_placeOf F p1).toNatClampNeg p1), (upd (upd F.2.1 (fX0_placeOf F p1).toNatClampNeg 0) (fX0_placeOf F p1).toNatClampNeg (((upd F.2.1 (fX0_placeOf F p1).toNatClampNeg 0) (fX0_placeOf F p1).toNatClampNeg) + 1)), (vp_updL (vp_updL F.2.2.1 (fX0_placeOf F p1).toNatClampNeg 0) (fX0_placeOf F p1).toNatClampNeg (((vp_updL F.2.2.1 (fX0_placeOf F p1).toNatClampNeg 0) (fX0_placeOf F p1).toNatClampNeg) + p2)), (upd F.2.2.2.1 (fX0_placeOf F p1).toNatClampNeg p3), F.2.2.2.2 + 1) else (F.1, (upd F.2.1 (fX0_placeOf F p1).toNatClampNeg ((F.2.1 (fX0_placeOf F p1).toNatClampNeg) + 1)), (vp_updL F.2.2.1 (fX0_placeOf F p1).toNatClampNeg ((F.2.2.1 (fX0_placeOf F p1).toNatClampNeg) + p2)), F.2.2.2.1, F.2.2.2.2))
set_option maxHeartbeats 4000000 in
set_option maxRecDepth 100000 in
theorem kX0_add_F {l : Launch} {D : va_G} {cI cL : ClassId} {a : Nat → Nat} {B : dB} {S : dS} {V : dV} {O : dO} {G : dG} {F : dF} {T : dT} {p1 : Int64} {p2 : Int64} {p3 : Int32} {q : dF} {g : Nat} (hy1 : g ≤ 39) (hy2 : F.2.2.2.2 = nI g) (hF : fX0_add F p1 p2 p3 = q) : zw_Mv l yX0_add cX0_add 7 D (zw_tys cI cL) (zw_rm 1 23) [.ref (a 25), .long p1, .long p2, .int p3] (wD cI cL a B S V O G F T) (wD cI cL a B S V O G q T) := by
  unfold fX0_add at hF
  refine zw_Mv_of (own := RX0) (by decide) rfl (Nat.le_of_ble_eq_true rfl) ?_
  intro p e s m args below meth c A C hr hlk
  refine zw_eq (lv2 := [(0, .ref (a 25)), (1, .long p1), (3, .long p2), (5, .int p3)]) rfl rfl rfl ?_
  refine zw_aload_n C dX0_add_0 0 rfl rfl ?_
  refine zw_lload_n C dX0_add_1 1 rfl rfl ?_
  refine zw_calli C kvX0_29 (kX0_placeOf_F (by omega : g ≤ 40) hy2 rfl) ⟨rfl, rfl, ⟨by decide, by decide⟩, by decide, by decide⟩ FX0 25 (As := [.long p1]) (rest := []) rfl rfl rfl (Nat.le_of_ble_eq_true rfl) dX0_add_2 ?_
  refine zw_istore C dX0_add_5 (by decide) rfl ?_
  refine zw_iload C dX0_add_7 0 rfl ?_
  refine zw_aload_n C dX0_add_9 1 rfl rfl ?_
  refine zw_get C FX0 25 4 (v := .int F.2.2.2.2) rfl (by decide) lkX0_25 rfl dX0_add_10 ?_
  refine zw_icmp_ne C 59 dX0_add_13 (by decide) (fun h1 => ?_) (fun h1 => ?_)
  · rw [if_neg h1] at hF
    refine zw_aload_n C dX0_add_59 1 rfl rfl ?_
    refine zw_get C FX0 25 1 (v := .ref (a 27)) rfl (by decide) lkX0_15 rfl dX0_add_60 ?_
    refine zw_iload C dX0_add_63 0 rfl ?_
    refine zw_dup2_11 C dX0_add_65 rfl rfl ?_
    refine zw_iald C 27 0 (f := F.2.1) (i := (fX0_placeOf F p1)) rfl rfl (po_in hy1 hy2) dX0_add_66 ?_
    refine zw_iconst C (v := 1) dX0_add_67 (by decide) ?_
    refine zw_iadd C dX0_add_68 ?_
    refine zw_iast C 27 0 (f := F.2.1) (i := (fX0_placeOf F p1)) (ws2 := (wD cI cL a B S V O G (F.1, (upd F.2.1 (fX0_placeOf F p1).toNatClampNeg ((F.2.1 (fX0_placeOf F p1).toNatClampNeg) + 1)), F.2.2.1, F.2.2.2.1, F.2.2.2.2) T)) rfl rfl (po_in hy1 hy2) rfl dX0_add_69 ?_
    refine zw_aload_n C dX0_add_70 1 rfl rfl ?_
    refine zw_get C FX0 25 2 (v := .ref (a 28)) rfl (by decide) lkX0_19 rfl dX0_add_71 ?_
    refine zw_iload C dX0_add_74 0 rfl ?_
    refine zw_dup2_11 C dX0_add_76 rfl rfl ?_
    refine zw_lald C 28 1 (f := F.2.2.1) (i := (fX0_placeOf F p1)) rfl rfl (po_in hy1 hy2) dX0_add_77 ?_
    refine zw_lload_n C dX0_add_78 3 rfl rfl ?_
    refine zw_ladd C dX0_add_79 ?_
    refine zw_last C 28 1 (f := F.2.2.1) (i := (fX0_placeOf F p1)) (ws2 := (wD cI cL a B S V O G (F.1, (upd F.2.1 (fX0_placeOf F p1).toNatClampNeg ((F.2.1 (fX0_placeOf F p1).toNatClampNeg) + 1)), (vp_updL F.2.2.1 (fX0_placeOf F p1).toNatClampNeg ((F.2.2.1 (fX0_placeOf F p1).toNatClampNeg) + p2)), F.2.2.2.1, F.2.2.2.2) T)) rfl rfl (po_in hy1 hy2) rfl dX0_add_80 ?_
    subst hF
    exact zw_return C hr hlk dX0_add_81 rfl
  · rw [if_pos h1] at hF
    refine zw_aload_n C dX0_add_16 1 rfl rfl ?_
    refine zw_get C FX0 25 0 (v := .ref (a 26)) rfl (by decide) lkX0_9 rfl dX0_add_17 ?_
    refine zw_iload C dX0_add_20 0 rfl ?_
    refine zw_lload_n C dX0_add_22 2 rfl rfl ?_
    refine zw_last C 26 1 (f := F.1) (i := (fX0_placeOf F p1)) (ws2 := (wD cI cL a B S V O G ((vp_updL F.1 (fX0_placeOf F p1).toNatClampNeg p1), F.2.1, F.2.2.1, F.2.2.2.1, F.2.2.2.2) T)) rfl rfl (po_in hy1 hy2) rfl dX0_add_23 ?_
    refine zw_aload_n C dX0_add_24 1 rfl rfl ?_
    refine zw_get C FX0 25 1 (v := .ref (a 27)) rfl (by decide) lkX0_15 rfl dX0_add_25 ?_
    refine zw_iload C dX0_add_28 0 rfl ?_
    refine zw_iconst C (v := 0) dX0_add_30 (by decide) ?_
    refine zw_iast C 27 0 (f := F.2.1) (i := (fX0_placeOf F p1)) (ws2 := (wD cI cL a B S V O G ((vp_updL F.1 (fX0_placeOf F p1).toNatClampNeg p1), (upd F.2.1 (fX0_placeOf F p1).toNatClampNeg 0), F.2.2.1, F.2.2.2.1, F.2.2.2.2) T)) rfl rfl (po_in hy1 hy2) rfl dX0_add_31 ?_
    refine zw_aload_n C dX0_add_32 1 rfl rfl ?_
    refine zw_get C FX0 25 2 (v := .ref (a 28)) rfl (by decide) lkX0_19 rfl dX0_add_33 ?_
    refine zw_iload C dX0_add_36 0 rfl ?_
    refine zw_lconst C (v := 0) dX0_add_38 (by decide) ?_
    refine zw_last C 28 1 (f := F.2.2.1) (i := (fX0_placeOf F p1)) (ws2 := (wD cI cL a B S V O G ((vp_updL F.1 (fX0_placeOf F p1).toNatClampNeg p1), (upd F.2.1 (fX0_placeOf F p1).toNatClampNeg 0), (vp_updL F.2.2.1 (fX0_placeOf F p1).toNatClampNeg 0), F.2.2.2.1, F.2.2.2.2) T)) rfl rfl (po_in hy1 hy2) rfl dX0_add_39 ?_
    refine zw_aload_n C dX0_add_40 1 rfl rfl ?_
    refine zw_get C FX0 25 3 (v := .ref (a 29)) rfl (by decide) lkX0_22 rfl dX0_add_41 ?_
    refine zw_iload C dX0_add_44 0 rfl ?_
    refine zw_iload C dX0_add_46 4 rfl ?_
    refine zw_iast C 29 0 (f := F.2.2.2.1) (i := (fX0_placeOf F p1)) (ws2 := (wD cI cL a B S V O G ((vp_updL F.1 (fX0_placeOf F p1).toNatClampNeg p1), (upd F.2.1 (fX0_placeOf F p1).toNatClampNeg 0), (vp_updL F.2.2.1 (fX0_placeOf F p1).toNatClampNeg 0), (upd F.2.2.2.1 (fX0_placeOf F p1).toNatClampNeg p3), F.2.2.2.2) T)) rfl rfl (po_in hy1 hy2) rfl dX0_add_48 ?_
    refine zw_aload_n C dX0_add_49 1 rfl rfl ?_
    refine zw_dup C dX0_add_50 rfl ?_
    refine zw_get C FX0 25 4 (v := .int F.2.2.2.2) rfl (by decide) lkX0_25 rfl dX0_add_51 ?_
    refine zw_iconst C (v := 1) dX0_add_54 (by decide) ?_
    refine zw_iadd C dX0_add_55 ?_
    refine zw_put C FX0 GX0 25 4 (v := .int (F.2.2.2.2 + 1)) (ws2 := (wD cI cL a B S V O G ((vp_updL F.1 (fX0_placeOf F p1).toNatClampNeg p1), (upd F.2.1 (fX0_placeOf F p1).toNatClampNeg 0), (vp_updL F.2.2.1 (fX0_placeOf F p1).toNatClampNeg 0), (upd F.2.2.2.1 (fX0_placeOf F p1).toNatClampNeg p3), F.2.2.2.2 + 1) T)) rfl (by decide) lkX0_25 rfl rfl rfl (Nat.le_of_ble_eq_true rfl) rfl dX0_add_56 ?_
    refine zw_aload_n C dX0_add_59 1 rfl rfl ?_
    refine zw_get C FX0 25 1 (v := .ref (a 27)) rfl (by decide) lkX0_15 rfl dX0_add_60 ?_
    refine zw_iload C dX0_add_63 0 rfl ?_
    refine zw_dup2_11 C dX0_add_65 rfl rfl ?_
    refine zw_iald C 27 0 (f := (upd F.2.1 (fX0_placeOf F p1).toNatClampNeg 0)) (i := (fX0_placeOf F p1)) rfl rfl (po_in hy1 hy2) dX0_add_66 ?_
    refine zw_iconst C (v := 1) dX0_add_67 (by decide) ?_
    refine zw_iadd C dX0_add_68 ?_
    refine zw_iast C 27 0 (f := (upd F.2.1 (fX0_placeOf F p1).toNatClampNeg 0)) (i := (fX0_placeOf F p1)) (ws2 := (wD cI cL a B S V O G ((vp_updL F.1 (fX0_placeOf F p1).toNatClampNeg p1), (upd (upd F.2.1 (fX0_placeOf F p1).toNatClampNeg 0) (fX0_placeOf F p1).toNatClampNeg (((upd F.2.1 (fX0_placeOf F p1).toNatClampNeg 0) (fX0_placeOf F p1).toNatClampNeg) + 1)), (vp_updL F.2.2.1 (fX0_placeOf F p1).toNatClampNeg 0), (upd F.2.2.2.1 (fX0_placeOf F p1).toNatClampNeg p3), F.2.2.2.2 + 1) T)) rfl rfl (po_in hy1 hy2) rfl dX0_add_69 ?_
    refine zw_aload_n C dX0_add_70 1 rfl rfl ?_
    refine zw_get C FX0 25 2 (v := .ref (a 28)) rfl (by decide) lkX0_19 rfl dX0_add_71 ?_
    refine zw_iload C dX0_add_74 0 rfl ?_
    refine zw_dup2_11 C dX0_add_76 rfl rfl ?_
    refine zw_lald C 28 1 (f := (vp_updL F.2.2.1 (fX0_placeOf F p1).toNatClampNeg 0)) (i := (fX0_placeOf F p1)) rfl rfl (po_in hy1 hy2) dX0_add_77 ?_
    refine zw_lload_n C dX0_add_78 3 rfl rfl ?_
    refine zw_ladd C dX0_add_79 ?_
    refine zw_last C 28 1 (f := (vp_updL F.2.2.1 (fX0_placeOf F p1).toNatClampNeg 0)) (i := (fX0_placeOf F p1)) (ws2 := (wD cI cL a B S V O G ((vp_updL F.1 (fX0_placeOf F p1).toNatClampNeg p1), (upd (upd F.2.1 (fX0_placeOf F p1).toNatClampNeg 0) (fX0_placeOf F p1).toNatClampNeg (((upd F.2.1 (fX0_placeOf F p1).toNatClampNeg 0) (fX0_placeOf F p1).toNatClampNeg) + 1)), (vp_updL (vp_updL F.2.2.1 (fX0_placeOf F p1).toNatClampNeg 0) (fX0_placeOf F p1).toNatClampNeg (((vp_updL F.2.2.1 (fX0_placeOf F p1).toNatClampNeg 0) (fX0_placeOf F p1).toNatClampNeg) + p2)), (upd F.2.2.2.1 (fX0_placeOf F p1).toNatClampNeg p3), F.2.2.2.2 + 1) T)) rfl rfl (po_in hy1 hy2) rfl dX0_add_80 ?_
    subst hF
    exact zw_return C hr hlk dX0_add_81 rfl
theorem ga_size {F : dF} {x y : Int64} {t : Int32} {g : Nat} {q : dF} (h : fX0_add F x y t = q) (g2 : F.2.2.2.2 = nI g) : ∃ m : Nat, m ≤ g + 1 ∧ q.2.2.2.2 = nI m := by
  subst h
  unfold fX0_add
  split
  · exact ⟨g + 1, Nat.le_refl _, by show F.2.2.2.2 + 1 = _; rw [g2]; exact nI_1 g⟩
  · exact ⟨g, by omega, g2⟩
