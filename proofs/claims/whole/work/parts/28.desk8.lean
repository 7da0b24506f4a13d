def fX3_group_loop (B : dB) (S : dS) (V : dV) (p1 p2 : Int32) : Nat → dF → (Nat → Int64) → (Nat → Int64) → dT → Int32 → dF × (Nat → Int64) × (Nat → Int64) × dT
  | 0, F, S3, V3, T, _ => (F, S3, V3, T)
  | n + 1, F, S3, V3, T, x3 => (if B.2.1 ≤ x3 then (F, S3, V3, T) else (if (fX2_hasFailure T) = 0 then (zw_l ((zA B.2.2.2.1 B.2.2.2.2.1 S.1 S.2.1 S.2.2.1 V.1 V.2.1 V.2.2.1 73).1 (S3, V3, T) p1 (B.2.2.2.2.2.1 x3.toNatClampNeg)) (fun q3 => (zw_l ((zA B.2.2.2.1 B.2.2.2.2.1 S.1 S.2.1 S.2.2.1 V.1 V.2.1 V.2.2.1 73).1 q3.2 p2 (B.2.2.2.2.2.1 x3.toNatClampNeg)) (fun q5 => (zw_l (fX0_add F q3.1 q5.1 (B.2.2.2.2.2.1 x3.toNatClampNeg)) (fun q7 => fX3_group_loop B S V p1 p2 n q7 q5.2.1 q5.2.2.1 q5.2.2.2 (x3 + 1))))))) else (F, S3, V3, T)))
set_option maxHeartbeats 4000000 in
set_option maxRecDepth 100000 in
theorem kX3_group_loop {p : Program} {l : Launch} {e : Env} {s : State} {m : MethodId} {args : Array Value} {below : List Frame} {meth : Method} {c : Code} {A : Nat → Prop} {Q : State → Prop} {D : va_G} {cI cL : ClassId} {a : Nat → Nat} {B : dB} {S : dS} {V : dV} {O : dO} {G : dG} {p1 p2 : Int32} {nt k sn vn on : Nat} {rs rv ro : Nat → Nat} (C : zw_C p s m args c D (zw_tys cI cL) A RX3 cX3_group 6) (hy1 : dz_B B nt k) (hy2 : dz_K S V O sn vn on rs rv ro) (hp : vp_in p1 sn) (hp2 : vp_in p2 sn) : ∀ (n : Nat) (F : dF) (S3 : (Nat → Int64)) (V3 : (Nat → Int64)) (T : dT) (x3 : Int32) (q : dF × (Nat → Int64) × (Nat → Int64) × dT), (∃ i g : Nat, x3 = nI i ∧ F.2.2.2.2 = nI g ∧ g ≤ i ∧ i ≤ k ∧ k < i + n) → fX3_group_loop B S V p1 p2 n F S3 V3 T x3 = q → (zw_W p l e (zw_rm 153 4604) s m args below meth c D A 6 Q 0 0 (wD cI cL a B (S.1, S.2.1, S.2.2.1, q.2.1, S.2.2.2.2) (V.1, V.2.1, V.2.2.1, q.2.2.1, V.2.2.2.2) O G q.1 q.2.2.2) 109 [(0, .ref (a 0)), (1, .int p1), (2, .int p2)] []) → zw_W p l e (zw_rm 153 4604) s m args below meth c D A 6 Q 0 0 (wD cI cL a B (S.1, S.2.1, S.2.2.1, S3, S.2.2.2.2) (V.1, V.2.1, V.2.2.1, V3, V.2.2.2.2) O G F T) 46 [(0, .ref (a 0)), (1, .int p1), (2, .int p2), (3, .int x3)] [] := by
  intro n
  induction n with
  | zero =>
    intro F S3 V3 T x3 q hI hF kx
    obtain ⟨i, g, -, -, -, h3, h4⟩ := hI; exact absurd h4 (by omega)
  | succ n ih =>
    intro F S3 V3 T x3 q hI hF kx
    obtain ⟨i, g, z3, zg, hg, hi, hn⟩ := hI
    rw [fX3_group_loop] at hF
    refine zw_iload_n C dX3_group_46 3 rfl rfl ?_
    refine zw_aload_n C dX3_group_47 0 rfl rfl ?_
    refine zw_get C FX3 0 5 (v := .int B.2.1) rfl (by decide) lkX3_27 rfl dX3_group_48 ?_
    refine zw_icmp_ge C 109 dX3_group_51 (by decide) (fun h1 => ?_) (fun h1 => ?_)
    · rw [if_pos h1] at hF
      subst hF
      exact zw_locals [0, 1, 2] rfl kx
    · rw [if_neg h1] at hF
      refine zw_aload_n C dX3_group_54 0 rfl rfl ?_
      refine zw_get C FX3 0 11 (v := .ref (a 30)) rfl (by decide) lkX3_56 rfl dX3_group_55 ?_
      refine zw_calli C kvX3_110 (kX2_hasFailure rfl) ⟨rfl, rfl, ⟨by decide, by decide⟩, by decide, by decide⟩ FX2 30 (As := []) (rest := []) rfl rfl rfl (Nat.le_of_ble_eq_true rfl) dX3_group_58 ?_
      refine zw_if_ne C 109 dX3_group_61 (by decide) (fun h2 => ?_) (fun h2 => ?_)
      · rw [if_neg h2] at hF
        subst hF
        exact zw_locals [0, 1, 2] rfl kx
      · rw [if_pos h2] at hF
        refine zw_aload_n C dX3_group_64 0 rfl rfl ?_
        refine zw_iload_n C dX3_group_65 1 rfl rfl ?_
        refine zw_aload_n C dX3_group_66 0 rfl rfl ?_
        refine zw_get C FX3 0 3 (v := .ref (a 3)) rfl (by decide) lkX3_20 rfl dX3_group_67 ?_
        refine zw_iload_n C dX3_group_70 3 rfl rfl ?_
        refine zw_iald C 3 0 (f := B.2.2.2.2.2.1) (i := x3) rfl rfl (dz_ixl hy1 z3 hi (by assumption)) dX3_group_71 ?_
        obtain ⟨q3, e4⟩ : ∃ z, (zA B.2.2.2.1 B.2.2.2.2.1 S.1 S.2.1 S.2.2.1 V.1 V.2.1 V.2.2.1 73).1 (S3, V3, T) p1 (B.2.2.2.2.2.1 x3.toNatClampNeg) = z := ⟨_, rfl⟩
        rw [zw_l_eq e4] at hF
        refine zw_calll C kvX3_106 (kAS hy2 hy1.1 (S3, V3, T) p1 (B.2.2.2.2.2.1 x3.toNatClampNeg) _ hp (dz_li hy1 z3 hi (by assumption)) e4) ⟨rfl, rfl, ⟨by decide, by decide⟩, by decide, by decide⟩ FX3 0 (As := [.int p1, .int (B.2.2.2.2.2.1 x3.toNatClampNeg)]) (rest := []) rfl rfl rfl (Nat.le_of_ble_eq_true rfl) dX3_group_72 ?_
        refine zw_lstore C dX3_group_75 (by decide) rfl ?_
        refine zw_aload_n C dX3_group_77 1 rfl rfl ?_
        refine zw_get C FX3 0 10 (v := .ref (a 25)) rfl (by decide) lkX3_50 rfl dX3_group_78 ?_
        refine zw_lload C dX3_group_81 0 rfl ?_
        refine zw_aload_n C dX3_group_83 1 rfl rfl ?_
        refine zw_iload_n C dX3_group_84 3 rfl rfl ?_
        refine zw_aload_n C dX3_group_85 1 rfl rfl ?_
        refine zw_get C FX3 0 3 (v := .ref (a 3)) rfl (by decide) lkX3_20 rfl dX3_group_86 ?_
        refine zw_iload_n C dX3_group_89 4 rfl rfl ?_
        refine zw_iald C 3 0 (f := B.2.2.2.2.2.1) (i := x3) rfl rfl (dz_ixl hy1 z3 hi (by assumption)) dX3_group_90 ?_
        obtain ⟨q5, e6⟩ : ∃ z, (zA B.2.2.2.1 B.2.2.2.2.1 S.1 S.2.1 S.2.2.1 V.1 V.2.1 V.2.2.1 73).1 q3.2 p2 (B.2.2.2.2.2.1 x3.toNatClampNeg) = z := ⟨_, rfl⟩
        rw [zw_l_eq e6] at hF
        refine zw_calll C kvX3_106 (kAS hy2 hy1.1 q3.2 p2 (B.2.2.2.2.2.1 x3.toNatClampNeg) _ hp2 (dz_li hy1 z3 hi (by assumption)) e6) ⟨rfl, rfl, ⟨by decide, by decide⟩, by decide, by decide⟩ FX3 0 (As := [.int p2, .int (B.2.2.2.2.2.1 x3.toNatClampNeg)]) (rest := [.long q3.1, .ref (a 25)]) rfl rfl rfl (Nat.le_of_ble_eq_true rfl) dX3_group_91 ?_
        refine zw_aload_n C dX3_group_94 1 rfl rfl ?_
        refine zw_get C FX3 0 3 (v := .ref (a 3)) rfl (by decide) lkX3_20 rfl dX3_group_95 ?_
        refine zw_iload_n C dX3_group_98 4 rfl rfl ?_
        refine zw_iald C 3 0 (f := B.2.2.2.2.2.1) (i := x3) rfl rfl (dz_ixl hy1 z3 hi (by assumption)) dX3_group_99 ?_
        obtain ⟨q7, e8⟩ : ∃ z, fX0_add F q3.1 q5.1 (B.2.2.2.2.2.1 x3.toNatClampNeg) = z := ⟨_, rfl⟩
        rw [zw_l_eq e8] at hF
        refine zw_callv C kvX3_137 (kX0_add_F (by have := dz_lk hy1 z3 (by assumption) hi; have := hy1.1; have := hy1.2.1; omega) zg e8) ⟨rfl, rfl, ⟨by decide, by decide⟩, by decide, by decide⟩ FX0 25 (As := [.long q3.1, .long q5.1, .int (B.2.2.2.2.2.1 x3.toNatClampNeg)]) (rest := []) rfl rfl rfl (Nat.le_of_ble_eq_true rfl) dX3_group_100 ?_
        refine zw_iinc C (j := 4) (v := x3 + 1) dX3_group_103 rfl rfl (by decide) rfl ?_
        refine zw_goto C 46 dX3_group_106 (by decide) ?_
        refine zw_locals [2, 3, 4, 0] (lv2 := [(0, .ref (a 0)), (1, .int p1), (2, .int p2), (3, .int (x3 + 1))]) rfl ?_
        exact ih q7 q5.2.1 q5.2.2.1 q5.2.2.2 (x3 + 1) q (by obtain ⟨m, hm, em⟩ := ga_size (by assumption) zg; exact ⟨i + 1, m, by rw [z3]; exact nI_1 i, em, by omega, dz_lk hy1 z3 (by assumption) hi, by omega⟩) hF kx
def fX3_group (B : dB) (S : dS) (V : dV) (G : dG) (F : dF) (T : dT) (p1 : Int32) (p2 : Int32) : Int32 × Bool × dG × dF × (Nat → Int64) × (Nat → Int64) × dT := (if (fX1_has S p1) = 0 then ((-1), false, G, F, S.2.2.2.1, V.2.2.2.1, T) else (if (fX1_has S p2) = 0 then ((-1), false, G, F, S.2.2.2.1, V.2.2.2.1, T) else (zw_l (fX2_opensCall T) (fun q3 => (if q3.1 = 0 then ((-2), false, G, F, S.2.2.2.1, V.2.2.2.1, q3.2) else (zw_l (fX0_clear F) (fun q6 => (zw_l (fX3_group_loop B S V p1 p2 41 q6 S.2.2.2.1 V.2.2.2.1 q3.2 0) (fun q8 => (if (fX2_hasFailure q8.2.2.2) = 0 then (q8.1.2.2.2.2, true, q8.1, G, q8.2.1, q8.2.2.1, q8.2.2.2) else (zw_l (fX2_endFailedCall q8.2.2.2) (fun q11 => (q11.1, false, G, q8.1, q8.2.1, q8.2.2.1, q11.2)))))))))))))
set_option maxHeartbeats 4000000 in
set_option maxRecDepth 100000 in
theorem kX3_group {l : Launch} {D : va_G} {cI cL : ClassId} {a : Nat → Nat} {B : dB} {S : dS} {V : dV} {O : dO} {G : dG} {F : dF} {T : dT} {p1 : Int32} {p2 : Int32} {q : Int32 × Bool × dG × dF × (Nat → Int64) × (Nat → Int64) × dT} {nt k sn vn on : Nat} {rs rv ro : Nat → Nat} (hy1 : dz_B B nt k) (hy2 : dz_K S V O sn vn on rs rv ro) (hF : fX3_group B S V G F T p1 p2 = q) : zw_Mi l yX3_group cX3_group 6 .int D (zw_tys cI cL) (zw_rm 153 4604) [.ref (a 0), .int p1, .int p2] (wD cI cL a B S V O G F T) (wD cI cL (dsa q.2.1 a) B (S.1, S.2.1, S.2.2.1, q.2.2.2.2.1, S.2.2.2.2) (V.1, V.2.1, V.2.2.1, q.2.2.2.2.2.1, V.2.2.2.2) O q.2.2.1 q.2.2.2.1 q.2.2.2.2.2.2) q.1 := by
  unfold fX3_group at hF
  refine zw_Mi_of (own := RX3) (by decide) rfl (Nat.le_of_ble_eq_true rfl) ?_
  intro p e s m args below meth c A C hr hlk
  refine zw_eq (lv2 := [(0, .ref (a 0)), (1, .int p1), (2, .int p2)]) rfl rfl rfl ?_
  refine zw_aload_n C dX3_group_0 0 rfl rfl ?_
  refine zw_get C FX3 0 6 (v := .ref (a 5)) rfl (by decide) lkX3_33 rfl dX3_group_1 ?_
  refine zw_iload_n C dX3_group_4 1 rfl rfl ?_
  refine zw_calli C kvX3_100 (kX1_has_S rfl) ⟨rfl, rfl, ⟨by decide, by decide⟩, by decide, by decide⟩ FX1 5 (As := [.int p1]) (rest := []) rfl rfl rfl (Nat.le_of_ble_eq_true rfl) dX3_group_5 ?_
  refine zw_if_eq C 22 dX3_group_8 (by decide) (fun h1 => ?_) (fun h1 => ?_)
  · rw [if_pos h1] at hF
    refine zw_iconst C (v := (-1)) dX3_group_22 (by decide) ?_
    subst hF
    exact zw_ireturn C hr hlk dX3_group_23 rfl rfl
  · rw [if_neg h1] at hF
    refine zw_aload_n C dX3_group_11 0 rfl rfl ?_
    refine zw_get C FX3 0 6 (v := .ref (a 5)) rfl (by decide) lkX3_33 rfl dX3_group_12 ?_
    refine zw_iload_n C dX3_group_15 2 rfl rfl ?_
    refine zw_calli C kvX3_100 (kX1_has_S rfl) ⟨rfl, rfl, ⟨by decide, by decide⟩, by decide, by decide⟩ FX1 5 (As := [.int p2]) (rest := []) rfl rfl rfl (Nat.le_of_ble_eq_true rfl) dX3_group_16 ?_
    refine zw_if_ne C 24 dX3_group_19 (by decide) (fun h2 => ?_) (fun h2 => ?_)
    · rw [if_neg h2] at hF
      refine zw_aload_n C dX3_group_24 0 rfl rfl ?_
      refine zw_get C FX3 0 11 (v := .ref (a 30)) rfl (by decide) lkX3_56 rfl dX3_group_25 ?_
      obtain ⟨q3, e4⟩ : ∃ z, fX2_opensCall T = z := ⟨_, rfl⟩
      rw [zw_l_eq e4] at hF
      refine zw_calli C kvX3_103 (kX2_opensCall e4) ⟨rfl, rfl, ⟨by decide, by decide⟩, by decide, by decide⟩ FX2 30 (As := []) (rest := []) rfl rfl rfl (Nat.le_of_ble_eq_true rfl) dX3_group_28 ?_
      refine zw_if_ne C 37 dX3_group_31 (by decide) (fun h5 => ?_) (fun h5 => ?_)
      · rw [if_neg h5] at hF
        refine zw_aload_n C dX3_group_37 0 rfl rfl ?_
        refine zw_get C FX3 0 10 (v := .ref (a 25)) rfl (by decide) lkX3_50 rfl dX3_group_38 ?_
        obtain ⟨q6, e7⟩ : ∃ z, fX0_clear F = z := ⟨_, rfl⟩
        rw [zw_l_eq e7] at hF
        refine zw_callv C kvX3_134 (kX0_clear_F e7) ⟨rfl, rfl, ⟨by decide, by decide⟩, by decide, by decide⟩ FX0 25 (As := []) (rest := []) rfl rfl rfl (Nat.le_of_ble_eq_true rfl) dX3_group_41 ?_
        refine zw_iconst C (v := 0) dX3_group_44 (by decide) ?_
        refine zw_istore_n C dX3_group_45 rfl (by decide) rfl ?_
        obtain ⟨q8, e9⟩ : ∃ z, fX3_group_loop B S V p1 p2 41 q6 S.2.2.2.1 V.2.2.2.1 q3.2 0 = z := ⟨_, rfl⟩
        rw [zw_l_eq e9] at hF
        refine zw_locals [1, 2, 3, 0] (lv2 := [(0, .ref (a 0)), (1, .int p1), (2, .int p2), (3, .int 0)]) rfl ?_
        refine kX3_group_loop C hy1 hy2 (dz_hasIn (by assumption) hy2.2.2.2.1 hy2.1) (dz_hasIn (by assumption) hy2.2.2.2.1 hy2.1) 41 q6 S.2.2.2.1 V.2.2.2.1 q3.2 0 q8 ⟨0, 0, rfl, by subst_vars; rfl, Nat.le_refl _, Nat.zero_le _, by have := hy1.1; have := hy1.2.1; omega⟩ e9 ?_
        refine zw_aload_n C dX3_group_109 0 rfl rfl ?_
        refine zw_get C FX3 0 11 (v := .ref (a 30)) rfl (by decide) lkX3_56 rfl dX3_group_110 ?_
        refine zw_calli C kvX3_110 (kX2_hasFailure rfl) ⟨rfl, rfl, ⟨by decide, by decide⟩, by decide, by decide⟩ FX2 30 (As := []) (rest := []) rfl rfl rfl (Nat.le_of_ble_eq_true rfl) dX3_group_113 ?_
        refine zw_if_eq C 127 dX3_group_116 (by decide) (fun h10 => ?_) (fun h10 => ?_)
        · rw [if_pos h10] at hF
          refine zw_aload_n C dX3_group_127 0 rfl rfl ?_
          refine zw_get C FX3 0 9 (v := .ref (a 20)) rfl (by decide) lkX3_46 rfl dX3_group_128 ?_
          refine zw_astore_n C dX3_group_131 rfl (by decide) rfl ?_
          refine zw_aload_n C dX3_group_132 1 rfl rfl ?_
          refine zw_aload_n C dX3_group_133 1 rfl rfl ?_
          refine zw_get C FX3 0 10 (v := .ref (a 25)) rfl (by decide) lkX3_50 rfl dX3_group_134 ?_
          refine zw_put C FX3 GX3 0 9 (v := .ref (a 25)) (ws2 := (wD cI cL a B (S.1, S.2.1, S.2.2.1, q8.2.1, S.2.2.2.2) (V.1, V.2.1, V.2.2.1, q8.2.2.1, V.2.2.2.2) O G q8.1 q8.2.2.2).set 0 (a 0, .inr (3, [.ref (a 1), .int B.1, .ref (a 2), .ref (a 3), .ref (a 4), .int B.2.1, .ref (a 5), .ref (a 10), .ref (a 15), .ref (a 25), .ref (a 25), .ref (a 30), .long B.2.2.1]))) rfl (by decide) lkX3_46 rfl rfl rfl (Nat.le_of_ble_eq_true rfl) rfl dX3_group_137 ?_
          refine zw_aload_n C dX3_group_140 1 rfl rfl ?_
          refine zw_aload_n C dX3_group_141 0 rfl rfl ?_
          refine zw_put C FX3 GX3 0 10 (v := .ref (a 20)) (ws2 := (wD cI cL a B (S.1, S.2.1, S.2.2.1, q8.2.1, S.2.2.2.2) (V.1, V.2.1, V.2.2.1, q8.2.2.1, V.2.2.2.2) O G q8.1 q8.2.2.2).set 0 (a 0, .inr (3, [.ref (a 1), .int B.1, .ref (a 2), .ref (a 3), .ref (a 4), .int B.2.1, .ref (a 5), .ref (a 10), .ref (a 15), .ref (a 25), .ref (a 20), .ref (a 30), .long B.2.2.1]))) rfl (by decide) lkX3_50 rfl rfl rfl (Nat.le_of_ble_eq_true rfl) rfl dX3_group_142 ?_
          refine zw_perm (ws2 := (wD cI cL (dsw a) B (S.1, S.2.1, S.2.2.1, q8.2.1, S.2.2.2.2) (V.1, V.2.1, V.2.2.1, q8.2.2.1, V.2.2.2.2) O q8.1 G q8.2.2.2)) [0, 1, 2, 3, 4, 5, 6, 7, 8, 9, 10, 11, 12, 13, 14, 15, 16, 17, 18, 19, 25, 26, 27, 28, 29, 20, 21, 22, 23, 24, 30] rfl rfl rfl ?_
          refine zw_aload_n C dX3_group_145 1 rfl rfl ?_
          refine zw_get C FX3 0 9 (v := .ref (dsw a 20)) rfl (by decide) lkX3_46 rfl dX3_group_146 ?_
          refine zw_get C FX0 20 4 (v := .int q8.1.2.2.2.2) rfl (by decide) lkX3_141 rfl dX3_group_149 ?_
          subst hF
          exact zw_ireturn C hr hlk dX3_group_152 rfl rfl
        · rw [if_neg h10] at hF
          refine zw_aload_n C dX3_group_119 0 rfl rfl ?_
          refine zw_get C FX3 0 11 (v := .ref (a 30)) rfl (by decide) lkX3_56 rfl dX3_group_120 ?_
          obtain ⟨q11, e12⟩ : ∃ z, fX2_endFailedCall q8.2.2.2 = z := ⟨_, rfl⟩
          rw [zw_l_eq e12] at hF
          refine zw_calli C kvX3_113 (kX2_endFailedCall e12) ⟨rfl, rfl, ⟨by decide, by decide⟩, by decide, by decide⟩ FX2 30 (As := []) (rest := []) rfl rfl rfl (Nat.le_of_ble_eq_true rfl) dX3_group_123 ?_
          subst hF
          exact zw_ireturn C hr hlk dX3_group_126 rfl rfl
      · rw [if_pos h5] at hF
        refine zw_bipush C (v := (-2)) dX3_group_34 (by decide) ?_
        subst hF
        exact zw_ireturn C hr hlk dX3_group_36 rfl rfl
    · rw [if_pos h2] at hF
      refine zw_iconst C (v := (-1)) dX3_group_22 (by decide) ?_
      subst hF
      exact zw_ireturn C hr hlk dX3_group_23 rfl rfl
