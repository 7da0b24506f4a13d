def fX3_sort_loop (B : dB) (S : dS) (V : dV) (O : dO) (p1 : Int32) : Nat → (Nat → Int32) → (Nat → Int64) → (Nat → Int64) → dT → Int32 → Int32 → (Nat → Int32) × (Nat → Int64) × (Nat → Int64) × dT × Int32
  | 0, B6, S3, V3, T, x2, _ => (B6, S3, V3, T, x2)
  | n + 1, B6, S3, V3, T, x2, x3 => (if B.2.1 ≤ x3 then (B6, S3, V3, T, x2) else (if (fX2_hasFailure T) = 0 then (zw_l (fX3_moveForward B S V O B6 S3 V3 T p1 x3) (fun q3 => fX3_sort_loop B S V O p1 n q3.2.1 q3.2.2.1 q3.2.2.2.1 q3.2.2.2.2 (x2 + q3.1) (x3 + 1))) else (B6, S3, V3, T, x2)))
set_option maxHeartbeats 4000000 in
set_option maxRecDepth 100000 in
theorem kX3_sort_loop {p : Program} {l : Launch} {e : Env} {s : State} {m : MethodId} {args : Array Value} {below : List Frame} {meth : Method} {c : Code} {A : Nat → Prop} {Q : State → Prop} {D : va_G} {cI cL : ClassId} {a : Nat → Nat} {B : dB} {S : dS} {V : dV} {O : dO} {G : dG} {F : dF} {p1 : Int32} {nt k sn vn on : Nat} {rs rv ro : Nat → Nat} (C : zw_C p s m args c D (zw_tys cI cL) A RX3 cX3_sort 4) (hy1 : dz_B B nt k) (hy2 : dz_K S V O sn vn on rs rv ro) (hp : vp_in p1 on) : ∀ (n : Nat) (B6 : (Nat → Int32)) (S3 : (Nat → Int64)) (V3 : (Nat → Int64)) (T : dT) (x2 : Int32) (x3 : Int32) (q : (Nat → Int32) × (Nat → Int64) × (Nat → Int64) × dT × Int32), (∃ i : Nat, x3 = nI i ∧ i ≤ k + 1 ∧ k + 1 < i + n ∧ ∀ j, j < k → vp_in (B6 j) nt) → fX3_sort_loop B S V O p1 n B6 S3 V3 T x2 x3 = q → (zw_W p l e (zw_rm 154 4629) s m args below meth c D A 4 Q 0 0 (wD cI cL a (B.1, B.2.1, B.2.2.1, B.2.2.2.1, B.2.2.2.2.1, B.2.2.2.2.2.1, q.1) (S.1, S.2.1, S.2.2.1, q.2.1, S.2.2.2.2) (V.1, V.2.1, V.2.2.1, q.2.2.1, V.2.2.2.2) O G F q.2.2.2.1) 80 [(0, .ref (a 0)), (1, .int p1), (2, .int q.2.2.2.2)] []) → zw_W p l e (zw_rm 154 4629) s m args below meth c D A 4 Q 0 0 (wD cI cL a (B.1, B.2.1, B.2.2.1, B.2.2.2.1, B.2.2.2.2.1, B.2.2.2.2.2.1, B6) (S.1, S.2.1, S.2.2.1, S3, S.2.2.2.2) (V.1, V.2.1, V.2.2.1, V3, V.2.2.2.2) O G F T) 47 [(0, .ref (a 0)), (1, .int p1), (2, .int x2), (3, .int x3)] [] := by
  intro n
  induction n with
  | zero =>
    intro B6 S3 V3 T x2 x3 q hI hF kx
    obtain ⟨i, -, h3, h4, -⟩ := hI; exact absurd h4 (by omega)
  | succ n ih =>
    intro B6 S3 V3 T x2 x3 q hI hF kx
    obtain ⟨i, z3, hi, hn, hd⟩ := hI
    rw [fX3_sort_loop] at hF
    refine zw_iload_n C dX3_sort_47 3 rfl rfl ?_
    refine zw_aload_n C dX3_sort_48 0 rfl rfl ?_
    refine zw_get C FX3 0 5 (v := .int B.2.1) rfl (by decide) lkX3_27 rfl dX3_sort_49 ?_
    refine zw_icmp_ge C 80 dX3_sort_52 (by decide) (fun h1 => ?_) (fun h1 => ?_)
    · rw [if_pos h1] at hF
      subst hF
      exact zw_locals [0, 1, 2] rfl kx
    · rw [if_neg h1] at hF
      refine zw_aload_n C dX3_sort_55 0 rfl rfl ?_
      refine zw_get C FX3 0 11 (v := .ref (a 30)) rfl (by decide) lkX3_56 rfl dX3_sort_56 ?_
      refine zw_calli C kvX3_110 (kX2_hasFailure rfl) ⟨rfl, rfl, ⟨by decide, by decide⟩, by decide, by decide⟩ FX2 30 (As := []) (rest := []) rfl rfl rfl (Nat.le_of_ble_eq_true rfl) dX3_sort_59 ?_
      refine zw_if_ne C 80 dX3_sort_62 (by decide) (fun h2 => ?_) (fun h2 => ?_)
      · rw [if_neg h2] at hF
        subst hF
        exact zw_locals [0, 1, 2] rfl kx
      · rw [if_pos h2] at hF
        refine zw_iload_n C dX3_sort_65 2 rfl rfl ?_
        refine zw_aload_n C dX3_sort_66 0 rfl rfl ?_
        refine zw_iload_n C dX3_sort_67 1 rfl rfl ?_
        refine zw_iload_n C dX3_sort_68 3 rfl rfl ?_
        obtain ⟨q3, e4⟩ : ∃ z, fX3_moveForward B S V O B6 S3 V3 T p1 x3 = z := ⟨_, rfl⟩
        rw [zw_l_eq e4] at hF
        refine zw_calli C kvX3_131 (kX3_moveForward hy1 hy2 ⟨i, dz_lk2 hy1 z3 (by assumption) hi, z3⟩ hp hd e4) ⟨rfl, rfl, ⟨by decide, by decide⟩, by decide, by decide⟩ FX3 0 (As := [.int p1, .int x3]) (rest := [.int x2]) rfl rfl rfl (Nat.le_of_ble_eq_true rfl) dX3_sort_69 ?_
        refine zw_iadd C dX3_sort_72 ?_
        refine zw_istore_n C dX3_sort_73 rfl (by decide) rfl ?_
        refine zw_iinc C (j := 3) (v := x3 + 1) dX3_sort_74 rfl rfl (by decide) rfl ?_
        refine zw_goto C 47 dX3_sort_77 (by decide) ?_
        refine zw_locals [2, 3, 1, 0] (lv2 := [(0, .ref (a 0)), (1, .int p1), (2, .int (x2 + q3.1)), (3, .int (x3 + 1))]) rfl ?_
        exact ih q3.2.1 q3.2.2.1 q3.2.2.2.1 q3.2.2.2.2 (x2 + q3.1) (x3 + 1) q ⟨i + 1, by rw [z3]; exact nI_1 i, by have := dz_lk2 hy1 z3 (by assumption) hi; omega, by omega, mf_q (by have := hy1.1; have := hy1.2.1; omega) hd ⟨i, dz_lk2 hy1 z3 (by assumption) hi, z3⟩ (by assumption)⟩ hF kx
def fX3_sort (B : dB) (S : dS) (V : dV) (O : dO) (T : dT) (p1 : Int32) : Int32 × Int32 × (Nat → Int32) × (Nat → Int32) × (Nat → Int64) × (Nat → Int64) × dT := (if (fX1_has O p1) = 0 then ((-1), B.2.1, B.2.2.2.2.2.1, B.2.2.2.2.2.2, S.2.2.2.1, V.2.2.2.1, T) else (zw_l (fX2_opensCall T) (fun q2 => (if q2.1 = 0 then ((-2), B.2.1, B.2.2.2.2.2.1, B.2.2.2.2.2.2, S.2.2.2.1, V.2.2.2.1, q2.2) else (zw_l (fX3_sort_loop B S V O p1 41 (va_cpy B.2.2.2.2.2.1 B.2.2.2.2.2.2 (0 : Int32).toNatClampNeg (0 : Int32).toNatClampNeg B.2.1.toNatClampNeg) S.2.2.2.1 V.2.2.2.1 q2.2 0 1) (fun q5 => (if (fX2_hasFailure q5.2.2.2.1) = 0 then (zw_l (fX3_takeDraft B.2.2.2.2.2.1 q5.1 B.2.1) (fun q8 => (q5.2.2.2.2, q8.1, q8.2, q5.1, q5.2.1, q5.2.2.1, q5.2.2.2.1))) else (zw_l (fX2_endFailedCall q5.2.2.2.1) (fun q10 => (q10.1, B.2.1, B.2.2.2.2.2.1, q5.1, q5.2.1, q5.2.2.1, q10.2))))))))))
set_option maxHeartbeats 4000000 in
set_option maxRecDepth 100000 in
theorem kX3_sort {l : Launch} {D : va_G} {cI cL : ClassId} {a : Nat → Nat} {B : dB} {S : dS} {V : dV} {O : dO} {G : dG} {F : dF} {T : dT} {p1 : Int32} {q : Int32 × Int32 × (Nat → Int32) × (Nat → Int32) × (Nat → Int64) × (Nat → Int64) × dT} {nt k sn vn on : Nat} {rs rv ro : Nat → Nat} (hy1 : dz_B B nt k) (hy2 : dz_K S V O sn vn on rs rv ro) (hF : fX3_sort B S V O T p1 = q) : zw_Mi l yX3_sort cX3_sort 4 .int D (zw_tys cI cL) (zw_rm 154 4629) [.ref (a 0), .int p1] (wD cI cL a B S V O G F T) (wD cI cL a (B.1, q.2.1, B.2.2.1, B.2.2.2.1, B.2.2.2.2.1, q.2.2.1, q.2.2.2.1) (S.1, S.2.1, S.2.2.1, q.2.2.2.2.1, S.2.2.2.2) (V.1, V.2.1, V.2.2.1, q.2.2.2.2.2.1, V.2.2.2.2) O G F q.2.2.2.2.2.2) q.1 := by
  unfold fX3_sort at hF
  refine zw_Mi_of (own := RX3) (by decide) rfl (Nat.le_of_ble_eq_true rfl) ?_
  intro p e s m args below meth c A C hr hlk
  refine zw_eq (lv2 := [(0, .ref (a 0)), (1, .int p1)]) rfl rfl rfl ?_
  refine zw_aload_n C dX3_sort_0 0 rfl rfl ?_
  refine zw_get C FX3 0 8 (v := .ref (a 15)) rfl (by decide) lkX3_40 rfl dX3_sort_1 ?_
  refine zw_iload_n C dX3_sort_4 1 rfl rfl ?_
  refine zw_calli C kvX3_100 (kX1_has_O rfl) ⟨rfl, rfl, ⟨by decide, by decide⟩, by decide, by decide⟩ FX1 15 (As := [.int p1]) (rest := []) rfl rfl rfl (Nat.le_of_ble_eq_true rfl) dX3_sort_5 ?_
  refine zw_if_ne C 13 dX3_sort_8 (by decide) (fun h1 => ?_) (fun h1 => ?_)
  · rw [if_neg h1] at hF
    refine zw_aload_n C dX3_sort_13 0 rfl rfl ?_
    refine zw_get C FX3 0 11 (v := .ref (a 30)) rfl (by decide) lkX3_56 rfl dX3_sort_14 ?_
    obtain ⟨q2, e3⟩ : ∃ z, fX2_opensCall T = z := ⟨_, rfl⟩
    rw [zw_l_eq e3] at hF
    refine zw_calli C kvX3_103 (kX2_opensCall e3) ⟨rfl, rfl, ⟨by decide, by decide⟩, by decide, by decide⟩ FX2 30 (As := []) (rest := []) rfl rfl rfl (Nat.le_of_ble_eq_true rfl) dX3_sort_17 ?_
    refine zw_if_ne C 26 dX3_sort_20 (by decide) (fun h4 => ?_) (fun h4 => ?_)
    · rw [if_neg h4] at hF
      refine zw_aload_n C dX3_sort_26 0 rfl rfl ?_
      refine zw_get C FX3 0 3 (v := .ref (a 3)) rfl (by decide) lkX3_20 rfl dX3_sort_27 ?_
      refine zw_iconst C (v := 0) dX3_sort_30 (by decide) ?_
      refine zw_aload_n C dX3_sort_31 0 rfl rfl ?_
      refine zw_get C FX3 0 4 (v := .ref (a 4)) rfl (by decide) lkX3_24 rfl dX3_sort_32 ?_
      refine zw_iconst C (v := 0) dX3_sort_35 (by decide) ?_
      refine zw_aload_n C dX3_sort_36 0 rfl rfl ?_
      refine zw_get C FX3 0 5 (v := .int B.2.1) rfl (by decide) lkX3_27 rfl dX3_sort_37 ?_
      refine zw_copyi C 3 4 lkmX3_125 (f := B.2.2.2.2.2.1) (g := B.2.2.2.2.2.2) (ws2 := (wD cI cL a (B.1, B.2.1, B.2.2.1, B.2.2.2.1, B.2.2.2.2.1, B.2.2.2.2.2.1, va_cpy B.2.2.2.2.2.1 B.2.2.2.2.2.2 (0 : Int32).toNatClampNeg (0 : Int32).toNatClampNeg B.2.1.toNatClampNeg) S V O G F q2.2)) rfl rfl rfl (by decide) (by decide) (dz_cp (dz_le hy1)) (by decide) (by decide) (Nat.le_of_ble_eq_true rfl) rfl dX3_sort_40 ?_
      refine zw_iconst C (v := 0) dX3_sort_43 (by decide) ?_
      refine zw_istore_n C dX3_sort_44 rfl (by decide) rfl ?_
      refine zw_iconst C (v := 1) dX3_sort_45 (by decide) ?_
      refine zw_istore_n C dX3_sort_46 rfl (by decide) rfl ?_
      obtain ⟨q5, e6⟩ : ∃ z, fX3_sort_loop B S V O p1 41 (va_cpy B.2.2.2.2.2.1 B.2.2.2.2.2.2 (0 : Int32).toNatClampNeg (0 : Int32).toNatClampNeg B.2.1.toNatClampNeg) S.2.2.2.1 V.2.2.2.1 q2.2 0 1 = z := ⟨_, rfl⟩
      rw [zw_l_eq e6] at hF
      refine zw_locals [2, 3, 1, 0] (lv2 := [(0, .ref (a 0)), (1, .int p1), (2, .int 0), (3, .int 1)]) rfl ?_
      refine kX3_sort_loop C hy1 hy2 (dz_hasIn (by assumption) hy2.2.2.2.2.2.1 hy2.2.2.1) 41 (va_cpy B.2.2.2.2.2.1 B.2.2.2.2.2.2 (0 : Int32).toNatClampNeg (0 : Int32).toNatClampNeg B.2.1.toNatClampNeg) S.2.2.2.1 V.2.2.2.1 q2.2 0 1 q5 ⟨1, rfl, by omega, by have := hy1.1; have := hy1.2.1; omega, dz_cpd hy1⟩ e6 ?_
      refine zw_aload_n C dX3_sort_80 0 rfl rfl ?_
      refine zw_get C FX3 0 11 (v := .ref (a 30)) rfl (by decide) lkX3_56 rfl dX3_sort_81 ?_
      refine zw_calli C kvX3_110 (kX2_hasFailure rfl) ⟨rfl, rfl, ⟨by decide, by decide⟩, by decide, by decide⟩ FX2 30 (As := []) (rest := []) rfl rfl rfl (Nat.le_of_ble_eq_true rfl) dX3_sort_84 ?_
      refine zw_if_eq C 98 dX3_sort_87 (by decide) (fun h7 => ?_) (fun h7 => ?_)
      · rw [if_pos h7] at hF
        refine zw_aload_n C dX3_sort_98 0 rfl rfl ?_
        refine zw_aload_n C dX3_sort_99 0 rfl rfl ?_
        refine zw_get C FX3 0 5 (v := .int B.2.1) rfl (by decide) lkX3_27 rfl dX3_sort_100 ?_
        obtain ⟨q8, e9⟩ : ∃ z, fX3_takeDraft B.2.2.2.2.2.1 q5.1 B.2.1 = z := ⟨_, rfl⟩
        rw [zw_l_eq e9] at hF
        refine zw_callv C kvX3_121 (kX3_takeDraft (dz_le hy1) e9) ⟨rfl, rfl, ⟨by decide, by decide⟩, by decide, by decide⟩ FX3 0 (As := [.int B.2.1]) (rest := []) rfl rfl rfl (Nat.le_of_ble_eq_true rfl) dX3_sort_103 ?_
        refine zw_iload_n C dX3_sort_106 2 rfl rfl ?_
        subst hF
        exact zw_ireturn C hr hlk dX3_sort_107 rfl rfl
      · rw [if_neg h7] at hF
        refine zw_aload_n C dX3_sort_90 0 rfl rfl ?_
        refine zw_get C FX3 0 11 (v := .ref (a 30)) rfl (by decide) lkX3_56 rfl dX3_sort_91 ?_
        obtain ⟨q10, e11⟩ : ∃ z, fX2_endFailedCall q5.2.2.2.1 = z := ⟨_, rfl⟩
        rw [zw_l_eq e11] at hF
        refine zw_calli C kvX3_113 (kX2_endFailedCall e11) ⟨rfl, rfl, ⟨by decide, by decide⟩, by decide, by decide⟩ FX2 30 (As := []) (rest := []) rfl rfl rfl (Nat.le_of_ble_eq_true rfl) dX3_sort_94 ?_
        subst hF
        exact zw_ireturn C hr hlk dX3_sort_97 rfl rfl
    · rw [if_pos h4] at hF
      refine zw_bipush C (v := (-2)) dX3_sort_23 (by decide) ?_
      subst hF
      exact zw_ireturn C hr hlk dX3_sort_25 rfl rfl
  · rw [if_pos h1] at hF
    refine zw_iconst C (v := (-1)) dX3_sort_11 (by decide) ?_
    subst hF
    exact zw_ireturn C hr hlk dX3_sort_12 rfl rfl
