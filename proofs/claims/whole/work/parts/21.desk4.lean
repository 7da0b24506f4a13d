def fX3_all_loop (B : dB) : Nat → (Nat → Int32) → Int32 → (Nat → Int32)
  | 0, B5, _ => B5
  | n + 1, B5, x1 => (if B.1 ≤ x1 then B5 else fX3_all_loop B n (upd B5 x1.toNatClampNeg x1) (x1 + 1))
set_option maxHeartbeats 4000000 in
set_option maxRecDepth 100000 in
theorem kX3_all_loop {p : Program} {l : Launch} {e : Env} {s : State} {m : MethodId} {args : Array Value} {below : List Frame} {meth : Method} {c : Code} {A : Nat → Prop} {Q : State → Prop} {D : va_G} {cI cL : ClassId} {a : Nat → Nat} {B : dB} {S : dS} {V : dV} {O : dO} {G : dG} {F : dF} {T : dT} {nt : Nat} (C : zw_C p s m args c D (zw_tys cI cL) A RX3 cX3_all 2) (g1 : nt ≤ 40) (g2 : B.1 = nI nt) : ∀ (n : Nat) (B5 : (Nat → Int32)) (x1 : Int32) (q : (Nat → Int32)), (∃ i : Nat, x1 = nI i ∧ i ≤ nt ∧ nt < i + n) → fX3_all_loop B n B5 x1 = q → (zw_W p l e (zw_rm 0 0) s m args below meth c D A 2 Q 0 0 (wD cI cL a (B.1, B.2.1, B.2.2.1, B.2.2.2.1, B.2.2.2.2.1, q, B.2.2.2.2.2.2) S V O G F T) 23 [(0, .ref (a 0))] []) → zw_W p l e (zw_rm 0 0) s m args below meth c D A 2 Q 0 0 (wD cI cL a (B.1, B.2.1, B.2.2.1, B.2.2.2.1, B.2.2.2.2.1, B5, B.2.2.2.2.2.2) S V O G F T) 2 [(0, .ref (a 0)), (1, .int x1)] [] := by
  intro n
  induction n with
  | zero =>
    intro B5 x1 q hI hF kx
    obtain ⟨i, -, h3, h4⟩ := hI; exact absurd h4 (by omega)
  | succ n ih =>
    intro B5 x1 q hI hF kx
    obtain ⟨i, z1, hi, hn⟩ := hI
    rw [fX3_all_loop] at hF
    refine zw_iload_n C dX3_all_2 1 rfl rfl ?_
    refine zw_aload_n C dX3_all_3 0 rfl rfl ?_
    refine zw_get C FX3 0 1 (v := .int B.1) rfl (by decide) lkX3_13 rfl dX3_all_4 ?_
    refine zw_icmp_ge C 23 dX3_all_7 (by decide) (fun h1 => ?_) (fun h1 => ?_)
    · rw [if_pos h1] at hF
      subst hF
      exact zw_locals [0] rfl kx
    · rw [if_neg h1] at hF
      refine zw_aload_n C dX3_all_10 0 rfl rfl ?_
      refine zw_get C FX3 0 3 (v := .ref (a 3)) rfl (by decide) lkX3_20 rfl dX3_all_11 ?_
      refine zw_iload_n C dX3_all_14 1 rfl rfl ?_
      refine zw_iload_n C dX3_all_15 1 rfl rfl ?_
      refine zw_iast C 3 0 (f := B5) (i := x1) (ws2 := (wD cI cL a (B.1, B.2.1, B.2.2.1, B.2.2.2.1, B.2.2.2.2.1, (upd B5 x1.toNatClampNeg x1), B.2.2.2.2.2.2) S V O G F T)) rfl rfl (by rw [z1]; exact vp_in_nI (by have := dz_lt1 g2 z1 (by assumption) hi g1; omega) (by decide)) rfl dX3_all_16 ?_
      refine zw_iinc C (j := 1) (v := x1 + 1) dX3_all_17 rfl rfl (by decide) rfl ?_
      refine zw_goto C 2 dX3_all_20 (by decide) ?_
      refine zw_locals [1, 0] (lv2 := [(0, .ref (a 0)), (1, .int (x1 + 1))]) rfl ?_
      exact ih (upd B5 x1.toNatClampNeg x1) (x1 + 1) q ⟨i + 1, by rw [z1]; exact nI_1 i, dz_lt1 g2 z1 (by assumption) hi g1, by omega⟩ hF kx
def fX3_all (B : dB) : Int32 × Int32 × (Nat → Int32) := (zw_l (fX3_all_loop B 41 B.2.2.2.2.2.1 0) (fun q1 => (B.1, B.1, q1)))
set_option maxHeartbeats 4000000 in
set_option maxRecDepth 100000 in
theorem kX3_all {l : Launch} {D : va_G} {cI cL : ClassId} {a : Nat → Nat} {B : dB} {S : dS} {V : dV} {O : dO} {G : dG} {F : dF} {T : dT} {q : Int32 × Int32 × (Nat → Int32)} {nt k : Nat} (hy1 : dz_B B nt k) (hF : fX3_all B = q) : zw_Mi l yX3_all cX3_all 2 .int D (zw_tys cI cL) (zw_rm 0 0) [.ref (a 0)] (wD cI cL a B S V O G F T) (wD cI cL a (B.1, q.2.1, B.2.2.1, B.2.2.2.1, B.2.2.2.2.1, q.2.2, B.2.2.2.2.2.2) S V O G F T) q.1 := by
  unfold fX3_all at hF
  refine zw_Mi_of (own := RX3) (by decide) rfl (Nat.le_of_ble_eq_true rfl) ?_
  intro p e s m args below meth c A C hr hlk
  refine zw_eq (lv2 := [(0, .ref (a 0))]) rfl rfl rfl ?_
  refine zw_iconst C (v := 0) dX3_all_0 (by decide) ?_
  refine zw_istore_n C dX3_all_1 rfl (by decide) rfl ?_
  obtain ⟨q1, e2⟩ : ∃ z, fX3_all_loop B 41 B.2.2.2.2.2.1 0 = z := ⟨_, rfl⟩
  rw [zw_l_eq e2] at hF
  refine zw_locals [1, 0] (lv2 := [(0, .ref (a 0)), (1, .int 0)]) rfl ?_
  refine kX3_all_loop C hy1.1 hy1.2.2.1 41 B.2.2.2.2.2.1 0 q1 ⟨0, rfl, Nat.zero_le _, by have := hy1.1; omega⟩ e2 ?_
  refine zw_aload_n C dX3_all_23 0 rfl rfl ?_
  refine zw_aload_n C dX3_all_24 0 rfl rfl ?_
  refine zw_get C FX3 0 1 (v := .int B.1) rfl (by decide) lkX3_13 rfl dX3_all_25 ?_
  refine zw_put C FX3 GX3 0 5 (v := .int B.1) (ws2 := (wD cI cL a (B.1, B.1, B.2.2.1, B.2.2.2.1, B.2.2.2.2.1, q1, B.2.2.2.2.2.2) S V O G F T)) rfl (by decide) lkX3_27 rfl rfl rfl (Nat.le_of_ble_eq_true rfl) rfl dX3_all_28 ?_
  refine zw_aload_n C dX3_all_31 0 rfl rfl ?_
  refine zw_get C FX3 0 5 (v := .int B.1) rfl (by decide) lkX3_27 rfl dX3_all_32 ?_
  subst hF
  exact zw_ireturn C hr hlk dX3_all_35 rfl rfl
def fX3_sum_loop (B : dB) (S : dS) (V : dV) (p1 : Int32) : Nat → (Nat → Int64) → (Nat → Int64) → dT → Int64 → Int32 → (Nat → Int64) × (Nat → Int64) × dT × Int64
  | 0, S3, V3, T, x2, _ => (S3, V3, T, x2)
  | n + 1, S3, V3, T, x2, x4 => (if B.2.1 ≤ x4 then (S3, V3, T, x2) else (if (fX2_hasFailure T) = 0 then (zw_l ((zA B.2.2.2.1 B.2.2.2.2.1 S.1 S.2.1 S.2.2.1 V.1 V.2.1 V.2.2.1 73).1 (S3, V3, T) p1 (B.2.2.2.2.2.1 x4.toNatClampNeg)) (fun q3 => fX3_sum_loop B S V p1 n q3.2.1 q3.2.2.1 q3.2.2.2 (x2 + q3.1) (x4 + 1))) else (S3, V3, T, x2)))
set_option maxHeartbeats 4000000 in
set_option maxRecDepth 100000 in
theorem kX3_sum_loop {p : Program} {l : Launch} {e : Env} {s : State} {m : MethodId} {args : Array Value} {below : List Frame} {meth : Method} {c : Code} {A : Nat → Prop} {Q : State → Prop} {D : va_G} {cI cL : ClassId} {a : Nat → Nat} {B : dB} {S : dS} {V : dV} {O : dO} {G : dG} {F : dF} {p1 : Int32} {nt k sn vn on : Nat} {rs rv ro : Nat → Nat} (C : zw_C p s m args c D (zw_tys cI cL) A RX3 cX3_sum 5) (hy1 : dz_B B nt k) (hy2 : dz_K S V O sn vn on rs rv ro) (hp : vp_in p1 sn) : ∀ (n : Nat) (S3 : (Nat → Int64)) (V3 : (Nat → Int64)) (T : dT) (x2 : Int64) (x4 : Int32) (q : (Nat → Int64) × (Nat → Int64) × dT × Int64), (∃ i : Nat, x4 = nI i ∧ i ≤ k ∧ k < i + n) → fX3_sum_loop B S V p1 n S3 V3 T x2 x4 = q → (zw_W p l e (zw_rm 153 4604) s m args below meth c D A 5 Q 0 0 (wD cI cL a B (S.1, S.2.1, S.2.2.1, q.1, S.2.2.2.2) (V.1, V.2.1, V.2.2.1, q.2.1, V.2.2.2.2) O G F q.2.2.1) 71 [(0, .ref (a 0)), (1, .int p1), (2, .long q.2.2.2)] []) → zw_W p l e (zw_rm 153 4604) s m args below meth c D A 5 Q 0 0 (wD cI cL a B (S.1, S.2.1, S.2.2.1, S3, S.2.2.2.2) (V.1, V.2.1, V.2.2.1, V3, V.2.2.2.2) O G F T) 31 [(0, .ref (a 0)), (1, .int p1), (2, .long x2), (4, .int x4)] [] := by
  intro n
  induction n with
  | zero =>
    intro S3 V3 T x2 x4 q hI hF kx
    obtain ⟨i, -, h3, h4⟩ := hI; exact absurd h4 (by omega)
  | succ n ih =>
    intro S3 V3 T x2 x4 q hI hF kx
    obtain ⟨i, z4, hi, hn⟩ := hI
    rw [fX3_sum_loop] at hF
    refine zw_iload C dX3_sum_31 3 rfl ?_
    refine zw_aload_n C dX3_sum_33 0 rfl rfl ?_
    refine zw_get C FX3 0 5 (v := .int B.2.1) rfl (by decide) lkX3_27 rfl dX3_sum_34 ?_
    refine zw_icmp_ge C 71 dX3_sum_37 (by decide) (fun h1 => ?_) (fun h1 => ?_)
    · rw [if_pos h1] at hF
      subst hF
      exact zw_locals [0, 1, 2] rfl kx
    · rw [if_neg h1] at hF
      refine zw_aload_n C dX3_sum_40 0 rfl rfl ?_
      refine zw_get C FX3 0 11 (v := .ref (a 30)) rfl (by decide) lkX3_56 rfl dX3_sum_41 ?_
      refine zw_calli C kvX3_110 (kX2_hasFailure rfl) ⟨rfl, rfl, ⟨by decide, by decide⟩, by decide, by decide⟩ FX2 30 (As := []) (rest := []) rfl rfl rfl (Nat.le_of_ble_eq_true rfl) dX3_sum_44 ?_
      refine zw_if_ne C 71 dX3_sum_47 (by decide) (fun h2 => ?_) (fun h2 => ?_)
      · rw [if_neg h2] at hF
        subst hF
        exact zw_locals [0, 1, 2] rfl kx
      · rw [if_pos h2] at hF
        refine zw_lload_n C dX3_sum_50 2 rfl rfl ?_
        refine zw_aload_n C dX3_sum_51 0 rfl rfl ?_
        refine zw_iload_n C dX3_sum_52 1 rfl rfl ?_
        refine zw_aload_n C dX3_sum_53 0 rfl rfl ?_
        refine zw_get C FX3 0 3 (v := .ref (a 3)) rfl (by decide) lkX3_20 rfl dX3_sum_54 ?_
        refine zw_iload C dX3_sum_57 3 rfl ?_
        refine zw_iald C 3 0 (f := B.2.2.2.2.2.1) (i := x4) rfl rfl (dz_ixl hy1 z4 hi (by assumption)) dX3_sum_59 ?_
        obtain ⟨q3, e4⟩ : ∃ z, (zA B.2.2.2.1 B.2.2.2.2.1 S.1 S.2.1 S.2.2.1 V.1 V.2.1 V.2.2.1 73).1 (S3, V3, T) p1 (B.2.2.2.2.2.1 x4.toNatClampNeg) = z := ⟨_, rfl⟩
        rw [zw_l_eq e4] at hF
        refine zw_calll C kvX3_106 (kAS hy2 hy1.1 (S3, V3, T) p1 (B.2.2.2.2.2.1 x4.toNatClampNeg) _ hp (dz_li hy1 z4 hi (by assumption)) e4) ⟨rfl, rfl, ⟨by decide, by decide⟩, by decide, by decide⟩ FX3 0 (As := [.int p1, .int (B.2.2.2.2.2.1 x4.toNatClampNeg)]) (rest := [.long x2]) rfl rfl rfl (Nat.le_of_ble_eq_true rfl) dX3_sum_60 ?_
        refine zw_ladd C dX3_sum_63 ?_
        refine zw_lstore_n C dX3_sum_64 rfl (by decide) rfl ?_
        refine zw_iinc C (j := 3) (v := x4 + 1) dX3_sum_65 rfl rfl (by decide) rfl ?_
        refine zw_goto C 31 dX3_sum_68 (by decide) ?_
        refine zw_locals [2, 3, 1, 0] (lv2 := [(0, .ref (a 0)), (1, .int p1), (2, .long (x2 + q3.1)), (4, .int (x4 + 1))]) rfl ?_
        exact ih q3.2.1 q3.2.2.1 q3.2.2.2 (x2 + q3.1) (x4 + 1) q ⟨i + 1, by rw [z4]; exact nI_1 i, dz_lk hy1 z4 (by assumption) hi, by omega⟩ hF kx
def fX3_sum (B : dB) (S : dS) (V : dV) (T : dT) (p1 : Int32) : Int32 × Int64 × (Nat → Int64) × (Nat → Int64) × dT := (if (fX1_has S p1) = 0 then ((-1), B.2.2.1, S.2.2.2.1, V.2.2.2.1, T) else (zw_l (fX2_opensCall T) (fun q2 => (if q2.1 = 0 then ((-2), B.2.2.1, S.2.2.2.1, V.2.2.2.1, q2.2) else (zw_l (fX3_sum_loop B S V p1 41 S.2.2.2.1 V.2.2.2.1 q2.2 0 0) (fun q5 => (if (fX2_hasFailure q5.2.2.1) = 0 then (1, q5.2.2.2, q5.1, q5.2.1, q5.2.2.1) else (zw_l (fX2_endFailedCall q5.2.2.1) (fun q8 => (q8.1, B.2.2.1, q5.1, q5.2.1, q8.2))))))))))
set_option maxHeartbeats 4000000 in
set_option maxRecDepth 100000 in
theorem kX3_sum {l : Launch} {D : va_G} {cI cL : ClassId} {a : Nat → Nat} {B : dB} {S : dS} {V : dV} {O : dO} {G : dG} {F : dF} {T : dT} {p1 : Int32} {q : Int32 × Int64 × (Nat → Int64) × (Nat → Int64) × dT} {nt k sn vn on : Nat} {rs rv ro : Nat → Nat} (hy1 : dz_B B nt k) (hy2 : dz_K S V O sn vn on rs rv ro) (hF : fX3_sum B S V T p1 = q) : zw_Mi l yX3_sum cX3_sum 5 .int D (zw_tys cI cL) (zw_rm 153 4604) [.ref (a 0), .int p1] (wD cI cL a B S V O G F T) (wD cI cL a (B.1, B.2.1, q.2.1, B.2.2.2.1, B.2.2.2.2.1, B.2.2.2.2.2.1, B.2.2.2.2.2.2) (S.1, S.2.1, S.2.2.1, q.2.2.1, S.2.2.2.2) (V.1, V.2.1, V.2.2.1, q.2.2.2.1, V.2.2.2.2) O G F q.2.2.2.2) q.1 := by
  unfold fX3_sum at hF
  refine zw_Mi_of (own := RX3) (by decide) rfl (Nat.le_of_ble_eq_true rfl) ?_
  intro p e s m args below meth c A C hr hlk
  refine zw_eq (lv2 := [(0, .ref (a 0)), (1, .int p1)]) rfl rfl rfl ?_
  refine zw_aload_n C dX3_sum_0 0 rfl rfl ?_
  refine zw_get C FX3 0 6 (v := .ref (a 5)) rfl (by decide) lkX3_33 rfl dX3_sum_1 ?_
  refine zw_iload_n C dX3_sum_4 1 rfl rfl ?_
  refine zw_calli C kvX3_100 (kX1_has_S rfl) ⟨rfl, rfl, ⟨by decide, by decide⟩, by decide, by decide⟩ FX1 5 (As := [.int p1]) (rest := []) rfl rfl rfl (Nat.le_of_ble_eq_true rfl) dX3_sum_5 ?_
  refine zw_if_ne C 13 dX3_sum_8 (by decide) (fun h1 => ?_) (fun h1 => ?_)
  · rw [if_neg h1] at hF
    refine zw_aload_n C dX3_sum_13 0 rfl rfl ?_
    refine zw_get C FX3 0 11 (v := .ref (a 30)) rfl (by decide) lkX3_56 rfl dX3_sum_14 ?_
    obtain ⟨q2, e3⟩ : ∃ z, fX2_opensCall T = z := ⟨_, rfl⟩
    rw [zw_l_eq e3] at hF
    refine zw_calli C kvX3_103 (kX2_opensCall e3) ⟨rfl, rfl, ⟨by decide, by decide⟩, by decide, by decide⟩ FX2 30 (As := []) (rest := []) rfl rfl rfl (Nat.le_of_ble_eq_true rfl) dX3_sum_17 ?_
    refine zw_if_ne C 26 dX3_sum_20 (by decide) (fun h4 => ?_) (fun h4 => ?_)
    · rw [if_neg h4] at hF
      refine zw_lconst C (v := 0) dX3_sum_26 (by decide) ?_
      refine zw_lstore_n C dX3_sum_27 rfl (by decide) rfl ?_
      refine zw_iconst C (v := 0) dX3_sum_28 (by decide) ?_
      refine zw_istore C dX3_sum_29 (by decide) rfl ?_
      obtain ⟨q5, e6⟩ : ∃ z, fX3_sum_loop B S V p1 41 S.2.2.2.1 V.2.2.2.1 q2.2 0 0 = z := ⟨_, rfl⟩
      rw [zw_l_eq e6] at hF
      refine zw_locals [2, 3, 1, 0] (lv2 := [(0, .ref (a 0)), (1, .int p1), (2, .long 0), (4, .int 0)]) rfl ?_
      refine kX3_sum_loop C hy1 hy2 (dz_hasIn (by assumption) hy2.2.2.2.1 hy2.1) 41 S.2.2.2.1 V.2.2.2.1 q2.2 0 0 q5 ⟨0, rfl, Nat.zero_le _, by have := hy1.1; have := hy1.2.1; omega⟩ e6 ?_
      refine zw_aload_n C dX3_sum_71 0 rfl rfl ?_
      refine zw_get C FX3 0 11 (v := .ref (a 30)) rfl (by decide) lkX3_56 rfl dX3_sum_72 ?_
      refine zw_calli C kvX3_110 (kX2_hasFailure rfl) ⟨rfl, rfl, ⟨by decide, by decide⟩, by decide, by decide⟩ FX2 30 (As := []) (rest := []) rfl rfl rfl (Nat.le_of_ble_eq_true rfl) dX3_sum_75 ?_
      refine zw_if_eq C 89 dX3_sum_78 (by decide) (fun h7 => ?_) (fun h7 => ?_)
      · rw [if_pos h7] at hF
        refine zw_aload_n C dX3_sum_89 0 rfl rfl ?_
        refine zw_lload_n C dX3_sum_90 2 rfl rfl ?_
        refine zw_put C FX3 GX3 0 12 (v := .long q5.2.2.2) (ws2 := (wD cI cL a (B.1, B.2.1, q5.2.2.2, B.2.2.2.1, B.2.2.2.2.1, B.2.2.2.2.2.1, B.2.2.2.2.2.2) (S.1, S.2.1, S.2.2.1, q5.1, S.2.2.2.2) (V.1, V.2.1, V.2.2.1, q5.2.1, V.2.2.2.2) O G F q5.2.2.1)) rfl (by decide) lkX3_60 rfl rfl rfl (Nat.le_of_ble_eq_true rfl) rfl dX3_sum_91 ?_
        refine zw_iconst C (v := 1) dX3_sum_94 (by decide) ?_
        subst hF
        exact zw_ireturn C hr hlk dX3_sum_95 rfl rfl
      · rw [if_neg h7] at hF
        refine zw_aload_n C dX3_sum_81 0 rfl rfl ?_
        refine zw_get C FX3 0 11 (v := .ref (a 30)) rfl (by decide) lkX3_56 rfl dX3_sum_82 ?_
        obtain ⟨q8, e9⟩ : ∃ z, fX2_endFailedCall q5.2.2.1 = z := ⟨_, rfl⟩
        rw [zw_l_eq e9] at hF
        refine zw_calli C kvX3_113 (kX2_endFailedCall e9) ⟨rfl, rfl, ⟨by decide, by decide⟩, by decide, by decide⟩ FX2 30 (As := []) (rest := []) rfl rfl rfl (Nat.le_of_ble_eq_true rfl) dX3_sum_85 ?_
        subst hF
        exact zw_ireturn C hr hlk dX3_sum_88 rfl rfl
    · rw [if_pos h4] at hF
      refine zw_bipush C (v := (-2)) dX3_sum_23 (by decide) ?_
      subst hF
      exact zw_ireturn C hr hlk dX3_sum_25 rfl rfl
  · rw [if_pos h1] at hF
    refine zw_iconst C (v := (-1)) dX3_sum_11 (by decide) ?_
    subst hF
    exact zw_ireturn C hr hlk dX3_sum_12 rfl rfl
def fX3_sift_loop (B : dB) (S : dS) (V : dV) (p1 : Int32) : Nat → (Nat → Int32) → (Nat → Int64) → (Nat → Int64) → dT → Int32 → Int32 → (Nat → Int32) × (Nat → Int64) × (Nat → Int64) × dT × Int32
  | 0, B6, S3, V3, T, x2, _ => (B6, S3, V3, T, x2)
  | n + 1, B6, S3, V3, T, x2, x3 => (if B.2.1 ≤ x3 then (B6, S3, V3, T, x2) else (if (fX2_hasFailure T) = 0 then (zw_l ((zA B.2.2.2.1 B.2.2.2.2.1 S.1 S.2.1 S.2.2.1 V.1 V.2.1 V.2.2.1 73).2 (S3, V3, T) p1 (B.2.2.2.2.2.1 x3.toNatClampNeg)) (fun q3 => (if q3.1 = 0 then fX3_sift_loop B S V p1 n B6 q3.2.1 q3.2.2.1 q3.2.2.2 x2 (x3 + 1) else fX3_sift_loop B S V p1 n (upd B6 x2.toNatClampNeg (B.2.2.2.2.2.1 x3.toNatClampNeg)) q3.2.1 q3.2.2.1 q3.2.2.2 (x2 + 1) (x3 + 1)))) else (B6, S3, V3, T, x2)))
set_option maxHeartbeats 4000000 in
set_option maxRecDepth 100000 in
theorem kX3_sift_loop {p : Program} {l : Launch} {e : Env} {s : State} {m : MethodId} {args : Array Value} {below : List Frame} {meth : Method} {c : Code} {A : Nat → Prop} {Q : State → Prop} {D : va_G} {cI cL : ClassId} {a : Nat → Nat} {B : dB} {S : dS} {V : dV} {O : dO} {G : dG} {F : dF} {p1 : Int32} {nt k sn vn on : Nat} {rs rv ro : Nat → Nat} (C : zw_C p s m args c D (zw_tys cI cL) A RX3 cX3_sift 4) (hy1 : dz_B B nt k) (hy2 : dz_K S V O sn vn on rs rv ro) (hp : vp_in p1 vn) : ∀ (n : Nat) (B6 : (Nat → Int32)) (S3 : (Nat → Int64)) (V3 : (Nat → Int64)) (T : dT) (x2 : Int32) (x3 : Int32) (q : (Nat → Int32) × (Nat → Int64) × (Nat → Int64) × dT × Int32), (∃ i j : Nat, x3 = nI i ∧ x2 = nI j ∧ j ≤ i ∧ i ≤ k ∧ k < i + n) → fX3_sift_loop B S V p1 n B6 S3 V3 T x2 x3 = q → ((∃ j : Nat, j ≤ k ∧ q.2.2.2.2 = nI j) → zw_W p l e (zw_rm 153 4604) s m args below meth c D A 4 Q 0 0 (wD cI cL a (B.1, B.2.1, B.2.2.1, B.2.2.2.1, B.2.2.2.2.1, B.2.2.2.2.2.1, q.1) (S.1, S.2.1, S.2.2.1, q.2.1, S.2.2.2.2) (V.1, V.2.1, V.2.2.1, q.2.2.1, V.2.2.2.2) O G F q.2.2.2.1) 83 [(0, .ref (a 0)), (1, .int p1), (2, .int q.2.2.2.2)] []) → zw_W p l e (zw_rm 153 4604) s m args below meth c D A 4 Q 0 0 (wD cI cL a (B.1, B.2.1, B.2.2.1, B.2.2.2.1, B.2.2.2.2.1, B.2.2.2.2.2.1, B6) (S.1, S.2.1, S.2.2.1, S3, S.2.2.2.2) (V.1, V.2.1, V.2.2.1, V3, V.2.2.2.2) O G F T) 30 [(0, .ref (a 0)), (1, .int p1), (2, .int x2), (3, .int x3)] [] := by
  intro n
  induction n with
  | zero =>
    intro B6 S3 V3 T x2 x3 q hI hF kx
    obtain ⟨i, j, -, -, -, h3, h4⟩ := hI; exact absurd h4 (by omega)
  | succ n ih =>
    intro B6 S3 V3 T x2 x3 q hI hF kx
    obtain ⟨i, j, z3, z2, hj, hi, hn⟩ := hI
    rw [fX3_sift_loop] at hF
    refine zw_iload_n C dX3_sift_30 3 rfl rfl ?_
    refine zw_aload_n C dX3_sift_31 0 rfl rfl ?_
    refine zw_get C FX3 0 5 (v := .int B.2.1) rfl (by decide) lkX3_27 rfl dX3_sift_32 ?_
    refine zw_icmp_ge C 83 dX3_sift_35 (by decide) (fun h1 => ?_) (fun h1 => ?_)
    · rw [if_pos h1] at hF
      subst hF
      exact zw_locals [0, 1, 2] rfl (kx ⟨j, by omega, z2⟩)
    · rw [if_neg h1] at hF
      refine zw_aload_n C dX3_sift_38 0 rfl rfl ?_
      refine zw_get C FX3 0 11 (v := .ref (a 30)) rfl (by decide) lkX3_56 rfl dX3_sift_39 ?_
      refine zw_calli C kvX3_110 (kX2_hasFailure rfl) ⟨rfl, rfl, ⟨by decide, by decide⟩, by decide, by decide⟩ FX2 30 (As := []) (rest := []) rfl rfl rfl (Nat.le_of_ble_eq_true rfl) dX3_sift_42 ?_
      refine zw_if_ne C 83 dX3_sift_45 (by decide) (fun h2 => ?_) (fun h2 => ?_)
      · rw [if_neg h2] at hF
        subst hF
        exact zw_locals [0, 1, 2] rfl (kx ⟨j, by omega, z2⟩)
      · rw [if_pos h2] at hF
        refine zw_aload_n C dX3_sift_48 0 rfl rfl ?_
        refine zw_iload_n C dX3_sift_49 1 rfl rfl ?_
        refine zw_aload_n C dX3_sift_50 0 rfl rfl ?_
        refine zw_get C FX3 0 3 (v := .ref (a 3)) rfl (by decide) lkX3_20 rfl dX3_sift_51 ?_
        refine zw_iload_n C dX3_sift_54 3 rfl rfl ?_
        refine zw_iald C 3 0 (f := B.2.2.2.2.2.1) (i := x3) rfl rfl (dz_ixl hy1 z3 hi (by assumption)) dX3_sift_55 ?_
        obtain ⟨q3, e4⟩ : ∃ z, (zA B.2.2.2.1 B.2.2.2.2.1 S.1 S.2.1 S.2.2.1 V.1 V.2.1 V.2.2.1 73).2 (S3, V3, T) p1 (B.2.2.2.2.2.1 x3.toNatClampNeg) = z := ⟨_, rfl⟩
        rw [zw_l_eq e4] at hF
        refine zw_calli C kvX3_117 (kAV hy2 hy1.1 (S3, V3, T) p1 (B.2.2.2.2.2.1 x3.toNatClampNeg) _ hp (dz_li hy1 z3 hi (by assumption)) e4) ⟨rfl, rfl, ⟨by decide, by decide⟩, by decide, by decide⟩ FX3 0 (As := [.int p1, .int (B.2.2.2.2.2.1 x3.toNatClampNeg)]) (rest := []) rfl rfl rfl (Nat.le_of_ble_eq_true rfl) dX3_sift_56 ?_
        refine zw_if_eq C 77 dX3_sift_59 (by decide) (fun h5 => ?_) (fun h5 => ?_)
        · rw [if_pos h5] at hF
          refine zw_iinc C (j := 3) (v := x3 + 1) dX3_sift_77 rfl rfl (by decide) rfl ?_
          refine zw_goto C 30 dX3_sift_80 (by decide) ?_
          refine zw_locals [1, 2, 3, 0] (lv2 := [(0, .ref (a 0)), (1, .int p1), (2, .int x2), (3, .int (x3 + 1))]) rfl ?_
          exact ih B6 q3.2.1 q3.2.2.1 q3.2.2.2 x2 (x3 + 1) q ⟨i + 1, j, by rw [z3]; exact nI_1 i, z2, by omega, dz_lk hy1 z3 (by assumption) hi, by omega⟩ hF kx
        · rw [if_neg h5] at hF
          refine zw_aload_n C dX3_sift_62 0 rfl rfl ?_
          refine zw_get C FX3 0 4 (v := .ref (a 4)) rfl (by decide) lkX3_24 rfl dX3_sift_63 ?_
          refine zw_iload_n C dX3_sift_66 2 rfl rfl ?_
          refine zw_aload_n C dX3_sift_67 0 rfl rfl ?_
          refine zw_get C FX3 0 3 (v := .ref (a 3)) rfl (by decide) lkX3_20 rfl dX3_sift_68 ?_
          refine zw_iload_n C dX3_sift_71 3 rfl rfl ?_
          refine zw_iald C 3 0 (f := B.2.2.2.2.2.1) (i := x3) rfl rfl (dz_ixl hy1 z3 hi (by assumption)) dX3_sift_72 ?_
          refine zw_iast C 4 0 (f := B6) (i := x2) (ws2 := (wD cI cL a (B.1, B.2.1, B.2.2.1, B.2.2.2.1, B.2.2.2.2.1, B.2.2.2.2.2.1, (upd B6 x2.toNatClampNeg (B.2.2.2.2.2.1 x3.toNatClampNeg))) (S.1, S.2.1, S.2.2.1, q3.2.1, S.2.2.2.2) (V.1, V.2.1, V.2.2.1, q3.2.2.1, V.2.2.2.2) O G F q3.2.2.2)) rfl rfl (dz_ixd hy1 z3 hi (by assumption) z2 hj) rfl dX3_sift_73 ?_
          refine zw_iinc C (j := 2) (v := x2 + 1) dX3_sift_74 rfl rfl (by decide) rfl ?_
          refine zw_iinc C (j := 3) (v := x3 + 1) dX3_sift_77 rfl rfl (by decide) rfl ?_
          refine zw_goto C 30 dX3_sift_80 (by decide) ?_
          refine zw_locals [2, 3, 1, 0] (lv2 := [(0, .ref (a 0)), (1, .int p1), (2, .int (x2 + 1)), (3, .int (x3 + 1))]) rfl ?_
          exact ih (upd B6 x2.toNatClampNeg (B.2.2.2.2.2.1 x3.toNatClampNeg)) q3.2.1 q3.2.2.1 q3.2.2.2 (x2 + 1) (x3 + 1) q ⟨i + 1, j + 1, by rw [z3]; exact nI_1 i, by rw [z2]; exact nI_1 j, by omega, dz_lk hy1 z3 (by assumption) hi, by omega⟩ hF kx
def fX3_sift (B : dB) (S : dS) (V : dV) (T : dT) (p1 : Int32) : Int32 × Int32 × (Nat → Int32) × (Nat → Int32) × (Nat → Int64) × (Nat → Int64) × dT := (if (fX1_has V p1) = 0 then ((-1), B.2.1, B.2.2.2.2.2.1, B.2.2.2.2.2.2, S.2.2.2.1, V.2.2.2.1, T) else (zw_l (fX2_opensCall T) (fun q2 => (if q2.1 = 0 then ((-2), B.2.1, B.2.2.2.2.2.1, B.2.2.2.2.2.2, S.2.2.2.1, V.2.2.2.1, q2.2) else (zw_l (fX3_sift_loop B S V p1 41 B.2.2.2.2.2.2 S.2.2.2.1 V.2.2.2.1 q2.2 0 0) (fun q5 => (if (fX2_hasFailure q5.2.2.2.1) = 0 then (zw_l (fX3_takeDraft B.2.2.2.2.2.1 q5.1 q5.2.2.2.2) (fun q8 => (q5.2.2.2.2, q8.1, q8.2, q5.1, q5.2.1, q5.2.2.1, q5.2.2.2.1))) else (zw_l (fX2_endFailedCall q5.2.2.2.1) (fun q10 => (q10.1, B.2.1, B.2.2.2.2.2.1, q5.1, q5.2.1, q5.2.2.1, q10.2))))))))))
set_option maxHeartbeats 4000000 in
set_option maxRecDepth 100000 in
theorem kX3_sift {l : Launch} {D : va_G} {cI cL : ClassId} {a : Nat → Nat} {B : dB} {S : dS} {V : dV} {O : dO} {G : dG} {F : dF} {T : dT} {p1 : Int32} {q : Int32 × Int32 × (Nat → Int32) × (Nat → Int32) × (Nat → Int64) × (Nat → Int64) × dT} {nt k sn vn on : Nat} {rs rv ro : Nat → Nat} (hy1 : dz_B B nt k) (hy2 : dz_K S V O sn vn on rs rv ro) (hF : fX3_sift B S V T p1 = q) : zw_Mi l yX3_sift cX3_sift 4 .int D (zw_tys cI cL) (zw_rm 153 4604) [.ref (a 0), .int p1] (wD cI cL a B S V O G F T) (wD cI cL a (B.1, q.2.1, B.2.2.1, B.2.2.2.1, B.2.2.2.2.1, q.2.2.1, q.2.2.2.1) (S.1, S.2.1, S.2.2.1, q.2.2.2.2.1, S.2.2.2.2) (V.1, V.2.1, V.2.2.1, q.2.2.2.2.2.1, V.2.2.2.2) O G F q.2.2.2.2.2.2) q.1 := by
  unfold fX3_sift at hF
  refine zw_Mi_of (own := RX3) (by decide) rfl (Nat.le_of_ble_eq_true rfl) ?_
  intro p e s m args below meth c A C hr hlk
  refine zw_eq (lv2 := [(0, .ref (a 0)), (1, .int p1)]) rfl rfl rfl ?_
  refine zw_aload_n C dX3_sift_0 0 rfl rfl ?_
  refine zw_get C FX3 0 7 (v := .ref (a 10)) rfl (by decide) lkX3_37 rfl dX3_sift_1 ?_
  refine zw_iload_n C dX3_sift_4 1 rfl rfl ?_
  refine zw_calli C kvX3_100 (kX1_has_V rfl) ⟨rfl, rfl, ⟨by decide, by decide⟩, by decide, by decide⟩ FX1 10 (As := [.int p1]) (rest := []) rfl rfl rfl (Nat.le_of_ble_eq_true rfl) dX3_sift_5 ?_
  refine zw_if_ne C 13 dX3_sift_8 (by decide) (fun h1 => ?_) (fun h1 => ?_)
  · rw [if_neg h1] at hF
    refine zw_aload_n C dX3_sift_13 0 rfl rfl ?_
    refine zw_get C FX3 0 11 (v := .ref (a 30)) rfl (by decide) lkX3_56 rfl dX3_sift_14 ?_
    obtain ⟨q2, e3⟩ : ∃ z, fX2_opensCall T = z := ⟨_, rfl⟩
    rw [zw_l_eq e3] at hF
    refine zw_calli C kvX3_103 (kX2_opensCall e3) ⟨rfl, rfl, ⟨by decide, by decide⟩, by decide, by decide⟩ FX2 30 (As := []) (rest := []) rfl rfl rfl (Nat.le_of_ble_eq_true rfl) dX3_sift_17 ?_
    refine zw_if_ne C 26 dX3_sift_20 (by decide) (fun h4 => ?_) (fun h4 => ?_)
    · rw [if_neg h4] at hF
      refine zw_iconst C (v := 0) dX3_sift_26 (by decide) ?_
      refine zw_istore_n C dX3_sift_27 rfl (by decide) rfl ?_
      refine zw_iconst C (v := 0) dX3_sift_28 (by decide) ?_
      refine zw_istore_n C dX3_sift_29 rfl (by decide) rfl ?_
      obtain ⟨q5, e6⟩ : ∃ z, fX3_sift_loop B S V p1 41 B.2.2.2.2.2.2 S.2.2.2.1 V.2.2.2.1 q2.2 0 0 = z := ⟨_, rfl⟩
      rw [zw_l_eq e6] at hF
      refine zw_locals [2, 3, 1, 0] (lv2 := [(0, .ref (a 0)), (1, .int p1), (2, .int 0), (3, .int 0)]) rfl ?_
      refine kX3_sift_loop C hy1 hy2 (dz_hasIn (by assumption) hy2.2.2.2.2.1 hy2.2.1) 41 B.2.2.2.2.2.2 S.2.2.2.1 V.2.2.2.1 q2.2 0 0 q5 ⟨0, 0, rfl, rfl, Nat.le_refl _, Nat.zero_le _, by have := hy1.1; have := hy1.2.1; omega⟩ e6 (fun e6p => ?_)
      refine zw_aload_n C dX3_sift_83 0 rfl rfl ?_
      refine zw_get C FX3 0 11 (v := .ref (a 30)) rfl (by decide) lkX3_56 rfl dX3_sift_84 ?_
      refine zw_calli C kvX3_110 (kX2_hasFailure rfl) ⟨rfl, rfl, ⟨by decide, by decide⟩, by decide, by decide⟩ FX2 30 (As := []) (rest := []) rfl rfl rfl (Nat.le_of_ble_eq_true rfl) dX3_sift_87 ?_
      refine zw_if_eq C 101 dX3_sift_90 (by decide) (fun h7 => ?_) (fun h7 => ?_)
      · rw [if_pos h7] at hF
        refine zw_aload_n C dX3_sift_101 0 rfl rfl ?_
        refine zw_iload_n C dX3_sift_102 2 rfl rfl ?_
        obtain ⟨q8, e9⟩ : ∃ z, fX3_takeDraft B.2.2.2.2.2.1 q5.1 q5.2.2.2.2 = z := ⟨_, rfl⟩
        rw [zw_l_eq e9] at hF
        refine zw_callv C kvX3_121 (kX3_takeDraft (dz_pl hy1 (by assumption)) e9) ⟨rfl, rfl, ⟨by decide, by decide⟩, by decide, by decide⟩ FX3 0 (As := [.int q5.2.2.2.2]) (rest := []) rfl rfl rfl (Nat.le_of_ble_eq_true rfl) dX3_sift_103 ?_
        refine zw_iload_n C dX3_sift_106 2 rfl rfl ?_
        subst hF
        exact zw_ireturn C hr hlk dX3_sift_107 rfl rfl
      · rw [if_neg h7] at hF
        refine zw_aload_n C dX3_sift_93 0 rfl rfl ?_
        refine zw_get C FX3 0 11 (v := .ref (a 30)) rfl (by decide) lkX3_56 rfl dX3_sift_94 ?_
        obtain ⟨q10, e11⟩ : ∃ z, fX2_endFailedCall q5.2.2.2.1 = z := ⟨_, rfl⟩
        rw [zw_l_eq e11] at hF
        refine zw_calli C kvX3_113 (kX2_endFailedCall e11) ⟨rfl, rfl, ⟨by decide, by decide⟩, by decide, by decide⟩ FX2 30 (As := []) (rest := []) rfl rfl rfl (Nat.le_of_ble_eq_true rfl) dX3_sift_97 ?_
        subst hF
        exact zw_ireturn C hr hlk dX3_sift_100 rfl rfl
    · rw [if_pos h4] at hF
      refine zw_bipush C (v := (-2)) dX3_sift_23 (by decide) ?_
      subst hF
      exact zw_ireturn C hr hlk dX3_sift_25 rfl rfl
  · rw [if_pos h1] at hF
    refine zw_iconst C (v := (-1)) dX3_sift_11 (by decide) ?_
    subst hF
    exact zw_ireturn C hr hlk dX3_sift_12 rfl rfl
