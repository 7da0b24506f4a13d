def fX3_moveForward_loop (B : dB) (S : dS) (V : dV) (O : dO) (p1 x3 : Int32) : Nat → (Nat → Int32) → (Nat → Int64) → (Nat → Int64) → dT → Int32 → (Nat → Int32) × (Nat → Int64) × (Nat → Int64) × dT × Int32
  | 0, B6, S3, V3, T, x4 => (B6, S3, V3, T, x4)
  | n + 1, B6, S3, V3, T, x4 => (if x4 ≤ 0 then (B6, S3, V3, T, x4) else (zw_l (zO B.2.2.2.1 B.2.2.2.2.1 S.1 S.2.1 S.2.2.1 V.1 V.2.1 V.2.2.1 O.1 O.2.1 O.2.2.1 73 (S3, V3, T) p1 (B6 (x4 - 1).toNatClampNeg) x3) (fun q2 => (if q2.1 = 1 then fX3_moveForward_loop B S V O p1 x3 n (upd B6 x4.toNatClampNeg (B6 (x4 - 1).toNatClampNeg)) q2.2.1 q2.2.2.1 q2.2.2.2 (x4 + (-1)) else (B6, q2.2.1, q2.2.2.1, q2.2.2.2, x4)))))
set_option maxHeartbeats 4000000 in
set_option maxRecDepth 100000 in
theorem kX3_moveForward_loop {p : Program} {l : Launch} {e : Env} {s : State} {m : MethodId} {args : Array Value} {below : List Frame} {meth : Method} {c : Code} {A : Nat → Prop} {Q : State → Prop} {D : va_G} {cI cL : ClassId} {a : Nat → Nat} {B : dB} {S : dS} {V : dV} {O : dO} {G : dG} {F : dF} {x3 : Int32} {p1 p2 : Int32} {nt k sn vn on : Nat} {rs rv ro : Nat → Nat} (C : zw_C p s m args c D (zw_tys cI cL) A RX3 cX3_moveForward 5) (hy1 : dz_B B nt k) (hy2 : dz_K S V O sn vn on rs rv ro) (hp : vp_in p1 on) (h3 : vp_in x3 nt) : ∀ (n : Nat) (B6 : (Nat → Int32)) (S3 : (Nat → Int64)) (V3 : (Nat → Int64)) (T : dT) (x4 : Int32) (q : (Nat → Int32) × (Nat → Int64) × (Nat → Int64) × dT × Int32), (∃ i : Nat, x4 = nI i ∧ i < k ∧ i < n ∧ ∀ j, j < k → vp_in (B6 j) nt) → fX3_moveForward_loop B S V O p1 x3 n B6 S3 V3 T x4 = q → ((∃ i : Nat, q.2.2.2.2 = nI i ∧ i < k ∧ ∀ j, j < k → vp_in (q.1 j) nt) → zw_W p l e (zw_rm 153 4605) s m args below meth c D A 5 Q 0 0 (wD cI cL a (B.1, B.2.1, B.2.2.1, B.2.2.2.1, B.2.2.2.2.1, B.2.2.2.2.2.1, q.1) (S.1, S.2.1, S.2.2.1, q.2.1, S.2.2.2.2) (V.1, V.2.1, V.2.2.1, q.2.2.1, V.2.2.2.2) O G F q.2.2.2.1) 56 [(0, .ref (a 0)), (1, .int p1), (2, .int p2), (3, .int x3), (4, .int q.2.2.2.2)] []) → zw_W p l e (zw_rm 153 4605) s m args below meth c D A 5 Q 0 0 (wD cI cL a (B.1, B.2.1, B.2.2.1, B.2.2.2.1, B.2.2.2.2.1, B.2.2.2.2.2.1, B6) (S.1, S.2.1, S.2.2.1, S3, S.2.2.2.2) (V.1, V.2.1, V.2.2.1, V3, V.2.2.2.2) O G F T) 10 [(0, .ref (a 0)), (1, .int p1), (2, .int p2), (3, .int x3), (4, .int x4)] [] := by
  intro n
  induction n with
  | zero =>
    intro B6 S3 V3 T x4 q hI hF kx
    obtain ⟨i, -, -, h4, -⟩ := hI; exact absurd h4 (by omega)
  | succ n ih =>
    intro B6 S3 V3 T x4 q hI hF kx
    obtain ⟨i, z4, hi, hn, hd⟩ := hI
    rw [fX3_moveForward_loop] at hF
    refine zw_iload C dX3_moveForward_10 4 rfl ?_
    refine zw_if_le C 56 dX3_moveForward_12 (by decide) (fun h1 => ?_) (fun h1 => ?_)
    · rw [if_pos h1] at hF
      subst hF
      exact zw_locals [0, 1, 2, 3, 4] rfl (kx ⟨i, z4, hi, hd⟩)
    · rw [if_neg h1] at hF
      refine zw_aload_n C dX3_moveForward_15 0 rfl rfl ?_
      refine zw_iload_n C dX3_moveForward_16 1 rfl rfl ?_
      refine zw_aload_n C dX3_moveForward_17 0 rfl rfl ?_
      refine zw_get C FX3 0 4 (v := .ref (a 4)) rfl (by decide) lkX3_24 rfl dX3_moveForward_18 ?_
      refine zw_iload C dX3_moveForward_21 4 rfl ?_
      refine zw_iconst C (v := 1) dX3_moveForward_23 (by decide) ?_
      refine zw_isub C dX3_moveForward_24 ?_
      refine zw_iald C 4 0 (f := B6) (i := (x4 - 1)) rfl rfl (by obtain ⟨m, em, e5, -⟩ := dz_pred z4 (by have := hy1.1; have := hy1.2.1; omega) (by assumption); rw [e5]; exact vp_in_nI (by have := hy1.1; have := hy1.2.1; omega) (by decide)) dX3_moveForward_25 ?_
      refine zw_iload_n C dX3_moveForward_26 3 rfl rfl ?_
      obtain ⟨q2, e3⟩ : ∃ z, zO B.2.2.2.1 B.2.2.2.2.1 S.1 S.2.1 S.2.2.1 V.1 V.2.1 V.2.2.1 O.1 O.2.1 O.2.2.1 73 (S3, V3, T) p1 (B6 (x4 - 1).toNatClampNeg) x3 = z := ⟨_, rfl⟩
      rw [zw_l_eq e3] at hF
      refine zw_calli C kvX3_165 (kAO hy2 hy1.1 (S3, V3, T) p1 (B6 (x4 - 1).toNatClampNeg) x3 _ hp (by obtain ⟨m, em, e5, -⟩ := dz_pred z4 (by have := hy1.1; have := hy1.2.1; omega) (by assumption); rw [e5, nI_clamp (by have := hy1.1; have := hy1.2.1; omega)]; exact hd m (by omega)) h3 e3) ⟨rfl, rfl, ⟨by decide, by decide⟩, by decide, by decide⟩ FX3 0 (As := [.int p1, .int (B6 (x4 - 1).toNatClampNeg), .int x3]) (rest := []) rfl rfl rfl (Nat.le_of_ble_eq_true rfl) dX3_moveForward_27 ?_
      refine zw_iconst C (v := 1) dX3_moveForward_30 (by decide) ?_
      refine zw_icmp_ne C 56 dX3_moveForward_31 (by decide) (fun h4 => ?_) (fun h4 => ?_)
      · rw [if_neg h4] at hF
        subst hF
        exact zw_locals [0, 1, 2, 3, 4] rfl (kx ⟨i, z4, hi, hd⟩)
      · rw [if_pos h4] at hF
        refine zw_aload_n C dX3_moveForward_34 0 rfl rfl ?_
        refine zw_get C FX3 0 4 (v := .ref (a 4)) rfl (by decide) lkX3_24 rfl dX3_moveForward_35 ?_
        refine zw_iload C dX3_moveForward_38 4 rfl ?_
        refine zw_aload_n C dX3_moveForward_40 0 rfl rfl ?_
        refine zw_get C FX3 0 4 (v := .ref (a 4)) rfl (by decide) lkX3_24 rfl dX3_moveForward_41 ?_
        refine zw_iload C dX3_moveForward_44 4 rfl ?_
        refine zw_iconst C (v := 1) dX3_moveForward_46 (by decide) ?_
        refine zw_isub C dX3_moveForward_47 ?_
        refine zw_iald C 4 0 (f := B6) (i := (x4 - 1)) rfl rfl (by obtain ⟨m, em, e5, -⟩ := dz_pred z4 (by have := hy1.1; have := hy1.2.1; omega) (by assumption); rw [e5]; exact vp_in_nI (by have := hy1.1; have := hy1.2.1; omega) (by decide)) dX3_moveForward_48 ?_
        refine zw_iast C 4 0 (f := B6) (i := x4) (ws2 := (wD cI cL a (B.1, B.2.1, B.2.2.1, B.2.2.2.1, B.2.2.2.2.1, B.2.2.2.2.2.1, (upd B6 x4.toNatClampNeg (B6 (x4 - 1).toNatClampNeg))) (S.1, S.2.1, S.2.2.1, q2.2.1, S.2.2.2.2) (V.1, V.2.1, V.2.2.1, q2.2.2.1, V.2.2.2.2) O G F q2.2.2.2)) rfl rfl (by rw [z4]; exact vp_in_nI (by have := hy1.1; have := hy1.2.1; omega) (by decide)) rfl dX3_moveForward_49 ?_
        refine zw_iinc C (j := 4) (v := x4 + (-1)) dX3_moveForward_50 rfl rfl (by decide) rfl ?_
        refine zw_goto C 10 dX3_moveForward_53 (by decide) ?_
        refine zw_locals [1, 2, 3, 4, 0] (lv2 := [(0, .ref (a 0)), (1, .int p1), (2, .int p2), (3, .int x3), (4, .int (x4 + (-1)))]) rfl ?_
        exact ih (upd B6 x4.toNatClampNeg (B6 (x4 - 1).toNatClampNeg)) q2.2.1 q2.2.2.1 q2.2.2.2 (x4 + (-1)) q (by obtain ⟨m, em, e5, e6⟩ := dz_pred z4 (by have := hy1.1; have := hy1.2.1; omega) (by assumption); exact ⟨m, e6, by omega, by omega, dz_up hd (by obtain ⟨m2, em2, e7, -⟩ := dz_pred z4 (by have := hy1.1; have := hy1.2.1; omega) (by assumption); rw [e7, nI_clamp (by have := hy1.1; have := hy1.2.1; omega)]; exact hd m2 (by omega))⟩) hF kx
def fX3_moveForward (B : dB) (S : dS) (V : dV) (O : dO) (B6 : (Nat → Int32)) (S3 : (Nat → Int64)) (V3 : (Nat → Int64)) (T : dT) (p1 : Int32) (p2 : Int32) : Int32 × (Nat → Int32) × (Nat → Int64) × (Nat → Int64) × dT := (zw_l (fX3_moveForward_loop B S V O p1 (B6 p2.toNatClampNeg) 41 B6 S3 V3 T p2) (fun q1 => (p2 - q1.2.2.2.2, (upd q1.1 q1.2.2.2.2.toNatClampNeg (B6 p2.toNatClampNeg)), q1.2.1, q1.2.2.1, q1.2.2.2.1)))
set_option maxHeartbeats 4000000 in
set_option maxRecDepth 100000 in
theorem kX3_moveForward {l : Launch} {D : va_G} {cI cL : ClassId} {a : Nat → Nat} {B : dB} {S : dS} {V : dV} {O : dO} {G : dG} {F : dF} {T : dT} {p1 : Int32} {p2 : Int32} {q : Int32 × (Nat → Int32) × (Nat → Int64) × (Nat → Int64) × dT} {B6 : Nat → Int32} {S3 V3 : Nat → Int64} {nt k sn vn on : Nat} {rs rv ro : Nat → Nat} (hy1 : dz_B B nt k) (hy2 : dz_K S V O sn vn on rs rv ro) (hy3 : ∃ i : Nat, i < k ∧ p2 = nI i) (hy4 : vp_in p1 on) (hy5 : ∀ j, j < k → vp_in (B6 j) nt) (hF : fX3_moveForward B S V O B6 S3 V3 T p1 p2 = q) : zw_Mi l yX3_moveForward cX3_moveForward 5 .int D (zw_tys cI cL) (zw_rm 153 4605) [.ref (a 0), .int p1, .int p2] (wD cI cL a (B.1, B.2.1, B.2.2.1, B.2.2.2.1, B.2.2.2.2.1, B.2.2.2.2.2.1, B6) (S.1, S.2.1, S.2.2.1, S3, S.2.2.2.2) (V.1, V.2.1, V.2.2.1, V3, V.2.2.2.2) O G F T) (wD cI cL a (B.1, B.2.1, B.2.2.1, B.2.2.2.1, B.2.2.2.2.1, B.2.2.2.2.2.1, q.2.1) (S.1, S.2.1, S.2.2.1, q.2.2.1, S.2.2.2.2) (V.1, V.2.1, V.2.2.1, q.2.2.2.1, V.2.2.2.2) O G F q.2.2.2.2) q.1 := by
  unfold fX3_moveForward at hF
  refine zw_Mi_of (own := RX3) (by decide) rfl (Nat.le_of_ble_eq_true rfl) ?_
  intro p e s m args below meth c A C hr hlk
  refine zw_eq (lv2 := [(0, .ref (a 0)), (1, .int p1), (2, .int p2)]) rfl rfl rfl ?_
  refine zw_aload_n C dX3_moveForward_0 0 rfl rfl ?_
  refine zw_get C FX3 0 4 (v := .ref (a 4)) rfl (by decide) lkX3_24 rfl dX3_moveForward_1 ?_
  refine zw_iload_n C dX3_moveForward_4 2 rfl rfl ?_
  refine zw_iald C 4 0 (f := B6) (i := p2) rfl rfl (dz_ix40 hy1 hy3) dX3_moveForward_5 ?_
  refine zw_istore_n C dX3_moveForward_6 rfl (by decide) rfl ?_
  refine zw_iload_n C dX3_moveForward_7 3 rfl rfl ?_
  refine zw_istore C dX3_moveForward_8 (by decide) rfl ?_
  obtain ⟨q1, e2⟩ : ∃ z, fX3_moveForward_loop B S V O p1 (B6 p2.toNatClampNeg) 41 B6 S3 V3 T p2 = z := ⟨_, rfl⟩
  rw [zw_l_eq e2] at hF
  refine zw_locals [2, 3, 4, 1, 0] (lv2 := [(0, .ref (a 0)), (1, .int p1), (2, .int p2), (3, .int (B6 p2.toNatClampNeg)), (4, .int p2)]) rfl ?_
  refine kX3_moveForward_loop C hy1 hy2 hy4 (dz_dr hy1 hy3 hy5) 41 B6 S3 V3 T p2 q1 (by obtain ⟨i, hi, ei⟩ := hy3; exact ⟨i, ei, hi, by have := hy1.1; have := hy1.2.1; omega, hy5⟩) e2 (fun e2p => ?_)
  refine zw_aload_n C dX3_moveForward_56 0 rfl rfl ?_
  refine zw_get C FX3 0 4 (v := .ref (a 4)) rfl (by decide) lkX3_24 rfl dX3_moveForward_57 ?_
  refine zw_iload C dX3_moveForward_60 4 rfl ?_
  refine zw_iload_n C dX3_moveForward_62 3 rfl rfl ?_
  refine zw_iast C 4 0 (f := q1.1) (i := q1.2.2.2.2) (ws2 := (wD cI cL a (B.1, B.2.1, B.2.2.1, B.2.2.2.1, B.2.2.2.2.1, B.2.2.2.2.2.1, (upd q1.1 q1.2.2.2.2.toNatClampNeg (B6 p2.toNatClampNeg))) (S.1, S.2.1, S.2.2.1, q1.2.1, S.2.2.2.2) (V.1, V.2.1, V.2.2.1, q1.2.2.1, V.2.2.2.2) O G F q1.2.2.2.1)) rfl rfl (dz_ix40p hy1 (by assumption)) rfl dX3_moveForward_63 ?_
  refine zw_iload_n C dX3_moveForward_64 2 rfl rfl ?_
  refine zw_iload C dX3_moveForward_65 4 rfl ?_
  refine zw_isub C dX3_moveForward_67 ?_
  subst hF
  exact zw_ireturn C hr hlk dX3_moveForward_68 rfl rfl
