/-! THE LAW: its loop, and its start -/
def zB0 : dB := (0, 0, 0, (fun _ => (0 : Int64)), (fun _ => (0 : Int64)), (fun _ => (0 : Int32)), (fun _ => (0 : Int32)))
def zS0 : dS := ((fun _ => (0 : Int32)), (fun _ => (0 : Int32)), (fun _ => (0 : Int32)), (fun _ => (0 : Int64)), 0)
def zG0 : dG := ((fun _ => (0 : Int64)), (fun _ => (0 : Int32)), (fun _ => (0 : Int64)), (fun _ => (0 : Int32)), 0)
def zT0 : dT := (0, 0, 0, 0, 0, 0)
theorem rel0 : zRel zB0 zS0 zS0 zS0 zG0 zT0 (0 : Int32) (0 : Int32) (0 : Int64) (fun _ => (0 : Int64)) (fun _ => (0 : Int64)) (fun _ => (0 : Int32)) (fun _ => (0 : Int32)) (fun _ => (0 : Int32)) (fun _ => (0 : Int32)) (fun _ => (0 : Int32)) (fun _ => (0 : Int64)) (fun _ => (0 : Int32)) (0 : Int32) (0 : Int32) (0 : Int32) (0 : Int32) (0 : Int32) (0 : Int32) (fun _ => (0 : Int64)) (fun _ => (0 : Int32)) (fun _ => (0 : Int64)) (fun _ => (0 : Int32)) 0 0 0 0 0 0 0 (fun _ => 0) (fun _ => 0) (fun _ => 0) := by
  have j0 : ∀ {P : Nat → Prop} (j : Nat), j < 0 → P j := fun j hj => absurd hj (Nat.not_lt_zero j)
  exact ⟨⟨⟨Nat.zero_le _, Nat.le_refl _, rfl, rfl, fun j hj => absurd hj (Nat.not_lt_zero j)⟩, rfl, rfl, rfl, rfl, rfl, fun j hj => absurd hj (Nat.not_lt_zero j)⟩, ⟨⟨Nat.zero_le _, Nat.zero_le _, Nat.zero_le _, rfl, rfl, rfl, ⟨fun j hj => absurd hj (Nat.not_lt_zero j), fun j hj => absurd hj (Nat.not_lt_zero j), fun j hj => absurd hj (Nat.not_lt_zero j)⟩, fun j hj => absurd hj (Nat.not_lt_zero j), fun j hj => absurd hj (Nat.not_lt_zero j), fun j hj => absurd hj (Nat.not_lt_zero j)⟩, ⟨fun j hj => absurd hj (Nat.not_lt_zero j), fun j hj => absurd hj (Nat.not_lt_zero j), fun j hj => absurd hj (Nat.not_lt_zero j)⟩, rfl, rfl, rfl⟩, ⟨rfl, rfl, rfl, rfl, rfl, rfl⟩, ⟨fun j hj => absurd hj (Nat.not_lt_zero j), fun j hj => absurd hj (Nat.not_lt_zero j)⟩, ⟨Nat.zero_le _, rfl, rfl, fun j hj => absurd hj (Nat.not_lt_zero j)⟩⟩
theorem lawInv_up {cI cL : ClassId} {x0 y0 mm mm2 : Nat} {ws : va_W} (h : lawInv cI cL x0 y0 mm ws) (hle : mm ≤ mm2) : lawInv cI cL x0 y0 mm2 ws := by
  obtain ⟨a, b, B, S, V, O, G, F, T, B0, B1, B2, B3, B4, B5, B6, K0, K1, K2, K3, K4, E0, M0, M1, M2, M3, M4, M5, M6, M7, U0, U1, U2, U3, U4, U5, G0, G1, G2, G3, G4, N0, N1, N2, N3, nt, k, sn, vn, on, g, m, rs, rv, ro, h1, h2, h3, h4, h5⟩ := h
  exact ⟨a, b, B, S, V, O, G, F, T, B0, B1, B2, B3, B4, B5, B6, K0, K1, K2, K3, K4, E0, M0, M1, M2, M3, M4, M5, M6, M7, U0, U1, U2, U3, U4, U5, G0, G1, G2, G3, G4, N0, N1, N2, N3, nt, k, sn, vn, on, g, m, rs, rv, ro, h1, h2, Nat.le_trans h3 hle, h4, h5⟩
set_option maxHeartbeats 1000000 in
theorem law_loop {p : Program} {l : Launch} {e : Env} {s : State} {mi : MethodId} {below : List Frame} {meth : Method} {c : Code} {D : va_G} {cI cL : ClassId} {b L : Nat} {xs : Nat → Int32} (hL : L ≤ 3584) (C : zw_C p s mi #[Value.ref b] c D (zw_tys cI cL) (fun q : Nat => s.heap.size ≤ q) RL cL_law 4) (X : zw_X s (fun q : Nat => s.heap.size ≤ q) b L xs) (hr : meth.sig.returnType = ret) (hlk : meth.locks = false) {x0 y0 : Nat} : ∀ (n j : Nat) (ws : va_W), 7 * j ≤ L → L < 7 * j + 7 * n → lawInv cI cL x0 y0 (2000 * j) ws → zw_W p l e room_1 s mi #[Value.ref b] below meth c D (fun q : Nat => s.heap.size ≤ q) 4 (lw_Z below #[Value.ref b] s) 55 2187 ws 18 [(0, .ref b), (1, .ref x0), (2, .ref y0), (3, .int (nI (7 * j)))] [] := by
  intro n
  induction n with
  | zero => intro j ws h1 h2; exact absurd h2 (by omega)
  | succ n ih =>
    intro j ws h1 h2 hI
    refine zw_iload_n C dL_law_18 3 rfl rfl ?_
    refine zw_aload_n C dL_law_19 0 rfl rfl ?_
    refine zw_slen C X dL_law_20 ?_
    refine zw_bipush (v := 7) C dL_law_21 (by decide) ?_
    refine zw_isub C dL_law_23 ?_
    refine zw_icmp_gt C 798 dL_law_24 (by decide) (fun hgt => ?_) (fun hle => ?_)
    · refine zw_iconst (v := 1) C dL_law_798 (by decide) ?_
      intro H locs ls hP hD hS hl
      refine va_forget (fun q hq => hS.2.2 q hq) ?_
      refine W.widen (k := 600000) (n := 7302250) (by decide) (by decide) ?_
      exact lw_ret C.1 C.2.1 hr hlk dL_law_799
    · have hlt : 7 * j + 7 ≤ L := by
        have e1 : (nI L - 7).toInt = (L : Int) - (7 : Nat) := pk_sub_toInt (a := L) (b := 7) (by omega) (by decide)
        have e2 : (nI (7 * j)).toInt = ((7 * j : Nat) : Int) := nI_toInt (by omega)
        have h3 : ¬ (nI L - 7).toInt < (nI (7 * j)).toInt := fun z => hle (Int32.lt_iff_toInt_lt.mpr z)
        rw [e1, e2] at h3
        omega
      have hv : ∀ i : Nat, i < 7 → vp_in (nI (7 * j) + nI i) L := fun i hi => by rw [nI_add]; exact vp_in_nI (by omega) (by omega)
      have hv0 : vp_in (nI (7 * j)) L := vp_in_nI (by omega) (by omega)
      refine zw_aload_n C dL_law_27 0 rfl rfl ?_
      refine zw_iload_n C dL_law_28 3 rfl rfl ?_
      refine zw_sld C X hv0 dL_law_29 ?_
      refine zw_bipush (v := 31) C dL_law_30 (by decide) ?_
      refine zw_iand C dL_law_32 ?_
      have K : ∀ ws2 : va_W, lawInv cI cL x0 y0 (2000 * j + 2000) ws2 → zw_W p l e room_1 s mi #[Value.ref b] below meth c D (fun q : Nat => s.heap.size ≤ q) 4 (lw_Z below #[Value.ref b] s) 55 2187 ws2 792 [(0, .ref b), (1, .ref x0), (2, .ref y0), (3, .int (nI (7 * j)))] [] := by
        intro ws2 hI2
        refine zw_iinc (v := nI (7 * (j + 1))) (lv2 := [(3, .int (nI (7 * (j + 1)))), (0, .ref b), (1, .ref x0), (2, .ref y0)]) C dL_law_792 (j := 3) rfl (by rw [show Int32.ofInt 7 = nI 7 from by decide]; exact nI_add _ _) (by decide) rfl ?_
        refine zw_goto C 18 dL_law_795 (by decide) ?_
        refine zw_locals [1, 2, 3, 0] rfl ?_
        exact ih (j + 1) ws2 (by omega) (by omega) hI2
      have hmm : 2000 * j + 2000 ≤ 2000000 := by omega
      have hR : (55 : Nat) ≤ room_1.cells ∧ (2187 : Nat) ≤ room_1.slots := ⟨by decide, by decide⟩
      obtain ⟨cs, hcs, ecs⟩ := pk_andE (xs (nI (7 * j)).toNatClampNeg) (m := 31) 5 (by decide)
      rw [ecs]
      have h17 : cs = 0 ∨ cs = 1 ∨ cs = 2 ∨ cs = 3 ∨ cs = 4 ∨ cs = 5 ∨ cs = 6 ∨ cs = 7 ∨ cs = 8 ∨ cs = 9 ∨ cs = 10 ∨ cs = 11 ∨ cs = 12 ∨ cs = 13 ∨ cs = 14 ∨ cs = 15 ∨ cs = 16 ∨ 16 < cs := by omega
      rcases h17 with rfl | rfl | rfl | rfl | rfl | rfl | rfl | rfl | rfl | rfl | rfl | rfl | rfl | rfl | rfl | rfl | rfl | h17
      · exact zw_tableIn C 116 dL_law_33 (by decide) (by decide) rfl (by decide) (lawc_0 C X hR hv hmm hI K)
      · exact zw_tableIn C 251 dL_law_33 (by decide) (by decide) rfl (by decide) (lawc_1 C X hR hv hmm hI K)
      · exact zw_tableIn C 324 dL_law_33 (by decide) (by decide) rfl (by decide) (lawc_2 C X hR hv hmm hI K)
      · exact zw_tableIn C 358 dL_law_33 (by decide) (by decide) rfl (by decide) (lawc_3 C X hR hv hmm hI K)
      · exact zw_tableIn C 421 dL_law_33 (by decide) (by decide) rfl (by decide) (lawc_4 C X hR hv hmm hI K)
      · exact zw_tableIn C 464 dL_law_33 (by decide) (by decide) rfl (by decide) (lawc_5 C X hR hv hmm hI K)
      · exact zw_tableIn C 507 dL_law_33 (by decide) (by decide) rfl (by decide) (lawc_6 C X hR hv hmm hI K)
      · exact zw_tableIn C 550 dL_law_33 (by decide) (by decide) rfl (by decide) (lawc_7 C X hR hv hmm hI K)
      · exact zw_tableIn C 563 dL_law_33 (by decide) (by decide) rfl (by decide) (lawc_8 C X hR hv hmm hI K)
      · exact zw_tableIn C 596 dL_law_33 (by decide) (by decide) rfl (by decide) (lawc_9 C X hR hv hmm hI K)
      · exact zw_tableIn C 619 dL_law_33 (by decide) (by decide) rfl (by decide) (lawc_10 C X hR hv hmm hI K)
      · exact zw_tableIn C 642 dL_law_33 (by decide) (by decide) rfl (by decide) (lawc_11 C X hR hv hmm hI K)
      · exact zw_tableIn C 665 dL_law_33 (by decide) (by decide) rfl (by decide) (lawc_12 C X hR hv hmm hI K)
      · exact zw_tableIn C 698 dL_law_33 (by decide) (by decide) rfl (by decide) (lawc_13 C X hR hv hmm hI K)
      · exact zw_tableIn C 712 dL_law_33 (by decide) (by decide) rfl (by decide) (lawc_14 C X hR hv hmm hI K)
      · exact zw_tableIn C 735 dL_law_33 (by decide) (by decide) rfl (by decide) (lawc_15 C X hR hv hmm hI K)
      · exact zw_tableIn C 769 dL_law_33 (by decide) (by decide) rfl (by decide) (lawc_16 C X hR hv hmm hI K)
      · refine zw_tableOut C 792 dL_law_33 (Or.inr ?_) (by decide) (K ws (lawInv_up hI (by omega)))
        rw [nI_toInt (by omega)]
        omega
theorem lknL_7 : Cond.classLink RL 7 RX3 ∈ zw_tbl ∧ Cond.instantiable RX3 13 ∈ zw_tbl ∧ Cond.initialized RX3 ∈ zw_tbl := ⟨(zw_in1 8 rfl rfl), (zw_in1 9 rfl rfl), (zw_in1 1 rfl rfl)⟩
theorem lknL_10 : Cond.classLink RL 10 RX4 ∈ zw_tbl ∧ Cond.instantiable RX4 36 ∈ zw_tbl ∧ Cond.initialized RX4 ∈ zw_tbl := ⟨(zw_in2 106 rfl rfl), (zw_in2 107 rfl rfl), (zw_in1 5 rfl rfl)⟩
theorem lktL_9 : Cond.code yX3_init cX3_init 1 none ∈ zw_tbl ∧ Cond.initialized yX3_init.cls ∈ zw_tbl ∧ Cond.methodLink RL 9 yX3_init ∈ zw_tbl ∧ Cond.instanceMethod yX3_init ∈ zw_tbl := ⟨(zw_in1 12 rfl rfl), (zw_in1 1 rfl rfl), (zw_in1 10 rfl rfl), (zw_in1 11 rfl rfl)⟩
theorem lktL_12 : Cond.code yX4_init cX4_init 1 none ∈ zw_tbl ∧ Cond.initialized yX4_init.cls ∈ zw_tbl ∧ Cond.methodLink RL 12 yX4_init ∈ zw_tbl ∧ Cond.instanceMethod yX4_init ∈ zw_tbl := ⟨(zw_in2 110 rfl rfl), (zw_in1 5 rfl rfl), (zw_in2 108 rfl rfl), (zw_in2 109 rfl rfl)⟩
set_option maxHeartbeats 1000000 in
theorem law_start {p : Program} {l : Launch} {e : Env} {s : State} {mi : MethodId} {below : List Frame} {meth : Method} {c : Code} {D : va_G} {cI cL : ClassId} {b L : Nat} {xs : Nat → Int32} (hL : L ≤ 3584) (C : zw_C p s mi #[Value.ref b] c D (zw_tys cI cL) (fun q : Nat => s.heap.size ≤ q) RL cL_law 4) (X : zw_X s (fun q : Nat => s.heap.size ≤ q) b L xs) (hN : zw_N3 s) (hr : meth.sig.returnType = ret) (hlk : meth.locks = false) : zw_W p l e room_1 s mi #[Value.ref b] below meth c D (fun q : Nat => s.heap.size ≤ q) 4 (lw_Z below #[Value.ref b] s) 0 0 [] 0 [(0, .ref b)] [] := by
  refine zw_new C FX3 GX3 (fun x0 => [(x0, .inr (3, [.null, .int 0, .null, .null, .null, .int 0, .null, .null, .null, .null, .null, .null, .long 0]))]) [.null, .int 0, .null, .null, .null, .int 0, .null, .null, .null, .null, .null, .null, .long 0] lknL_7 (fun j hj => match j, hj with | 0, _ => rfl | 1, _ => rfl | 2, _ => rfl | 3, _ => rfl | 4, _ => rfl | 5, _ => rfl | 6, _ => rfl | 7, _ => rfl | 8, _ => rfl | 9, _ => rfl | 10, _ => rfl | 11, _ => rfl | 12, _ => rfl | j + 13, hj => absurd hj (by omega)) (by decide) (by decide) (fun _ => rfl) dL_law_0 (fun x0 => ?_)
  refine zw_dup C dL_law_3 rfl ?_
  refine zw_fctorN C hN (wc := [(x0, .inr (3, [.null, .int 0, .null, .null, .null, .int 0, .null, .null, .null, .null, .null, .null, .long 0]))]) (wr := []) (rest := [.ref x0]) (fun u : Nat×Nat×Nat×Nat×Nat×Nat×Nat×Nat×Nat×Nat×Nat×Nat×Nat×Nat×Nat×Nat×Nat×Nat×Nat×Nat×Nat×Nat×Nat×Nat×Nat×Nat×Nat×Nat×Nat×Nat => (wD cI cL (fun k => ([x0, u.1, u.2.1, u.2.2.1, u.2.2.2.1, u.2.2.2.2.1, u.2.2.2.2.2.1, u.2.2.2.2.2.2.1, u.2.2.2.2.2.2.2.1, u.2.2.2.2.2.2.2.2.1, u.2.2.2.2.2.2.2.2.2.1, u.2.2.2.2.2.2.2.2.2.2.1, u.2.2.2.2.2.2.2.2.2.2.2.1, u.2.2.2.2.2.2.2.2.2.2.2.2.1, u.2.2.2.2.2.2.2.2.2.2.2.2.2.1, u.2.2.2.2.2.2.2.2.2.2.2.2.2.2.1, u.2.2.2.2.2.2.2.2.2.2.2.2.2.2.2.1, u.2.2.2.2.2.2.2.2.2.2.2.2.2.2.2.2.1, u.2.2.2.2.2.2.2.2.2.2.2.2.2.2.2.2.2.1, u.2.2.2.2.2.2.2.2.2.2.2.2.2.2.2.2.2.2.1, u.2.2.2.2.2.2.2.2.2.2.2.2.2.2.2.2.2.2.2.1, u.2.2.2.2.2.2.2.2.2.2.2.2.2.2.2.2.2.2.2.2.1, u.2.2.2.2.2.2.2.2.2.2.2.2.2.2.2.2.2.2.2.2.2.1, u.2.2.2.2.2.2.2.2.2.2.2.2.2.2.2.2.2.2.2.2.2.2.1, u.2.2.2.2.2.2.2.2.2.2.2.2.2.2.2.2.2.2.2.2.2.2.2.1, u.2.2.2.2.2.2.2.2.2.2.2.2.2.2.2.2.2.2.2.2.2.2.2.2.1, u.2.2.2.2.2.2.2.2.2.2.2.2.2.2.2.2.2.2.2.2.2.2.2.2.2.1, u.2.2.2.2.2.2.2.2.2.2.2.2.2.2.2.2.2.2.2.2.2.2.2.2.2.2.1, u.2.2.2.2.2.2.2.2.2.2.2.2.2.2.2.2.2.2.2.2.2.2.2.2.2.2.2.1, u.2.2.2.2.2.2.2.2.2.2.2.2.2.2.2.2.2.2.2.2.2.2.2.2.2.2.2.2.1, u.2.2.2.2.2.2.2.2.2.2.2.2.2.2.2.2.2.2.2.2.2.2.2.2.2.2.2.2.2] : List Nat).getD k 0) zB0 zS0 zS0 zS0 zG0 zG0 zT0)) lktL_9 ⟨rfl, by decide, by decide, by decide⟩ kX3_init ⟨rfl, rfl, ⟨by decide, by decide⟩, by decide, by decide⟩ [0] [] rfl rfl rfl rfl (fun i hi => absurd hi (by simp)) rfl (Nat.le_of_ble_eq_true rfl) (fun _ => rfl) dL_law_4 (fun u => ?_)
  refine zw_astore_n (i := 1) (lv2 := [(1, .ref x0), (0, .ref b)]) C dL_law_7 rfl (by decide) rfl ?_
  refine zw_new C FX4 GX4 (fun y0 => (wD cI cL (fun k => ([x0, u.1, u.2.1, u.2.2.1, u.2.2.2.1, u.2.2.2.2.1, u.2.2.2.2.2.1, u.2.2.2.2.2.2.1, u.2.2.2.2.2.2.2.1, u.2.2.2.2.2.2.2.2.1, u.2.2.2.2.2.2.2.2.2.1, u.2.2.2.2.2.2.2.2.2.2.1, u.2.2.2.2.2.2.2.2.2.2.2.1, u.2.2.2.2.2.2.2.2.2.2.2.2.1, u.2.2.2.2.2.2.2.2.2.2.2.2.2.1, u.2.2.2.2.2.2.2.2.2.2.2.2.2.2.1, u.2.2.2.2.2.2.2.2.2.2.2.2.2.2.2.1, u.2.2.2.2.2.2.2.2.2.2.2.2.2.2.2.2.1, u.2.2.2.2.2.2.2.2.2.2.2.2.2.2.2.2.2.1, u.2.2.2.2.2.2.2.2.2.2.2.2.2.2.2.2.2.2.1, u.2.2.2.2.2.2.2.2.2.2.2.2.2.2.2.2.2.2.2.1, u.2.2.2.2.2.2.2.2.2.2.2.2.2.2.2.2.2.2.2.2.1, u.2.2.2.2.2.2.2.2.2.2.2.2.2.2.2.2.2.2.2.2.2.1, u.2.2.2.2.2.2.2.2.2.2.2.2.2.2.2.2.2.2.2.2.2.2.1, u.2.2.2.2.2.2.2.2.2.2.2.2.2.2.2.2.2.2.2.2.2.2.2.1, u.2.2.2.2.2.2.2.2.2.2.2.2.2.2.2.2.2.2.2.2.2.2.2.2.1, u.2.2.2.2.2.2.2.2.2.2.2.2.2.2.2.2.2.2.2.2.2.2.2.2.2.1, u.2.2.2.2.2.2.2.2.2.2.2.2.2.2.2.2.2.2.2.2.2.2.2.2.2.2.1, u.2.2.2.2.2.2.2.2.2.2.2.2.2.2.2.2.2.2.2.2.2.2.2.2.2.2.2.1, u.2.2.2.2.2.2.2.2.2.2.2.2.2.2.2.2.2.2.2.2.2.2.2.2.2.2.2.2.1, u.2.2.2.2.2.2.2.2.2.2.2.2.2.2.2.2.2.2.2.2.2.2.2.2.2.2.2.2.2] : List Nat).getD k 0) zB0 zS0 zS0 zS0 zG0 zG0 zT0) ++ [(y0, .inr (4, [.int 0, .null, .null, .int 0, .null, .null, .null, .null, .null, .null, .null, .int 0, .null, .null, .null, .null, .null, .long 0, .int 0, .int 0, .int 0, .int 0, .int 0, .int 0, .int 0, .long 0, .int 0, .null, .null, .null, .null, .null, .null, .null, .null, .null]))]) [.int 0, .null, .null, .int 0, .null, .null, .null, .null, .null, .null, .null, .int 0, .null, .null, .null, .null, .null, .long 0, .int 0, .int 0, .int 0, .int 0, .int 0, .int 0, .int 0, .long 0, .int 0, .null, .null, .null, .null, .null, .null, .null, .null, .null] lknL_10 (fun j hj => match j, hj with | 0, _ => rfl | 1, _ => rfl | 2, _ => rfl | 3, _ => rfl | 4, _ => rfl | 5, _ => rfl | 6, _ => rfl | 7, _ => rfl | 8, _ => rfl | 9, _ => rfl | 10, _ => rfl | 11, _ => rfl | 12, _ => rfl | 13, _ => rfl | 14, _ => rfl | 15, _ => rfl | 16, _ => rfl | 17, _ => rfl | 18, _ => rfl | 19, _ => rfl | 20, _ => rfl | 21, _ => rfl | 22, _ => rfl | 23, _ => rfl | 24, _ => rfl | 25, _ => rfl | 26, _ => rfl | 27, _ => rfl | 28, _ => rfl | 29, _ => rfl | 30, _ => rfl | 31, _ => rfl | 32, _ => rfl | 33, _ => rfl | 34, _ => rfl | 35, _ => rfl | j + 36, hj => absurd hj (by omega)) (by decide) (by decide) (fun _ => rfl) dL_law_8 (fun y0 => ?_)
  refine zw_dup C dL_law_11 rfl ?_
  refine zw_fctor C (wc := [(y0, .inr (4, [.int 0, .null, .null, .int 0, .null, .null, .null, .null, .null, .null, .null, .int 0, .null, .null, .null, .null, .null, .long 0, .int 0, .int 0, .int 0, .int 0, .int 0, .int 0, .int 0, .long 0, .int 0, .null, .null, .null, .null, .null, .null, .null, .null, .null]))]) (wr := (wD cI cL (fun k => ([x0, u.1, u.2.1, u.2.2.1, u.2.2.2.1, u.2.2.2.2.1, u.2.2.2.2.2.1, u.2.2.2.2.2.2.1, u.2.2.2.2.2.2.2.1, u.2.2.2.2.2.2.2.2.1, u.2.2.2.2.2.2.2.2.2.1, u.2.2.2.2.2.2.2.2.2.2.1, u.2.2.2.2.2.2.2.2.2.2.2.1, u.2.2.2.2.2.2.2.2.2.2.2.2.1, u.2.2.2.2.2.2.2.2.2.2.2.2.2.1, u.2.2.2.2.2.2.2.2.2.2.2.2.2.2.1, u.2.2.2.2.2.2.2.2.2.2.2.2.2.2.2.1, u.2.2.2.2.2.2.2.2.2.2.2.2.2.2.2.2.1, u.2.2.2.2.2.2.2.2.2.2.2.2.2.2.2.2.2.1, u.2.2.2.2.2.2.2.2.2.2.2.2.2.2.2.2.2.2.1, u.2.2.2.2.2.2.2.2.2.2.2.2.2.2.2.2.2.2.2.1, u.2.2.2.2.2.2.2.2.2.2.2.2.2.2.2.2.2.2.2.2.1, u.2.2.2.2.2.2.2.2.2.2.2.2.2.2.2.2.2.2.2.2.2.1, u.2.2.2.2.2.2.2.2.2.2.2.2.2.2.2.2.2.2.2.2.2.2.1, u.2.2.2.2.2.2.2.2.2.2.2.2.2.2.2.2.2.2.2.2.2.2.2.1, u.2.2.2.2.2.2.2.2.2.2.2.2.2.2.2.2.2.2.2.2.2.2.2.2.1, u.2.2.2.2.2.2.2.2.2.2.2.2.2.2.2.2.2.2.2.2.2.2.2.2.2.1, u.2.2.2.2.2.2.2.2.2.2.2.2.2.2.2.2.2.2.2.2.2.2.2.2.2.2.1, u.2.2.2.2.2.2.2.2.2.2.2.2.2.2.2.2.2.2.2.2.2.2.2.2.2.2.2.1, u.2.2.2.2.2.2.2.2.2.2.2.2.2.2.2.2.2.2.2.2.2.2.2.2.2.2.2.2.1, u.2.2.2.2.2.2.2.2.2.2.2.2.2.2.2.2.2.2.2.2.2.2.2.2.2.2.2.2.2] : List Nat).getD k 0) zB0 zS0 zS0 zS0 zG0 zG0 zT0)) (rest := [.ref y0]) (fun w : Nat×Nat×Nat×Nat×Nat×Nat×Nat×Nat×Nat×Nat×Nat×Nat×Nat×Nat×Nat×Nat×Nat×Nat×Nat×Nat×Nat×Nat×Nat => (wD cI cL (fun k => ([x0, u.1, u.2.1, u.2.2.1, u.2.2.2.1, u.2.2.2.2.1, u.2.2.2.2.2.1, u.2.2.2.2.2.2.1, u.2.2.2.2.2.2.2.1, u.2.2.2.2.2.2.2.2.1, u.2.2.2.2.2.2.2.2.2.1, u.2.2.2.2.2.2.2.2.2.2.1, u.2.2.2.2.2.2.2.2.2.2.2.1, u.2.2.2.2.2.2.2.2.2.2.2.2.1, u.2.2.2.2.2.2.2.2.2.2.2.2.2.1, u.2.2.2.2.2.2.2.2.2.2.2.2.2.2.1, u.2.2.2.2.2.2.2.2.2.2.2.2.2.2.2.1, u.2.2.2.2.2.2.2.2.2.2.2.2.2.2.2.2.1, u.2.2.2.2.2.2.2.2.2.2.2.2.2.2.2.2.2.1, u.2.2.2.2.2.2.2.2.2.2.2.2.2.2.2.2.2.2.1, u.2.2.2.2.2.2.2.2.2.2.2.2.2.2.2.2.2.2.2.1, u.2.2.2.2.2.2.2.2.2.2.2.2.2.2.2.2.2.2.2.2.1, u.2.2.2.2.2.2.2.2.2.2.2.2.2.2.2.2.2.2.2.2.2.1, u.2.2.2.2.2.2.2.2.2.2.2.2.2.2.2.2.2.2.2.2.2.2.1, u.2.2.2.2.2.2.2.2.2.2.2.2.2.2.2.2.2.2.2.2.2.2.2.1, u.2.2.2.2.2.2.2.2.2.2.2.2.2.2.2.2.2.2.2.2.2.2.2.2.1, u.2.2.2.2.2.2.2.2.2.2.2.2.2.2.2.2.2.2.2.2.2.2.2.2.2.1, u.2.2.2.2.2.2.2.2.2.2.2.2.2.2.2.2.2.2.2.2.2.2.2.2.2.2.1, u.2.2.2.2.2.2.2.2.2.2.2.2.2.2.2.2.2.2.2.2.2.2.2.2.2.2.2.1, u.2.2.2.2.2.2.2.2.2.2.2.2.2.2.2.2.2.2.2.2.2.2.2.2.2.2.2.2.1, u.2.2.2.2.2.2.2.2.2.2.2.2.2.2.2.2.2.2.2.2.2.2.2.2.2.2.2.2.2] : List Nat).getD k 0) zB0 zS0 zS0 zS0 zG0 zG0 zT0) ++ (wM cI cL (fun k => ([y0, w.1, w.2.1, w.2.2.1, w.2.2.2.1, w.2.2.2.2.1, w.2.2.2.2.2.1, w.2.2.2.2.2.2.1, w.2.2.2.2.2.2.2.1, w.2.2.2.2.2.2.2.2.1, w.2.2.2.2.2.2.2.2.2.1, w.2.2.2.2.2.2.2.2.2.2.1, w.2.2.2.2.2.2.2.2.2.2.2.1, w.2.2.2.2.2.2.2.2.2.2.2.2.1, w.2.2.2.2.2.2.2.2.2.2.2.2.2.1, w.2.2.2.2.2.2.2.2.2.2.2.2.2.2.1, w.2.2.2.2.2.2.2.2.2.2.2.2.2.2.2.1, w.2.2.2.2.2.2.2.2.2.2.2.2.2.2.2.2.1, w.2.2.2.2.2.2.2.2.2.2.2.2.2.2.2.2.2.1, w.2.2.2.2.2.2.2.2.2.2.2.2.2.2.2.2.2.2.1, w.2.2.2.2.2.2.2.2.2.2.2.2.2.2.2.2.2.2.2.1, w.2.2.2.2.2.2.2.2.2.2.2.2.2.2.2.2.2.2.2.2.1, w.2.2.2.2.2.2.2.2.2.2.2.2.2.2.2.2.2.2.2.2.2.1, w.2.2.2.2.2.2.2.2.2.2.2.2.2.2.2.2.2.2.2.2.2.2] : List Nat).getD k 0) (0 : Int32) (0 : Int32) (0 : Int64) (fun _ => (0 : Int64)) (fun _ => (0 : Int64)) (fun _ => (0 : Int32)) (fun _ => (0 : Int32)) (fun _ => (0 : Int32)) (fun _ => (0 : Int32)) (fun _ => (0 : Int32)) (fun _ => (0 : Int32)) (fun _ => (0 : Int64)) (fun _ => (0 : Int32)) (0 : Int32) (fun _ => (0 : Int32)) (fun _ => (0 : Int32)) (fun _ => (0 : Int32)) (fun _ => (0 : Int32)) (fun _ => (0 : Int64)) (0 : Int64) (0 : Int32) (0 : Int32) (0 : Int32) (0 : Int32) (0 : Int32) (0 : Int32) (0 : Int32) (0 : Int32) (fun _ => (0 : Int64)) (fun _ => (0 : Int32)) (fun _ => (0 : Int64)) (fun _ => (0 : Int32)) (fun _ => (0 : Int64)) (fun _ => (0 : Int32)) (fun _ => (0 : Int64)) (fun _ => (0 : Int32)))) lktL_12 ⟨rfl, by decide, by decide, by decide⟩ kX4_init ⟨rfl, rfl, ⟨by decide, by decide⟩, by decide, by decide⟩ [31] (List.range 31) rfl (fr_C _ _ rfl) nd31.1 rfl (fun i hi h => by have h1 := List.mem_range.mp hi; have h2 := List.mem_singleton.mp h; omega) rfl (Nat.le_of_ble_eq_true rfl) (fun _ => rfl) dL_law_12 (fun w => ?_)
  refine zw_astore_n (i := 2) (lv2 := [(2, .ref y0), (1, .ref x0), (0, .ref b)]) C dL_law_15 rfl (by decide) rfl ?_
  refine zw_iconst (v := 0) C dL_law_16 (by decide) ?_
  refine zw_istore_n (i := 3) (lv2 := [(3, .int 0), (2, .ref y0), (1, .ref x0), (0, .ref b)]) C dL_law_17 rfl (by decide) rfl ?_
  refine zw_locals [3, 2, 1, 0] rfl ?_
  exact law_loop hL C X hr hlk (L + 1) 0 _ (Nat.zero_le _) (by omega) ⟨(fun k => ([x0, u.1, u.2.1, u.2.2.1, u.2.2.2.1, u.2.2.2.2.1, u.2.2.2.2.2.1, u.2.2.2.2.2.2.1, u.2.2.2.2.2.2.2.1, u.2.2.2.2.2.2.2.2.1, u.2.2.2.2.2.2.2.2.2.1, u.2.2.2.2.2.2.2.2.2.2.1, u.2.2.2.2.2.2.2.2.2.2.2.1, u.2.2.2.2.2.2.2.2.2.2.2.2.1, u.2.2.2.2.2.2.2.2.2.2.2.2.2.1, u.2.2.2.2.2.2.2.2.2.2.2.2.2.2.1, u.2.2.2.2.2.2.2.2.2.2.2.2.2.2.2.1, u.2.2.2.2.2.2.2.2.2.2.2.2.2.2.2.2.1, u.2.2.2.2.2.2.2.2.2.2.2.2.2.2.2.2.2.1, u.2.2.2.2.2.2.2.2.2.2.2.2.2.2.2.2.2.2.1, u.2.2.2.2.2.2.2.2.2.2.2.2.2.2.2.2.2.2.2.1, u.2.2.2.2.2.2.2.2.2.2.2.2.2.2.2.2.2.2.2.2.1, u.2.2.2.2.2.2.2.2.2.2.2.2.2.2.2.2.2.2.2.2.2.1, u.2.2.2.2.2.2.2.2.2.2.2.2.2.2.2.2.2.2.2.2.2.2.1, u.2.2.2.2.2.2.2.2.2.2.2.2.2.2.2.2.2.2.2.2.2.2.2.1, u.2.2.2.2.2.2.2.2.2.2.2.2.2.2.2.2.2.2.2.2.2.2.2.2.1, u.2.2.2.2.2.2.2.2.2.2.2.2.2.2.2.2.2.2.2.2.2.2.2.2.2.1, u.2.2.2.2.2.2.2.2.2.2.2.2.2.2.2.2.2.2.2.2.2.2.2.2.2.2.1, u.2.2.2.2.2.2.2.2.2.2.2.2.2.2.2.2.2.2.2.2.2.2.2.2.2.2.2.1, u.2.2.2.2.2.2.2.2.2.2.2.2.2.2.2.2.2.2.2.2.2.2.2.2.2.2.2.2.1, u.2.2.2.2.2.2.2.2.2.2.2.2.2.2.2.2.2.2.2.2.2.2.2.2.2.2.2.2.2] : List Nat).getD k 0), (fun k => ([y0, w.1, w.2.1, w.2.2.1, w.2.2.2.1, w.2.2.2.2.1, w.2.2.2.2.2.1, w.2.2.2.2.2.2.1, w.2.2.2.2.2.2.2.1, w.2.2.2.2.2.2.2.2.1, w.2.2.2.2.2.2.2.2.2.1, w.2.2.2.2.2.2.2.2.2.2.1, w.2.2.2.2.2.2.2.2.2.2.2.1, w.2.2.2.2.2.2.2.2.2.2.2.2.1, w.2.2.2.2.2.2.2.2.2.2.2.2.2.1, w.2.2.2.2.2.2.2.2.2.2.2.2.2.2.1, w.2.2.2.2.2.2.2.2.2.2.2.2.2.2.2.1, w.2.2.2.2.2.2.2.2.2.2.2.2.2.2.2.2.1, w.2.2.2.2.2.2.2.2.2.2.2.2.2.2.2.2.2.1, w.2.2.2.2.2.2.2.2.2.2.2.2.2.2.2.2.2.2.1, w.2.2.2.2.2.2.2.2.2.2.2.2.2.2.2.2.2.2.2.1, w.2.2.2.2.2.2.2.2.2.2.2.2.2.2.2.2.2.2.2.2.1, w.2.2.2.2.2.2.2.2.2.2.2.2.2.2.2.2.2.2.2.2.2.1, w.2.2.2.2.2.2.2.2.2.2.2.2.2.2.2.2.2.2.2.2.2.2] : List Nat).getD k 0), zB0, zS0, zS0, zS0, zG0, zG0, zT0, (0 : Int32), (0 : Int32), (0 : Int64), (fun _ => (0 : Int64)), (fun _ => (0 : Int64)), (fun _ => (0 : Int32)), (fun _ => (0 : Int32)), (fun _ => (0 : Int32)), (fun _ => (0 : Int32)), (fun _ => (0 : Int32)), (fun _ => (0 : Int32)), (fun _ => (0 : Int64)), (fun _ => (0 : Int32)), (0 : Int32), (fun _ => (0 : Int32)), (fun _ => (0 : Int32)), (fun _ => (0 : Int32)), (fun _ => (0 : Int32)), (fun _ => (0 : Int64)), (0 : Int64), (0 : Int32), (0 : Int32), (0 : Int32), (0 : Int32), (0 : Int32), (0 : Int32), (0 : Int32), (0 : Int32), (fun _ => (0 : Int64)), (fun _ => (0 : Int32)), (fun _ => (0 : Int64)), (fun _ => (0 : Int32)), (fun _ => (0 : Int64)), (fun _ => (0 : Int32)), (fun _ => (0 : Int64)), (fun _ => (0 : Int32)), 0, 0, 0, 0, 0, 0, 0, (fun _ => 0), (fun _ => 0), (fun _ => 0), rfl, rfl, Nat.le_refl _, rel0, rfl⟩
set_option maxHeartbeats 1000000 in
/-- THE LAW, from its entry -/
theorem whole_start {p : Program} {e : Env} {s : State} {m : MethodId} {below : List Frame} {meth : Method} {c : Code} (l : Launch) {b L : Nat} {xs : Nat → Int32} (hL : L ≤ 3584) (C0 : lw_At p s m meth c b L xs) : W p l e room_1 s m #[Value.ref b] below meth c s.heap [] 0 0 (lw_Z below #[Value.ref b] s) (entryFrame m ([Value.ref b] : List Value).toArray 4) := by
  obtain ⟨hx, hb, hr, hml, hown, hts, hX, hbl, hlocks, hgv⟩ := id C0
  have htz : ∀ w ∈ zw_tbl, w.before #[Value.ref b] s = true := fun w hw => hts w (List.mem_filter.mp hw).1
  obtain ⟨c0, iS0, hKn0⟩ := u_known (C := RX0) (T := TX0) (N := 5) (n := 5) htz FX0.2 (htz _ (zw_in1 46 rfl rfl))
  obtain ⟨c1, iS1, hKn1⟩ := u_known (C := RX1) (T := TX1) (N := 5) (n := 5) htz FX1.2 (htz _ (zw_in1 17 rfl rfl))
  obtain ⟨c2, iS2, hKn2⟩ := u_known (C := RX2) (T := TX2) (N := 6) (n := 6) htz FX2.2 (htz _ (zw_in1 69 rfl rfl))
  obtain ⟨c3, iS3, hKn3⟩ := u_known (C := RX3) (T := TX3) (N := 13) (n := 13) htz FX3.2 (htz _ (zw_in1 9 rfl rfl))
  obtain ⟨c4, iS4, hKn4⟩ := u_known (C := RX4) (T := TX4) (N := 36) (n := 36) htz FX4.2 (htz _ (zw_in2 107 rfl rfl))
  obtain ⟨dC, dI, hKc⟩ : ∃ (dC : Nat → ClassId) (dI : Nat → Nat → Nat), ∀ (k : Nat) (q : vw_C), vwCl[k]? = some q → u_Kn s q.1 q.2.1 q.2.2 (dC k) (dI k) := by
    refine ⟨fun k => if k = 0 then c0 else if k = 1 then c1 else if k = 2 then c2 else if k = 3 then c3 else c4, fun k => if k = 0 then iS0 else if k = 1 then iS1 else if k = 2 then iS2 else if k = 3 then iS3 else iS4, ?_⟩
    intro k q hq
    match k, hq with
    | 0, hq => cases hq; exact hKn0
    | 1, hq => cases hq; exact hKn1
    | 2, hq => cases hq; exact hKn2
    | 3, hq => cases hq; exact hKn3
    | 4, hq => cases hq; exact hKn4
    | k + 5, hq => simp [vwCl] at hq
  obtain ⟨cI, kI, pI, i1, i2, i3⟩ := Cond.arrayClass_spec (htz _ lkarrI)
  obtain ⟨cL, kL, pL, l1, l2, l3⟩ := Cond.arrayClass_spec (htz _ lkarrL)
  have hK : va_K (dC, dI) vwCl (zw_tys cI cL) s := by
    refine ⟨hKc, fun k q hq => ?_⟩
    match k, hq with
    | 0, hq => cases hq; exact ⟨fun n z => ⟨fun k h => (by cases h), kI, i2, pI, i3⟩, i1⟩
    | 1, hq => cases hq; exact ⟨fun n z => ⟨fun k h => (by cases h), kL, l2, pL, l3⟩, l1⟩
    | k + 2, hq => simp [zw_tys] at hq
  have hN : zw_N3 s := ⟨va_Nw.of rfl (hts _ (List.mem_append_right _ (List.mem_append_left _ (List.mem_of_getElem? (i := 18) rfl)))), va_Nw.of rfl (hts _ (List.mem_append_right _ (List.mem_append_left _ (List.mem_of_getElem? (i := 47) rfl)))), va_Nw.of rfl (hts _ (List.mem_append_right _ (List.mem_append_left _ (List.mem_of_getElem? (i := 70) rfl))))⟩
  have C : zw_C p s m #[Value.ref b] c (dC, dI) (zw_tys cI cL) (fun q : Nat => s.heap.size ≤ q) RL cL_law 4 := ⟨hx, hb, hml, hown, htz, hK, fun _ h => h⟩
  have X : zw_X s (fun q : Nat => s.heap.size ≤ q) b L xs := ⟨hX, hbl, Nat.not_le.mpr hbl⟩
  have hP : va_P (dC, dI) vwCl [] s.heap := fun k q h => by simp at h
  have hD : va_D (fun q : Nat => s.heap.size ≤ q) [] := ⟨fun i j p q h => by simp at h, fun k q h => by simp at h⟩
  have hl := lv_entry ([.ref b]) (n := 4) (Nat.le_of_ble_eq_true rfl)
  rw [lg_entry_eq]
  exact law_start hL C X hN hr hlocks s.heap [] _ hP hD va_S.rf hl
