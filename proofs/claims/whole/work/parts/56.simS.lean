theorem quo_dead {T : dT} {u v : Int64} (h : ¬ T.2.2.2.2.2 = 0) : (fX3_quotient T u v).2 = T := by
  unfold fX3_quotient
  split
  · unfold zw_l fX2_fail fX2_hasFailure
    rw [if_neg h, if_neg (by decide)]
  · rfl
theorem quo_d {q : Int64 × dY} {u : Int64} (h : ¬ q.2.2.2.2.2.2.2.2 = 0) : (zw_l (fX3_quotient q.2.2.2 u q.1) (fun w => (w.1, q.2.1, q.2.2.1, w.2))).2 = q.2 := by
  show (q.2.1, q.2.2.1, (fX3_quotient q.2.2.2 u q.1).2) = q.2
  rw [quo_dead h]
theorem item_z {q : Int64 × dY} {rw : Nat → Int64} (h : q.2.2.2.2.2.2.2.2 = 0) (hp : fX3_isPlaceOfRow q.1 = 0) : zw_l (fX3_itemAt rw q.2.2.2 q.1) (fun w => (w.1, q.2.1, q.2.2.1, w.2)) = (0, q.2.1, q.2.2.1, q.2.2.2.1, q.2.2.2.2.1, q.2.2.2.2.2.1, q.2.2.2.2.2.2.1, q.2.2.2.2.2.2.2.1, 2) := by
  unfold fX3_itemAt
  rw [if_pos hp]
  unfold zw_l fX2_fail fX2_hasFailure
  rw [if_pos h, if_pos rfl]
theorem item_ok {q : Int64 × dY} {rw : Nat → Int64} (hp : ¬ fX3_isPlaceOfRow q.1 = 0) : zw_l (fX3_itemAt rw q.2.2.2 q.1) (fun w => (w.1, q.2.1, q.2.2.1, w.2)) = (rw q.1.toInt32.toNatClampNeg, q.2) := by
  unfold fX3_itemAt
  rw [if_neg hp]
  rfl
theorem item_d {q : Int64 × dY} {rw : Nat → Int64} (h : ¬ q.2.2.2.2.2.2.2.2 = 0) : (zw_l (fX3_itemAt rw q.2.2.2 q.1) (fun w => (w.1, q.2.1, q.2.2.1, w.2))).2 = q.2 := by
  unfold fX3_itemAt
  split
  · unfold zw_l fX2_fail fX2_hasFailure
    rw [if_neg h, if_neg (by decide)]
  · rfl
theorem i64_0 {x : Int32} (h : x.toInt64 = 0) : x = 0 := by
  have e := lg_l2i_i2l x
  rw [h] at e; exact e.symm
theorem cmp78 {v : Int64} (h : lg_cmp v 7 ≤ 0) (h2 : 0 ≤ lg_cmp v 8) : False := by
  have a := Int64.le_iff_toInt_le.mp ((lg_cmp_le _ _).mp h)
  have b := Int64.le_iff_toInt_le.mp ((lg_cmp_ge _ _).mp h2)
  have z1 : (7 : Int64).toInt = 7 := rfl
  have z2 : (8 : Int64).toInt = 8 := rfl
  rw [z1] at a; rw [z2] at b; omega
theorem cmp87 {v : Int64} (h : ¬ lg_cmp v 7 ≤ 0) : 0 ≤ lg_cmp v 8 := by
  refine (lg_cmp_ge _ _).mpr (Int64.le_iff_toInt_le.mpr ?_)
  have a : ¬ v.toInt ≤ 7 := fun z => h ((lg_cmp_le _ _).mpr (Int64.le_iff_toInt_le.mpr z))
  have z2 : (8 : Int64).toInt = 8 := rfl
  rw [z2]; omega
theorem quo_z {T : dT} {u v : Int64} (h : T.2.2.2.2.2 = 0) (hv : lg_cmp v 0 = 0) : fX3_quotient T u v = (0, T.1, T.2.1, T.2.2.1, T.2.2.2.1, T.2.2.2.2.1, 1) := by
  unfold fX3_quotient
  rw [if_pos hv]
  unfold zw_l fX2_fail fX2_hasFailure
  rw [if_pos h, if_pos rfl]
theorem quo_ok {T : dT} {u v : Int64} (hv : ¬ lg_cmp v 0 = 0) : fX3_quotient T u v = (u / v, T) := by
  unfold fX3_quotient
  rw [if_neg hv]
theorem min_eq (u v : Int64) : (if u < v then u else v) = (if v < u then v else u) := by
  by_cases h1 : u < v
  · rw [if_pos h1, if_neg (lg_lt_not h1)]
  · rw [if_neg h1]
    by_cases h2 : v < u
    · rw [if_pos h2]
    · rw [if_neg h2]
      rcases lg_tri u v with h | h | h
      · exact absurd h h1
      · exact h.symm
      · exact absurd h h2
set_option maxHeartbeats 4000000 in
theorem simS {B3 : (Nat → Int64)} {B4 : (Nat → Int64)} {K1 : (Nat → Int32)} {K2 : (Nat → Int32)} {K3 : (Nat → Int32)} {K4 : (Nat → Int64)} {S : dS} {V : dV} {O : dO} {sn vn on nt L n : Nat} {rs rv ro : Nat → Nat} (hT : dz_tab S V O sn vn on rs rv ro) (hsn : sn ≤ 24) (hvn : vn ≤ 24) (hon : on ≤ 24) (hM : mTab S V O K1 K2 K3 sn vn on) (hnt : nt ≤ 40) (hL : L ≤ 2000000) (IS : CLS B3 B4 K1 K2 K3 K4 S V O sn vn on nt L rs rv ro n) (IV : CLV B3 B4 K1 K2 K3 K4 S V O sn vn on nt L rs rv ro n) : CLS B3 B4 K1 K2 K3 K4 S V O sn vn on nt L rs rv ro (n + 1) := by
  intro d E W X Y G Hd tv a ev mt h k x hk hx hh h0 hs
  show mRun _ _ _ _ _ _ _ _ _ _ _ _ _ _ (bS (zA B3 B4 S.1 S.2.1 S.2.2.1 V.1 V.2.1 V.2.2.1 n).1 (zA B3 B4 S.1 S.2.1 S.2.2.1 V.1 V.2.1 V.2.2.1 n).2 B3 B4 S.1 S.2.1 S.2.2.1 d k x).1 (bS (zA B3 B4 S.1 S.2.1 S.2.2.1 V.1 V.2.1 V.2.2.1 n).1 (zA B3 B4 S.1 S.2.1 S.2.2.1 V.1 V.2.1 V.2.2.1 n).2 B3 B4 S.1 S.2.1 S.2.2.1 d k x).2
  by_cases ha : a = 2000
  · rw [bS_beg h0 (sim_spent hs ha), beg_spent ha]
    exact ⟨E, W, X, Y, G, Hd, tv, a, ev, mt, mR.rf, fun z => absurd z (show ¬ (4 : Int32) = 0 by decide), Or.inr (show ¬ (4 : Int32) ≤ 0 by decide), sim_sd hs _ _ 4, fun j _ => ⟨rfl, rfl, rfl, rfl, rfl⟩⟩
  · obtain ⟨hs1, hb⟩ := sim_beg hs ha
    rw [beg_ok (by omega) ha, fin_ok, i32_s0]
    have hi : k.toNatClampNeg < sn := dz_opLt hk
    obtain ⟨t1, t2, t3, kk, hkk, ek⟩ := hM.1 _ hi
    have hk24 := op_24 hk hsn
    have hw72 : vp_in k 72 := dz_opIn hk (by omega)
    refine mRun.step (go_of (by omega)) (safe_of (by omega) (by rw [pk_us]; exact hw72) (fun _ hz => ?_)) ?_
    · rw [pk_us] at hz ⊢
      rw [pk_us, t2]
      obtain ⟨c, hc, ec⟩ := (hT.1 _ hi).1 (t1.symm.trans hz)
      obtain ⟨j, hj, ej⟩ := vp_in_of hx (by omega)
      exact (dm_cell (by omega) hc ej ec).2
    rw [tS (by omega) pk_us pk_us pk_us hk24]
    match kk, hkk, ek with
    | 0, _, ek =>
      have ek : S.1 k.toNatClampNeg = (0 : Int32) := ek
      rw [gS_0 (t1.trans ek), fin_ok, bS_ok h0 hb ek, if_pos rfl]
      exact mRun.told (by rw [t2]; unfold fX3_cellOf; rw [Int32.mul_comm 3 x]) h0 hs1 fr_push
    | 1, _, ek =>
      have ek : S.1 k.toNatClampNeg = (1 : Int32) := ek
      rw [gS_1 (t1.trans ek), fin_ok, bS_ok h0 hb ek, if_neg (by decide), if_pos rfl]
      exact mRun.told (by rw [t2, t3]) h0 hs1 fr_push
    | 2, _, ek =>
      have ek : S.1 k.toNatClampNeg = (2 : Int32) := ek
      rw [gS_2_0 (t1.trans ek), bS_ok h0 hb ek, if_neg (by decide), if_neg (by decide), if_pos rfl]
      have hop := (hT.1 _ hi).2.1 (Or.inl ek)
      have hA := dz_opMono hop.1 (Nat.le_of_lt_succ hk.2)
      have hB := dz_opMono hop.2 (Nat.le_of_lt_succ hk.2)
      have hr1 := hop.1.2
      have hr2 := hop.2.2
      obtain ⟨q1, e1⟩ : ∃ z, (zA B3 B4 S.1 S.2.1 S.2.2.1 V.1 V.2.1 V.2.2.1 n).1 (dbeg d) (S.2.1 k.toNatClampNeg) x = z := ⟨_, rfl⟩
      rw [zw_l_eq e1]
      obtain ⟨q2, e2⟩ : ∃ z, (zA B3 B4 S.1 S.2.1 S.2.2.1 V.1 V.2.1 V.2.2.1 n).1 q1.2 (S.2.2.1 k.toNatClampNeg) x = z := ⟨_, rfl⟩
      rw [zw_l_eq e2]
      have r1 := IS (dbeg d) E (upd W h k) (upd X h x) (upd Y h x) (upd (upd G h 0) h (0 + 1)) Hd tv (a + 1) (ev + 1) mt (h + 1) (S.2.1 k.toNatClampNeg) x hA hx (by omega) h0 hs1
      rw [e1] at r1
      refine mRun.child (by omega) (by rw [t2]) r1 fr_push (fun hf => ⟨Or.inr (Or.inl (by rw [pk_us]; exact hk24)), ?_⟩) (fun hf E2 W2 X2 Y2 G2 Hd2 a2 ev2 mt2 s2 f2 => ?_)
      · have hd := dead_S (ce := B3) (rw := B4) (sk := S.1) (sa := S.2.1) (sb := S.2.2.1) (vk := V.1) (va := V.2.1) (vb := V.2.2.1) (i := S.2.2.1 k.toNatClampNeg) (t := x) hf n
        rw [e2] at hd
        exact hd
      have w2 := f2 h (by omega)
      have g2 : (∀ j, j < h → W2 j = W j ∧ X2 j = X j ∧ Y2 j = Y j ∧ G2 j = G j ∧ Hd2 j = Hd j) := fr_tr f2 fr_push
      refine mRun.step (go_of (by omega)) (safe_of (by omega) (by rw [w2.1, pk_us]; exact hw72) (fun _ hz => ?_)) ?_
      · rw [w2.1, pk_us] at hz
        exact absurd (hz.symm.trans (t1.trans ek)) (by decide)
      rw [tS (st := 1) (by omega) (w2.1.trans pk_us) (w2.2.1.trans pk_us) ((w2.2.2.2.1.trans pk_us).trans (by decide)) hk24, gS_2_1 (by omega) (t1.trans ek)]
      have r2 := IS q1.2 E2 W2 X2 Y2 (upd G2 h (1 + 1)) (vp_updL Hd2 h q1.1) q1.1 a2 ev2 mt2 (h + 1) (S.2.2.1 k.toNatClampNeg) x hB hx (by omega) hf s2
      rw [e2] at r2
      refine mRun.child (by omega) (by rw [t3]) r2 (fr_sh g2) (fun hf3 => ⟨Or.inr (Or.inl (by rw [w2.1, pk_us]; exact hk24)), rfl⟩) (fun hf3 E3 W3 X3 Y3 G3 Hd3 a3 ev3 mt3 s3 f3 => ?_)
      have w3 := f3 h (by omega)
      have g3 : (∀ j, j < h → W3 j = W j ∧ X3 j = X j ∧ Y3 j = Y j ∧ G3 j = G j ∧ Hd3 j = Hd j) := fr_tr f3 (fr_sh g2)
      have hh3 : Hd3 h = q1.1 := w3.2.2.2.2.trans pk_uLs
      refine mRun.step (go_of (by omega)) (safe_of (by omega) (by rw [w3.1, w2.1, pk_us]; exact hw72) (fun _ hz => ?_)) ?_
      · rw [w3.1, w2.1, pk_us] at hz
        exact absurd (hz.symm.trans (t1.trans ek)) (by decide)
      rw [tS (st := 2) (by omega) ((w3.1.trans w2.1).trans pk_us) ((w3.2.1.trans w2.2.1).trans pk_us) ((w3.2.2.2.1.trans pk_us).trans (by decide)) hk24]
      rw [gS_2_2 (by omega) (t1.trans ek), fin_ok]
      exact mRun.told (by rw [hh3]) hf3 s3 (fr_st g3)
    | 3, _, ek =>
      have ek : S.1 k.toNatClampNeg = (3 : Int32) := ek
      rw [gS_3_0 (t1.trans ek), bS_ok h0 hb ek, if_neg (by decide), if_neg (by decide), if_neg (by decide), if_pos rfl]
      have hop := (hT.1 _ hi).2.1 (Or.inr (Or.inl ek))
      have hA := dz_opMono hop.1 (Nat.le_of_lt_succ hk.2)
      have hB := dz_opMono hop.2 (Nat.le_of_lt_succ hk.2)
      have hr1 := hop.1.2
      have hr2 := hop.2.2
      obtain ⟨q1, e1⟩ : ∃ z, (zA B3 B4 S.1 S.2.1 S.2.2.1 V.1 V.2.1 V.2.2.1 n).1 (dbeg d) (S.2.1 k.toNatClampNeg) x = z := ⟨_, rfl⟩
      rw [zw_l_eq e1]
      obtain ⟨q2, e2⟩ : ∃ z, (zA B3 B4 S.1 S.2.1 S.2.2.1 V.1 V.2.1 V.2.2.1 n).1 q1.2 (S.2.2.1 k.toNatClampNeg) x = z := ⟨_, rfl⟩
      rw [zw_l_eq e2]
      have r1 := IS (dbeg d) E (upd W h k) (upd X h x) (upd Y h x) (upd (upd G h 0) h (0 + 1)) Hd tv (a + 1) (ev + 1) mt (h + 1) (S.2.1 k.toNatClampNeg) x hA hx (by omega) h0 hs1
      rw [e1] at r1
      refine mRun.child (by omega) (by rw [t2]) r1 fr_push (fun hf => ⟨Or.inr (Or.inl (by rw [pk_us]; exact hk24)), ?_⟩) (fun hf E2 W2 X2 Y2 G2 Hd2 a2 ev2 mt2 s2 f2 => ?_)
      · have hd := dead_S (ce := B3) (rw := B4) (sk := S.1) (sa := S.2.1) (sb := S.2.2.1) (vk := V.1) (va := V.2.1) (vb := V.2.2.1) (i := S.2.2.1 k.toNatClampNeg) (t := x) hf n
        rw [e2] at hd
        exact hd
      have w2 := f2 h (by omega)
      have g2 : (∀ j, j < h → W2 j = W j ∧ X2 j = X j ∧ Y2 j = Y j ∧ G2 j = G j ∧ Hd2 j = Hd j) := fr_tr f2 fr_push
      refine mRun.step (go_of (by omega)) (safe_of (by omega) (by rw [w2.1, pk_us]; exact hw72) (fun _ hz => ?_)) ?_
      · rw [w2.1, pk_us] at hz
        exact absurd (hz.symm.trans (t1.trans ek)) (by decide)
      rw [tS (st := 1) (by omega) (w2.1.trans pk_us) (w2.2.1.trans pk_us) ((w2.2.2.2.1.trans pk_us).trans (by decide)) hk24, gS_3_1 (by omega) (t1.trans ek)]
      have r2 := IS q1.2 E2 W2 X2 Y2 (upd G2 h (1 + 1)) (vp_updL Hd2 h q1.1) q1.1 a2 ev2 mt2 (h + 1) (S.2.2.1 k.toNatClampNeg) x hB hx (by omega) hf s2
      rw [e2] at r2
      refine mRun.child (by omega) (by rw [t3]) r2 (fr_sh g2) (fun hf3 => ⟨Or.inr (Or.inl (by rw [w2.1, pk_us]; exact hk24)), rfl⟩) (fun hf3 E3 W3 X3 Y3 G3 Hd3 a3 ev3 mt3 s3 f3 => ?_)
      have w3 := f3 h (by omega)
      have g3 : (∀ j, j < h → W3 j = W j ∧ X3 j = X j ∧ Y3 j = Y j ∧ G3 j = G j ∧ Hd3 j = Hd j) := fr_tr f3 (fr_sh g2)
      have hh3 : Hd3 h = q1.1 := w3.2.2.2.2.trans pk_uLs
      refine mRun.step (go_of (by omega)) (safe_of (by omega) (by rw [w3.1, w2.1, pk_us]; exact hw72) (fun _ hz => ?_)) ?_
      · rw [w3.1, w2.1, pk_us] at hz
        exact absurd (hz.symm.trans (t1.trans ek)) (by decide)
      rw [tS (st := 2) (by omega) ((w3.1.trans w2.1).trans pk_us) ((w3.2.1.trans w2.2.1).trans pk_us) ((w3.2.2.2.1.trans pk_us).trans (by decide)) hk24]
      rw [gS_3_2 (by omega) (t1.trans ek), fin_ok]
      exact mRun.told (by rw [hh3]) hf3 s3 (fr_st g3)
    | 4, _, ek =>
      have ek : S.1 k.toNatClampNeg = (4 : Int32) := ek
      rw [gS_4_0 (t1.trans ek), bS_ok h0 hb ek, if_neg (by decide), if_neg (by decide), if_neg (by decide), if_neg (by decide), if_pos rfl]
      have hop := (hT.1 _ hi).2.1 (Or.inr (Or.inr (Or.inl ek)))
      have hA := dz_opMono hop.1 (Nat.le_of_lt_succ hk.2)
      have hB := dz_opMono hop.2 (Nat.le_of_lt_succ hk.2)
      have hr1 := hop.1.2
      have hr2 := hop.2.2
      obtain ⟨q1, e1⟩ : ∃ z, (zA B3 B4 S.1 S.2.1 S.2.2.1 V.1 V.2.1 V.2.2.1 n).1 (dbeg d) (S.2.1 k.toNatClampNeg) x = z := ⟨_, rfl⟩
      rw [zw_l_eq e1]
      obtain ⟨q2, e2⟩ : ∃ z, (zA B3 B4 S.1 S.2.1 S.2.2.1 V.1 V.2.1 V.2.2.1 n).1 q1.2 (S.2.2.1 k.toNatClampNeg) x = z := ⟨_, rfl⟩
      rw [zw_l_eq e2]
      have r1 := IS (dbeg d) E (upd W h k) (upd X h x) (upd Y h x) (upd (upd G h 0) h (0 + 1)) Hd tv (a + 1) (ev + 1) mt (h + 1) (S.2.1 k.toNatClampNeg) x hA hx (by omega) h0 hs1
      rw [e1] at r1
      refine mRun.child (by omega) (by rw [t2]) r1 fr_push (fun hf => ⟨Or.inr (Or.inl (by rw [pk_us]; exact hk24)), ?_⟩) (fun hf E2 W2 X2 Y2 G2 Hd2 a2 ev2 mt2 s2 f2 => ?_)
      · have hd := dead_S (ce := B3) (rw := B4) (sk := S.1) (sa := S.2.1) (sb := S.2.2.1) (vk := V.1) (va := V.2.1) (vb := V.2.2.1) (i := S.2.2.1 k.toNatClampNeg) (t := x) hf n
        rw [e2] at hd
        exact (quo_d (by rw [hd]; exact hf)).trans hd
      have w2 := f2 h (by omega)
      have g2 : (∀ j, j < h → W2 j = W j ∧ X2 j = X j ∧ Y2 j = Y j ∧ G2 j = G j ∧ Hd2 j = Hd j) := fr_tr f2 fr_push
      refine mRun.step (go_of (by omega)) (safe_of (by omega) (by rw [w2.1, pk_us]; exact hw72) (fun _ hz => ?_)) ?_
      · rw [w2.1, pk_us] at hz
        exact absurd (hz.symm.trans (t1.trans ek)) (by decide)
      rw [tS (st := 1) (by omega) (w2.1.trans pk_us) (w2.2.1.trans pk_us) ((w2.2.2.2.1.trans pk_us).trans (by decide)) hk24, gS_4_1 (by omega) (t1.trans ek)]
      have r2 := IS q1.2 E2 W2 X2 Y2 (upd G2 h (1 + 1)) (vp_updL Hd2 h q1.1) q1.1 a2 ev2 mt2 (h + 1) (S.2.2.1 k.toNatClampNeg) x hB hx (by omega) hf s2
      rw [e2] at r2
      refine mRun.child (by omega) (by rw [t3]) r2 (fr_sh g2) (fun hf3 => ⟨Or.inr (Or.inl (by rw [w2.1, pk_us]; exact hk24)), quo_d hf3⟩) (fun hf3 E3 W3 X3 Y3 G3 Hd3 a3 ev3 mt3 s3 f3 => ?_)
      have w3 := f3 h (by omega)
      have g3 : (∀ j, j < h → W3 j = W j ∧ X3 j = X j ∧ Y3 j = Y j ∧ G3 j = G j ∧ Hd3 j = Hd j) := fr_tr f3 (fr_sh g2)
      have hh3 : Hd3 h = q1.1 := w3.2.2.2.2.trans pk_uLs
      refine mRun.step (go_of (by omega)) (safe_of (by omega) (by rw [w3.1, w2.1, pk_us]; exact hw72) (fun _ hz => ?_)) ?_
      · rw [w3.1, w2.1, pk_us] at hz
        exact absurd (hz.symm.trans (t1.trans ek)) (by decide)
      rw [tS (st := 2) (by omega) ((w3.1.trans w2.1).trans pk_us) ((w3.2.1.trans w2.2.1).trans pk_us) ((w3.2.2.2.1.trans pk_us).trans (by decide)) hk24]
      by_cases hz : lg_cmp q2.1 0 = 0
      · rw [gS_4_2z (by omega) hz (t1.trans ek), quo_z hf3 hz]
        exact mRun.fell (f := 1) (by omega) rfl (by decide) (Or.inr (Or.inl (by rw [w3.1, w2.1, pk_us]; exact hk24))) (sim_sd s3 _ _ 1) (fr_st g3)
      · rw [gS_4_2 (by omega) hz (t1.trans ek), fin_ok, quo_ok hz]
        exact mRun.told (by rw [hh3]; rfl) hf3 s3 (fr_st g3)
    | 5, _, ek =>
      have ek : S.1 k.toNatClampNeg = (5 : Int32) := ek
      rw [gS_5_0 (t1.trans ek), bS_ok h0 hb ek, if_neg (by decide), if_neg (by decide), if_neg (by decide), if_neg (by decide), if_neg (by decide), if_pos rfl]
      have hop := (hT.1 _ hi).2.1 (Or.inr (Or.inr (Or.inr ek)))
      have hA := dz_opMono hop.1 (Nat.le_of_lt_succ hk.2)
      have hB := dz_opMono hop.2 (Nat.le_of_lt_succ hk.2)
      have hr1 := hop.1.2
      have hr2 := hop.2.2
      obtain ⟨q1, e1⟩ : ∃ z, (zA B3 B4 S.1 S.2.1 S.2.2.1 V.1 V.2.1 V.2.2.1 n).1 (dbeg d) (S.2.1 k.toNatClampNeg) x = z := ⟨_, rfl⟩
      rw [zw_l_eq e1]
      obtain ⟨q2, e2⟩ : ∃ z, (zA B3 B4 S.1 S.2.1 S.2.2.1 V.1 V.2.1 V.2.2.1 n).1 q1.2 (S.2.2.1 k.toNatClampNeg) x = z := ⟨_, rfl⟩
      rw [zw_l_eq e2]
      have r1 := IS (dbeg d) E (upd W h k) (upd X h x) (upd Y h x) (upd (upd G h 0) h (0 + 1)) Hd tv (a + 1) (ev + 1) mt (h + 1) (S.2.1 k.toNatClampNeg) x hA hx (by omega) h0 hs1
      rw [e1] at r1
      refine mRun.child (by omega) (by rw [t2]) r1 fr_push (fun hf => ⟨Or.inr (Or.inl (by rw [pk_us]; exact hk24)), ?_⟩) (fun hf E2 W2 X2 Y2 G2 Hd2 a2 ev2 mt2 s2 f2 => ?_)
      · have hd := dead_S (ce := B3) (rw := B4) (sk := S.1) (sa := S.2.1) (sb := S.2.2.1) (vk := V.1) (va := V.2.1) (vb := V.2.2.1) (i := S.2.2.1 k.toNatClampNeg) (t := x) hf n
        rw [e2] at hd
        exact hd
      have w2 := f2 h (by omega)
      have g2 : (∀ j, j < h → W2 j = W j ∧ X2 j = X j ∧ Y2 j = Y j ∧ G2 j = G j ∧ Hd2 j = Hd j) := fr_tr f2 fr_push
      refine mRun.step (go_of (by omega)) (safe_of (by omega) (by rw [w2.1, pk_us]; exact hw72) (fun _ hz => ?_)) ?_
      · rw [w2.1, pk_us] at hz
        exact absurd (hz.symm.trans (t1.trans ek)) (by decide)
      rw [tS (st := 1) (by omega) (w2.1.trans pk_us) (w2.2.1.trans pk_us) ((w2.2.2.2.1.trans pk_us).trans (by decide)) hk24, gS_5_1 (by omega) (t1.trans ek)]
      have r2 := IS q1.2 E2 W2 X2 Y2 (upd G2 h (1 + 1)) (vp_updL Hd2 h q1.1) q1.1 a2 ev2 mt2 (h + 1) (S.2.2.1 k.toNatClampNeg) x hB hx (by omega) hf s2
      rw [e2] at r2
      refine mRun.child (by omega) (by rw [t3]) r2 (fr_sh g2) (fun hf3 => ⟨Or.inr (Or.inl (by rw [w2.1, pk_us]; exact hk24)), rfl⟩) (fun hf3 E3 W3 X3 Y3 G3 Hd3 a3 ev3 mt3 s3 f3 => ?_)
      have w3 := f3 h (by omega)
      have g3 : (∀ j, j < h → W3 j = W j ∧ X3 j = X j ∧ Y3 j = Y j ∧ G3 j = G j ∧ Hd3 j = Hd j) := fr_tr f3 (fr_sh g2)
      have hh3 : Hd3 h = q1.1 := w3.2.2.2.2.trans pk_uLs
      refine mRun.step (go_of (by omega)) (safe_of (by omega) (by rw [w3.1, w2.1, pk_us]; exact hw72) (fun _ hz => ?_)) ?_
      · rw [w3.1, w2.1, pk_us] at hz
        exact absurd (hz.symm.trans (t1.trans ek)) (by decide)
      rw [tS (st := 2) (by omega) ((w3.1.trans w2.1).trans pk_us) ((w3.2.1.trans w2.2.1).trans pk_us) ((w3.2.2.2.1.trans pk_us).trans (by decide)) hk24]
      rw [gS_5_2 (by omega) (t1.trans ek), fin_ok]
      exact mRun.told (by rw [hh3]; exact min_eq q1.1 q2.1) hf3 s3 (fr_st g3)
    | 6, _, ek =>
      have ek : S.1 k.toNatClampNeg = (6 : Int32) := ek
      rw [gS_6_0 (t1.trans ek), bS_ok h0 hb ek, if_neg (by decide), if_neg (by decide), if_neg (by decide), if_neg (by decide), if_neg (by decide), if_neg (by decide), if_pos rfl]
      have hop := (hT.1 _ hi).2.2.1 ek
      have hA := dz_opMono hop.1 (Nat.le_of_lt_succ hk.2)
      have hB := dz_opMono hop.2 (Nat.le_of_lt_succ hk.2)
      have hr1 := hop.1.2
      have hr2 := hop.2.2
      obtain ⟨q1, e1⟩ : ∃ z, (zA B3 B4 S.1 S.2.1 S.2.2.1 V.1 V.2.1 V.2.2.1 n).2 (dbeg d) (S.2.1 k.toNatClampNeg) x = z := ⟨_, rfl⟩
      rw [zw_l_eq e1]
      have r1 := IV (dbeg d) E (upd W h k) (upd X h x) (upd Y h x) (upd (upd G h 0) h (0 + 1)) Hd tv (a + 1) (ev + 1) mt (h + 1) (S.2.1 k.toNatClampNeg) x hA hx (by omega) h0 hs1
      rw [e1] at r1
      refine mRun.child (by omega) (by rw [t2]) r1 fr_push (fun hf => ⟨Or.inr (Or.inl (by rw [pk_us]; exact hk24)), ?_⟩) (fun hf E2 W2 X2 Y2 G2 Hd2 a2 ev2 mt2 s2 f2 => ?_)
      · split
        · rfl
        · exact dead_S (ce := B3) (rw := B4) (sk := S.1) (sa := S.2.1) (sb := S.2.2.1) (vk := V.1) (va := V.2.1) (vb := V.2.2.1) (i := S.2.2.1 k.toNatClampNeg) (t := x) hf n
      have w2 := f2 h (by omega)
      have g2 : (∀ j, j < h → W2 j = W j ∧ X2 j = X j ∧ Y2 j = Y j ∧ G2 j = G j ∧ Hd2 j = Hd j) := fr_tr f2 fr_push
      refine mRun.step (go_of (by omega)) (safe_of (by omega) (by rw [w2.1, pk_us]; exact hw72) (fun _ hz => ?_)) ?_
      · rw [w2.1, pk_us] at hz
        exact absurd (hz.symm.trans (t1.trans ek)) (by decide)
      rw [tS (st := 1) (by omega) (w2.1.trans pk_us) (w2.2.1.trans pk_us) ((w2.2.2.2.1.trans pk_us).trans (by decide)) hk24]
      by_cases hz : q1.1 = 0
      · rw [if_pos hz, gS_6_1f (by rw [hz]; decide) (t1.trans ek), fin_ok]
        exact mRun.told rfl hf s2 (fr_st g2)
      · rw [if_neg hz, gS_6_1t (by omega) (fun c => hz (i64_0 ((lg_cmp_eq _ _).mp c))) (t1.trans ek)]
        have r2 := IS q1.2 E2 W2 X2 Y2 (upd G2 h (1 + 1)) (vp_updL Hd2 h q1.1.toInt64) q1.1.toInt64 a2 ev2 mt2 (h + 1) (S.2.2.1 k.toNatClampNeg) x hB hx (by omega) hf s2
        obtain ⟨q2, e2⟩ : ∃ z, (zA B3 B4 S.1 S.2.1 S.2.2.1 V.1 V.2.1 V.2.2.1 n).1 q1.2 (S.2.2.1 k.toNatClampNeg) x = z := ⟨_, rfl⟩
        rw [e2] at r2 ⊢
        refine mRun.child (by omega) (by rw [t3]) r2 (fr_sh g2) (fun hf3 => ⟨Or.inr (Or.inl (by rw [w2.1, pk_us]; exact hk24)), rfl⟩) (fun hf3 E3 W3 X3 Y3 G3 Hd3 a3 ev3 mt3 s3 f3 => ?_)
        have w3 := f3 h (by omega)
        have g3 : (∀ j, j < h → W3 j = W j ∧ X3 j = X j ∧ Y3 j = Y j ∧ G3 j = G j ∧ Hd3 j = Hd j) := fr_tr f3 (fr_sh g2)
        refine mRun.step (go_of (by omega)) (safe_of (by omega) (by rw [w3.1, w2.1, pk_us]; exact hw72) (fun _ hz => ?_)) ?_
        · rw [w3.1, w2.1, pk_us] at hz
          exact absurd (hz.symm.trans (t1.trans ek)) (by decide)
        rw [tS (st := 2) (by omega) ((w3.1.trans w2.1).trans pk_us) ((w3.2.1.trans w2.2.1).trans pk_us) ((w3.2.2.2.1.trans pk_us).trans (by decide)) hk24, gS_6_2 (by omega) (t1.trans ek), fin_ok]
        exact mRun.told rfl hf3 s3 (fr_st g3)
    | 7, _, ek =>
      have ek : S.1 k.toNatClampNeg = (7 : Int32) := ek
      rw [gS_7_0 (t1.trans ek), bS_ok h0 hb ek, if_neg (by decide), if_neg (by decide), if_neg (by decide), if_neg (by decide), if_neg (by decide), if_neg (by decide), if_neg (by decide), if_pos rfl]
      have hop := (hT.1 _ hi).2.2.2 ek
      have hA := dz_opMono hop (Nat.le_of_lt_succ hk.2)
      have hr1 := hop.2
      obtain ⟨q1, e1⟩ : ∃ z, (zA B3 B4 S.1 S.2.1 S.2.2.1 V.1 V.2.1 V.2.2.1 n).1 (dbeg d) (S.2.1 k.toNatClampNeg) x = z := ⟨_, rfl⟩
      rw [zw_l_eq e1]
      have r1 := IS (dbeg d) E (upd W h k) (upd X h x) (upd Y h x) (upd (upd G h 0) h (0 + 1)) Hd tv (a + 1) (ev + 1) mt (h + 1) (S.2.1 k.toNatClampNeg) x hA hx (by omega) h0 hs1
      rw [e1] at r1
      refine mRun.child (by omega) (by rw [t2]) r1 fr_push (fun hf => ⟨Or.inr (Or.inl (by rw [pk_us]; exact hk24)), item_d hf⟩) (fun hf E2 W2 X2 Y2 G2 Hd2 a2 ev2 mt2 s2 f2 => ?_)
      have w2 := f2 h (by omega)
      have g2 : (∀ j, j < h → W2 j = W j ∧ X2 j = X j ∧ Y2 j = Y j ∧ G2 j = G j ∧ Hd2 j = Hd j) := fr_tr f2 fr_push
      refine mRun.step (go_of (by omega)) (safe_of (by omega) (by rw [w2.1, pk_us]; exact hw72) (fun _ hz => ?_)) ?_
      · rw [w2.1, pk_us] at hz
        exact absurd (hz.symm.trans (t1.trans ek)) (by decide)
      rw [tS (st := 1) (by omega) (w2.1.trans pk_us) (w2.2.1.trans pk_us) ((w2.2.2.2.1.trans pk_us).trans (by decide)) hk24]
      have hfl : ∀ p, p = mfin K1 (E2, nI (h + 1), W2, X2, Y2, upd G2 h (1 + 1), Hd2, q1.1, 2, a2, ev2, mt2) → fX3_isPlaceOfRow q1.1 = 0 → mRun B3 B4 K1 K2 K3 K4 p h W X Y G Hd (mSim S V K4 sn vn L) (zw_l (fX3_itemAt B4 q1.2.2.2 q1.1) (fun u => (u.1, q1.2.1, q1.2.2.1, u.2))).1 (zw_l (fX3_itemAt B4 q1.2.2.2 q1.1) (fun u => (u.1, q1.2.1, q1.2.2.1, u.2))).2 := by
        intro p ep hpl
        rw [ep, item_z hf hpl]
        exact mRun.fell (f := 2) (by omega) rfl (by decide) (Or.inr (Or.inl (by rw [w2.1, pk_us]; exact hk24))) (sim_sd s2 _ _ 2) (fr_st g2)
      by_cases p1 : lg_cmp q1.1 0 < 0
      · refine hfl _ (by rw [gS_7_1a p1 (t1.trans ek)]) ?_
        unfold fX3_isPlaceOfRow
        rw [if_pos p1]
      · by_cases p2 : lg_cmp q1.1 7 ≤ 0
        · have hpl : ¬ fX3_isPlaceOfRow q1.1 = 0 := by
            unfold fX3_isPlaceOfRow
            rw [if_neg p1, if_neg (fun z => cmp78 p2 z)]
            decide
          rw [gS_7_1 p1 p2 (t1.trans ek), fin_ok, item_ok hpl]
          exact mRun.told rfl hf s2 (fr_st g2)
        · refine hfl _ (by rw [gS_7_1b p1 p2 (t1.trans ek)]) ?_
          unfold fX3_isPlaceOfRow
          rw [if_neg p1, if_pos (cmp87 p2)]
    | 8, _, ek =>
      have ek : S.1 k.toNatClampNeg = (8 : Int32) := ek
      rw [gS_8 (t1.trans ek), fin_ok, bS_ok h0 hb ek, if_neg (by decide), if_neg (by decide), if_neg (by decide), if_neg (by decide), if_neg (by decide), if_neg (by decide), if_neg (by decide), if_neg (by decide), if_pos rfl]
      exact mRun.told (((hs.2.2.2.choose_spec.choose_spec.2.2.2.2.1 _ hi).1 (Or.inl ek))) h0 hs1 fr_push
    | 9, _, ek =>
      have ek : S.1 k.toNatClampNeg = (9 : Int32) := ek
      rw [gS_9 (t1.trans ek), fin_ok, bS_ok h0 hb ek, if_neg (by decide), if_neg (by decide), if_neg (by decide), if_neg (by decide), if_neg (by decide), if_neg (by decide), if_neg (by decide), if_neg (by decide), if_neg (by decide), if_pos rfl]
      exact mRun.told (((hs.2.2.2.choose_spec.choose_spec.2.2.2.2.1 _ hi).1 (Or.inr ek))) h0 hs1 fr_push
    | 10, _, ek =>
      have ek : S.1 k.toNatClampNeg = (10 : Int32) := ek
      rw [gS_10 (t1.trans ek), fin_ok, bS_ok h0 hb ek, if_neg (by decide), if_neg (by decide), if_neg (by decide), if_neg (by decide), if_neg (by decide), if_neg (by decide), if_neg (by decide), if_neg (by decide), if_neg (by decide), if_neg (by decide), if_pos rfl]
      obtain ⟨c1, c2⟩ := sim_cntS hL hs ha hi ek hsn
      exact mRun.told (by rw [c2, t2, t3]; rfl) h0 c1 fr_push
    | 11, _, ek =>
      have ek : S.1 k.toNatClampNeg = (11 : Int32) := ek
      rw [gS_11 (t1.trans ek), bS_ok h0 hb ek, if_neg (by decide), if_neg (by decide), if_neg (by decide), if_neg (by decide), if_neg (by decide), if_neg (by decide), if_neg (by decide), if_neg (by decide), if_neg (by decide), if_neg (by decide), if_neg (by decide)]
      exact mRun.fell (f := 3) (by omega) rfl (by decide) (Or.inr (Or.inl (by rw [pk_us]; exact hk24))) (sim_sd hs1 _ _ 3) fr_push
    | k2 + 12, hkk, _ => exact absurd hkk (by omega)
