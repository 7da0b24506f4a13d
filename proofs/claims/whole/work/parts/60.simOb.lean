set_option maxHeartbeats 4000000 in
theorem simO {B3 : (Nat → Int64)} {B4 : (Nat → Int64)} {K1 : (Nat → Int32)} {K2 : (Nat → Int32)} {K3 : (Nat → Int32)} {K4 : (Nat → Int64)} {S : dS} {V : dV} {O : dO} {sn vn on nt L n : Nat} {rs rv ro : Nat → Nat} (hT : dz_tab S V O sn vn on rs rv ro) (hsn : sn ≤ 24) (hvn : vn ≤ 24) (hon : on ≤ 24) (hM : mTab S V O K1 K2 K3 sn vn on) (hnt : nt ≤ 40) (hL : L ≤ 2000000) (IS : CLS B3 B4 K1 K2 K3 K4 S V O sn vn on nt L rs rv ro n) (IV : CLV B3 B4 K1 K2 K3 K4 S V O sn vn on nt L rs rv ro n) (IO : CLO B3 B4 K1 K2 K3 K4 S V O sn vn on nt L rs rv ro n) : CLO B3 B4 K1 K2 K3 K4 S V O sn vn on nt L rs rv ro (n + 1) := by
  intro d E W X Y G Hd tv a ev mt h k x y hk hx hy hh h0 hs
  show mRun _ _ _ _ _ _ _ _ _ _ _ _ _ _ (bO (zA B3 B4 S.1 S.2.1 S.2.2.1 V.1 V.2.1 V.2.2.1 n).1 (zA B3 B4 S.1 S.2.1 S.2.2.1 V.1 V.2.1 V.2.2.1 n).2 (zO B3 B4 S.1 S.2.1 S.2.2.1 V.1 V.2.1 V.2.2.1 O.1 O.2.1 O.2.2.1 n) O.1 O.2.1 O.2.2.1 d k x y).1.toInt64 (bO (zA B3 B4 S.1 S.2.1 S.2.2.1 V.1 V.2.1 V.2.2.1 n).1 (zA B3 B4 S.1 S.2.1 S.2.2.1 V.1 V.2.1 V.2.2.1 n).2 (zO B3 B4 S.1 S.2.1 S.2.2.1 V.1 V.2.1 V.2.2.1 O.1 O.2.1 O.2.2.1 n) O.1 O.2.1 O.2.2.1 d k x y).2
  by_cases ha : a = 2000
  · rw [bO_beg h0 (sim_spent hs ha), beg_spent ha]
    exact ⟨E, W, X, Y, G, Hd, tv, a, ev, mt, mR.rf, fun z => absurd z (show ¬ (4 : Int32) = 0 by decide), Or.inr (show ¬ (4 : Int32) ≤ 0 by decide), sim_sd hs _ _ 4, fun j _ => ⟨rfl, rfl, rfl, rfl, rfl⟩⟩
  · obtain ⟨hs1, hb⟩ := sim_beg hs ha
    obtain ⟨w, ew, hwc, w24, w48, w72⟩ := i32_s2 hk hon
    rw [beg_ok (by omega) ha, fin_ok, ew]
    have hi : k.toNatClampNeg < on := dz_opLt hk
    obtain ⟨t1, t2, t3, kk, hkk, ek⟩ := hM.2.2 _ hi
    rw [← hwc] at t1 t2 t3
    have nsf : ∀ (f2 : Nat → Int32) (i2 : Nat), f2 i2 = w → (f2 i2 < 24 → False) := fun f2 i2 e2 z => absurd (by rw [e2] at z; exact z) (Int32.not_lt.mpr w24)
    have ncO : ∀ (f2 : Nat → Int32) (i2 : Nat) (s2 f3 : Int32), f2 i2 = w → nocatch K1 (f2 i2) s2 f3 := fun f2 i2 s2 f3 e2 => Or.inr (Or.inr (Or.inl (by rw [e2]; exact w48)))
    refine mRun.step (go_of (by omega)) (safe_of (by omega) (by rw [pk_us]; exact w72) (fun z => absurd z (nsf _ _ pk_us))) ?_
    rw [tO (by omega) pk_us pk_us w24 w48]
    match kk, hkk, ek with
    | 0, _, ek =>
      have ek : O.1 k.toNatClampNeg = (0 : Int32) := ek
      rw [gO_0_0 (by omega) (t1.trans ek), bO_ok h0 hb ek, if_pos rfl, pk_us]
      have hop := (hT.2.2 _ hi).1 ek
      have hA := dz_opMono hop (Nat.le_of_lt_succ hk.2)
      have hr1 := hop.2
      obtain ⟨q1, e1⟩ : ∃ z, (zA B3 B4 S.1 S.2.1 S.2.2.1 V.1 V.2.1 V.2.2.1 n).1 (dbeg d) (O.2.1 k.toNatClampNeg) x = z := ⟨_, rfl⟩
      obtain ⟨q2, e2⟩ : ∃ z, (zA B3 B4 S.1 S.2.1 S.2.2.1 V.1 V.2.1 V.2.2.1 n).1 q1.2 (O.2.1 k.toNatClampNeg) y = z := ⟨_, rfl⟩
      rw [zw_l_eq e1, zw_l_eq e2]
      have r1 := IS (dbeg d) E (upd W h w) (upd X h x) (upd Y h y) (upd (upd G h 0) h (0 + 1)) Hd tv (a + 1) (ev + 1) mt (h + 1) (O.2.1 k.toNatClampNeg) x hA hx (by omega) h0 hs1
      rw [e1] at r1
      refine mRun.child (by omega) (by rw [t2]) r1 fr_push (fun hf => ⟨ncO _ _ _ _ pk_us, ?_⟩) (fun hf E2 W2 X2 Y2 G2 Hd2 a2 ev2 mt2 s2 f2 => ?_)
      · have hd := dead_S (ce := B3) (rw := B4) (sk := S.1) (sa := S.2.1) (sb := S.2.2.1) (vk := V.1) (va := V.2.1) (vb := V.2.2.1) (i := O.2.1 k.toNatClampNeg) (t := y) hf n
        rw [e2] at hd
        exact hd
      have w2 := f2 h (by omega)
      have ww2 := w2.1.trans pk_us
      have wy2 := w2.2.2.1.trans pk_us
      have g2 : (∀ j, j < h → W2 j = W j ∧ X2 j = X j ∧ Y2 j = Y j ∧ G2 j = G j ∧ Hd2 j = Hd j) := fr_tr f2 fr_push
      refine mRun.step (go_of (by omega)) (safe_of (by omega) (by rw [ww2]; exact w72) (fun z => absurd z (nsf _ _ ww2))) ?_
      rw [tO (st := 1) (by omega) ww2 ((w2.2.2.2.1.trans pk_us).trans (by decide)) w24 w48, gO_0_1 (by omega) (t1.trans ek), wy2]
      have r2 := IS q1.2 E2 W2 X2 Y2 (upd G2 h (1 + 1)) (vp_updL Hd2 h q1.1) q1.1 a2 ev2 mt2 (h + 1) (O.2.1 k.toNatClampNeg) y hA hy (by omega) hf s2
      rw [e2] at r2
      refine mRun.child (by omega) (by rw [t2]) r2 (fr_sh g2) (fun hf3 => ⟨ncO _ _ _ _ ww2, rfl⟩) (fun hf3 E3 W3 X3 Y3 G3 Hd3 a3 ev3 mt3 s3 f3 => ?_)
      have w3 := f3 h (by omega)
      have ww3 := w3.1.trans ww2
      have g3 : (∀ j, j < h → W3 j = W j ∧ X3 j = X j ∧ Y3 j = Y j ∧ G3 j = G j ∧ Hd3 j = Hd j) := fr_tr f3 (fr_sh g2)
      have hh3 : Hd3 h = q1.1 := w3.2.2.2.2.trans pk_uLs
      refine mRun.step (go_of (by omega)) (safe_of (by omega) (by rw [ww3]; exact w72) (fun z => absurd z (nsf _ _ ww3))) ?_
      rw [tO (st := 2) (by omega) ww3 ((w3.2.2.2.1.trans pk_us).trans (by decide)) w24 w48, gO_0_2 (by omega) (t1.trans ek), fin_ok]
      exact mRun.told (by rw [hh3]; exact les_eq _ _) hf3 s3 (fr_st g3)
    | 1, _, ek =>
      have ek : O.1 k.toNatClampNeg = (1 : Int32) := ek
      rw [gO_1_0 (by omega) (t1.trans ek), bO_ok h0 hb ek, if_neg (by decide), if_pos rfl, pk_us, pk_us]
      have hop := (hT.2.2 _ hi).2.1 ek
      have hA := dz_opMono hop (Nat.le_of_lt_succ hk.2)
      have hr1 := hop.2
      obtain ⟨q1, e1⟩ : ∃ z, (zO B3 B4 S.1 S.2.1 S.2.2.1 V.1 V.2.1 V.2.2.1 O.1 O.2.1 O.2.2.1 n) (dbeg d) (O.2.1 k.toNatClampNeg) x y = z := ⟨_, rfl⟩
      have ht1 : tri q1.1 := by rw [← e1]; exact tri_O n _ _ _ _
      rw [zw_l_eq e1]
      have r1 := IO (dbeg d) E (upd W h w) (upd X h x) (upd Y h y) (upd (upd G h 0) h (0 + 1)) Hd tv (a + 1) (ev + 1) mt (h + 1) (O.2.1 k.toNatClampNeg) x y hA hx hy (by omega) h0 hs1
      rw [e1] at r1
      refine mRun.child (by omega) (by rw [t2]) r1 fr_push (fun hf => ⟨ncO _ _ _ _ pk_us, rfl⟩) (fun hf E2 W2 X2 Y2 G2 Hd2 a2 ev2 mt2 s2 f2 => ?_)
      have w2 := f2 h (by omega)
      have ww2 := w2.1.trans pk_us
      have g2 : (∀ j, j < h → W2 j = W j ∧ X2 j = X j ∧ Y2 j = Y j ∧ G2 j = G j ∧ Hd2 j = Hd j) := fr_tr f2 fr_push
      refine mRun.step (go_of (by omega)) (safe_of (by omega) (by rw [ww2]; exact w72) (fun z => absurd z (nsf _ _ ww2))) ?_
      rw [tO (st := 1) (by omega) ww2 ((w2.2.2.2.1.trans pk_us).trans (by decide)) w24 w48, gO_1_1 (by omega) (t1.trans ek), fin_ok]
      exact mRun.told (tri_64 ht1) hf s2 (fr_st g2)
    | 2, _, ek =>
      have ek : O.1 k.toNatClampNeg = (2 : Int32) := ek
      rw [gO_2_0 (by omega) (t1.trans ek), bO_ok h0 hb ek, if_neg (by decide), if_neg (by decide), if_pos rfl, pk_us, pk_us]
      have hop := (hT.2.2 _ hi).2.2.1 ek
      have hA := dz_opMono hop.1 (Nat.le_of_lt_succ hk.2)
      have hB := dz_opMono hop.2 (Nat.le_of_lt_succ hk.2)
      have hr1 := hop.1.2
      have hr2 := hop.2.2
      obtain ⟨q1, e1⟩ : ∃ z, (zO B3 B4 S.1 S.2.1 S.2.2.1 V.1 V.2.1 V.2.2.1 O.1 O.2.1 O.2.2.1 n) (dbeg d) (O.2.1 k.toNatClampNeg) x y = z := ⟨_, rfl⟩
      unfold bH
      rw [zw_l_eq e1]
      have r1 := IO (dbeg d) E (upd W h w) (upd X h x) (upd Y h y) (upd (upd G h 0) h (0 + 1)) Hd tv (a + 1) (ev + 1) mt (h + 1) (O.2.1 k.toNatClampNeg) x y hA hx hy (by omega) h0 hs1
      rw [e1] at r1
      refine mRun.child (by omega) (by rw [t2]) r1 fr_push (fun hf => ⟨ncO _ _ _ _ pk_us, ?_⟩) (fun hf E2 W2 X2 Y2 G2 Hd2 a2 ev2 mt2 s2 f2 => ?_)
      · split
        · exact dead_O (ce := B3) (rw := B4) (sk := S.1) (sa := S.2.1) (sb := S.2.2.1) (vk := V.1) (va := V.2.1) (vb := V.2.2.1) (ok := O.1) (oa := O.2.1) (ob := O.2.2.1) (i := O.2.2.1 k.toNatClampNeg) (x := x) (y := y) hf n
        · rfl
      have w2 := f2 h (by omega)
      have ww2 := w2.1.trans pk_us
      have wx2 := w2.2.1.trans pk_us
      have wy2 := w2.2.2.1.trans pk_us
      have g2 : (∀ j, j < h → W2 j = W j ∧ X2 j = X j ∧ Y2 j = Y j ∧ G2 j = G j ∧ Hd2 j = Hd j) := fr_tr f2 fr_push
      refine mRun.step (go_of (by omega)) (safe_of (by omega) (by rw [ww2]; exact w72) (fun z => absurd z (nsf _ _ ww2))) ?_
      rw [tO (st := 1) (by omega) ww2 ((w2.2.2.2.1.trans pk_us).trans (by decide)) w24 w48]
      by_cases hz : q1.1 = 0
      · rw [if_pos hz, gO_2_1z (by omega) (by rw [hz]; decide) (t1.trans ek), wx2, wy2]
        obtain ⟨q2, e2⟩ : ∃ z, (zO B3 B4 S.1 S.2.1 S.2.2.1 V.1 V.2.1 V.2.2.1 O.1 O.2.1 O.2.2.1 n) q1.2 (O.2.2.1 k.toNatClampNeg) x y = z := ⟨_, rfl⟩
        have r2 := IO q1.2 E2 W2 X2 Y2 (upd G2 h (1 + 1)) Hd2 q1.1.toInt64 a2 ev2 mt2 (h + 1) (O.2.2.1 k.toNatClampNeg) x y hB hx hy (by omega) hf s2
        rw [e2] at r2
        rw [zw_l_eq e2]
        refine mRun.child (by omega) (by rw [t3]) r2 (fr_st g2) (fun hf3 => ⟨ncO _ _ _ _ ww2, rfl⟩) (fun hf3 E3 W3 X3 Y3 G3 Hd3 a3 ev3 mt3 s3 f3 => ?_)
        have w3 := f3 h (by omega)
        have ww3 := w3.1.trans ww2
        have g3 : (∀ j, j < h → W3 j = W j ∧ X3 j = X j ∧ Y3 j = Y j ∧ G3 j = G j ∧ Hd3 j = Hd j) := fr_tr f3 (fr_st g2)
        refine mRun.step (go_of (by omega)) (safe_of (by omega) (by rw [ww3]; exact w72) (fun z => absurd z (nsf _ _ ww3))) ?_
        rw [tO (st := 2) (by omega) ww3 ((w3.2.2.2.1.trans pk_us).trans (by decide)) w24 w48, gO_2_2 (by omega) (t1.trans ek), fin_ok]
        exact mRun.told rfl hf3 s3 (fr_st g3)
      · rw [if_neg hz, gO_2_1n (by omega) (fun c => hz (i64_0 ((lg_cmp_eq _ _).mp c))) (t1.trans ek), fin_ok]
        exact mRun.told rfl hf s2 (fr_st g2)
    | 3, _, ek =>
      have ek : O.1 k.toNatClampNeg = (3 : Int32) := ek
      rw [gO_3_0 (by omega) (t1.trans ek), bO_ok h0 hb ek, if_neg (by decide), if_neg (by decide), if_neg (by decide), if_pos rfl, pk_us]
      have hop := (hT.2.2 _ hi).2.2.2 ek
      have hA := dz_opMono hop (Nat.le_of_lt_succ hk.2)
      have hr1 := hop.2
      obtain ⟨q1, e1⟩ : ∃ z, (zA B3 B4 S.1 S.2.1 S.2.2.1 V.1 V.2.1 V.2.2.1 n).2 (dbeg d) (O.2.1 k.toNatClampNeg) x = z := ⟨_, rfl⟩
      obtain ⟨q2, e2⟩ : ∃ z, (zA B3 B4 S.1 S.2.1 S.2.2.1 V.1 V.2.1 V.2.2.1 n).2 q1.2 (O.2.1 k.toNatClampNeg) y = z := ⟨_, rfl⟩
      have hb1 : q1.1 = 0 ∨ q1.1 = 1 := by rw [← e1]; exact bb_V n _ _ _
      have hb2 : q2.1 = 0 ∨ q2.1 = 1 := by rw [← e2]; exact bb_V n _ _ _
      have e3 : bR (zA B3 B4 S.1 S.2.1 S.2.2.1 V.1 V.2.1 V.2.2.1 n).2 (dbeg d) (O.2.1 k.toNatClampNeg) x = (if q1.1 = 0 then 1 else 0, q1.2) := by
        unfold bR
        rw [zw_l_eq e1]
        split <;> rfl
      have e4 : bR (zA B3 B4 S.1 S.2.1 S.2.2.1 V.1 V.2.1 V.2.2.1 n).2 q1.2 (O.2.1 k.toNatClampNeg) y = (if q2.1 = 0 then 1 else 0, q2.2) := by
        unfold bR
        rw [zw_l_eq e2]
        split <;> rfl
      rw [zw_l_eq e3, zw_l_eq e4]
      have r1 := IV (dbeg d) E (upd W h w) (upd X h x) (upd Y h y) (upd (upd G h 0) h (0 + 1)) Hd tv (a + 1) (ev + 1) mt (h + 1) (O.2.1 k.toNatClampNeg) x hA hx (by omega) h0 hs1
      rw [e1] at r1
      refine mRun.child (by omega) (by rw [t2]) r1 fr_push (fun hf => ⟨ncO _ _ _ _ pk_us, ?_⟩) (fun hf E2 W2 X2 Y2 G2 Hd2 a2 ev2 mt2 s2 f2 => ?_)
      · have hd := dead_V (ce := B3) (rw := B4) (sk := S.1) (sa := S.2.1) (sb := S.2.2.1) (vk := V.1) (va := V.2.1) (vb := V.2.2.1) (i := O.2.1 k.toNatClampNeg) (t := y) hf n
        rw [e2] at hd
        exact hd
      have w2 := f2 h (by omega)
      have ww2 := w2.1.trans pk_us
      have wy2 := w2.2.2.1.trans pk_us
      have g2 : (∀ j, j < h → W2 j = W j ∧ X2 j = X j ∧ Y2 j = Y j ∧ G2 j = G j ∧ Hd2 j = Hd j) := fr_tr f2 fr_push
      refine mRun.step (go_of (by omega)) (safe_of (by omega) (by rw [ww2]; exact w72) (fun z => absurd z (nsf _ _ ww2))) ?_
      rw [tO (st := 1) (by omega) ww2 ((w2.2.2.2.1.trans pk_us).trans (by decide)) w24 w48, gO_3_1 (by omega) (t1.trans ek), wy2]
      have r2 := IV q1.2 E2 W2 X2 Y2 (upd G2 h (1 + 1)) (vp_updL Hd2 h q1.1.toInt64) q1.1.toInt64 a2 ev2 mt2 (h + 1) (O.2.1 k.toNatClampNeg) y hA hy (by omega) hf s2
      rw [e2] at r2
      refine mRun.child (by omega) (by rw [t2]) r2 (fr_sh g2) (fun hf3 => ⟨ncO _ _ _ _ ww2, rfl⟩) (fun hf3 E3 W3 X3 Y3 G3 Hd3 a3 ev3 mt3 s3 f3 => ?_)
      have w3 := f3 h (by omega)
      have ww3 := w3.1.trans ww2
      have g3 : (∀ j, j < h → W3 j = W j ∧ X3 j = X j ∧ Y3 j = Y j ∧ G3 j = G j ∧ Hd3 j = Hd j) := fr_tr f3 (fr_sh g2)
      have hh3 : Hd3 h = q1.1.toInt64 := w3.2.2.2.2.trans pk_uLs
      refine mRun.step (go_of (by omega)) (safe_of (by omega) (by rw [ww3]; exact w72) (fun z => absurd z (nsf _ _ ww3))) ?_
      rw [tO (st := 2) (by omega) ww3 ((w3.2.2.2.1.trans pk_us).trans (by decide)) w24 w48, gO_3_2 (by omega) (t1.trans ek), fin_ok]
      exact mRun.told (by rw [hh3]; exact les_b hb1 hb2) hf3 s3 (fr_st g3)
    | 4, _, ek =>
      have ek : O.1 k.toNatClampNeg = (4 : Int32) := ek
      rw [bO_ok h0 hb ek, if_neg (by decide), if_neg (by decide), if_neg (by decide), if_neg (by decide), if_pos rfl, gO_4 (by omega) (t1.trans ek), fin_ok]
      exact mRun.told (by rw [pk_us, pk_us]; exact les_i x y) h0 hs1 fr_push
    | 5, _, ek =>
      have ek : O.1 k.toNatClampNeg = (5 : Int32) := ek
      rw [gO_5 (by omega) (t1.trans ek), bO_ok h0 hb ek, if_neg (by decide), if_neg (by decide), if_neg (by decide), if_neg (by decide), if_neg (by decide)]
      exact mRun.fell (f := 3) (by omega) rfl (by decide) (ncO _ _ _ _ pk_us) (sim_sd hs1 _ _ 3) fr_push
    | k2 + 6, hkk, _ => exact absurd hkk (by omega)
