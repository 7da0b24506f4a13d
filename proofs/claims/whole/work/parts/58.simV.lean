theorem ite_2 {c : Prop} [Decidable c] {x y : Int32} {d : dY} : (if c then (x, d) else (y, d)).2 = d := by
  by_cases h : c
  · rw [if_pos h]
  · rw [if_neg h]
theorem sim_met {S : dS} {V : dV} {K4 : Nat → Int64} {sn vn L : Nat} {d : dY} {E : Nat → Int32} {a ev mt x y z : Int32} (h : mSim S V K4 sn vn L d E a ev mt) : mSim S V K4 sn vn L (d.1, d.2.1, d.2.2.1, d.2.2.2.1, d.2.2.2.2.1 + 1, x, y, z) E a ev (mt + 1) := by
  obtain ⟨h1, h2, h3, h4⟩ := h
  exact ⟨h1, h2, by show d.2.2.2.2.1 + 1 = mt + 1; rw [h3], h4⟩
theorem mf_0 {T : dT} (h : T.2.2.2.2.2 = 0) : fX2_meetsFailure T = (0, T) := by
  unfold fX2_meetsFailure fX2_hasFailure
  rw [if_pos h, if_pos rfl]
theorem mf_4 {T : dT} (h : T.2.2.2.2.2 = 4) : fX2_meetsFailure T = (0, T) := by
  have h0 : ¬ T.2.2.2.2.2 = 0 := by rw [h]; decide
  unfold fX2_meetsFailure fX2_hasFailure
  rw [if_neg h0, if_neg (by decide), if_pos h]
theorem mf_c {T : dT} (h : ¬ T.2.2.2.2.2 = 0) (h4 : ¬ T.2.2.2.2.2 = 4) : fX2_meetsFailure T = (1, T.1, T.2.1, T.2.2.1 + 1, T.2.2.2.1, T.2.2.2.2.1, 0) := by
  unfold fX2_meetsFailure fX2_hasFailure
  rw [if_neg h, if_neg (by decide), if_neg h4]
set_option maxHeartbeats 4000000 in
theorem simV {B3 : (Nat → Int64)} {B4 : (Nat → Int64)} {K1 : (Nat → Int32)} {K2 : (Nat → Int32)} {K3 : (Nat → Int32)} {K4 : (Nat → Int64)} {S : dS} {V : dV} {O : dO} {sn vn on nt L n : Nat} {rs rv ro : Nat → Nat} (hT : dz_tab S V O sn vn on rs rv ro) (hsn : sn ≤ 24) (hvn : vn ≤ 24) (hon : on ≤ 24) (hM : mTab S V O K1 K2 K3 sn vn on) (hnt : nt ≤ 40) (hL : L ≤ 2000000) (IS : CLS B3 B4 K1 K2 K3 K4 S V O sn vn on nt L rs rv ro n) (IV : CLV B3 B4 K1 K2 K3 K4 S V O sn vn on nt L rs rv ro n) : CLV B3 B4 K1 K2 K3 K4 S V O sn vn on nt L rs rv ro (n + 1) := by
  intro d E W X Y G Hd tv a ev mt h k x hk hx hh h0 hs
  show mRun _ _ _ _ _ _ _ _ _ _ _ _ _ _ (bV (zA B3 B4 S.1 S.2.1 S.2.2.1 V.1 V.2.1 V.2.2.1 n).1 (zA B3 B4 S.1 S.2.1 S.2.2.1 V.1 V.2.1 V.2.2.1 n).2 V.1 V.2.1 V.2.2.1 d k x).1.toInt64 (bV (zA B3 B4 S.1 S.2.1 S.2.2.1 V.1 V.2.1 V.2.2.1 n).1 (zA B3 B4 S.1 S.2.1 S.2.2.1 V.1 V.2.1 V.2.2.1 n).2 V.1 V.2.1 V.2.2.1 d k x).2
  by_cases ha : a = 2000
  · rw [bV_beg h0 (sim_spent hs ha), beg_spent ha]
    exact ⟨E, W, X, Y, G, Hd, tv, a, ev, mt, mR.rf, fun z => absurd z (show ¬ (4 : Int32) = 0 by decide), Or.inr (show ¬ (4 : Int32) ≤ 0 by decide), sim_sd hs _ _ 4, fun j _ => ⟨rfl, rfl, rfl, rfl, rfl⟩⟩
  · obtain ⟨hs1, hb⟩ := sim_beg hs ha
    obtain ⟨w, ew, hwc, w24, w48, w72⟩ := i32_s1 hk hvn
    rw [beg_ok (by omega) ha, fin_ok, ew]
    have hi : k.toNatClampNeg < vn := dz_opLt hk
    obtain ⟨t1, t2, t3, kk, hkk, ek⟩ := hM.2.1 _ hi
    rw [← hwc] at t1 t2 t3
    have nsf : ∀ (f2 : Nat → Int32) (i2 : Nat), f2 i2 = w → (f2 i2 < 24 → False) := fun f2 i2 e2 z => absurd (by rw [e2] at z; exact z) (Int32.not_lt.mpr w24)
    refine mRun.step (go_of (by omega)) (safe_of (by omega) (by rw [pk_us]; exact w72) (fun z => absurd z (nsf _ _ pk_us))) ?_
    rw [tV (by omega) pk_us pk_us pk_us w24 w48]
    match kk, hkk, ek with
    | 0, _, ek =>
      have ek : V.1 k.toNatClampNeg = (0 : Int32) := ek
      rw [gV_0 (by omega) (t1.trans ek), fin_ok, bV_ok h0 hb ek, if_pos rfl]
      exact mRun.told (show (1 : Int64) = (1 : Int32).toInt64 by decide) h0 hs1 fr_push
    | 1, _, ek =>
      have ek : V.1 k.toNatClampNeg = (1 : Int32) := ek
      have nc : ¬ K1 w.toNatClampNeg = 8 := fun z => absurd (z.symm.trans (t1.trans ek)) (by decide)
      rw [gV_1_0 (by omega) (t1.trans ek), bV_ok h0 hb ek, if_neg (by decide), if_pos rfl]
      have hop := (hT.2.1 _ hi).1 (Or.inl ek)
      have hA := dz_opMono hop.1 (Nat.le_of_lt_succ hk.2)
      have hB := dz_opMono hop.2 (Nat.le_of_lt_succ hk.2)
      have hr1 := hop.1.2
      have hr2 := hop.2.2
      obtain ⟨q1, e1⟩ : ∃ z, (zA B3 B4 S.1 S.2.1 S.2.2.1 V.1 V.2.1 V.2.2.1 n).1 (dbeg d) (V.2.1 k.toNatClampNeg) x = z := ⟨_, rfl⟩
      rw [zw_l_eq e1]
      obtain ⟨q2, e2⟩ : ∃ z, (zA B3 B4 S.1 S.2.1 S.2.2.1 V.1 V.2.1 V.2.2.1 n).1 q1.2 (V.2.2.1 k.toNatClampNeg) x = z := ⟨_, rfl⟩
      rw [zw_l_eq e2]
      have r1 := IS (dbeg d) E (upd W h w) (upd X h x) (upd Y h x) (upd (upd G h 0) h (0 + 1)) Hd tv (a + 1) (ev + 1) mt (h + 1) (V.2.1 k.toNatClampNeg) x hA hx (by omega) h0 hs1
      rw [e1] at r1
      refine mRun.child (by omega) (by rw [t2]) r1 fr_push (fun hf => ⟨Or.inr (Or.inr (Or.inr (Or.inl (by rw [pk_us]; exact nc)))), ?_⟩) (fun hf E2 W2 X2 Y2 G2 Hd2 a2 ev2 mt2 s2 f2 => ?_)
      · have hd := dead_S (ce := B3) (rw := B4) (sk := S.1) (sa := S.2.1) (sb := S.2.2.1) (vk := V.1) (va := V.2.1) (vb := V.2.2.1) (i := V.2.2.1 k.toNatClampNeg) (t := x) hf n
        rw [e2] at hd
        rw [ite_2]; exact hd
      have w2 := f2 h (by omega)
      have ww2 := w2.1.trans pk_us
      have g2 : (∀ j, j < h → W2 j = W j ∧ X2 j = X j ∧ Y2 j = Y j ∧ G2 j = G j ∧ Hd2 j = Hd j) := fr_tr f2 fr_push
      refine mRun.step (go_of (by omega)) (safe_of (by omega) (by rw [ww2]; exact w72) (fun z => absurd z (nsf _ _ ww2))) ?_
      rw [tV (st := 1) (by omega) ww2 (w2.2.1.trans pk_us) ((w2.2.2.2.1.trans pk_us).trans (by decide)) w24 w48, gV_1_1 (by omega) (t1.trans ek)]
      have r2 := IS q1.2 E2 W2 X2 Y2 (upd G2 h (1 + 1)) (vp_updL Hd2 h q1.1) q1.1 a2 ev2 mt2 (h + 1) (V.2.2.1 k.toNatClampNeg) x hB hx (by omega) hf s2
      rw [e2] at r2
      refine mRun.child (by omega) (by rw [t3]) r2 (fr_sh g2) (fun hf3 => ⟨Or.inr (Or.inr (Or.inr (Or.inl (by rw [ww2]; exact nc)))), by rw [ite_2]⟩) (fun hf3 E3 W3 X3 Y3 G3 Hd3 a3 ev3 mt3 s3 f3 => ?_)
      have w3 := f3 h (by omega)
      have ww3 := w3.1.trans ww2
      have g3 : (∀ j, j < h → W3 j = W j ∧ X3 j = X j ∧ Y3 j = Y j ∧ G3 j = G j ∧ Hd3 j = Hd j) := fr_tr f3 (fr_sh g2)
      have hh3 : Hd3 h = q1.1 := w3.2.2.2.2.trans pk_uLs
      refine mRun.step (go_of (by omega)) (safe_of (by omega) (by rw [ww3]; exact w72) (fun z => absurd z (nsf _ _ ww3))) ?_
      rw [tV (st := 2) (by omega) ww3 ((w3.2.1.trans w2.2.1).trans pk_us) ((w3.2.2.2.1.trans pk_us).trans (by decide)) w24 w48, gV_1_2 (by omega) (t1.trans ek), fin_ok, ite_2]
      exact mRun.told (by rw [hh3]; split <;> rfl) hf3 s3 (fr_st g3)
    | 2, _, ek =>
      have ek : V.1 k.toNatClampNeg = (2 : Int32) := ek
      have nc : ¬ K1 w.toNatClampNeg = 8 := fun z => absurd (z.symm.trans (t1.trans ek)) (by decide)
      rw [gV_2_0 (by omega) (t1.trans ek), bV_ok h0 hb ek, if_neg (by decide), if_neg (by decide), if_pos rfl]
      have hop := (hT.2.1 _ hi).1 (Or.inr ek)
      have hA := dz_opMono hop.1 (Nat.le_of_lt_succ hk.2)
      have hB := dz_opMono hop.2 (Nat.le_of_lt_succ hk.2)
      have hr1 := hop.1.2
      have hr2 := hop.2.2
      obtain ⟨q1, e1⟩ : ∃ z, (zA B3 B4 S.1 S.2.1 S.2.2.1 V.1 V.2.1 V.2.2.1 n).1 (dbeg d) (V.2.1 k.toNatClampNeg) x = z := ⟨_, rfl⟩
      rw [zw_l_eq e1]
      obtain ⟨q2, e2⟩ : ∃ z, (zA B3 B4 S.1 S.2.1 S.2.2.1 V.1 V.2.1 V.2.2.1 n).1 q1.2 (V.2.2.1 k.toNatClampNeg) x = z := ⟨_, rfl⟩
      rw [zw_l_eq e2]
      have r1 := IS (dbeg d) E (upd W h w) (upd X h x) (upd Y h x) (upd (upd G h 0) h (0 + 1)) Hd tv (a + 1) (ev + 1) mt (h + 1) (V.2.1 k.toNatClampNeg) x hA hx (by omega) h0 hs1
      rw [e1] at r1
      refine mRun.child (by omega) (by rw [t2]) r1 fr_push (fun hf => ⟨Or.inr (Or.inr (Or.inr (Or.inl (by rw [pk_us]; exact nc)))), ?_⟩) (fun hf E2 W2 X2 Y2 G2 Hd2 a2 ev2 mt2 s2 f2 => ?_)
      · have hd := dead_S (ce := B3) (rw := B4) (sk := S.1) (sa := S.2.1) (sb := S.2.2.1) (vk := V.1) (va := V.2.1) (vb := V.2.2.1) (i := V.2.2.1 k.toNatClampNeg) (t := x) hf n
        rw [e2] at hd
        rw [ite_2]; exact hd
      have w2 := f2 h (by omega)
      have ww2 := w2.1.trans pk_us
      have g2 : (∀ j, j < h → W2 j = W j ∧ X2 j = X j ∧ Y2 j = Y j ∧ G2 j = G j ∧ Hd2 j = Hd j) := fr_tr f2 fr_push
      refine mRun.step (go_of (by omega)) (safe_of (by omega) (by rw [ww2]; exact w72) (fun z => absurd z (nsf _ _ ww2))) ?_
      rw [tV (st := 1) (by omega) ww2 (w2.2.1.trans pk_us) ((w2.2.2.2.1.trans pk_us).trans (by decide)) w24 w48, gV_2_1 (by omega) (t1.trans ek)]
      have r2 := IS q1.2 E2 W2 X2 Y2 (upd G2 h (1 + 1)) (vp_updL Hd2 h q1.1) q1.1 a2 ev2 mt2 (h + 1) (V.2.2.1 k.toNatClampNeg) x hB hx (by omega) hf s2
      rw [e2] at r2
      refine mRun.child (by omega) (by rw [t3]) r2 (fr_sh g2) (fun hf3 => ⟨Or.inr (Or.inr (Or.inr (Or.inl (by rw [ww2]; exact nc)))), by rw [ite_2]⟩) (fun hf3 E3 W3 X3 Y3 G3 Hd3 a3 ev3 mt3 s3 f3 => ?_)
      have w3 := f3 h (by omega)
      have ww3 := w3.1.trans ww2
      have g3 : (∀ j, j < h → W3 j = W j ∧ X3 j = X j ∧ Y3 j = Y j ∧ G3 j = G j ∧ Hd3 j = Hd j) := fr_tr f3 (fr_sh g2)
      have hh3 : Hd3 h = q1.1 := w3.2.2.2.2.trans pk_uLs
      refine mRun.step (go_of (by omega)) (safe_of (by omega) (by rw [ww3]; exact w72) (fun z => absurd z (nsf _ _ ww3))) ?_
      rw [tV (st := 2) (by omega) ww3 ((w3.2.1.trans w2.2.1).trans pk_us) ((w3.2.2.2.1.trans pk_us).trans (by decide)) w24 w48, gV_2_2 (by omega) (t1.trans ek), fin_ok, ite_2]
      exact mRun.told (by rw [hh3]; split <;> rfl) hf3 s3 (fr_st g3)
    | 3, _, ek =>
      have ek : V.1 k.toNatClampNeg = (3 : Int32) := ek
      rw [gV_3_0 (by omega) (t1.trans ek), bV_ok h0 hb ek, if_neg (by decide), if_neg (by decide), if_neg (by decide), if_pos rfl]
      have hop := (hT.2.1 _ hi).2.1 (Or.inl ek)
      have hA := dz_opMono hop (Nat.le_of_lt_succ hk.2)
      have hr1 := hop.2
      have nc : ¬ K1 w.toNatClampNeg = 8 := fun z => absurd (z.symm.trans (t1.trans ek)) (by decide)
      obtain ⟨q1, e1⟩ : ∃ z, (zA B3 B4 S.1 S.2.1 S.2.2.1 V.1 V.2.1 V.2.2.1 n).2 (dbeg d) (V.2.1 k.toNatClampNeg) x = z := ⟨_, rfl⟩
      have hbq1 : q1.1 = 0 ∨ q1.1 = 1 := by rw [← e1]; exact bb_V n _ _ _
      have r1 := IV (dbeg d) E (upd W h w) (upd X h x) (upd Y h x) (upd (upd G h 0) h (0 + 1)) Hd tv (a + 1) (ev + 1) mt (h + 1) (V.2.1 k.toNatClampNeg) x hA hx (by omega) h0 hs1
      rw [e1] at r1
      rw [zw_l_eq e1]
      refine mRun.child (by omega) (by rw [t2]) r1 fr_push (fun hf => ⟨Or.inr (Or.inr (Or.inr (Or.inl (by rw [pk_us]; exact nc)))), by rw [ite_2]⟩) (fun hf E2 W2 X2 Y2 G2 Hd2 a2 ev2 mt2 s2 f2 => ?_)
      have w2 := f2 h (by omega)
      have ww2 := w2.1.trans pk_us
      have g2 : (∀ j, j < h → W2 j = W j ∧ X2 j = X j ∧ Y2 j = Y j ∧ G2 j = G j ∧ Hd2 j = Hd j) := fr_tr f2 fr_push
      refine mRun.step (go_of (by omega)) (safe_of (by omega) (by rw [ww2]; exact w72) (fun z => absurd z (nsf _ _ ww2))) ?_
      rw [tV (st := 1) (by omega) ww2 (w2.2.1.trans pk_us) ((w2.2.2.2.1.trans pk_us).trans (by decide)) w24 w48]
      rw [gV_3_1 (by omega) (t1.trans ek), fin_ok, ite_2]
      exact mRun.told (by rw [(bool64 hbq1).2.2]; split <;> rfl) hf s2 (fr_st g2)
    | 4, _, ek =>
      have ek : V.1 k.toNatClampNeg = (4 : Int32) := ek
      rw [gV_4_0 (by omega) (t1.trans ek), bV_ok h0 hb ek, if_neg (by decide), if_neg (by decide), if_neg (by decide), if_neg (by decide), if_pos rfl]
      have hop := (hT.2.1 _ hi).2.2 (Or.inl ek)
      have hA := dz_opMono hop.1 (Nat.le_of_lt_succ hk.2)
      have hB := dz_opMono hop.2 (Nat.le_of_lt_succ hk.2)
      have hr1 := hop.1.2
      have hr2 := hop.2.2
      have nc : ¬ K1 w.toNatClampNeg = 8 := fun z => absurd (z.symm.trans (t1.trans ek)) (by decide)
      obtain ⟨q1, e1⟩ : ∃ z, (zA B3 B4 S.1 S.2.1 S.2.2.1 V.1 V.2.1 V.2.2.1 n).2 (dbeg d) (V.2.1 k.toNatClampNeg) x = z := ⟨_, rfl⟩
      have hbq1 : q1.1 = 0 ∨ q1.1 = 1 := by rw [← e1]; exact bb_V n _ _ _
      have r1 := IV (dbeg d) E (upd W h w) (upd X h x) (upd Y h x) (upd (upd G h 0) h (0 + 1)) Hd tv (a + 1) (ev + 1) mt (h + 1) (V.2.1 k.toNatClampNeg) x hA hx (by omega) h0 hs1
      rw [e1] at r1
      rw [zw_l_eq e1]
      refine mRun.child (by omega) (by rw [t2]) r1 fr_push (fun hf => ⟨Or.inr (Or.inr (Or.inr (Or.inl (by rw [pk_us]; exact nc)))), ?_⟩) (fun hf E2 W2 X2 Y2 G2 Hd2 a2 ev2 mt2 s2 f2 => ?_)
      · have hd := dead_V (ce := B3) (rw := B4) (sk := S.1) (sa := S.2.1) (sb := S.2.2.1) (vk := V.1) (va := V.2.1) (vb := V.2.2.1) (i := V.2.2.1 k.toNatClampNeg) (t := x) hf n
        split
        · rfl
        · unfold zw_l; rw [ite_2]; exact hd
      have w2 := f2 h (by omega)
      have ww2 := w2.1.trans pk_us
      have g2 : (∀ j, j < h → W2 j = W j ∧ X2 j = X j ∧ Y2 j = Y j ∧ G2 j = G j ∧ Hd2 j = Hd j) := fr_tr f2 fr_push
      refine mRun.step (go_of (by omega)) (safe_of (by omega) (by rw [ww2]; exact w72) (fun z => absurd z (nsf _ _ ww2))) ?_
      rw [tV (st := 1) (by omega) ww2 (w2.2.1.trans pk_us) ((w2.2.2.2.1.trans pk_us).trans (by decide)) w24 w48]
      by_cases hz : q1.1 = 0
      · rw [if_pos hz, gV_4_1f (by omega) (by rw [hz]; decide) (t1.trans ek), fin_ok]
        exact mRun.told (by rw [hz]) hf s2 (fr_st g2)
      · rw [if_neg hz, gV_4_1t (by omega) (fun c => hz (i64_0 ((lg_cmp_eq _ _).mp c))) (t1.trans ek)]
        obtain ⟨q2, e2⟩ : ∃ z, (zA B3 B4 S.1 S.2.1 S.2.2.1 V.1 V.2.1 V.2.2.1 n).2 q1.2 (V.2.2.1 k.toNatClampNeg) x = z := ⟨_, rfl⟩
        have hbq2 : q2.1 = 0 ∨ q2.1 = 1 := by rw [← e2]; exact bb_V n _ _ _
        have r2 := IV q1.2 E2 W2 X2 Y2 (upd G2 h (1 + 1)) (vp_updL Hd2 h q1.1.toInt64) q1.1.toInt64 a2 ev2 mt2 (h + 1) (V.2.2.1 k.toNatClampNeg) x hB hx (by omega) hf s2
        rw [e2] at r2
        rw [zw_l_eq e2]
        refine mRun.child (by omega) (by rw [t3]) r2 (fr_sh g2) (fun hf3 => ⟨Or.inr (Or.inr (Or.inr (Or.inl (by rw [ww2]; exact nc)))), by rw [ite_2]⟩) (fun hf3 E3 W3 X3 Y3 G3 Hd3 a3 ev3 mt3 s3 f3 => ?_)
        have w3 := f3 h (by omega)
        have ww3 := w3.1.trans ww2
        have g3 : (∀ j, j < h → W3 j = W j ∧ X3 j = X j ∧ Y3 j = Y j ∧ G3 j = G j ∧ Hd3 j = Hd j) := fr_tr f3 (fr_sh g2)
        refine mRun.step (go_of (by omega)) (safe_of (by omega) (by rw [ww3]; exact w72) (fun z => absurd z (nsf _ _ ww3))) ?_
        rw [tV (st := 2) (by omega) ww3 ((w3.2.1.trans w2.2.1).trans pk_us) ((w3.2.2.2.1.trans pk_us).trans (by decide)) w24 w48, gV_4_2 (by omega) (t1.trans ek), fin_ok, ite_2]
        exact mRun.told (by rcases hbq2 with z | z <;> (rw [z]; rfl)) hf3 s3 (fr_st g3)
    | 5, _, ek =>
      have ek : V.1 k.toNatClampNeg = (5 : Int32) := ek
      rw [gV_5_0 (by omega) (t1.trans ek), bV_ok h0 hb ek, if_neg (by decide), if_neg (by decide), if_neg (by decide), if_neg (by decide), if_neg (by decide), if_pos rfl]
      have hop := (hT.2.1 _ hi).2.2 (Or.inr ek)
      have hA := dz_opMono hop.1 (Nat.le_of_lt_succ hk.2)
      have hB := dz_opMono hop.2 (Nat.le_of_lt_succ hk.2)
      have hr1 := hop.1.2
      have hr2 := hop.2.2
      have nc : ¬ K1 w.toNatClampNeg = 8 := fun z => absurd (z.symm.trans (t1.trans ek)) (by decide)
      obtain ⟨q1, e1⟩ : ∃ z, (zA B3 B4 S.1 S.2.1 S.2.2.1 V.1 V.2.1 V.2.2.1 n).2 (dbeg d) (V.2.1 k.toNatClampNeg) x = z := ⟨_, rfl⟩
      have hbq1 : q1.1 = 0 ∨ q1.1 = 1 := by rw [← e1]; exact bb_V n _ _ _
      have r1 := IV (dbeg d) E (upd W h w) (upd X h x) (upd Y h x) (upd (upd G h 0) h (0 + 1)) Hd tv (a + 1) (ev + 1) mt (h + 1) (V.2.1 k.toNatClampNeg) x hA hx (by omega) h0 hs1
      rw [e1] at r1
      rw [zw_l_eq e1]
      refine mRun.child (by omega) (by rw [t2]) r1 fr_push (fun hf => ⟨Or.inr (Or.inr (Or.inr (Or.inl (by rw [pk_us]; exact nc)))), ?_⟩) (fun hf E2 W2 X2 Y2 G2 Hd2 a2 ev2 mt2 s2 f2 => ?_)
      · have hd := dead_V (ce := B3) (rw := B4) (sk := S.1) (sa := S.2.1) (sb := S.2.2.1) (vk := V.1) (va := V.2.1) (vb := V.2.2.1) (i := V.2.2.1 k.toNatClampNeg) (t := x) hf n
        split
        · unfold zw_l; rw [ite_2]; exact hd
        · rfl
      have w2 := f2 h (by omega)
      have ww2 := w2.1.trans pk_us
      have g2 : (∀ j, j < h → W2 j = W j ∧ X2 j = X j ∧ Y2 j = Y j ∧ G2 j = G j ∧ Hd2 j = Hd j) := fr_tr f2 fr_push
      refine mRun.step (go_of (by omega)) (safe_of (by omega) (by rw [ww2]; exact w72) (fun z => absurd z (nsf _ _ ww2))) ?_
      rw [tV (st := 1) (by omega) ww2 (w2.2.1.trans pk_us) ((w2.2.2.2.1.trans pk_us).trans (by decide)) w24 w48]
      by_cases hz : q1.1 = 0
      · rw [if_pos hz, gV_5_1f (by omega) (fun c => absurd hz ((bool64 hbq1).2.1.mp ((lg_cmp_eq _ _).mp c))) (t1.trans ek)]
        obtain ⟨q2, e2⟩ : ∃ z, (zA B3 B4 S.1 S.2.1 S.2.2.1 V.1 V.2.1 V.2.2.1 n).2 q1.2 (V.2.2.1 k.toNatClampNeg) x = z := ⟨_, rfl⟩
        have hbq2 : q2.1 = 0 ∨ q2.1 = 1 := by rw [← e2]; exact bb_V n _ _ _
        have r2 := IV q1.2 E2 W2 X2 Y2 (upd G2 h (1 + 1)) (vp_updL Hd2 h q1.1.toInt64) q1.1.toInt64 a2 ev2 mt2 (h + 1) (V.2.2.1 k.toNatClampNeg) x hB hx (by omega) hf s2
        rw [e2] at r2
        rw [zw_l_eq e2]
        refine mRun.child (by omega) (by rw [t3]) r2 (fr_sh g2) (fun hf3 => ⟨Or.inr (Or.inr (Or.inr (Or.inl (by rw [ww2]; exact nc)))), by rw [ite_2]⟩) (fun hf3 E3 W3 X3 Y3 G3 Hd3 a3 ev3 mt3 s3 f3 => ?_)
        have w3 := f3 h (by omega)
        have ww3 := w3.1.trans ww2
        have g3 : (∀ j, j < h → W3 j = W j ∧ X3 j = X j ∧ Y3 j = Y j ∧ G3 j = G j ∧ Hd3 j = Hd j) := fr_tr f3 (fr_sh g2)
        refine mRun.step (go_of (by omega)) (safe_of (by omega) (by rw [ww3]; exact w72) (fun z => absurd z (nsf _ _ ww3))) ?_
        rw [tV (st := 2) (by omega) ww3 ((w3.2.1.trans w2.2.1).trans pk_us) ((w3.2.2.2.1.trans pk_us).trans (by decide)) w24 w48, gV_5_2 (by omega) (t1.trans ek), fin_ok, ite_2]
        exact mRun.told (by rcases hbq2 with z | z <;> (rw [z]; rfl)) hf3 s3 (fr_st g3)
      · rw [if_neg hz, gV_5_1t (by omega) ((lg_cmp_eq _ _).mpr ((bool64 hbq1).2.1.mpr hz)) (t1.trans ek), fin_ok]
        exact mRun.told (((bool64 hbq1).2.1.mpr hz).trans (show (1 : Int64) = (1 : Int32).toInt64 by decide)) hf s2 (fr_st g2)
    | 6, _, ek =>
      have ek : V.1 k.toNatClampNeg = (6 : Int32) := ek
      rw [bV_ok h0 hb ek, if_neg (by decide), if_neg (by decide), if_neg (by decide), if_neg (by decide), if_neg (by decide), if_neg (by decide), if_pos rfl, gV_6 (by omega) (t1.trans ek)]
      obtain ⟨c, c1, c2, c3, c4⟩ := sim_cntV hL hs ha hi ek hsn
      obtain ⟨ee, e1, e2⟩ := each_pos (V.2.1 k.toNatClampNeg)
      have hlt : c % each (V.2.1 k.toNatClampNeg) < each (V.2.1 k.toNatClampNeg) := Nat.mod_lt _ (by omega)
      have hms := mod_step (c := c) e1
      rw [t2, ee, hwc, c2, nI_1]
      obtain ⟨u1, eu⟩ : ∃ z, fX1_countAsked d.2.1 k = z := ⟨_, rfl⟩
      rw [zw_l_eq eu]
      rw [eu] at c3 c4
      rw [c3, nI_l e2, pk_lRem (by omega) (by omega) (by omega)]
      have hlt2 : (c + 1) % each (V.2.1 k.toNatClampNeg) < each (V.2.1 k.toNatClampNeg) := Nat.mod_lt _ (by omega)
      by_cases hq : c % each (V.2.1 k.toNatClampNeg) + 1 = each (V.2.1 k.toNatClampNeg)
      · have hz := hms.1.mp hq
        rw [hq, if_pos rfl, hz, if_pos (by decide), fin_ok]
        exact mRun.told (show (1 : Int64) = (1 : Int32).toInt64 by decide) h0 (c4 0 (by rw [hz]; rfl)) fr_push
      · have hz := hms.2 hq
        rw [if_neg (fun z => hq ((nI_eq (by omega) (by omega)).mp z)), if_neg (fun z => ?_), fin_ok]
        · exact mRun.told (show (0 : Int64) = (0 : Int32).toInt64 by decide) h0 (c4 _ (by rw [hz])) fr_push
        · have := (pk_lEQ (a := (c + 1) % each (V.2.1 k.toNatClampNeg)) (b := 0) (by omega) (by decide)).mp ((lg_cmp_eq _ _).mp z)
          omega
    | 7, _, ek =>
      have ek : V.1 k.toNatClampNeg = (7 : Int32) := ek
      rw [bV_ok h0 hb ek, if_neg (by decide), if_neg (by decide), if_neg (by decide), if_neg (by decide), if_neg (by decide), if_neg (by decide), if_neg (by decide), if_pos rfl]
      by_cases hz : V.2.1 k.toNatClampNeg ≤ x
      · rw [gV_7f (by omega) (by rw [t2]; exact hz) (t1.trans ek), if_pos hz, fin_ok]
        exact mRun.told (show (0 : Int64) = (0 : Int32).toInt64 by decide) h0 hs1 fr_push
      · rw [gV_7t (by omega) (by rw [t2]; exact hz) (t1.trans ek), if_neg hz, fin_ok]
        exact mRun.told (show (1 : Int64) = (1 : Int32).toInt64 by decide) h0 hs1 fr_push
    | 8, _, ek =>
      have ek : V.1 k.toNatClampNeg = (8 : Int32) := ek
      rw [gV_8_0 (by omega) (t1.trans ek), bV_ok h0 hb ek, if_neg (by decide), if_neg (by decide), if_neg (by decide), if_neg (by decide), if_neg (by decide), if_neg (by decide), if_neg (by decide), if_neg (by decide), if_pos rfl]
      have hop := (hT.2.1 _ hi).2.1 (Or.inr ek)
      have hA := dz_opMono hop (Nat.le_of_lt_succ hk.2)
      have hr1 := hop.2
      obtain ⟨q1, e1⟩ : ∃ z, (zA B3 B4 S.1 S.2.1 S.2.2.1 V.1 V.2.1 V.2.2.1 n).2 (dbeg d) (V.2.1 k.toNatClampNeg) x = z := ⟨_, rfl⟩
      have hbq1 : q1.1 = 0 ∨ q1.1 = 1 := by rw [← e1]; exact bb_V n _ _ _
      have r1 := IV (dbeg d) E (upd W h w) (upd X h x) (upd Y h x) (upd (upd G h 0) h (0 + 1)) Hd tv (a + 1) (ev + 1) mt (h + 1) (V.2.1 k.toNatClampNeg) x hA hx (by omega) h0 hs1
      rw [e1] at r1
      unfold bF
      rw [zw_l_eq e1]
      by_cases hcatch : (¬ q1.2.2.2.2.2.2.2.2 = 0) ∧ ¬ q1.2.2.2.2.2.2.2.2 = 4
      · rw [t2]
        obtain ⟨E2, W2, X2, Y2, G2, Hd2, tv2, a2, ev2, mt2, g1, g2, g3, g4, g5⟩ := r1
        have w2 := g5 h (by omega)
        have hn := g3.resolve_left hcatch.1
        rw [fin_catch (by omega) hn hcatch.2 (by rw [w2.1, pk_us]; exact Int32.not_lt.mpr w24) (by rw [w2.1, pk_us]; exact w48) (by rw [w2.1, pk_us]; exact t1.trans ek) (by rw [w2.2.2.2.1, pk_us]; decide)] at g1
        rw [zw_l_eq (mf_c hcatch.1 hcatch.2)]
        dsimp only
        rw [if_neg (by decide)]
        refine ⟨E2, W2, X2, Y2, G2, Hd2, 0, a2, ev2, mt2 + 1, ?_, fun _ => (show (0 : Int64) = (0 : Int32).toInt64 by decide), Or.inl rfl, sim_met g4, fr_tr g5 fr_push⟩
        dsimp only
        rw [fin_ok]
        exact g1
      · have hmf : fX2_meetsFailure q1.2.2.2 = (0, q1.2.2.2) := by
          by_cases h00 : q1.2.2.2.2.2.2.2.2 = 0
          · exact mf_0 h00
          · by_cases h44 : q1.2.2.2.2.2.2.2.2 = 4
            · exact mf_4 h44
            · exact absurd ⟨h00, h44⟩ hcatch
        rw [zw_l_eq hmf]
        dsimp only
        rw [if_pos rfl]
        refine mRun.child (by omega) (by rw [t2]) r1 fr_push (fun hf => ⟨Or.inl ?_, ite_2 (d := q1.2)⟩) (fun hf E2 W2 X2 Y2 G2 Hd2 a2 ev2 mt2 s2 f2 => ?_)
        · by_cases h44 : q1.2.2.2.2.2.2.2.2 = 4
          · exact h44
          · exact absurd ⟨hf, h44⟩ hcatch
        have w2 := f2 h (by omega)
        have ww2 := w2.1.trans pk_us
        have g2 : (∀ j, j < h → W2 j = W j ∧ X2 j = X j ∧ Y2 j = Y j ∧ G2 j = G j ∧ Hd2 j = Hd j) := fr_tr f2 fr_push
        refine mRun.step (go_of (by omega)) (safe_of (by omega) (by rw [ww2]; exact w72) (fun z => absurd z (nsf _ _ ww2))) ?_
        rw [tV (st := 1) (by omega) ww2 (w2.2.1.trans pk_us) ((w2.2.2.2.1.trans pk_us).trans (by decide)) w24 w48, gV_8_1 (by omega) (t1.trans ek), fin_ok]
        have e9 : (if q1.1 = 0 then ((0 : Int32), q1.2.1, q1.2.2.1, q1.2.2.2) else ((1 : Int32), q1.2.1, q1.2.2.1, q1.2.2.2)) = q1 := by
          rcases hbq1 with z | z
          · rw [if_pos z, ← z]
          · rw [if_neg (by rw [z]; decide), ← z]
        rw [e9]
        exact mRun.told rfl hf s2 (fr_st g2)
    | 9, _, ek =>
      have ek : V.1 k.toNatClampNeg = (9 : Int32) := ek
      have nc : ¬ K1 w.toNatClampNeg = 8 := fun z => absurd (z.symm.trans (t1.trans ek)) (by decide)
      rw [gV_9 (by omega) (t1.trans ek), bV_ok h0 hb ek, if_neg (by decide), if_neg (by decide), if_neg (by decide), if_neg (by decide), if_neg (by decide), if_neg (by decide), if_neg (by decide), if_neg (by decide), if_neg (by decide)]
      exact mRun.fell (f := 3) (by omega) rfl (by decide) (Or.inr (Or.inr (Or.inr (Or.inl (by rw [pk_us]; exact nc))))) (sim_sd hs1 _ _ 3) fr_push
    | k2 + 10, hkk, _ => exact absurd hkk (by omega)
