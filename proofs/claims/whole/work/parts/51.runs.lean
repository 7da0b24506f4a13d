/-! RUNS: from p the turns pop the stack down to h and leave the value v and the state d; what lies below h stays -/
def mbeg (E : Nat → Int32) (M0 : Int32) (W X Y G : Nat → Int32) (Hd : Nat → Int64) (tv : Int64) (f a ev mt so k x y : Int32) : mY := zw_l (fX4_begins M0 W X Y G f a ev so k x y) (fun q => (E, q.1, q.2.1, q.2.2.1, q.2.2.2.1, q.2.2.2.2.1, Hd, tv, q.2.2.2.2.2.1, q.2.2.2.2.2.2.1, q.2.2.2.2.2.2.2, mt))
theorem beg_spent {E W X Y G : Nat → Int32} {Hd : Nat → Int64} {tv : Int64} {a ev mt : Int32} {M0 f so k x y : Int32} (h : a = 2000) : mbeg E M0 W X Y G Hd tv f a ev mt so k x y = (E, M0, W, X, Y, G, Hd, tv, 4, a, ev, mt) := by
  unfold mbeg fX4_begins zw_l
  dsimp only
  rw [if_pos h]
theorem beg_ok {E W X Y G : Nat → Int32} {Hd : Nat → Int64} {tv : Int64} {a ev mt : Int32} {f so k x y : Int32} {h : Nat} (hh : h < 80) (ha : ¬ a = 2000) : mbeg E (nI h) W X Y G Hd tv f a ev mt so k x y = (E, nI (h + 1), upd W h (24 * so + k), upd X h x, upd Y h y, upd G h 0, Hd, tv, f, a + 1, ev + 1, mt) := by
  unfold mbeg fX4_begins zw_l
  dsimp only
  rw [if_neg ha, nI_clamp (by omega), nI_1]
def mRun (B3 B4 : Nat → Int64) (K1 K2 K3 : Nat → Int32) (K4 : Nat → Int64) (p : mY) (h : Nat) (W X Y G : Nat → Int32) (Hd : Nat → Int64) (P : dY → (Nat → Int32) → Int32 → Int32 → Int32 → Prop) (v : Int64) (d : dY) : Prop :=
  ∃ (E2 W2 X2 Y2 G2 : Nat → Int32) (Hd2 : Nat → Int64) (tv2 : Int64) (a2 ev2 mt2 : Int32), mR B3 B4 K1 K2 K3 K4 p (mfin K1 (E2, nI h, W2, X2, Y2, G2, Hd2, tv2, d.2.2.2.2.2.2.2, a2, ev2, mt2)) ∧ (d.2.2.2.2.2.2.2 = 0 → tv2 = v) ∧ (d.2.2.2.2.2.2.2 = 0 ∨ ¬ d.2.2.2.2.2.2.2 ≤ 0) ∧ P d E2 a2 ev2 mt2 ∧ (∀ j, j < h → W2 j = W j ∧ X2 j = X j ∧ Y2 j = Y j ∧ G2 j = G j ∧ Hd2 j = Hd j)
theorem mRun.step {B3 : (Nat → Int64)} {B4 : (Nat → Int64)} {K1 : (Nat → Int32)} {K2 : (Nat → Int32)} {K3 : (Nat → Int32)} {K4 : (Nat → Int64)} {p : mY} {h : Nat} {W X Y G : Nat → Int32} {Hd : Nat → Int64} {P : dY → (Nat → Int32) → Int32 → Int32 → Int32 → Prop} {v : Int64} {d : dY} (hg : mgo p) (hs : msafe K1 K2 p) (hr : mRun B3 B4 K1 K2 K3 K4 (mT B3 B4 K1 K2 K3 K4 p) h W X Y G Hd P v d) : mRun B3 B4 K1 K2 K3 K4 p h W X Y G Hd P v d := by
  obtain ⟨E2, W2, X2, Y2, G2, Hd2, tv2, a2, ev2, mt2, h1, h2⟩ := hr
  exact ⟨E2, W2, X2, Y2, G2, Hd2, tv2, a2, ev2, mt2, mR.one hg hs h1, h2⟩
/-- it told, and is gone from the stack -/
theorem mRun.told {B3 : (Nat → Int64)} {B4 : (Nat → Int64)} {K1 : (Nat → Int32)} {K2 : (Nat → Int32)} {K3 : (Nat → Int32)} {K4 : (Nat → Int64)} {E W X Y G : Nat → Int32} {Hd : Nat → Int64} {tv : Int64} {a ev mt : Int32} {h : Nat} {W0 X0 Y0 G0 : Nat → Int32} {Hd0 : Nat → Int64} {P : dY → (Nat → Int32) → Int32 → Int32 → Int32 → Prop} {v : Int64} {d : dY} (hv : tv = v) (h0 : d.2.2.2.2.2.2.2 = 0) (hP : P d E a ev mt) (hf : (∀ j, j < h → W j = W0 j ∧ X j = X0 j ∧ Y j = Y0 j ∧ G j = G0 j ∧ Hd j = Hd0 j)) : mRun B3 B4 K1 K2 K3 K4 (E, nI h, W, X, Y, G, Hd, tv, 0, a, ev, mt) h W0 X0 Y0 G0 Hd0 P v d := by
  refine ⟨E, W, X, Y, G, Hd, tv, a, ev, mt, ?_, fun _ => hv, Or.inl h0, hP, hf⟩
  rw [h0, fin_ok]
  exact mR.rf
/-- it failed, and meets none itself -/
theorem mRun.fell {B3 : (Nat → Int64)} {B4 : (Nat → Int64)} {K1 : (Nat → Int32)} {K2 : (Nat → Int32)} {K3 : (Nat → Int32)} {K4 : (Nat → Int64)} {E W X Y G : Nat → Int32} {Hd : Nat → Int64} {tv : Int64} {a ev mt : Int32} {f : Int32} {h : Nat} {W0 X0 Y0 G0 : Nat → Int32} {Hd0 : Nat → Int64} {P : dY → (Nat → Int32) → Int32 → Int32 → Int32 → Prop} {v : Int64} {d : dY} (hh : h < 80) (h0 : d.2.2.2.2.2.2.2 = f) (hn : ¬ f ≤ 0) (hc : nocatch K1 (W h) (G h) f) (hP : P d E a ev mt) (hf : (∀ j, j < h → W j = W0 j ∧ X j = X0 j ∧ Y j = Y0 j ∧ G j = G0 j ∧ Hd j = Hd0 j)) : mRun B3 B4 K1 K2 K3 K4 (mfin K1 (E, nI (h + 1), W, X, Y, G, Hd, tv, f, a, ev, mt)) h W0 X0 Y0 G0 Hd0 P v d := by
  subst h0
  refine ⟨E, W, X, Y, G, Hd, tv, a, ev, mt, ?_, fun z => absurd (by rw [z]; decide) hn, Or.inr hn, hP, hf⟩
  rw [fin_pop hh hn hc]
  exact mR.rf
/-- it asks another: what that leaves -/
theorem mRun.child {B3 : (Nat → Int64)} {B4 : (Nat → Int64)} {K1 : (Nat → Int32)} {K2 : (Nat → Int32)} {K3 : (Nat → Int32)} {K4 : (Nat → Int64)} {E W X Y G : Nat → Int32} {Hd : Nat → Int64} {tv : Int64} {a ev mt : Int32} {p : mY} {so k x y : Int32} {h : Nat} {W0 X0 Y0 G0 : Nat → Int32} {Hd0 : Nat → Int64} {P : dY → (Nat → Int32) → Int32 → Int32 → Int32 → Prop} {v v1 : Int64} {d d1 : dY} (hh : h < 80) (hp : p = mfin K1 (mbeg E (nI (h + 1)) W X Y G Hd tv 0 a ev mt so k x y)) (hr : mRun B3 B4 K1 K2 K3 K4 (mfin K1 (mbeg E (nI (h + 1)) W X Y G Hd tv 0 a ev mt so k x y)) (h + 1) W X Y G Hd P v1 d1) (hf : (∀ j, j < h → W j = W0 j ∧ X j = X0 j ∧ Y j = Y0 j ∧ G j = G0 j ∧ Hd j = Hd0 j))
    (hfail : ¬ d1.2.2.2.2.2.2.2 = 0 → nocatch K1 (W h) (G h) d1.2.2.2.2.2.2.2 ∧ d = d1)
    (hgo : d1.2.2.2.2.2.2.2 = 0 → ∀ (E2 W2 X2 Y2 G2 : Nat → Int32) (Hd2 : Nat → Int64) (a2 ev2 mt2 : Int32), P d1 E2 a2 ev2 mt2 → (∀ j, j < (h + 1) → W2 j = W j ∧ X2 j = X j ∧ Y2 j = Y j ∧ G2 j = G j ∧ Hd2 j = Hd j) → mRun B3 B4 K1 K2 K3 K4 (E2, nI (h + 1), W2, X2, Y2, G2, Hd2, v1, 0, a2, ev2, mt2) h W0 X0 Y0 G0 Hd0 P v d) : mRun B3 B4 K1 K2 K3 K4 p h W0 X0 Y0 G0 Hd0 P v d := by
  subst hp
  obtain ⟨E2, W2, X2, Y2, G2, Hd2, tv2, a2, ev2, mt2, h1, h2, h3, h4, h5⟩ := hr
  by_cases h0 : d1.2.2.2.2.2.2.2 = 0
  · have h6 := h2 h0
    subst h6
    rw [h0, fin_ok] at h1
    obtain ⟨E3, W3, X3, Y3, G3, Hd3, tv3, a3, ev3, mt3, g1, g2⟩ := hgo h0 E2 W2 X2 Y2 G2 Hd2 a2 ev2 mt2 h4 h5
    exact ⟨E3, W3, X3, Y3, G3, Hd3, tv3, a3, ev3, mt3, h1.tr g1, g2⟩
  · obtain ⟨hc, rfl⟩ := hfail h0
    have hn := h3.resolve_left h0
    have e5 := h5 h (by omega)
    have e6 := fin_pop (E := E2) (W := W2) (X := X2) (Y := Y2) (G := G2) (Hd := Hd2) (tv := tv2) (a := a2) (ev := ev2) (mt := mt2) hh hn (by rw [e5.1, e5.2.2.2.1]; exact hc)
    rw [e6] at h1
    refine ⟨E2, W2, X2, Y2, G2, Hd2, tv2, a2, ev2, mt2, h1, fun z => absurd z h0, h3, h4, fun j hj => ?_⟩
    have a1 := h5 j (by omega)
    have a2 := hf j hj
    exact ⟨a1.1.trans a2.1, a1.2.1.trans a2.2.1, a1.2.2.1.trans a2.2.2.1, a1.2.2.2.1.trans a2.2.2.2.1, a1.2.2.2.2.trans a2.2.2.2.2⟩
