/-! THE SIMULATION: what is begun on the stack comes down to what the class's asking tells -/
def CLS (B3 B4 : Nat → Int64) (K1 K2 K3 : Nat → Int32) (K4 : Nat → Int64) (S : dS) (V : dV) (O : dO) (sn vn on nt L : Nat) (rs rv ro : Nat → Nat) (n : Nat) : Prop := ∀ (d : dY) (E W X Y G : Nat → Int32) (Hd : Nat → Int64) (tv : Int64) (a ev mt : Int32) (h : Nat) (k x : Int32), dz_op sn rs n k → vp_in x nt → h + rs k.toNatClampNeg ≤ 72 → d.2.2.2.2.2.2.2 = 0 → mSim S V K4 sn vn L d E a ev mt → mRun B3 B4 K1 K2 K3 K4 (mfin K1 (mbeg E (nI h) W X Y G Hd tv 0 a ev mt 0 k x x)) h W X Y G Hd (mSim S V K4 sn vn L) ((zA B3 B4 S.1 S.2.1 S.2.2.1 V.1 V.2.1 V.2.2.1 n).1 d k x).1 ((zA B3 B4 S.1 S.2.1 S.2.2.1 V.1 V.2.1 V.2.2.1 n).1 d k x).2
def CLV (B3 B4 : Nat → Int64) (K1 K2 K3 : Nat → Int32) (K4 : Nat → Int64) (S : dS) (V : dV) (O : dO) (sn vn on nt L : Nat) (rs rv ro : Nat → Nat) (n : Nat) : Prop := ∀ (d : dY) (E W X Y G : Nat → Int32) (Hd : Nat → Int64) (tv : Int64) (a ev mt : Int32) (h : Nat) (k x : Int32), dz_op vn rv n k → vp_in x nt → h + rv k.toNatClampNeg ≤ 72 → d.2.2.2.2.2.2.2 = 0 → mSim S V K4 sn vn L d E a ev mt → mRun B3 B4 K1 K2 K3 K4 (mfin K1 (mbeg E (nI h) W X Y G Hd tv 0 a ev mt 1 k x x)) h W X Y G Hd (mSim S V K4 sn vn L) ((zA B3 B4 S.1 S.2.1 S.2.2.1 V.1 V.2.1 V.2.2.1 n).2 d k x).1.toInt64 ((zA B3 B4 S.1 S.2.1 S.2.2.1 V.1 V.2.1 V.2.2.1 n).2 d k x).2
def CLO (B3 B4 : Nat → Int64) (K1 K2 K3 : Nat → Int32) (K4 : Nat → Int64) (S : dS) (V : dV) (O : dO) (sn vn on nt L : Nat) (rs rv ro : Nat → Nat) (n : Nat) : Prop := ∀ (d : dY) (E W X Y G : Nat → Int32) (Hd : Nat → Int64) (tv : Int64) (a ev mt : Int32) (h : Nat) (k x y : Int32), dz_op on ro n k → vp_in x nt → vp_in y nt → h + ro k.toNatClampNeg ≤ 72 → d.2.2.2.2.2.2.2 = 0 → mSim S V K4 sn vn L d E a ev mt → mRun B3 B4 K1 K2 K3 K4 (mfin K1 (mbeg E (nI h) W X Y G Hd tv 0 a ev mt 2 k x y)) h W X Y G Hd (mSim S V K4 sn vn L) ((zO B3 B4 S.1 S.2.1 S.2.2.1 V.1 V.2.1 V.2.2.1 O.1 O.2.1 O.2.2.1 n) d k x y).1.toInt64 ((zO B3 B4 S.1 S.2.1 S.2.2.1 V.1 V.2.1 V.2.2.1 O.1 O.2.1 O.2.2.1 n) d k x y).2
theorem fr_tr {W2 : Nat → Int32} {X2 : Nat → Int32} {Y2 : Nat → Int32} {G2 : Nat → Int32} {W1 : Nat → Int32} {X1 : Nat → Int32} {Y1 : Nat → Int32} {G1 : Nat → Int32} {W : Nat → Int32} {X : Nat → Int32} {Y : Nat → Int32} {G : Nat → Int32} {Hd2 Hd1 Hd : Nat → Int64} {h : Nat} (f : (∀ j, j < (h + 1) → W2 j = W1 j ∧ X2 j = X1 j ∧ Y2 j = Y1 j ∧ G2 j = G1 j ∧ Hd2 j = Hd1 j)) (g : (∀ j, j < h → W1 j = W j ∧ X1 j = X j ∧ Y1 j = Y j ∧ G1 j = G j ∧ Hd1 j = Hd j)) : (∀ j, j < h → W2 j = W j ∧ X2 j = X j ∧ Y2 j = Y j ∧ G2 j = G j ∧ Hd2 j = Hd j) := fun j hj => by
  have a := f j (by omega)
  have b := g j hj
  exact ⟨a.1.trans b.1, a.2.1.trans b.2.1, a.2.2.1.trans b.2.2.1, a.2.2.2.1.trans b.2.2.2.1, a.2.2.2.2.trans b.2.2.2.2⟩
theorem fr_st {W1 X1 Y1 G1 W X Y G : Nat → Int32} {Hd1 Hd : Nat → Int64} {h : Nat} {u : Int32} (g : (∀ j, j < h → W1 j = W j ∧ X1 j = X j ∧ Y1 j = Y j ∧ G1 j = G j ∧ Hd1 j = Hd j)) : (∀ j, j < h → W1 j = W j ∧ X1 j = X j ∧ Y1 j = Y j ∧ (upd G1 h u) j = G j ∧ Hd1 j = Hd j) := fun j hj => by
  have b := g j hj
  exact ⟨b.1, b.2.1, b.2.2.1, (pk_un (by omega)).trans b.2.2.2.1, b.2.2.2.2⟩
theorem fr_sh {W1 X1 Y1 G1 W X Y G : Nat → Int32} {Hd1 Hd : Nat → Int64} {h : Nat} {u : Int32} {v : Int64} (g : (∀ j, j < h → W1 j = W j ∧ X1 j = X j ∧ Y1 j = Y j ∧ G1 j = G j ∧ Hd1 j = Hd j)) : (∀ j, j < h → W1 j = W j ∧ X1 j = X j ∧ Y1 j = Y j ∧ (upd G1 h u) j = G j ∧ (vp_updL Hd1 h v) j = Hd j) := fun j hj => by
  have b := g j hj
  exact ⟨b.1, b.2.1, b.2.2.1, (pk_un (by omega)).trans b.2.2.2.1, (pk_uLn (by omega)).trans b.2.2.2.2⟩
theorem i32_s0 (k : Int32) : (24 * 0 + k : Int32) = k := by
  rw [show (24 * 0 : Int32) = 0 from by decide, Int32.zero_add]
theorem i32_sN (so i : Nat) : (24 * nI so + nI i : Int32) = nI (24 * so + i) := by
  rw [show (24 : Int32) = nI 24 from rfl, pk_mul, nI_add]
theorem op_nI {sz m : Nat} {r : Nat → Nat} {k : Int32} (h : dz_op sz r m k) (hs : sz ≤ 24) : k = nI k.toNatClampNeg := by
  obtain ⟨j, hj, e⟩ := vp_in_of h.1 (by omega)
  rw [e, nI_clamp (by omega)]
theorem op_24 {sz m : Nat} {r : Nat → Nat} {k : Int32} (h : dz_op sz r m k) (hs : sz ≤ 24) : k < 24 := by
  obtain ⟨j, hj, e⟩ := vp_in_of h.1 (by omega)
  rw [e]; exact (nI_ltI (b := 24) (by omega) (by decide)).mpr (by omega)
theorem sim_cntS {S : dS} {V : dV} {K4 : Nat → Int64} {sn vn L : Nat} {d : dY} {E : Nat → Int32} {a ev mt k : Int32} (hL : L ≤ 2000000) (hs : mSim S V K4 sn vn L d E a ev mt) (ha : ¬ a = 2000) (hi : k.toNatClampNeg < sn) (hk : S.1 k.toNatClampNeg = 10) (hsn : sn ≤ 24) : mSim S V K4 sn vn L ((fX1_countAsked d.1 k).2, (dbeg d).2) (upd E k.toNatClampNeg (E k.toNatClampNeg + 1)) (a + 1) (ev + 1) mt ∧ (E k.toNatClampNeg + 1).toInt64 = (fX1_countAsked d.1 k).1 := by
  obtain ⟨hs1, -⟩ := sim_beg hs ha
  obtain ⟨-, -, -, n0, m0, z4, -, z6, z7, z8, -⟩ := hs
  obtain ⟨g1, g2, g3, n, m, g4, g5, g6, g7, g8, g9⟩ := hs1
  obtain ⟨c, c1, c2, c3⟩ := (z8 _ hi).2 hk
  have hm : m0 ≤ 2000000 := by omega
  have hmm : m = m0 + 1 := (nI_eq (by omega) (by omega)).mp (by rw [← g6, z6]; exact nI_1 m0)
  have ec : fX1_countAsked d.1 k = (d.1 k.toNatClampNeg + 1, vp_updL d.1 k.toNatClampNeg (d.1 k.toNatClampNeg + 1)) := by
    unfold fX1_countAsked
    rw [pk_uLs]
  rw [ec]
  refine ⟨⟨g1, g2, g3, n, m, g4, g5, g6, g7, fun i hi2 => ⟨fun hh => ?_, fun hh => ?_⟩, fun i hi2 hv => ?_⟩, ?_⟩
  · show K4 i = vp_updL d.1 k.toNatClampNeg (d.1 k.toNatClampNeg + 1) i
    have hne : i ≠ k.toNatClampNeg := fun e => by rw [e, hk] at hh; exact absurd hh (by decide)
    rw [pk_uLn hne]; exact (g8 i hi2).1 hh
  · show ∃ c, c ≤ m ∧ vp_updL d.1 k.toNatClampNeg (d.1 k.toNatClampNeg + 1) i = lN c ∧ upd E k.toNatClampNeg (E k.toNatClampNeg + 1) i = nI c
    by_cases hne : i = k.toNatClampNeg
    · subst hne
      rw [pk_uLs, pk_us, c2, c3]
      exact ⟨c + 1, by omega, lN_1 c, nI_1 c⟩
    · rw [pk_uLn hne, pk_un hne]; exact (g8 i hi2).2 hh
  · obtain ⟨c5, d1, d2, d3⟩ := g9 i hi2 hv
    exact ⟨c5, d1, d2, by rw [pk_un (by omega)]; exact d3⟩
  · show (E k.toNatClampNeg + 1).toInt64 = d.1 k.toNatClampNeg + 1
    rw [c3, c2, nI_1, lN_1, nI_l (by omega)]
