/-! every asking of the reference comes to what the class's tells -/
theorem simSV {B3 : (Nat → Int64)} {B4 : (Nat → Int64)} {K1 : (Nat → Int32)} {K2 : (Nat → Int32)} {K3 : (Nat → Int32)} {K4 : (Nat → Int64)} {S : dS} {V : dV} {O : dO} {sn vn on nt L : Nat} {rs rv ro : Nat → Nat} (hT : dz_tab S V O sn vn on rs rv ro) (hsn : sn ≤ 24) (hvn : vn ≤ 24) (hon : on ≤ 24) (hM : mTab S V O K1 K2 K3 sn vn on) (hnt : nt ≤ 40) (hL : L ≤ 2000000) : ∀ n : Nat, CLS B3 B4 K1 K2 K3 K4 S V O sn vn on nt L rs rv ro n ∧ CLV B3 B4 K1 K2 K3 K4 S V O sn vn on nt L rs rv ro n := by
  intro n
  induction n with
  | zero => exact ⟨fun _ _ _ _ _ _ _ _ _ _ _ _ _ _ h => absurd h.2 (Nat.not_lt_zero _), fun _ _ _ _ _ _ _ _ _ _ _ _ _ _ h => absurd h.2 (Nat.not_lt_zero _)⟩
  | succ n ih => exact ⟨simS hT hsn hvn hon hM hnt hL ih.1 ih.2, simV hT hsn hvn hon hM hnt hL ih.1 ih.2⟩
theorem simOO {B3 : (Nat → Int64)} {B4 : (Nat → Int64)} {K1 : (Nat → Int32)} {K2 : (Nat → Int32)} {K3 : (Nat → Int32)} {K4 : (Nat → Int64)} {S : dS} {V : dV} {O : dO} {sn vn on nt L : Nat} {rs rv ro : Nat → Nat} (hT : dz_tab S V O sn vn on rs rv ro) (hsn : sn ≤ 24) (hvn : vn ≤ 24) (hon : on ≤ 24) (hM : mTab S V O K1 K2 K3 sn vn on) (hnt : nt ≤ 40) (hL : L ≤ 2000000) : ∀ n : Nat, CLO B3 B4 K1 K2 K3 K4 S V O sn vn on nt L rs rv ro n := by
  intro n
  induction n with
  | zero => exact fun _ _ _ _ _ _ _ _ _ _ _ _ _ _ _ h => absurd h.2 (Nat.not_lt_zero _)
  | succ n ih => exact simO hT hsn hvn hon hM hnt hL (simSV hT hsn hvn hon hM hnt hL n).1 (simSV hT hsn hvn hon hM hnt hL n).2 ih
theorem fin_beg {K1 : Nat → Int32} {E : Nat → Int32} {W X Y G : Nat → Int32} {Hd : Nat → Int64} {tv : Int64} {a ev mt so k x y : Int32} : mfin K1 (mbeg E (nI 0) W X Y G Hd tv 0 a ev mt so k x y) = fX4_ask0 E W X Y G Hd tv a ev mt so k x y := by
  by_cases ha : a = 2000
  · have e : fX4_ask0 E W X Y G Hd tv a ev mt so k x y = mbeg E (nI 0) W X Y G Hd tv 0 a ev mt so k x y := rfl
    rw [e, beg_spent ha, fin_empty]
  · have e : fX4_ask0 E W X Y G Hd tv a ev mt so k x y = mbeg E (nI 0) W X Y G Hd tv 0 a ev mt so k x y := rfl
    rw [e, beg_ok (by decide) ha, fin_ok]
/-- a run from the empty stack is what ask comes to -/
theorem ask_of {B3 : (Nat → Int64)} {B4 : (Nat → Int64)} {K1 : (Nat → Int32)} {K2 : (Nat → Int32)} {K3 : (Nat → Int32)} {K4 : (Nat → Int64)} {E : Nat → Int32} {W X Y G : Nat → Int32} {Hd : Nat → Int64} {tv : Int64} {a ev mt so k x y : Int32} {P : dY → (Nat → Int32) → Int32 → Int32 → Int32 → Prop} {v : Int64} {d : dY} (h : mRun B3 B4 K1 K2 K3 K4 (mfin K1 (mbeg E (nI 0) W X Y G Hd tv 0 a ev mt so k x y)) 0 W X Y G Hd P v d) : ∃ t : mY, mAsk B3 B4 K1 K2 K3 K4 E W X Y G Hd tv a ev mt so k x y t ∧ t.2.2.2.2.2.2.2.2.1 = d.2.2.2.2.2.2.2 ∧ (d.2.2.2.2.2.2.2 = 0 → t.2.2.2.2.2.2.2.1 = v) ∧ P d t.1 t.2.2.2.2.2.2.2.2.2.1 t.2.2.2.2.2.2.2.2.2.2.1 t.2.2.2.2.2.2.2.2.2.2.2 := by
  obtain ⟨E2, W2, X2, Y2, G2, Hd2, tv2, a2, ev2, mt2, h1, h2, h3, h4, -⟩ := h
  rw [fin_beg, fin_empty] at h1
  exact ⟨_, ⟨h1, fun z => z.1 (show nI 0 ≤ 0 by decide)⟩, rfl, h2, h4⟩
/-- what may be asked of the reference -/
def mJJ (S : dS) (V : dV) (K4 : Nat → Int64) (sn vn L : Nat) (E : Nat → Int32) (a ev mt : Int32) : Prop := ∃ d : dY, d.2.2.2.2.2.2.2 = 0 ∧ mSim S V K4 sn vn L d E a ev mt
theorem mJJ_of {S : dS} {V : dV} {K4 : Nat → Int64} {sn vn L : Nat} {d : dY} {E : Nat → Int32} {a ev mt : Int32} (h : mSim S V K4 sn vn L d E a ev mt) : mJJ S V K4 sn vn L E a ev mt := ⟨(d.1, d.2.1, d.2.2.1, d.2.2.2.1, d.2.2.2.2.1, 0, 0, 0), rfl, sim_sd h 0 0 0⟩
theorem rk73 {S : dS} {V : dV} {O : dO} {sn vn on : Nat} {rs rv ro : Nat → Nat} (hK : dz_K S V O sn vn on rs rv ro) : (∀ k : Int32, vp_in k sn → dz_op sn rs 73 k ∧ 0 + rs k.toNatClampNeg ≤ 72) ∧ (∀ k : Int32, vp_in k vn → dz_op vn rv 73 k ∧ 0 + rv k.toNatClampNeg ≤ 72) ∧ (∀ k : Int32, vp_in k on → dz_op on ro 73 k ∧ 0 + ro k.toNatClampNeg ≤ 72) := by
  have b : sn + vn + on ≤ 72 := by have := hK.1; have := hK.2.1; have := hK.2.2.1; omega
  refine ⟨fun k h => ?_, fun k h => ?_, fun k h => ?_⟩
  · have g := dz_op73 h hK.2.2.2.2.2.2.2.1 b; have := g.2; exact ⟨g, by omega⟩
  · have g := dz_op73 h hK.2.2.2.2.2.2.2.2.1 b; have := g.2; exact ⟨g, by omega⟩
  · have g := dz_op73 h hK.2.2.2.2.2.2.2.2.2 b; have := g.2; exact ⟨g, by omega⟩
section ZK
variable {B3 : (Nat → Int64)} {B4 : (Nat → Int64)} {K1 : (Nat → Int32)} {K2 : (Nat → Int32)} {K3 : (Nat → Int32)} {K4 : (Nat → Int64)} {S : dS} {V : dV} {O : dO} {sn vn on nt L : Nat} {rs rv ro : Nat → Nat}
theorem ask_S (hK : dz_K S V O sn vn on rs rv ro) (hM : mTab S V O K1 K2 K3 sn vn on) (hnt : nt ≤ 40) (hL : L ≤ 2000000) {d : dY} {E : Nat → Int32} {W X Y G : Nat → Int32} {Hd : Nat → Int64} {tv : Int64} {a ev mt k x : Int32} (hk : vp_in k sn) (hx : vp_in x nt) (h0 : d.2.2.2.2.2.2.2 = 0) (hs : mSim S V K4 sn vn L d E a ev mt) : ∃ t : mY, mAsk B3 B4 K1 K2 K3 K4 E W X Y G Hd tv a ev mt 0 k x x t ∧ t.2.2.2.2.2.2.2.2.1 = ((zA B3 B4 S.1 S.2.1 S.2.2.1 V.1 V.2.1 V.2.2.1 73).1 d k x).2.2.2.2.2.2.2.2 ∧ (((zA B3 B4 S.1 S.2.1 S.2.2.1 V.1 V.2.1 V.2.2.1 73).1 d k x).2.2.2.2.2.2.2.2 = 0 → t.2.2.2.2.2.2.2.1 = ((zA B3 B4 S.1 S.2.1 S.2.2.1 V.1 V.2.1 V.2.2.1 73).1 d k x).1) ∧ mSim S V K4 sn vn L ((zA B3 B4 S.1 S.2.1 S.2.2.1 V.1 V.2.1 V.2.2.1 73).1 d k x).2 t.1 t.2.2.2.2.2.2.2.2.2.1 t.2.2.2.2.2.2.2.2.2.2.1 t.2.2.2.2.2.2.2.2.2.2.2 := by
  have g := (rk73 hK).1 k hk
  obtain ⟨h1, h2, h3, -, -, -, h4, -⟩ := hK
  exact ask_of ((simSV h4 h1 h2 h3 hM hnt hL 73).1 d E W X Y G Hd tv a ev mt 0 k x g.1 hx g.2 h0 hs)
theorem ask_V (hK : dz_K S V O sn vn on rs rv ro) (hM : mTab S V O K1 K2 K3 sn vn on) (hnt : nt ≤ 40) (hL : L ≤ 2000000) {d : dY} {E : Nat → Int32} {W X Y G : Nat → Int32} {Hd : Nat → Int64} {tv : Int64} {a ev mt k x : Int32} (hk : vp_in k vn) (hx : vp_in x nt) (h0 : d.2.2.2.2.2.2.2 = 0) (hs : mSim S V K4 sn vn L d E a ev mt) : ∃ t : mY, mAsk B3 B4 K1 K2 K3 K4 E W X Y G Hd tv a ev mt 1 k x x t ∧ t.2.2.2.2.2.2.2.2.1 = ((zA B3 B4 S.1 S.2.1 S.2.2.1 V.1 V.2.1 V.2.2.1 73).2 d k x).2.2.2.2.2.2.2.2 ∧ (((zA B3 B4 S.1 S.2.1 S.2.2.1 V.1 V.2.1 V.2.2.1 73).2 d k x).2.2.2.2.2.2.2.2 = 0 → t.2.2.2.2.2.2.2.1 = ((zA B3 B4 S.1 S.2.1 S.2.2.1 V.1 V.2.1 V.2.2.1 73).2 d k x).1.toInt64) ∧ mSim S V K4 sn vn L ((zA B3 B4 S.1 S.2.1 S.2.2.1 V.1 V.2.1 V.2.2.1 73).2 d k x).2 t.1 t.2.2.2.2.2.2.2.2.2.1 t.2.2.2.2.2.2.2.2.2.2.1 t.2.2.2.2.2.2.2.2.2.2.2 := by
  have g := (rk73 hK).2.1 k hk
  obtain ⟨h1, h2, h3, -, -, -, h4, -⟩ := hK
  exact ask_of ((simSV h4 h1 h2 h3 hM hnt hL 73).2 d E W X Y G Hd tv a ev mt 0 k x g.1 hx g.2 h0 hs)
theorem ask_O (hK : dz_K S V O sn vn on rs rv ro) (hM : mTab S V O K1 K2 K3 sn vn on) (hnt : nt ≤ 40) (hL : L ≤ 2000000) {d : dY} {E : Nat → Int32} {W X Y G : Nat → Int32} {Hd : Nat → Int64} {tv : Int64} {a ev mt k x y : Int32} (hk : vp_in k on) (hx : vp_in x nt) (hy : vp_in y nt) (h0 : d.2.2.2.2.2.2.2 = 0) (hs : mSim S V K4 sn vn L d E a ev mt) : ∃ t : mY, mAsk B3 B4 K1 K2 K3 K4 E W X Y G Hd tv a ev mt 2 k x y t ∧ t.2.2.2.2.2.2.2.2.1 = ((zO B3 B4 S.1 S.2.1 S.2.2.1 V.1 V.2.1 V.2.2.1 O.1 O.2.1 O.2.2.1 73) d k x y).2.2.2.2.2.2.2.2 ∧ (((zO B3 B4 S.1 S.2.1 S.2.2.1 V.1 V.2.1 V.2.2.1 O.1 O.2.1 O.2.2.1 73) d k x y).2.2.2.2.2.2.2.2 = 0 → t.2.2.2.2.2.2.2.1 = ((zO B3 B4 S.1 S.2.1 S.2.2.1 V.1 V.2.1 V.2.2.1 O.1 O.2.1 O.2.2.1 73) d k x y).1.toInt64) ∧ mSim S V K4 sn vn L ((zO B3 B4 S.1 S.2.1 S.2.2.1 V.1 V.2.1 V.2.2.1 O.1 O.2.1 O.2.2.1 73) d k x y).2 t.1 t.2.2.2.2.2.2.2.2.2.1 t.2.2.2.2.2.2.2.2.2.2.1 t.2.2.2.2.2.2.2.2.2.2.2 := by
  have g := (rk73 hK).2.2 k hk
  obtain ⟨h1, h2, h3, -, -, -, h4, -⟩ := hK
  exact ask_of (simOO h4 h1 h2 h3 hM hnt hL 73 d E W X Y G Hd tv a ev mt 0 k x y g.1 hx hy g.2 h0 hs)
theorem mJ_all (hK : dz_K S V O sn vn on rs rv ro) (hM : mTab S V O K1 K2 K3 sn vn on) (hnt : nt ≤ 40) (hL : L ≤ 2000000) : mJ B3 B4 K1 K2 K3 K4 (mJJ S V K4 sn vn L) sn vn on nt := by
  refine ⟨fun E W X Y G Hd tv a ev mt k x hJ hk hx => ?_, fun E W X Y G Hd tv a ev mt k x hJ hk hx => ?_, fun E W X Y G Hd tv a ev mt k x y hJ hk hx hy => ?_⟩
  · obtain ⟨d, h0, hs⟩ := hJ
    obtain ⟨t, g1, -, -, g4⟩ := ask_S hK hM hnt hL hk hx h0 hs
    exact ⟨t, g1, mJJ_of g4⟩
  · obtain ⟨d, h0, hs⟩ := hJ
    obtain ⟨t, g1, -, -, g4⟩ := ask_V hK hM hnt hL hk hx h0 hs
    exact ⟨t, g1, mJJ_of g4⟩
  · obtain ⟨d, h0, hs⟩ := hJ
    obtain ⟨t, g1, -, -, g4⟩ := ask_O hK hM hnt hL hk hx hy h0 hs
    exact ⟨t, g1, mJJ_of g4⟩
end ZK
