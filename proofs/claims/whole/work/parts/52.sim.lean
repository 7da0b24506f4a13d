/-! THE RELATION between what the class's askings change and what the reference's do -/
def each (x : Int32) : Nat := (if x < 1 then (1 : Int32) else x).toNatClampNeg
def mSim (S : dS) (V : dV) (K4 : Nat → Int64) (sn vn L : Nat) (d : dY) (E : Nat → Int32) (a ev mt : Int32) : Prop :=
  d.2.2.1 = a ∧ d.2.2.2.1 = ev ∧ d.2.2.2.2.1 = mt ∧ ∃ n m : Nat, n ≤ 2000 ∧ a = nI n ∧ ev = nI m ∧ m + 2000 ≤ L + n ∧ (∀ i, i < sn → (S.1 i = 8 ∨ S.1 i = 9 → K4 i = d.1 i) ∧ (S.1 i = 10 → ∃ c, c ≤ m ∧ d.1 i = lN c ∧ E i = nI c)) ∧ (∀ i, i < vn → V.1 i = 6 → ∃ c, c ≤ m ∧ d.2.1 i = lN c ∧ E (24 + i) = nI (c % each (V.2.1 i)))
/-- the tables are the same -/
def mTab (S : dS) (V : dV) (O : dO) (K1 K2 K3 : Nat → Int32) (sn vn on : Nat) : Prop :=
  (∀ i, i < sn → K1 i = S.1 i ∧ K2 i = S.2.1 i ∧ K3 i = S.2.2.1 i ∧ ∃ k : Nat, k ≤ 11 ∧ S.1 i = nI k) ∧
  (∀ i, i < vn → K1 (24 + i) = V.1 i ∧ K2 (24 + i) = V.2.1 i ∧ K3 (24 + i) = V.2.2.1 i ∧ ∃ k : Nat, k ≤ 9 ∧ V.1 i = nI k) ∧
  (∀ i, i < on → K1 (48 + i) = O.1 i ∧ K2 (48 + i) = O.2.1 i ∧ K3 (48 + i) = O.2.2.1 i ∧ ∃ k : Nat, k ≤ 5 ∧ O.1 i = nI k)
theorem ba_dead {T : dT} (h : ¬ T.2.2.2.2.2 = 0) : fX2_beginsAsking T = (0, T) := by
  unfold fX2_beginsAsking fX2_hasFailure
  rw [if_neg h, if_neg (by decide)]
theorem ba_ok {T : dT} (h : T.2.2.2.2.2 = 0) (h2 : T.1 < 2000) : fX2_beginsAsking T = (1, (T.1 + 1, T.2.1 + 1, T.2.2.1, T.2.2.2.1, T.2.2.2.2.1, T.2.2.2.2.2)) := by
  unfold fX2_beginsAsking fX2_hasFailure
  rw [if_pos h, if_pos rfl, if_pos h2]
theorem ba_spent {T : dT} (h : T.2.2.2.2.2 = 0) (h2 : ¬ T.1 < 2000) : fX2_beginsAsking T = (0, (T.1, T.2.1, T.2.2.1, T.2.2.2.1, T.2.2.2.2.1, 4)) := by
  unfold fX2_beginsAsking fX2_hasFailure
  rw [if_pos h, if_pos rfl, if_neg h2]
  unfold zw_l fX2_fail fX2_hasFailure
  rw [if_pos h, if_pos rfl]
/-- behind a failure nothing is asked -/
theorem dead_S {ce rw : Nat → Int64} {sk sa sb vk va vb : Nat → Int32} {d : dY} {i t : Int32} (h : ¬ d.2.2.2.2.2.2.2 = 0) (n : Nat) : ((zA ce rw sk sa sb vk va vb n).1 d i t).2 = d := by
  cases n with
  | zero => rfl
  | succ n =>
    show (bS _ _ ce rw sk sa sb d i t).2 = d
    unfold bS zw_l
    rw [ba_dead h]
    rfl
theorem dead_V {ce rw : Nat → Int64} {sk sa sb vk va vb : Nat → Int32} {d : dY} {i t : Int32} (h : ¬ d.2.2.2.2.2.2.2 = 0) (n : Nat) : ((zA ce rw sk sa sb vk va vb n).2 d i t).2 = d := by
  cases n with
  | zero => rfl
  | succ n =>
    show (bV _ _ vk va vb d i t).2 = d
    unfold bV zw_l
    rw [ba_dead h]
    rfl
theorem dead_O {ce rw : Nat → Int64} {sk sa sb vk va vb ok oa ob : Nat → Int32} {d : dY} {i x y : Int32} (h : ¬ d.2.2.2.2.2.2.2 = 0) (n : Nat) : (zO ce rw sk sa sb vk va vb ok oa ob n d i x y).2 = d := by
  cases n with
  | zero => rfl
  | succ n =>
    show (bO _ _ _ ok oa ob d i x y).2 = d
    unfold bO zw_l
    rw [ba_dead h]
    rfl
/-- what an asking that begins changes -/
def dbeg (d : dY) : dY := (d.1, d.2.1, d.2.2.1 + 1, d.2.2.2.1 + 1, d.2.2.2.2.1, d.2.2.2.2.2.1, d.2.2.2.2.2.2.1, d.2.2.2.2.2.2.2)
theorem sim_beg {S : dS} {V : dV} {K4 : Nat → Int64} {sn vn L : Nat} {d : dY} {E : Nat → Int32} {a ev mt : Int32} (h : mSim S V K4 sn vn L d E a ev mt) (ha : ¬ a = 2000) : mSim S V K4 sn vn L (dbeg d) E (a + 1) (ev + 1) mt ∧ d.2.2.1 < 2000 := by
  obtain ⟨h1, h2, h3, n, m, h4, h5, h6, h7, h8, h9⟩ := h
  have hn : n < 2000 := by
    rcases Nat.lt_or_ge n 2000 with z | z
    · exact z
    · exact absurd (by rw [h5, show n = 2000 from by omega]; rfl) ha
  refine ⟨⟨by rw [← h1]; rfl, by rw [← h2]; rfl, h3, n + 1, m + 1, by omega, by rw [h5]; exact nI_1 n, by rw [h6]; exact nI_1 m, by omega, fun i hi => ⟨(h8 i hi).1, fun hk => ?_⟩, fun i hi hk => ?_⟩, ?_⟩
  · obtain ⟨c, c1, c2⟩ := (h8 i hi).2 hk
    exact ⟨c, by omega, c2⟩
  · obtain ⟨c, c1, c2⟩ := h9 i hi hk
    exact ⟨c, by omega, c2⟩
  · rw [h1, h5]
    exact (nI_ltI (b := 2000) (by omega) (by decide)).mpr hn
theorem sim_spent {S : dS} {V : dV} {K4 : Nat → Int64} {sn vn L : Nat} {d : dY} {E : Nat → Int32} {a ev mt : Int32} (h : mSim S V K4 sn vn L d E a ev mt) (ha : a = 2000) : ¬ d.2.2.1 < 2000 := by
  rw [h.1, ha]; decide
/-- the failure that stands, and the counts of calls, are no part of it -/
theorem sim_sd {S : dS} {V : dV} {K4 : Nat → Int64} {sn vn L : Nat} {d : dY} {E : Nat → Int32} {a ev mt : Int32} (h : mSim S V K4 sn vn L d E a ev mt) (x y z : Int32) : mSim S V K4 sn vn L (d.1, d.2.1, d.2.2.1, d.2.2.2.1, d.2.2.2.2.1, x, y, z) E a ev mt := h
theorem bS_beg {fS : dFS} {fV : dFV} {ce rw : Nat → Int64} {sk sa sb : Nat → Int32} {d : dY} {i t : Int32} (h0 : d.2.2.2.2.2.2.2 = 0) (h : ¬ d.2.2.1 < 2000) : bS fS fV ce rw sk sa sb d i t = (0, d.1, d.2.1, d.2.2.1, d.2.2.2.1, d.2.2.2.2.1, d.2.2.2.2.2.1, d.2.2.2.2.2.2.1, 4) := by
  unfold bS zw_l
  rw [ba_spent h0 h]
  rfl
theorem bV_beg {fS : dFS} {fV : dFV} {vk va vb : Nat → Int32} {d : dY} {i t : Int32} (h0 : d.2.2.2.2.2.2.2 = 0) (h : ¬ d.2.2.1 < 2000) : bV fS fV vk va vb d i t = (0, d.1, d.2.1, d.2.2.1, d.2.2.2.1, d.2.2.2.2.1, d.2.2.2.2.2.1, d.2.2.2.2.2.2.1, 4) := by
  unfold bV zw_l
  rw [ba_spent h0 h]
  rfl
theorem bO_beg {fS : dFS} {fV : dFV} {fO : dFO} {ok oa ob : Nat → Int32} {d : dY} {i x y : Int32} (h0 : d.2.2.2.2.2.2.2 = 0) (h : ¬ d.2.2.1 < 2000) : bO fS fV fO ok oa ob d i x y = (0, d.1, d.2.1, d.2.2.1, d.2.2.2.1, d.2.2.2.2.1, d.2.2.2.2.2.1, d.2.2.2.2.2.2.1, 4) := by
  unfold bO zw_l
  rw [ba_spent h0 h]
  rfl
theorem bS_ok {fS : dFS} {fV : dFV} {ce rw : Nat → Int64} {sk sa sb : Nat → Int32} {d : dY} {i t k : Int32} (h0 : d.2.2.2.2.2.2.2 = 0) (h : d.2.2.1 < 2000) (hk : sk i.toNatClampNeg = k) : bS fS fV ce rw sk sa sb d i t = (if k = 0 then (ce (fX3_cellOf t (sa i.toNatClampNeg)).toNatClampNeg, dbeg d) else if k = 1 then ((sa i.toNatClampNeg).toInt64 + (sb i.toNatClampNeg).toInt64, dbeg d) else if k = 2 then zw_l (fS (dbeg d) (sa i.toNatClampNeg) t) (fun q => zw_l (fS q.2 (sb i.toNatClampNeg) t) (fun r => (q.1 + r.1, r.2))) else if k = 3 then zw_l (fS (dbeg d) (sa i.toNatClampNeg) t) (fun q => zw_l (fS q.2 (sb i.toNatClampNeg) t) (fun r => (q.1 * r.1, r.2))) else if k = 4 then zw_l (fS (dbeg d) (sa i.toNatClampNeg) t) (fun q => zw_l (fS q.2 (sb i.toNatClampNeg) t) (fun r => zw_l (fX3_quotient r.2.2.2 q.1 r.1) (fun u => (u.1, r.2.1, r.2.2.1, u.2)))) else if k = 5 then zw_l (fS (dbeg d) (sa i.toNatClampNeg) t) (fun q => zw_l (fS q.2 (sb i.toNatClampNeg) t) (fun r => (if r.1 < q.1 then r.1 else q.1, r.2))) else if k = 6 then zw_l (fV (dbeg d) (sa i.toNatClampNeg) t) (fun q => if q.1 = 0 then (0, q.2) else fS q.2 (sb i.toNatClampNeg) t) else if k = 7 then zw_l (fS (dbeg d) (sa i.toNatClampNeg) t) (fun q => zw_l (fX3_itemAt rw q.2.2.2 q.1) (fun u => (u.1, q.2.1, q.2.2.1, u.2))) else if k = 8 then (d.1 i.toNatClampNeg, dbeg d) else if k = 9 then (d.1 i.toNatClampNeg, dbeg d) else if k = 10 then zw_l (fX1_countAsked d.1 i) (fun u => ((u.1 - 1) * (sa i.toNatClampNeg).toInt64 + (sb i.toNatClampNeg).toInt64, u.2, (dbeg d).2)) else (0, d.1, d.2.1, d.2.2.1 + 1, d.2.2.2.1 + 1, d.2.2.2.2.1, d.2.2.2.2.2.1, d.2.2.2.2.2.2.1, 3)) := by
  subst hk
  unfold bS
  rw [zw_l_eq (ba_ok h0 h)]
  have h3 : fX2_fail (d.2.2.1 + 1, d.2.2.2.1 + 1, d.2.2.2.2.1, d.2.2.2.2.2.1, d.2.2.2.2.2.2.1, d.2.2.2.2.2.2.2) 3 = (d.2.2.1 + 1, d.2.2.2.1 + 1, d.2.2.2.2.1, d.2.2.2.2.2.1, d.2.2.2.2.2.2.1, 3) := by
    unfold fX2_fail fX2_hasFailure
    rw [if_pos h0, if_pos rfl]
  dsimp only
  rw [if_neg (by decide), zw_l_eq h3]
  rfl
