/-! THE TWO OBJECTS BETWEEN CALLS -/
/-- how often what counts was asked: m askings ever -/
def mCnt (S : dS) (V : dV) (K4 : Nat → Int64) (E0 : Nat → Int32) (sn vn m : Nat) : Prop := (∀ i, i < sn → (S.1 i = 8 ∨ S.1 i = 9 → K4 i = S.2.2.2.1 i) ∧ (S.1 i = 10 → ∃ c, c ≤ m ∧ S.2.2.2.1 i = lN c ∧ E0 i = nI c)) ∧ (∀ i, i < vn → V.1 i = 6 → ∃ c, c ≤ m ∧ V.2.2.2.1 i = lN c ∧ E0 (24 + i) = nI (c % each (V.2.1 i)))
def zRel (B : dB) (S : dS) (V : dV) (O : dO) (G : dG) (T : dT) (B0 : Int32) (B1 : Int32) (B2 : Int64) (B3 : (Nat → Int64)) (B4 : (Nat → Int64)) (B5 : (Nat → Int32)) (K0 : (Nat → Int32)) (K1 : (Nat → Int32)) (K2 : (Nat → Int32)) (K3 : (Nat → Int32)) (K4 : (Nat → Int64)) (E0 : (Nat → Int32)) (U1 : Int32) (U2 : Int32) (U3 : Int32) (U4 : Int32) (U5 : Int32) (G0 : Int32) (G1 : (Nat → Int64)) (G2 : (Nat → Int32)) (G3 : (Nat → Int64)) (G4 : (Nat → Int32)) (nt k sn vn on g m : Nat) (rs rv ro : Nat → Nat) : Prop :=
  (dz_B B nt k ∧ B.1 = B0 ∧ B.2.1 = B1 ∧ B.2.2.1 = B2 ∧ B.2.2.2.1 = B3 ∧ B.2.2.2.2.1 = B4 ∧ ∀ j, j < k → B.2.2.2.2.2.1 j = B5 j) ∧
  (dz_K S V O sn vn on rs rv ro ∧ mTab S V O K1 K2 K3 sn vn on ∧ K0 0 = nI sn ∧ K0 1 = nI vn ∧ K0 2 = nI on) ∧
  (T.1 = U1 ∧ T.2.1 = U2 ∧ T.2.2.1 = U3 ∧ T.2.2.2.1 = U4 ∧ T.2.2.2.2.1 = U5 ∧ U2 = nI m) ∧ mCnt S V K4 E0 sn vn m ∧
  (g ≤ 40 ∧ G.2.2.2.2 = nI g ∧ G0 = nI g ∧ ∀ j, j < g → G.1 j = G1 j ∧ G.2.1 j = G2 j ∧ G.2.2.1 j = G3 j ∧ G.2.2.2.1 j = G4 j)
section ZL
variable {B : dB} {S : dS} {V : dV} {O : dO} {G : dG} {T : dT} {B0 : Int32} {B1 : Int32} {B2 : Int64} {B3 : (Nat → Int64)} {B4 : (Nat → Int64)} {B5 : (Nat → Int32)} {K0 : (Nat → Int32)} {K1 : (Nat → Int32)} {K2 : (Nat → Int32)} {K3 : (Nat → Int32)} {K4 : (Nat → Int64)} {E0 : (Nat → Int32)} {U1 : Int32} {U2 : Int32} {U3 : Int32} {U4 : Int32} {U5 : Int32} {G0 : Int32} {G1 : (Nat → Int64)} {G2 : (Nat → Int32)} {G3 : (Nat → Int64)} {G4 : (Nat → Int32)} {nt k sn vn on g m : Nat} {rs rv ro : Nat → Nat}
set_option maxHeartbeats 100000 in
theorem zRel.dmB (h : zRel B S V O G T B0 B1 B2 B3 B4 B5 K0 K1 K2 K3 K4 E0 U1 U2 U3 U4 U5 G0 G1 G2 G3 G4 nt k sn vn on g m rs rv ro) : dm_B B0 B1 B5 nt k := by
  obtain ⟨⟨h1, e1, e2, -, -, -, e5⟩, -⟩ := h
  refine ⟨h1.1, h1.2.1, e1 ▸ h1.2.2.1, e2 ▸ h1.2.2.2.1, fun j hj => ?_⟩
  obtain ⟨t, ht, e⟩ := h1.2.2.2.2 j hj
  exact ⟨t, ht, (e5 j hj) ▸ e⟩
set_option maxHeartbeats 100000 in
theorem zRel.dmK (h : zRel B S V O G T B0 B1 B2 B3 B4 B5 K0 K1 K2 K3 K4 E0 U1 U2 U3 U4 U5 G0 G1 G2 G3 G4 nt k sn vn on g m rs rv ro) : dm_K K0 sn vn on := ⟨h.2.1.1.1, h.2.1.1.2.1, h.2.1.1.2.2.1, h.2.1.2.2.1, h.2.1.2.2.2.1, h.2.1.2.2.2.2⟩
set_option maxHeartbeats 100000 in
theorem in_iff {x : Int32} {n : Nat} (hn : n < 2 ^ 31) : (fX4_in x 0 (nI n - 1) = 0 ↔ (x < 0 ∨ nI n ≤ x)) := by
  constructor
  · intro h
    by_cases h0 : x < 0
    · exact Or.inl h0
    · refine Or.inr ?_
      obtain ⟨j, hj, rfl⟩ := nI_of h0
      rcases Nat.lt_or_ge j n with z | z
      · exfalso
        obtain ⟨p, rfl⟩ : ∃ p, n = p + 1 := ⟨n - 1, by omega⟩
        rw [nI_pred] at h
        unfold fX4_in at h
        rw [if_neg h0, if_neg (nI_nlt (by omega) (by omega))] at h
        exact absurd h (by decide)
      · exact nI_le z hj
  · intro h
    by_cases h9 : fX4_in x 0 (nI n - 1) = 0
    · exact h9
    · obtain ⟨j, hj, rfl⟩ := dm_in0 hn h9
      rcases h with h | h
      · exact absurd h (nI_pos (by omega))
      · exact absurd h (nI_ge hj hn)
set_option maxHeartbeats 100000 in
theorem it_iff {B : dB} {x : Int32} : (fX3_isThing B x = 0 ↔ (x < 0 ∨ B.1 ≤ x)) := by
  unfold fX3_isThing
  by_cases h : x < 0
  · rw [if_pos h]; exact ⟨fun _ => Or.inl h, fun _ => rfl⟩
  · rw [if_neg h]
    by_cases h2 : B.1 ≤ x
    · rw [if_pos h2]; exact ⟨fun _ => Or.inr h2, fun _ => rfl⟩
    · rw [if_neg h2]; exact ⟨fun z => absurd z (by decide), fun z => (z.elim h h2).elim⟩
set_option maxHeartbeats 100000 in
theorem has_iff {S : dS} {x : Int32} : (fX1_has S x = 0 ↔ (x < 0 ∨ S.2.2.2.2 ≤ x)) := by
  unfold fX1_has
  by_cases h : x < 0
  · rw [if_pos h]; exact ⟨fun _ => Or.inl h, fun _ => rfl⟩
  · rw [if_neg h]
    by_cases h2 : S.2.2.2.2 ≤ x
    · rw [if_pos h2]; exact ⟨fun _ => Or.inr h2, fun _ => rfl⟩
    · rw [if_neg h2]; exact ⟨fun z => absurd z (by decide), fun z => (z.elim h h2).elim⟩
set_option maxHeartbeats 100000 in
theorem zRel.thing (h : zRel B S V O G T B0 B1 B2 B3 B4 B5 K0 K1 K2 K3 K4 E0 U1 U2 U3 U4 U5 G0 G1 G2 G3 G4 nt k sn vn on g m rs rv ro) (x : Int32) : (fX3_isThing B x = 0 ↔ fX4_isThing B0 x = 0) := by
  have hB := h.1.1
  unfold fX4_isThing
  rw [it_iff, ← h.1.2.1, hB.2.2.1, in_iff (by have := hB.1; omega)]
set_option maxHeartbeats 100000 in
theorem zRel.hasS (h : zRel B S V O G T B0 B1 B2 B3 B4 B5 K0 K1 K2 K3 K4 E0 U1 U2 U3 U4 U5 G0 G1 G2 G3 G4 nt k sn vn on g m rs rv ro) (x : Int32) : (fX1_has S x = 0 ↔ fX4_is K0 0 x = 0) := by
  unfold fX4_is
  have e : K0 (0 : Int32).toNatClampNeg = nI sn := h.2.1.2.2.1
  rw [has_iff, e, h.2.1.1.2.2.2.1, in_iff (by have := h.2.1.1.1; omega)]
set_option maxHeartbeats 100000 in
theorem zRel.hasV (h : zRel B S V O G T B0 B1 B2 B3 B4 B5 K0 K1 K2 K3 K4 E0 U1 U2 U3 U4 U5 G0 G1 G2 G3 G4 nt k sn vn on g m rs rv ro) (x : Int32) : (fX1_has V x = 0 ↔ fX4_is K0 1 x = 0) := by
  unfold fX4_is
  have e : K0 (1 : Int32).toNatClampNeg = nI vn := h.2.1.2.2.2.1
  rw [has_iff, e, h.2.1.1.2.2.2.2.1, in_iff (by have := h.2.1.1.2.1; omega)]
set_option maxHeartbeats 100000 in
theorem zRel.hasO (h : zRel B S V O G T B0 B1 B2 B3 B4 B5 K0 K1 K2 K3 K4 E0 U1 U2 U3 U4 U5 G0 G1 G2 G3 G4 nt k sn vn on g m rs rv ro) (x : Int32) : (fX1_has O x = 0 ↔ fX4_is K0 2 x = 0) := by
  unfold fX4_is
  have e : K0 (2 : Int32).toNatClampNeg = nI on := h.2.1.2.2.2.2
  rw [has_iff, e, h.2.1.1.2.2.2.2.2.1, in_iff (by have := h.2.1.1.2.2.1; omega)]
set_option maxHeartbeats 100000 in
theorem col_iff {x : Int32} : (fX3_isColumn x = 0 ↔ fX4_in x 0 2 = 0) := by
  have e := in_iff (x := x) (n := 3) (by decide)
  rw [show nI 3 - 1 = (2 : Int32) from by decide] at e
  rw [e]
  unfold fX3_isColumn
  by_cases h : x < 0
  · rw [if_pos h]; exact ⟨fun _ => Or.inl h, fun _ => rfl⟩
  · rw [if_neg h]
    by_cases h2 : 3 ≤ x
    · rw [if_pos h2]; exact ⟨fun _ => Or.inr h2, fun _ => rfl⟩
    · rw [if_neg h2]; exact ⟨fun z => absurd z (by decide), fun z => (z.elim h h2).elim⟩
set_option maxHeartbeats 100000 in
theorem cell_eq {x y : Int32} : fX3_cellOf x y = 3 * x + y := by
  unfold fX3_cellOf
  rw [Int32.mul_comm x 3]
set_option maxHeartbeats 100000 in
theorem eq_answer (h : zRel B S V O G T B0 B1 B2 B3 B4 B5 K0 K1 K2 K3 K4 E0 U1 U2 U3 U4 U5 G0 G1 G2 G3 G4 nt k sn vn on g m rs rv ro) : fX3_answer B = fX4_answer B2 := h.1.2.2.2.1
set_option maxHeartbeats 100000 in
theorem eq_get (h : zRel B S V O G T B0 B1 B2 B3 B4 B5 K0 K1 K2 K3 K4 E0 U1 U2 U3 U4 U5 G0 G1 G2 G3 G4 nt k sn vn on g m rs rv ro) (x y : Int32) : fX3_get B x y = fX4_get B0 B3 x y := by
  unfold fX3_get fX4_get
  by_cases h1 : fX3_isThing B x = 0
  · rw [if_pos h1, if_pos ((h.thing x).mp h1)]
  · rw [if_neg h1, if_neg (fun z => h1 ((h.thing x).mpr z))]
    by_cases h2 : fX3_isColumn y = 0
    · rw [if_pos h2, if_pos (col_iff.mp h2)]
    · rw [if_neg h2, if_neg (fun z => h2 (col_iff.mpr z)), cell_eq, h.1.2.2.2.2.1]
set_option maxHeartbeats 100000 in
theorem eq_list (h : zRel B S V O G T B0 B1 B2 B3 B4 B5 K0 K1 K2 K3 K4 E0 U1 U2 U3 U4 U5 G0 G1 G2 G3 G4 nt k sn vn on g m rs rv ro) (x : Int32) : fX3_list B x = fX4_list B1 B5 x := by
  unfold fX3_list fX4_list
  have hk : k < 2 ^ 31 := by have := h.1.1.1; have := h.1.1.2.1; omega
  have e2 := h.1.1.2.2.2.1
  rw [← h.1.2.2.1]
  have e := in_iff (x := x) hk
  by_cases h0 : x < 0
  · rw [if_pos h0, if_pos (by rw [e2]; exact e.mpr (Or.inl h0))]
  · rw [if_neg h0]
    by_cases h1 : B.2.1 ≤ x
    · rw [if_pos h1, if_pos (by rw [e2]; exact e.mpr (Or.inr (e2 ▸ h1)))]
    · rw [if_neg h1, if_neg (by rw [e2]; exact fun z => (e.mp z).elim h0 (fun z => h1 (e2 ▸ z)))]
      obtain ⟨j, hj, rfl⟩ := dz_lt h0 h1 e2
      rw [nI_clamp (by omega)]
      exact h.1.2.2.2.2.2.2 j hj
end ZL
