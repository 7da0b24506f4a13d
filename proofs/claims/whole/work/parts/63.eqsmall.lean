/-! the calls that ask nothing: the same answers, and the relation stays -/
section ZQ
variable {B : dB} {S : dS} {V : dV} {O : dO} {G : dG} {T : dT} {B0 : Int32} {B1 : Int32} {B2 : Int64} {B3 : (Nat → Int64)} {B4 : (Nat → Int64)} {B5 : (Nat → Int32)} {K0 : (Nat → Int32)} {K1 : (Nat → Int32)} {K2 : (Nat → Int32)} {K3 : (Nat → Int32)} {K4 : (Nat → Int64)} {E0 : (Nat → Int32)} {U1 : Int32} {U2 : Int32} {U3 : Int32} {U4 : Int32} {U5 : Int32} {G0 : Int32} {G1 : (Nat → Int64)} {G2 : (Nat → Int32)} {G3 : (Nat → Int64)} {G4 : (Nat → Int32)} {nt k sn vn on g m : Nat} {rs rv ro : Nat → Nat}
theorem eq_groups (h : zRel B S V O G T B0 B1 B2 B3 B4 B5 K0 K1 K2 K3 K4 E0 U1 U2 U3 U4 U5 G0 G1 G2 G3 G4 nt k sn vn on g m rs rv ro) (x y : Int32) : fX3_groups G x y = fX4_groups G0 G1 G2 G3 G4 x y := by
  obtain ⟨-, -, -, -, hg, e1, e2, hj⟩ := h
  unfold fX3_groups fX0_tellOf fX4_groups
  have e := in_iff (x := x) (n := g) (by omega)
  rw [e2]
  by_cases h0 : x < 0
  · rw [if_pos h0, if_pos (e.mpr (Or.inl h0))]
  · rw [if_neg h0, e1]
    by_cases h1 : x < nI g
    · rw [if_pos h1, if_neg (fun z => (e.mp z).elim h0 (fun z => Int32.lt_irrefl (Int32.lt_of_lt_of_le h1 z)))]
      obtain ⟨j, hjj, rfl⟩ := dz_lt (n := g) h0 (fun z => Int32.lt_irrefl (Int32.lt_of_lt_of_le h1 z)) rfl
      rw [nI_clamp (by omega)]
      obtain ⟨a1, a2, a3, a4⟩ := hj j hjj
      rw [a1, a2, a3, a4]
    · rw [if_neg h1, if_pos (e.mpr (Or.inr (Int32.not_lt.mp h1)))]
theorem eq_count (h : zRel B S V O G T B0 B1 B2 B3 B4 B5 K0 K1 K2 K3 K4 E0 U1 U2 U3 U4 U5 G0 G1 G2 G3 G4 nt k sn vn on g m rs rv ro) (U0 x : Int32) : fX3_count B S V O G T x = fX4_count B0 B1 K0 G0 U0 U1 U2 U3 U4 U5 x := by
  obtain ⟨⟨-, b1, b2, -⟩, ⟨hK, -, k0, k1, k2⟩, ⟨t1, t2, t3, t4, t5, -⟩, -, -, e1, e2, -⟩ := h
  unfold fX3_count fX4_count
  rw [b1, b2, t1, t2, t3, t4, t5, e1, e2, hK.2.2.2.1, hK.2.2.2.2.1, hK.2.2.2.2.2.1]
  by_cases h1 : x = 1
  · subst h1
    rw [show ((1 : Int32) - 1).toNatClampNeg = 0 from by decide, k0]
    rfl
  by_cases h2 : x = 2
  · subst h2
    rw [show ((2 : Int32) - 1).toNatClampNeg = 1 from by decide, k1]
    rfl
  by_cases h3 : x = 3
  · subst h3
    rw [show ((3 : Int32) - 1).toNatClampNeg = 2 from by decide, k2]
    rfl
  rw [if_neg h1, if_neg h2, if_neg h3, if_neg h1, if_neg h2, if_neg h3]
theorem eq_change (h : zRel B S V O G T B0 B1 B2 B3 B4 B5 K0 K1 K2 K3 K4 E0 U1 U2 U3 U4 U5 G0 G1 G2 G3 G4 nt k sn vn on g m rs rv ro) (x y : Int32) (v : Int64) : (fX3_change B x y v).1 = (fX4_change B0 B3 x y v).1 ∧ zRel (fX3_change B x y v).2 S V O G T B0 B1 B2 (fX4_change B0 B3 x y v).2 B4 B5 K0 K1 K2 K3 K4 E0 U1 U2 U3 U4 U5 G0 G1 G2 G3 G4 nt k sn vn on g m rs rv ro := by
  unfold fX3_change fX4_change
  by_cases h1 : fX3_isThing B x = 0
  · rw [if_pos h1, if_pos ((h.thing x).mp h1)]; exact ⟨rfl, h⟩
  · rw [if_neg h1, if_neg (fun z => h1 ((h.thing x).mpr z))]
    by_cases h2 : fX3_isColumn y = 0
    · rw [if_pos h2, if_pos (col_iff.mp h2)]; exact ⟨rfl, h⟩
    · rw [if_neg h2, if_neg (fun z => h2 (col_iff.mpr z)), cell_eq]
      obtain ⟨⟨a1, a2, a3, a4, a5, a6, a7⟩, hr⟩ := h
      exact ⟨rfl, ⟨a1, a2, a3, a4, by show vp_updL B.2.2.2.1 _ v = vp_updL B3 _ v; rw [a5], a6, a7⟩, hr⟩
end ZQ
