/-! the calls that ask nothing, in the same form as the others -/
section ZZ
variable {B : dB} {S : dS} {V : dV} {O : dO} {G : dG} {F : dF} {T : dT} {B0 : Int32} {B1 : Int32} {B2 : Int64} {B3 : (Nat → Int64)} {B4 : (Nat → Int64)} {B5 : (Nat → Int32)} {K0 : (Nat → Int32)} {K1 : (Nat → Int32)} {K2 : (Nat → Int32)} {K3 : (Nat → Int32)} {K4 : (Nat → Int64)} {E0 : (Nat → Int32)} {U1 : Int32} {U2 : Int32} {U3 : Int32} {U4 : Int32} {U5 : Int32} {G0 : Int32} {G1 : (Nat → Int64)} {G2 : (Nat → Int32)} {G3 : (Nat → Int64)} {G4 : (Nat → Int32)} {B6 : (Nat → Int32)} {M0 : Int32} {M1 : (Nat → Int32)} {M2 : (Nat → Int32)} {M3 : (Nat → Int32)} {M4 : (Nat → Int32)} {M5 : (Nat → Int64)} {M6 : Int64} {M7 : Int32} {U0 : Int32} {N0 : (Nat → Int64)} {N1 : (Nat → Int32)} {N2 : (Nat → Int64)} {N3 : (Nat → Int32)} {nt k sn vn on g m : Nat} {rs rv ro : Nat → Nat}
theorem eqn_thing (h : zRel B S V O G T B0 B1 B2 B3 B4 B5 K0 K1 K2 K3 K4 E0 U1 U2 U3 U4 U5 G0 G1 G2 G3 G4 nt k sn vn on g m rs rv ro) {p1 : Int64} {p2 : Int64} {p3 : Int64} {q : Int32 × dB} {r : Int32 × Int32 × Int32 × (Nat → Int64) × (Nat → Int32)} (hq : fX3_thing B p1 p2 p3 = q) (hr : fX4_thing B0 B1 B3 B5 p1 p2 p3 = r) : q.1 = r.1 ∧ ∃ nt2 k2 sn2 vn2 on2 g2 m2 : Nat, ∃ rs2 rv2 ro2 : Nat → Nat, m2 ≤ m + 2000 ∧ zRel q.2 S V O G T r.2.1 r.2.2.1 B2 r.2.2.2.1 B4 r.2.2.2.2 K0 K1 K2 K3 K4 E0 U1 U2 U3 U4 U5 G0 G1 G2 G3 G4 nt2 k2 sn2 vn2 on2 g2 m2 rs2 rv2 ro2 := by
  subst hq; subst hr
  obtain ⟨e, nt2, k2, hz⟩ := eq_thing h p1 p2 p3
  exact ⟨e, nt2, k2, sn, vn, on, g, m, rs, rv, ro, Nat.le_add_right _ _, hz⟩
theorem eqn_change (h : zRel B S V O G T B0 B1 B2 B3 B4 B5 K0 K1 K2 K3 K4 E0 U1 U2 U3 U4 U5 G0 G1 G2 G3 G4 nt k sn vn on g m rs rv ro) {p1 : Int32} {p2 : Int32} {p3 : Int64} {q : Int32 × dB} {r : Int32 × (Nat → Int64)} (hq : fX3_change B p1 p2 p3 = q) (hr : fX4_change B0 B3 p1 p2 p3 = r) : q.1 = r.1 ∧ ∃ nt2 k2 sn2 vn2 on2 g2 m2 : Nat, ∃ rs2 rv2 ro2 : Nat → Nat, m2 ≤ m + 2000 ∧ zRel q.2 S V O G T B0 B1 B2 r.2 B4 B5 K0 K1 K2 K3 K4 E0 U1 U2 U3 U4 U5 G0 G1 G2 G3 G4 nt2 k2 sn2 vn2 on2 g2 m2 rs2 rv2 ro2 := by
  subst hq; subst hr
  obtain ⟨e, hz⟩ := eq_change h p1 p2 p3
  exact ⟨e, nt, k, sn, vn, on, g, m, rs, rv, ro, Nat.le_add_right _ _, hz⟩
theorem eqn_item (h : zRel B S V O G T B0 B1 B2 B3 B4 B5 K0 K1 K2 K3 K4 E0 U1 U2 U3 U4 U5 G0 G1 G2 G3 G4 nt k sn vn on g m rs rv ro) {p1 : Int32} {p2 : Int64} {q : Int32 × dB} {r : Int32 × (Nat → Int64)} (hq : fX3_item B p1 p2 = q) (hr : fX4_item B4 p1 p2 = r) : q.1 = r.1 ∧ ∃ nt2 k2 sn2 vn2 on2 g2 m2 : Nat, ∃ rs2 rv2 ro2 : Nat → Nat, m2 ≤ m + 2000 ∧ zRel q.2 S V O G T B0 B1 B2 B3 r.2 B5 K0 K1 K2 K3 K4 E0 U1 U2 U3 U4 U5 G0 G1 G2 G3 G4 nt2 k2 sn2 vn2 on2 g2 m2 rs2 rv2 ro2 := by
  subst hq; subst hr
  obtain ⟨e, hz⟩ := eq_item h p1 p2
  exact ⟨e, nt, k, sn, vn, on, g, m, rs, rv, ro, Nat.le_add_right _ _, hz⟩
theorem eqn_get (h : zRel B S V O G T B0 B1 B2 B3 B4 B5 K0 K1 K2 K3 K4 E0 U1 U2 U3 U4 U5 G0 G1 G2 G3 G4 nt k sn vn on g m rs rv ro) {p1 : Int32} {p2 : Int32} {q : Int64} {r : Int64} (hq : fX3_get B p1 p2 = q) (hr : fX4_get B0 B3 p1 p2 = r) : q = r ∧ ∃ nt2 k2 sn2 vn2 on2 g2 m2 : Nat, ∃ rs2 rv2 ro2 : Nat → Nat, m2 ≤ m + 2000 ∧ zRel B S V O G T B0 B1 B2 B3 B4 B5 K0 K1 K2 K3 K4 E0 U1 U2 U3 U4 U5 G0 G1 G2 G3 G4 nt2 k2 sn2 vn2 on2 g2 m2 rs2 rv2 ro2 := by
  subst hq; subst hr
  exact ⟨eq_get h p1 p2, nt, k, sn, vn, on, g, m, rs, rv, ro, Nat.le_add_right _ _, h⟩
theorem eqn_list (h : zRel B S V O G T B0 B1 B2 B3 B4 B5 K0 K1 K2 K3 K4 E0 U1 U2 U3 U4 U5 G0 G1 G2 G3 G4 nt k sn vn on g m rs rv ro) {p1 : Int32} {q : Int32} {r : Int32} (hq : fX3_list B p1 = q) (hr : fX4_list B1 B5 p1 = r) : q = r ∧ ∃ nt2 k2 sn2 vn2 on2 g2 m2 : Nat, ∃ rs2 rv2 ro2 : Nat → Nat, m2 ≤ m + 2000 ∧ zRel B S V O G T B0 B1 B2 B3 B4 B5 K0 K1 K2 K3 K4 E0 U1 U2 U3 U4 U5 G0 G1 G2 G3 G4 nt2 k2 sn2 vn2 on2 g2 m2 rs2 rv2 ro2 := by
  subst hq; subst hr
  exact ⟨eq_list h p1, nt, k, sn, vn, on, g, m, rs, rv, ro, Nat.le_add_right _ _, h⟩
theorem eqn_groups (h : zRel B S V O G T B0 B1 B2 B3 B4 B5 K0 K1 K2 K3 K4 E0 U1 U2 U3 U4 U5 G0 G1 G2 G3 G4 nt k sn vn on g m rs rv ro) {p1 : Int32} {p2 : Int32} {q : Int64} {r : Int64} (hq : fX3_groups G p1 p2 = q) (hr : fX4_groups G0 G1 G2 G3 G4 p1 p2 = r) : q = r ∧ ∃ nt2 k2 sn2 vn2 on2 g2 m2 : Nat, ∃ rs2 rv2 ro2 : Nat → Nat, m2 ≤ m + 2000 ∧ zRel B S V O G T B0 B1 B2 B3 B4 B5 K0 K1 K2 K3 K4 E0 U1 U2 U3 U4 U5 G0 G1 G2 G3 G4 nt2 k2 sn2 vn2 on2 g2 m2 rs2 rv2 ro2 := by
  subst hq; subst hr
  exact ⟨eq_groups h p1 p2, nt, k, sn, vn, on, g, m, rs, rv, ro, Nat.le_add_right _ _, h⟩
theorem eqn_answer (h : zRel B S V O G T B0 B1 B2 B3 B4 B5 K0 K1 K2 K3 K4 E0 U1 U2 U3 U4 U5 G0 G1 G2 G3 G4 nt k sn vn on g m rs rv ro)  {q : Int64} {r : Int64} (hq : fX3_answer B = q) (hr : fX4_answer B2 = r) : q = r ∧ ∃ nt2 k2 sn2 vn2 on2 g2 m2 : Nat, ∃ rs2 rv2 ro2 : Nat → Nat, m2 ≤ m + 2000 ∧ zRel B S V O G T B0 B1 B2 B3 B4 B5 K0 K1 K2 K3 K4 E0 U1 U2 U3 U4 U5 G0 G1 G2 G3 G4 nt2 k2 sn2 vn2 on2 g2 m2 rs2 rv2 ro2 := by
  subst hq; subst hr
  exact ⟨eq_answer h , nt, k, sn, vn, on, g, m, rs, rv, ro, Nat.le_add_right _ _, h⟩
theorem eqn_count (h : zRel B S V O G T B0 B1 B2 B3 B4 B5 K0 K1 K2 K3 K4 E0 U1 U2 U3 U4 U5 G0 G1 G2 G3 G4 nt k sn vn on g m rs rv ro) {p1 : Int32} {q : Int32} {r : Int32} (hq : fX3_count B S V O G T p1 = q) (hr : fX4_count B0 B1 K0 G0 U0 U1 U2 U3 U4 U5 p1 = r) : q = r ∧ ∃ nt2 k2 sn2 vn2 on2 g2 m2 : Nat, ∃ rs2 rv2 ro2 : Nat → Nat, m2 ≤ m + 2000 ∧ zRel B S V O G T B0 B1 B2 B3 B4 B5 K0 K1 K2 K3 K4 E0 U1 U2 U3 U4 U5 G0 G1 G2 G3 G4 nt2 k2 sn2 vn2 on2 g2 m2 rs2 rv2 ro2 := by
  subst hq; subst hr
  exact ⟨eq_count h U0 p1, nt, k, sn, vn, on, g, m, rs, rv, ro, Nat.le_add_right _ _, h⟩
end ZZ
