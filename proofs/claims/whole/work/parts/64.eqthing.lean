theorem place_iff {x : Int32} : (fX3_isPlaceOfRow x.toInt64 = 0 ↔ fX4_in x 0 7 = 0) := by
  have e := in_iff (x := x) (n := 8) (by decide)
  rw [show nI 8 - 1 = (7 : Int32) from by decide] at e
  rw [e]
  have e1 : (lg_cmp x.toInt64 0 < 0) ↔ x < 0 := by
    rw [lg_cmp_lt, Int64.lt_iff_toInt_lt, Int32.lt_iff_toInt_lt, Int32.toInt_toInt64]; rfl
  have e2 : (0 ≤ lg_cmp x.toInt64 8) ↔ nI 8 ≤ x := by
    rw [lg_cmp_ge, Int64.le_iff_toInt_le, Int32.le_iff_toInt_le, Int32.toInt_toInt64]; rfl
  unfold fX3_isPlaceOfRow
  by_cases h : x < 0
  · rw [if_pos (e1.mpr h)]; exact ⟨fun _ => Or.inl h, fun _ => rfl⟩
  · rw [if_neg (fun z => h (e1.mp z))]
    by_cases h2 : nI 8 ≤ x
    · rw [if_pos (e2.mpr h2)]; exact ⟨fun _ => Or.inr h2, fun _ => rfl⟩
    · rw [if_neg (fun z => h2 (e2.mp z))]; exact ⟨fun z => absurd z (by decide), fun z => (z.elim h h2).elim⟩
section ZQ
variable {B : dB} {S : dS} {V : dV} {O : dO} {G : dG} {T : dT} {B0 : Int32} {B1 : Int32} {B2 : Int64} {B3 : (Nat → Int64)} {B4 : (Nat → Int64)} {B5 : (Nat → Int32)} {K0 : (Nat → Int32)} {K1 : (Nat → Int32)} {K2 : (Nat → Int32)} {K3 : (Nat → Int32)} {K4 : (Nat → Int64)} {E0 : (Nat → Int32)} {U1 : Int32} {U2 : Int32} {U3 : Int32} {U4 : Int32} {U5 : Int32} {G0 : Int32} {G1 : (Nat → Int64)} {G2 : (Nat → Int32)} {G3 : (Nat → Int64)} {G4 : (Nat → Int32)} {nt k sn vn on g m : Nat} {rs rv ro : Nat → Nat}
theorem eq_item (h : zRel B S V O G T B0 B1 B2 B3 B4 B5 K0 K1 K2 K3 K4 E0 U1 U2 U3 U4 U5 G0 G1 G2 G3 G4 nt k sn vn on g m rs rv ro) (x : Int32) (v : Int64) : (fX3_item B x v).1 = (fX4_item B4 x v).1 ∧ zRel (fX3_item B x v).2 S V O G T B0 B1 B2 B3 (fX4_item B4 x v).2 B5 K0 K1 K2 K3 K4 E0 U1 U2 U3 U4 U5 G0 G1 G2 G3 G4 nt k sn vn on g m rs rv ro := by
  unfold fX3_item fX4_item
  by_cases h1 : fX3_isPlaceOfRow x.toInt64 = 0
  · rw [if_pos h1, if_pos (place_iff.mp h1)]; exact ⟨rfl, h⟩
  · rw [if_neg h1, if_neg (fun z => h1 (place_iff.mpr z))]
    obtain ⟨⟨a1, a2, a3, a4, a5, a6, a7⟩, hr⟩ := h
    exact ⟨rfl, ⟨a1, a2, a3, a4, a5, by show vp_updL B.2.2.2.2.1 _ v = vp_updL B4 _ v; rw [a6], a7⟩, hr⟩
theorem eq_thing (h : zRel B S V O G T B0 B1 B2 B3 B4 B5 K0 K1 K2 K3 K4 E0 U1 U2 U3 U4 U5 G0 G1 G2 G3 G4 nt k sn vn on g m rs rv ro) (x y z : Int64) : (fX3_thing B x y z).1 = (fX4_thing B0 B1 B3 B5 x y z).1 ∧ ∃ nt2 k2 : Nat, zRel (fX3_thing B x y z).2 S V O G T (fX4_thing B0 B1 B3 B5 x y z).2.1 (fX4_thing B0 B1 B3 B5 x y z).2.2.1 B2 (fX4_thing B0 B1 B3 B5 x y z).2.2.2.1 B4 (fX4_thing B0 B1 B3 B5 x y z).2.2.2.2 K0 K1 K2 K3 K4 E0 U1 U2 U3 U4 U5 G0 G1 G2 G3 G4 nt2 k2 sn vn on g m rs rv ro := by
  have hB := h.1.1
  unfold fX3_thing fX4_thing
  by_cases h1 : B.1 < 40
  · have hn := dz_full hB h1
    have h2 : ¬ B0 = 40 := by
      rw [← h.1.2.1, hB.2.2.1]
      exact fun z => absurd ((nI_eq (b := 40) (by omega) (by decide)).mp z) (by omega)
    rw [if_pos h1, if_neg h2]
    obtain ⟨⟨a1, a2, a3, a4, a5, a6, a7⟩, hr⟩ := h
    have hk := hB.2.1
    refine ⟨?_, nt + 1, k + 1, ⟨⟨by omega, by omega, ?_, ?_, ?_⟩, ?_, ?_, a4, ?_, a6, ?_⟩, hr⟩
    · show B.1 = B0 + 1 - 1
      rw [← a2, hB.2.2.1, nI_1, nI_pred]
    · show B.1 + 1 = nI (nt + 1)
      rw [hB.2.2.1]; exact nI_1 nt
    · show B.2.1 + 1 = nI (k + 1)
      rw [hB.2.2.2.1]; exact nI_1 k
    · intro j hj
      show ∃ t, t < nt + 1 ∧ upd B.2.2.2.2.2.1 B.2.1.toNatClampNeg B.1 j = nI t
      rw [hB.2.2.2.1, nI_clamp (by omega)]
      by_cases hjk : j = k
      · subst hjk; rw [pk_us]; exact ⟨nt, by omega, hB.2.2.1⟩
      · rw [pk_un hjk]
        obtain ⟨t, ht, e⟩ := hB.2.2.2.2 j (by omega)
        exact ⟨t, by omega, e⟩
    · show B.1 + 1 = B0 + 1
      rw [a2]
    · show B.2.1 + 1 = B1 + 1
      rw [a3]
    · show vp_updL (vp_updL (vp_updL B.2.2.2.1 (fX3_cellOf B.1 0).toNatClampNeg x) (fX3_cellOf B.1 1).toNatClampNeg y) (fX3_cellOf B.1 2).toNatClampNeg z = vp_updL (vp_updL (vp_updL B3 (3 * B0).toNatClampNeg x) (3 * B0 + 1).toNatClampNeg y) (3 * B0 + 2).toNatClampNeg z
      rw [cell_eq, cell_eq, cell_eq, a5, a2, Int32.add_zero]
    · intro j hj
      show upd B.2.2.2.2.2.1 B.2.1.toNatClampNeg B.1 j = upd B5 B1.toNatClampNeg B0 j
      rw [← a3, ← a2, hB.2.2.2.1, nI_clamp (by omega)]
      by_cases hjk : j = k
      · subst hjk; rw [pk_us, pk_us]
      · rw [pk_un hjk, pk_un hjk]; exact a7 j (by omega)
  · have hn : nt = 40 := by
      have hb := hB.1
      rw [hB.2.2.1] at h1
      rcases Nat.lt_or_ge nt 40 with z2 | z2
      · exact absurd ((nI_ltI (b := 40) (by omega) (by decide)).mpr z2) h1
      · omega
    have h2 : B0 = 40 := by rw [← h.1.2.1, hB.2.2.1, hn]; rfl
    rw [if_neg h1, if_pos h2]
    exact ⟨rfl, nt, k, h⟩
theorem all_loop (hB : B.1 = B0) : ∀ (n : Nat) (f f2 : Nat → Int32) (x : Int32) (i : Nat), x = nI i → i + n ≤ 2000 → (∀ j, j < i → f j = f2 j) → ∀ j : Nat, (j < i ∨ (j < i + n ∧ nI j < B.1 ∧ j ≤ 2000)) → fX3_all_loop B n f x j = fX4_all_loop B0 n f2 x j := by
  intro n
  induction n with
  | zero =>
    intro f f2 x i e hi hf j hj
    exact hf j (by omega)
  | succ n ih =>
    intro f f2 x i e hi hf j hj
    rw [fX3_all_loop, fX4_all_loop, hB]
    by_cases h1 : B0 ≤ x
    · rw [if_pos h1, if_pos h1]
      rcases hj with hj | ⟨hj, hb, hj2⟩
      · exact hf j hj
      · rcases Nat.lt_or_ge j i with z | z
        · exact hf j z
        · exfalso
          rw [hB] at hb
          rw [e] at h1
          exact Int32.lt_irrefl (Int32.lt_of_lt_of_le hb (Int32.le_trans h1 (nI_le z (by omega))))
    · rw [if_neg h1, if_neg h1]
      refine ih _ _ _ (i + 1) (by rw [e]; exact nI_1 i) (by omega) (fun j2 hj2 => ?_) j ?_
      · rw [e, nI_clamp (by omega)]
        by_cases hji : j2 = i
        · subst hji; rw [pk_us, pk_us]
        · rw [pk_un hji, pk_un hji]; exact hf j2 (by omega)
      · rcases hj with hj | ⟨hj, hb, hj2⟩
        · exact Or.inl (by omega)
        · rcases Nat.lt_or_ge j (i + 1) with z | z
          · exact Or.inl z
          · exact Or.inr ⟨by omega, hb, hj2⟩
end ZQ
