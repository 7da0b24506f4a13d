/-! THE DESK: its cells, by what they hold. B: things, list length, latest told, cells, row, listed, draft; S, V, O: kinds, a, b, kept, size; G, F: keys, members, totals, firsts, size; T: begun, ever, met, failed calls, latest failure, standing. -/
abbrev dB : Type := Int32 × Int32 × Int64 × (Nat → Int64) × (Nat → Int64) × (Nat → Int32) × (Nat → Int32)
abbrev dS : Type := (Nat → Int32) × (Nat → Int32) × (Nat → Int32) × (Nat → Int64) × Int32
abbrev dV : Type := (Nat → Int32) × (Nat → Int32) × (Nat → Int32) × (Nat → Int64) × Int32
abbrev dO : Type := (Nat → Int32) × (Nat → Int32) × (Nat → Int32) × (Nat → Int64) × Int32
abbrev dG : Type := (Nat → Int64) × (Nat → Int32) × (Nat → Int64) × (Nat → Int32) × Int32
abbrev dF : Type := (Nat → Int64) × (Nat → Int32) × (Nat → Int64) × (Nat → Int32) × Int32
abbrev dT : Type := Int32 × Int32 × Int32 × Int32 × Int32 × Int32
def wD (cI cL : ClassId) (a : Nat → Nat) (B : dB) (S : dS) (V : dV) (O : dO) (G : dG) (F : dF) (T : dT) : va_W := [(a 0, .inr (3, [.ref (a 1), .int B.1, .ref (a 2), .ref (a 3), .ref (a 4), .int B.2.1, .ref (a 5), .ref (a 10), .ref (a 15), .ref (a 20), .ref (a 25), .ref (a 30), .long B.2.2.1])), (a 1, .inl (cL, 120, .inr (.inl B.2.2.2.1))), (a 2, .inl (cL, 8, .inr (.inl B.2.2.2.2.1))), (a 3, .inl (cI, 40, .inl B.2.2.2.2.2.1)), (a 4, .inl (cI, 40, .inl B.2.2.2.2.2.2)), (a 5, .inr (1, [.ref (a 6), .ref (a 7), .ref (a 8), .ref (a 9), .int S.2.2.2.2])), (a 6, .inl (cI, 24, .inl S.1)), (a 7, .inl (cI, 24, .inl S.2.1)), (a 8, .inl (cI, 24, .inl S.2.2.1)), (a 9, .inl (cL, 24, .inr (.inl S.2.2.2.1))), (a 10, .inr (1, [.ref (a 11), .ref (a 12), .ref (a 13), .ref (a 14), .int V.2.2.2.2])), (a 11, .inl (cI, 24, .inl V.1)), (a 12, .inl (cI, 24, .inl V.2.1)), (a 13, .inl (cI, 24, .inl V.2.2.1)), (a 14, .inl (cL, 24, .inr (.inl V.2.2.2.1))), (a 15, .inr (1, [.ref (a 16), .ref (a 17), .ref (a 18), .ref (a 19), .int O.2.2.2.2])), (a 16, .inl (cI, 24, .inl O.1)), (a 17, .inl (cI, 24, .inl O.2.1)), (a 18, .inl (cI, 24, .inl O.2.2.1)), (a 19, .inl (cL, 24, .inr (.inl O.2.2.2.1))), (a 20, .inr (0, [.ref (a 21), .ref (a 22), .ref (a 23), .ref (a 24), .int G.2.2.2.2])), (a 21, .inl (cL, 40, .inr (.inl G.1))), (a 22, .inl (cI, 40, .inl G.2.1)), (a 23, .inl (cL, 40, .inr (.inl G.2.2.1))), (a 24, .inl (cI, 40, .inl G.2.2.2.1)), (a 25, .inr (0, [.ref (a 26), .ref (a 27), .ref (a 28), .ref (a 29), .int F.2.2.2.2])), (a 26, .inl (cL, 40, .inr (.inl F.1))), (a 27, .inl (cI, 40, .inl F.2.1)), (a 28, .inl (cL, 40, .inr (.inl F.2.2.1))), (a 29, .inl (cI, 40, .inl F.2.2.2.1)), (a 30, .inr (2, [.int T.1, .int T.2.1, .int T.2.2.1, .int T.2.2.2.1, .int T.2.2.2.2.1, .int T.2.2.2.2.2]))]
/-- a count that is at most N -/
def zw_le (x : Int32) (N : Nat) : Prop := ∃ n : Nat, n ≤ N ∧ x = nI n
theorem zw_ix {x sz : Int32} {N : Nat} (h1 : ¬ x < 0) (h2 : ¬ sz ≤ x) (hs : zw_le sz N) (hN : N < 2 ^ 31) : vp_in x N := by
  obtain ⟨n, hn, rfl⟩ := hs
  obtain ⟨j, hj, rfl⟩ := nI_of h1
  have hlt : j < n := by
    rcases Nat.lt_or_ge j n with h | h
    · exact h
    · exact absurd (nI_le h hj) h2
  exact vp_in_nI (by omega) hN
theorem zw_ix2 {x sz : Int32} {N : Nat} (h1 : ¬ x < 0) (h2 : x < sz) (hs : zw_le sz N) (hN : N < 2 ^ 31) : vp_in x N :=
  zw_ix h1 (fun h => Int32.lt_irrefl (Int32.lt_of_lt_of_le h2 h)) hs hN
