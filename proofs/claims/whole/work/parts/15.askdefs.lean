/-! THE ASKINGS: the state d that they change (what scales and sieves keep, the tally), the functions, the numbers that may be asked -/
abbrev dY : Type := (Nat → Int64) × (Nat → Int64) × dT
abbrev dFS : Type := dY → Int32 → Int32 → Int64 × dY
abbrev dFV : Type := dY → Int32 → Int32 → Int32 × dY
abbrev dFO : Type := dY → Int32 → Int32 → Int32 → Int32 × dY
abbrev dW (cI cL : ClassId) (a : Nat → Nat) (B : dB) (S : dS) (V : dV) (O : dO) (G : dG) (F : dF) (d : dY) : va_W := wD cI cL a B (S.1, S.2.1, S.2.2.1, d.1, S.2.2.2.2) (V.1, V.2.1, V.2.2.1, d.2.1, V.2.2.2.2) O G F d.2.2
/-- x is one of sz, and its rank is below m -/
def dz_op (sz : Nat) (r : Nat → Nat) (m : Nat) (x : Int32) : Prop := vp_in x sz ∧ r x.toNatClampNeg < m
/-- what is made is made of such as were made before: ranks fall -/
def dz_tab (S : dS) (V : dV) (O : dO) (sn vn on : Nat) (rs rv ro : Nat → Nat) : Prop :=
  (∀ i, i < sn → (S.1 i = 0 → ∃ c, c < 3 ∧ S.2.1 i = nI c) ∧ (S.1 i = 2 ∨ S.1 i = 3 ∨ S.1 i = 4 ∨ S.1 i = 5 → dz_op sn rs (rs i) (S.2.1 i) ∧ dz_op sn rs (rs i) (S.2.2.1 i)) ∧ (S.1 i = 6 → dz_op vn rv (rs i) (S.2.1 i) ∧ dz_op sn rs (rs i) (S.2.2.1 i)) ∧ (S.1 i = 7 → dz_op sn rs (rs i) (S.2.1 i))) ∧
  (∀ i, i < vn → (V.1 i = 1 ∨ V.1 i = 2 → dz_op sn rs (rv i) (V.2.1 i) ∧ dz_op sn rs (rv i) (V.2.2.1 i)) ∧ (V.1 i = 3 ∨ V.1 i = 8 → dz_op vn rv (rv i) (V.2.1 i)) ∧ (V.1 i = 4 ∨ V.1 i = 5 → dz_op vn rv (rv i) (V.2.1 i) ∧ dz_op vn rv (rv i) (V.2.2.1 i))) ∧
  (∀ i, i < on → (O.1 i = 0 → dz_op sn rs (ro i) (O.2.1 i)) ∧ (O.1 i = 1 → dz_op on ro (ro i) (O.2.1 i)) ∧ (O.1 i = 2 → dz_op on ro (ro i) (O.2.1 i) ∧ dz_op on ro (ro i) (O.2.2.1 i)) ∧ (O.1 i = 3 → dz_op vn rv (ro i) (O.2.1 i)))
theorem dz_opIn {sz m N : Nat} {r : Nat → Nat} {x : Int32} (h : dz_op sz r m x) (hN : sz ≤ N) : vp_in x N := fun z => h.1 (z.imp id (fun y => Nat.le_trans hN y))
theorem dz_opLt {sz m : Nat} {r : Nat → Nat} {x : Int32} (h : dz_op sz r m x) : x.toNatClampNeg < sz := Nat.lt_of_not_le (fun z => h.1 (Or.inr z))
theorem dz_opMono {sz m m2 : Nat} {r : Nat → Nat} {x : Int32} (h : dz_op sz r m x) (hm : m ≤ m2) : dz_op sz r m2 x := ⟨h.1, Nat.lt_of_lt_of_le h.2 hm⟩
theorem dk_S0 {S : dS} {V : dV} {O : dO} {sn vn on n : Nat} {rs rv ro : Nat → Nat} {p : Int32} (hT : dz_tab S V O sn vn on rs rv ro) (hi : dz_op sn rs (n + 1) p) (hk : S.1 p.toNatClampNeg = 0) : ∃ c, c < 3 ∧ S.2.1 p.toNatClampNeg = nI c := (hT.1 _ (dz_opLt hi)).1 hk
theorem dk_S2 {S : dS} {V : dV} {O : dO} {sn vn on n : Nat} {rs rv ro : Nat → Nat} {p : Int32} (hT : dz_tab S V O sn vn on rs rv ro) (hi : dz_op sn rs (n + 1) p) (hk : S.1 p.toNatClampNeg = 2 ∨ S.1 p.toNatClampNeg = 3 ∨ S.1 p.toNatClampNeg = 4 ∨ S.1 p.toNatClampNeg = 5) : dz_op sn rs n (S.2.1 p.toNatClampNeg) ∧ dz_op sn rs n (S.2.2.1 p.toNatClampNeg) :=
  ((hT.1 _ (dz_opLt hi)).2.1 hk).imp (fun h => dz_opMono h (Nat.le_of_lt_succ hi.2)) (fun h => dz_opMono h (Nat.le_of_lt_succ hi.2))
theorem dk_S6 {S : dS} {V : dV} {O : dO} {sn vn on n : Nat} {rs rv ro : Nat → Nat} {p : Int32} (hT : dz_tab S V O sn vn on rs rv ro) (hi : dz_op sn rs (n + 1) p) (hk : S.1 p.toNatClampNeg = 6) : dz_op vn rv n (S.2.1 p.toNatClampNeg) ∧ dz_op sn rs n (S.2.2.1 p.toNatClampNeg) :=
  ((hT.1 _ (dz_opLt hi)).2.2.1 hk).imp (fun h => dz_opMono h (Nat.le_of_lt_succ hi.2)) (fun h => dz_opMono h (Nat.le_of_lt_succ hi.2))
theorem dk_S7 {S : dS} {V : dV} {O : dO} {sn vn on n : Nat} {rs rv ro : Nat → Nat} {p : Int32} (hT : dz_tab S V O sn vn on rs rv ro) (hi : dz_op sn rs (n + 1) p) (hk : S.1 p.toNatClampNeg = 7) : dz_op sn rs n (S.2.1 p.toNatClampNeg) :=
  dz_opMono ((hT.1 _ (dz_opLt hi)).2.2.2 hk) (Nat.le_of_lt_succ hi.2)
theorem dk_V1 {S : dS} {V : dV} {O : dO} {sn vn on n : Nat} {rs rv ro : Nat → Nat} {p : Int32} (hT : dz_tab S V O sn vn on rs rv ro) (hi : dz_op vn rv (n + 1) p) (hk : V.1 p.toNatClampNeg = 1 ∨ V.1 p.toNatClampNeg = 2) : dz_op sn rs n (V.2.1 p.toNatClampNeg) ∧ dz_op sn rs n (V.2.2.1 p.toNatClampNeg) :=
  ((hT.2.1 _ (dz_opLt hi)).1 hk).imp (fun h => dz_opMono h (Nat.le_of_lt_succ hi.2)) (fun h => dz_opMono h (Nat.le_of_lt_succ hi.2))
theorem dk_V3 {S : dS} {V : dV} {O : dO} {sn vn on n : Nat} {rs rv ro : Nat → Nat} {p : Int32} (hT : dz_tab S V O sn vn on rs rv ro) (hi : dz_op vn rv (n + 1) p) (hk : V.1 p.toNatClampNeg = 3 ∨ V.1 p.toNatClampNeg = 8) : dz_op vn rv n (V.2.1 p.toNatClampNeg) :=
  dz_opMono ((hT.2.1 _ (dz_opLt hi)).2.1 hk) (Nat.le_of_lt_succ hi.2)
theorem dk_V4 {S : dS} {V : dV} {O : dO} {sn vn on n : Nat} {rs rv ro : Nat → Nat} {p : Int32} (hT : dz_tab S V O sn vn on rs rv ro) (hi : dz_op vn rv (n + 1) p) (hk : V.1 p.toNatClampNeg = 4 ∨ V.1 p.toNatClampNeg = 5) : dz_op vn rv n (V.2.1 p.toNatClampNeg) ∧ dz_op vn rv n (V.2.2.1 p.toNatClampNeg) :=
  ((hT.2.1 _ (dz_opLt hi)).2.2 hk).imp (fun h => dz_opMono h (Nat.le_of_lt_succ hi.2)) (fun h => dz_opMono h (Nat.le_of_lt_succ hi.2))
theorem dk_O0 {S : dS} {V : dV} {O : dO} {sn vn on n : Nat} {rs rv ro : Nat → Nat} {p : Int32} (hT : dz_tab S V O sn vn on rs rv ro) (hi : dz_op on ro (n + 1) p) (hk : O.1 p.toNatClampNeg = 0) : dz_op sn rs n (O.2.1 p.toNatClampNeg) := dz_opMono ((hT.2.2 _ (dz_opLt hi)).1 hk) (Nat.le_of_lt_succ hi.2)
theorem dk_O1 {S : dS} {V : dV} {O : dO} {sn vn on n : Nat} {rs rv ro : Nat → Nat} {p : Int32} (hT : dz_tab S V O sn vn on rs rv ro) (hi : dz_op on ro (n + 1) p) (hk : O.1 p.toNatClampNeg = 1) : dz_op on ro n (O.2.1 p.toNatClampNeg) := dz_opMono ((hT.2.2 _ (dz_opLt hi)).2.1 hk) (Nat.le_of_lt_succ hi.2)
theorem dk_O2 {S : dS} {V : dV} {O : dO} {sn vn on n : Nat} {rs rv ro : Nat → Nat} {p : Int32} (hT : dz_tab S V O sn vn on rs rv ro) (hi : dz_op on ro (n + 1) p) (hk : O.1 p.toNatClampNeg = 2) : dz_op on ro n (O.2.1 p.toNatClampNeg) ∧ dz_op on ro n (O.2.2.1 p.toNatClampNeg) :=
  ((hT.2.2 _ (dz_opLt hi)).2.2.1 hk).imp (fun h => dz_opMono h (Nat.le_of_lt_succ hi.2)) (fun h => dz_opMono h (Nat.le_of_lt_succ hi.2))
theorem dk_O3 {S : dS} {V : dV} {O : dO} {sn vn on n : Nat} {rs rv ro : Nat → Nat} {p : Int32} (hT : dz_tab S V O sn vn on rs rv ro) (hi : dz_op on ro (n + 1) p) (hk : O.1 p.toNatClampNeg = 3) : dz_op vn rv n (O.2.1 p.toNatClampNeg) := dz_opMono ((hT.2.2 _ (dz_opLt hi)).2.2.2 hk) (Nat.le_of_lt_succ hi.2)
def CS (l : Launch) (D : va_G) (cI cL : ClassId) (a : Nat → Nat) (B : dB) (S : dS) (V : dV) (O : dO) (G : dG) (F : dF) (rm : Room) (ok okT : Int32 → Prop) (fS : dFS) : Prop := ∀ (d : dY) (i t : Int32) (q : Int64 × dY), ok i → okT t → fS d i t = q → zw_Ml l yX3_askScale cX3_askScale 5 D (zw_tys cI cL) rm [.ref (a 0), .int i, .int t] (dW cI cL a B S V O G F d) (dW cI cL a B S V O G F q.2) q.1
def CV (l : Launch) (D : va_G) (cI cL : ClassId) (a : Nat → Nat) (B : dB) (S : dS) (V : dV) (O : dO) (G : dG) (F : dF) (rm : Room) (ok okT : Int32 → Prop) (fV : dFV) : Prop := ∀ (d : dY) (i t : Int32) (q : Int32 × dY), ok i → okT t → fV d i t = q → zw_Mi l yX3_askSieve cX3_askSieve 5 .boolean D (zw_tys cI cL) rm [.ref (a 0), .int i, .int t] (dW cI cL a B S V O G F d) (dW cI cL a B S V O G F q.2) q.1
def CO (l : Launch) (D : va_G) (cI cL : ClassId) (a : Nat → Nat) (B : dB) (S : dS) (V : dV) (O : dO) (G : dG) (F : dF) (rm : Room) (ok okT : Int32 → Prop) (fO : dFO) : Prop := ∀ (d : dY) (i x y : Int32) (q : Int32 × dY), ok i → okT x → okT y → fO d i x y = q → zw_Mi l yX3_askOrder cX3_askOrder 6 .int D (zw_tys cI cL) rm [.ref (a 0), .int i, .int x, .int y] (dW cI cL a B S V O G F d) (dW cI cL a B S V O G F q.2) q.1
theorem dz_maxne {x : Int32} : ¬ (if x < 1 then (1 : Int32) else x).toInt64 = 0 := by
  intro h
  have h2 : (if x < 1 then (1 : Int32) else x) = 0 := by
    have e := lg_l2i_i2l (if x < 1 then (1 : Int32) else x)
    rw [h] at e; exact e.symm
  by_cases hx : x < 1
  · rw [if_pos hx] at h2; exact absurd h2 (by decide)
  · rw [if_neg hx] at h2; subst h2; exact hx (by decide)
/-- the room of the askings of rank below n -/
abbrev dz_rm (n : Nat) : Room := zw_rm (2 * n + 6) (60 * n + 200)
