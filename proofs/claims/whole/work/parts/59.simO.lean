theorem bO_ok {fS : dFS} {fV : dFV} {fO : dFO} {ok oa ob : Nat → Int32} {d : dY} {i x y k : Int32} (h0 : d.2.2.2.2.2.2.2 = 0) (h : d.2.2.1 < 2000) (hk : ok i.toNatClampNeg = k) : bO fS fV fO ok oa ob d i x y = (if k = 0 then zw_l (fS (dbeg d) (oa i.toNatClampNeg) x) (fun q => zw_l (fS q.2 (oa i.toNatClampNeg) y) (fun r => (fX3_lesserFirst q.1 r.1, r.2))) else if k = 1 then zw_l (fO (dbeg d) (oa i.toNatClampNeg) x y) (fun q => (-q.1, q.2)) else if k = 2 then bH fO (dbeg d) (oa i.toNatClampNeg) (ob i.toNatClampNeg) x y else if k = 3 then zw_l (bR fV (dbeg d) (oa i.toNatClampNeg) x) (fun q => zw_l (bR fV q.2 (oa i.toNatClampNeg) y) (fun r => (fX3_lesserFirst q.1.toInt64 r.1.toInt64, r.2))) else if k = 4 then (fX3_lesserFirst x.toInt64 y.toInt64, dbeg d) else (0, d.1, d.2.1, d.2.2.1 + 1, d.2.2.2.1 + 1, d.2.2.2.2.1, d.2.2.2.2.2.1, d.2.2.2.2.2.2.1, 3)) := by
  subst hk
  unfold bO
  rw [zw_l_eq (ba_ok h0 h)]
  have h3 : fX2_fail (d.2.2.1 + 1, d.2.2.2.1 + 1, d.2.2.2.2.1, d.2.2.2.2.2.1, d.2.2.2.2.2.2.1, d.2.2.2.2.2.2.2) 3 = (d.2.2.1 + 1, d.2.2.2.1 + 1, d.2.2.2.2.1, d.2.2.2.2.2.1, d.2.2.2.2.2.2.1, 3) := by
    unfold fX2_fail fX2_hasFailure
    rw [if_pos h0, if_pos rfl]
  dsimp only
  rw [if_neg (by decide), zw_l_eq h3]
  rfl
def tri (x : Int32) : Prop := x = 0 ∨ x = 1 ∨ x = -1
theorem tri_i {c : Prop} [Decidable c] {p q : Int32 × dY} (h1 : c → tri p.1) (h2 : ¬ c → tri q.1) : tri (if c then p else q).1 := by
  by_cases h : c
  · rw [if_pos h]; exact h1 h
  · rw [if_neg h]; exact h2 h
theorem tri_l {u v : Int64} : tri (fX3_lesserFirst u v) := by
  unfold fX3_lesserFirst
  split
  · exact Or.inl rfl
  · split
    · exact Or.inr (Or.inl rfl)
    · exact Or.inr (Or.inr rfl)
theorem tri_n {x : Int32} (h : tri x) : tri (-x) := by
  rcases h with rfl | rfl | rfl
  · exact Or.inl (by decide)
  · exact Or.inr (Or.inr (by decide))
  · exact Or.inr (Or.inl (by decide))
theorem tri_O {ce rw : Nat → Int64} {sk sa sb vk va vb ok oa ob : Nat → Int32} : ∀ (n : Nat) (d : dY) (i x y : Int32), tri (zO ce rw sk sa sb vk va vb ok oa ob n d i x y).1 := by
  intro n
  induction n with
  | zero => intro d i x y; exact Or.inl rfl
  | succ n ih =>
    intro d i x y
    show tri (bO _ _ _ ok oa ob d i x y).1
    unfold bO zw_l
    repeat' refine tri_i (fun _ => ?_) (fun _ => ?_)
    all_goals first | with_reducible exact tri_l | with_reducible exact ih _ _ _ _ | with_reducible exact tri_n (ih _ _ _ _) | exact tri_l | exact Or.inl rfl | exact ih _ _ _ _
theorem tri_64 {x : Int32} (h : tri x) : -(x.toInt64) = (-x).toInt64 := by
  rcases h with rfl | rfl | rfl <;> decide
theorem les_eq (u v : Int64) : (if 0 ≤ lg_cmp u v then (if lg_cmp u v ≤ 0 then (0 : Int64) else 1) else -1) = (fX3_lesserFirst u v).toInt64 := by
  unfold fX3_lesserFirst
  rcases lg_tri u v with h | h | h
  · rw [if_neg (fun z => absurd ((lg_cmp_ge _ _).mp z) (lg_lt_not_le h)), if_neg (fun z => absurd ((lg_cmp_eq _ _).mp z) (lg_lt_ne h)), if_neg (fun z => absurd ((lg_cmp_ge _ _).mp z) (lg_lt_not_le h))]
    decide
  · have e := (lg_cmp_eq u v).mpr h
    rw [e]; decide
  · rw [if_pos ((lg_cmp_ge _ _).mpr (Int64.le_of_lt h)), if_neg (fun z => absurd ((lg_cmp_le _ _).mp z) (lg_lt_not_le h)), if_neg (fun z => absurd ((lg_cmp_eq _ _).mp z).symm (lg_lt_ne h)), if_pos ((lg_cmp_ge _ _).mpr (Int64.le_of_lt h))]
    decide
theorem les_b {x y : Int32} (hx : x = 0 ∨ x = 1) (hy : y = 0 ∨ y = 1) : (if 0 ≤ lg_cmp x.toInt64 y.toInt64 then (if lg_cmp x.toInt64 y.toInt64 ≤ 0 then (0 : Int64) else -1) else 1) = (fX3_lesserFirst (if x = 0 then (1 : Int32) else 0).toInt64 (if y = 0 then (1 : Int32) else 0).toInt64).toInt64 := by
  rcases hx with rfl | rfl <;> rcases hy with rfl | rfl <;> decide
theorem les_i (x y : Int32) : (if y ≤ x then (if x ≤ y then (0 : Int64) else 1) else -1) = (fX3_lesserFirst x.toInt64 y.toInt64).toInt64 := by
  rw [← les_eq]
  have e1 : (0 ≤ lg_cmp x.toInt64 y.toInt64) ↔ y ≤ x := by
    rw [lg_cmp_ge, Int64.le_iff_toInt_le, Int32.le_iff_toInt_le, Int32.toInt_toInt64, Int32.toInt_toInt64]
  have e2 : (lg_cmp x.toInt64 y.toInt64 ≤ 0) ↔ x ≤ y := by
    rw [lg_cmp_le, Int64.le_iff_toInt_le, Int32.le_iff_toInt_le, Int32.toInt_toInt64, Int32.toInt_toInt64]
  by_cases h1 : y ≤ x
  · rw [if_pos h1, if_pos (e1.mpr h1)]
    by_cases h2 : x ≤ y
    · rw [if_pos h2, if_pos (e2.mpr h2)]
    · rw [if_neg h2, if_neg (fun z => h2 (e2.mp z))]
  · rw [if_neg h1, if_neg (fun z => h1 (e1.mp z))]
theorem ite_1 {c : Prop} [Decidable c] {x y : Int32} {d : dY} : (if c then (x, d) else (y, d)).1 = if c then x else y := by
  by_cases h : c
  · rw [if_pos h, if_pos h]
  · rw [if_neg h, if_neg h]
