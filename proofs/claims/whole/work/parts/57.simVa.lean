theorem bV_ok {fS : dFS} {fV : dFV} {vk va vb : Nat → Int32} {d : dY} {i t k : Int32} (h0 : d.2.2.2.2.2.2.2 = 0) (h : d.2.2.1 < 2000) (hk : vk i.toNatClampNeg = k) : bV fS fV vk va vb d i t = (if k = 0 then (1, dbeg d) else if k = 1 then zw_l (fS (dbeg d) (va i.toNatClampNeg) t) (fun q => zw_l (fS q.2 (vb i.toNatClampNeg) t) (fun r => if lg_cmp q.1 r.1 ≤ 0 then (0, r.2) else (1, r.2))) else if k = 2 then zw_l (fS (dbeg d) (va i.toNatClampNeg) t) (fun q => zw_l (fS q.2 (vb i.toNatClampNeg) t) (fun r => if lg_cmp q.1 r.1 = 0 then (1, r.2) else (0, r.2))) else if k = 3 then zw_l (fV (dbeg d) (va i.toNatClampNeg) t) (fun q => if q.1 = 0 then (1, q.2) else (0, q.2)) else if k = 4 then zw_l (fV (dbeg d) (va i.toNatClampNeg) t) (fun q => if q.1 = 0 then (0, q.2) else zw_l (fV q.2 (vb i.toNatClampNeg) t) (fun r => if r.1 = 0 then (0, r.2) else (1, r.2))) else if k = 5 then zw_l (fV (dbeg d) (va i.toNatClampNeg) t) (fun q => if q.1 = 0 then zw_l (fV q.2 (vb i.toNatClampNeg) t) (fun r => if r.1 = 0 then (0, r.2) else (1, r.2)) else (1, q.2)) else if k = 6 then zw_l (fX1_countAsked d.2.1 i) (fun u => if lg_cmp (u.1 - u.1 / ((if va i.toNatClampNeg < 1 then 1 else va i.toNatClampNeg).toInt64) * ((if va i.toNatClampNeg < 1 then 1 else va i.toNatClampNeg).toInt64)) 0 = 0 then (1, d.1, u.2, (dbeg d).2.2) else (0, d.1, u.2, (dbeg d).2.2)) else if k = 7 then (if va i.toNatClampNeg ≤ t then (0, dbeg d) else (1, dbeg d)) else if k = 8 then bF fV (dbeg d) (va i.toNatClampNeg) t else (0, d.1, d.2.1, d.2.2.1 + 1, d.2.2.2.1 + 1, d.2.2.2.2.1, d.2.2.2.2.2.1, d.2.2.2.2.2.2.1, 3)) := by
  subst hk
  unfold bV
  rw [zw_l_eq (ba_ok h0 h)]
  have h3 : fX2_fail (d.2.2.1 + 1, d.2.2.2.1 + 1, d.2.2.2.2.1, d.2.2.2.2.2.1, d.2.2.2.2.2.2.1, d.2.2.2.2.2.2.2) 3 = (d.2.2.1 + 1, d.2.2.2.1 + 1, d.2.2.2.2.1, d.2.2.2.2.2.1, d.2.2.2.2.2.2.1, 3) := by
    unfold fX2_fail fX2_hasFailure
    rw [if_pos h0, if_pos rfl]
  dsimp only
  rw [if_neg (by decide), zw_l_eq h3]
  rfl
theorem bb_i {c : Prop} [Decidable c] {p q : Int32 × dY} (h1 : c → p.1 = 0 ∨ p.1 = 1) (h2 : ¬ c → q.1 = 0 ∨ q.1 = 1) : (if c then p else q).1 = 0 ∨ (if c then p else q).1 = 1 := by
  by_cases h : c
  · rw [if_pos h]; exact h1 h
  · rw [if_neg h]; exact h2 h
theorem bb_V {ce rw : Nat → Int64} {sk sa sb vk va vb : Nat → Int32} (n : Nat) (d : dY) (i t : Int32) : ((zA ce rw sk sa sb vk va vb n).2 d i t).1 = 0 ∨ ((zA ce rw sk sa sb vk va vb n).2 d i t).1 = 1 := by
  cases n with
  | zero => exact Or.inl rfl
  | succ n =>
    show (bV _ _ vk va vb d i t).1 = 0 ∨ (bV _ _ vk va vb d i t).1 = 1
    unfold bV zw_l
    repeat' refine bb_i (fun _ => ?_) (fun _ => ?_)
    all_goals first | exact Or.inl rfl | exact Or.inr rfl | exact bb_bF rfl
theorem i32_s1 {sz m : Nat} {r : Nat → Nat} {k : Int32} (h : dz_op sz r m k) (hs : sz ≤ 24) : ∃ w : Int32, (24 * 1 + k : Int32) = w ∧ w.toNatClampNeg = 24 + k.toNatClampNeg ∧ 24 ≤ w ∧ (¬ (48 : Int32) ≤ w) ∧ vp_in w 72 := by
  have hl := dz_opLt h
  refine ⟨nI (24 + k.toNatClampNeg), ?_, nI_clamp (by omega), (nI_leI (a := 24) (by decide) (by omega)).mpr (by omega), fun z => ?_, vp_in_nI (by omega) (by decide)⟩
  · rw [op_nI h hs, nI_clamp (by omega)]; exact i32_sN 1 _
  · have := (nI_leI (a := 48) (by decide) (by omega)).mp z
    omega
theorem i32_s2 {sz m : Nat} {r : Nat → Nat} {k : Int32} (h : dz_op sz r m k) (hs : sz ≤ 24) : ∃ w : Int32, (24 * 2 + k : Int32) = w ∧ w.toNatClampNeg = 48 + k.toNatClampNeg ∧ 24 ≤ w ∧ (48 : Int32) ≤ w ∧ vp_in w 72 := by
  have hl := dz_opLt h
  refine ⟨nI (48 + k.toNatClampNeg), ?_, nI_clamp (by omega), (nI_leI (a := 24) (by decide) (by omega)).mpr (by omega), (nI_leI (a := 48) (by decide) (by omega)).mpr (by omega), vp_in_nI (by omega) (by decide)⟩
  rw [op_nI h hs, nI_clamp (by omega)]; exact i32_sN 2 _
theorem each_pos (x : Int32) : (if x < 1 then (1 : Int32) else x) = nI (each x) ∧ 1 ≤ each x ∧ each x < 2 ^ 31 := by
  unfold each
  by_cases h : x < 1
  · rw [if_pos h]; exact ⟨rfl, by decide, by decide⟩
  · rw [if_neg h]
    have h0 : ¬ x < 0 := fun z => h (Int32.lt_trans z (by decide))
    obtain ⟨j, hj, rfl⟩ := nI_of h0
    rw [nI_clamp hj]
    refine ⟨rfl, ?_, hj⟩
    cases j with
    | zero => exact absurd (by decide) h
    | succ j => omega
theorem mod_step {c e : Nat} (he : 1 ≤ e) : (c % e + 1 = e ↔ (c + 1) % e = 0) ∧ (c % e + 1 ≠ e → (c + 1) % e = c % e + 1) := by
  have h1 : (c + 1) % e = (c % e + 1) % e := by rw [Nat.mod_add_mod]
  have h2 : c % e < e := Nat.mod_lt _ (by omega)
  rw [h1]
  rcases Nat.lt_or_ge (c % e + 1) e with h3 | h3
  · rw [Nat.mod_eq_of_lt h3]
    exact ⟨⟨fun z => absurd z (by omega), fun z => absurd z (by omega)⟩, fun _ => rfl⟩
  · have h4 : c % e + 1 = e := by omega
    rw [h4, Nat.mod_self]
    exact ⟨⟨fun _ => rfl, fun _ => rfl⟩, fun z => absurd rfl z⟩
theorem sim_cntV {S : dS} {V : dV} {K4 : Nat → Int64} {sn vn L : Nat} {d : dY} {E : Nat → Int32} {a ev mt k : Int32} (hL : L ≤ 2000000) (hs : mSim S V K4 sn vn L d E a ev mt) (ha : ¬ a = 2000) (hi : k.toNatClampNeg < vn) (hk : V.1 k.toNatClampNeg = 6) (hsn : sn ≤ 24) : ∃ c : Nat, c ≤ 2000000 ∧ E (24 + k.toNatClampNeg) = nI (c % each (V.2.1 k.toNatClampNeg)) ∧ (fX1_countAsked d.2.1 k).1 = lN (c + 1) ∧ ∀ x : Int32, x = nI ((c + 1) % each (V.2.1 k.toNatClampNeg)) → mSim S V K4 sn vn L (d.1, (fX1_countAsked d.2.1 k).2, (dbeg d).2.2) (upd E (24 + k.toNatClampNeg) x) (a + 1) (ev + 1) mt := by
  obtain ⟨hs1, -⟩ := sim_beg hs ha
  obtain ⟨-, -, -, n0, m0, z4, -, z6, z7, -, z9⟩ := hs
  obtain ⟨g1, g2, g3, n, m, g4, g5, g6, g7, g8, g9⟩ := hs1
  obtain ⟨c, c1, c2, c3⟩ := z9 _ hi hk
  have hm : m0 ≤ 2000000 := by omega
  have hmm : m = m0 + 1 := (nI_eq (by omega) (by omega)).mp (by rw [← g6, z6]; exact nI_1 m0)
  have ec : fX1_countAsked d.2.1 k = (d.2.1 k.toNatClampNeg + 1, vp_updL d.2.1 k.toNatClampNeg (d.2.1 k.toNatClampNeg + 1)) := by
    unfold fX1_countAsked
    rw [pk_uLs]
  rw [ec]
  refine ⟨c, by omega, c3, by show d.2.1 k.toNatClampNeg + 1 = _; rw [c2, lN_1], fun x hx => ⟨g1, g2, g3, n, m, g4, g5, g6, g7, fun i hi2 => ⟨(g8 i hi2).1, fun hh => ?_⟩, fun i hi2 hv => ?_⟩⟩
  · obtain ⟨c5, d1, d2, d3⟩ := (g8 i hi2).2 hh
    exact ⟨c5, d1, d2, by rw [pk_un (by omega)]; exact d3⟩
  · show ∃ c, c ≤ m ∧ vp_updL d.2.1 k.toNatClampNeg (d.2.1 k.toNatClampNeg + 1) i = lN c ∧ upd E (24 + k.toNatClampNeg) x (24 + i) = nI (c % each (V.2.1 i))
    by_cases hne : i = k.toNatClampNeg
    · subst hne
      rw [pk_uLs, pk_us, c2]
      exact ⟨c + 1, by omega, lN_1 c, hx⟩
    · rw [pk_uLn hne, pk_un (by omega)]; exact g9 i hi2 hv
theorem bool64 {x : Int32} (h : x = 0 ∨ x = 1) : (x.toInt64 = 0 ↔ x = 0) ∧ (x.toInt64 = 1 ↔ ¬ x = 0) ∧ (1 - x.toInt64 = (if x = 0 then (1 : Int32) else 0).toInt64) := by
  rcases h with rfl | rfl <;> decide
