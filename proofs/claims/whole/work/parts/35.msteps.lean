/-! how many wait behind a turn -/
def gw_p (x y : Int32) : Prop := y = x ∨ y = x - 1 ∨ y = x + 1
theorem gw_i2 {α β : Type} {c : Prop} [Decidable c] {x : Int32} {P Q : α × Int32 × β} (h1 : c → gw_p x P.2.1) (h2 : ¬ c → gw_p x Q.2.1) : gw_p x (if c then P else Q).2.1 := by
  by_cases h : c
  · rw [if_pos h]; exact h1 h
  · rw [if_neg h]; exact h2 h
theorem gw_i1 {β : Type} {c : Prop} [Decidable c] {x : Int32} {P Q : Int32 × β} (h1 : c → gw_p x P.1) (h2 : ¬ c → gw_p x Q.1) : gw_p x (if c then P else Q).1 := by
  by_cases h : c
  · rw [if_pos h]; exact h1 h
  · rw [if_neg h]; exact h2 h
theorem gw_b {M0 : Int32} {M1 M2 M3 M4 : Nat → Int32} {M7 U0 U2 x k y z : Int32} : gw_p M0 (fX4_begins M0 M1 M2 M3 M4 M7 U0 U2 x k y z).1 := by
  unfold fX4_begins
  split
  · exact Or.inl rfl
  · exact Or.inr (Or.inr rfl)
theorem gw_o {M0 : Int32} {M6 : Int64} {M7 : Int32} {k : Int32} {u v : Int64} : gw_p M0 (fX4_both M0 M6 M7 k u v).1 := by
  unfold fX4_both
  repeat' split
  all_goals first | exact Or.inl rfl | exact Or.inr (Or.inl rfl)
theorem gw_S {B3 : (Nat → Int64)} {B4 : (Nat → Int64)} {K1 : (Nat → Int32)} {K2 : (Nat → Int32)} {K3 : (Nat → Int32)} {K4 : (Nat → Int64)} {E0 : (Nat → Int32)} {M0 : Int32} {M1 : (Nat → Int32)} {M2 : (Nat → Int32)} {M3 : (Nat → Int32)} {M4 : (Nat → Int32)} {M5 : (Nat → Int64)} {M6 : Int64} {M7 : Int32} {U0 : Int32} {U2 : Int32} {x y z : Int32} {v : Int64} {q : (Nat → Int32) × Int32 × (Nat → Int32) × (Nat → Int32) × (Nat → Int32) × (Nat → Int32) × (Nat → Int64) × Int64 × Int32 × Int32 × Int32} (h : fX4_goesScale B3 B4 K1 K2 K3 K4 E0 M0 M1 M2 M3 M4 M5 M6 M7 U0 U2 x y z v = q) : gw_p M0 q.2.1 := by
  subst h
  unfold fX4_goesScale
  repeat' first | refine gw_i2 (fun _ => ?_) (fun _ => ?_) | refine gw_i1 (fun _ => ?_) (fun _ => ?_)
  all_goals first | exact Or.inl rfl | exact Or.inr (Or.inl rfl) | exact gw_b | exact gw_o
theorem gw_V {K1 : (Nat → Int32)} {K2 : (Nat → Int32)} {K3 : (Nat → Int32)} {E0 : (Nat → Int32)} {M0 : Int32} {M1 : (Nat → Int32)} {M2 : (Nat → Int32)} {M3 : (Nat → Int32)} {M4 : (Nat → Int32)} {M5 : (Nat → Int64)} {M6 : Int64} {M7 : Int32} {U0 : Int32} {U2 : Int32} {x y z : Int32} {v : Int64} {q : (Nat → Int32) × Int32 × (Nat → Int32) × (Nat → Int32) × (Nat → Int32) × (Nat → Int32) × (Nat → Int64) × Int64 × Int32 × Int32 × Int32} (h : fX4_goesSieve K1 K2 K3 E0 M0 M1 M2 M3 M4 M5 M6 M7 U0 U2 x y z v = q) : gw_p M0 q.2.1 := by
  subst h
  unfold fX4_goesSieve
  repeat' first | refine gw_i2 (fun _ => ?_) (fun _ => ?_) | refine gw_i1 (fun _ => ?_) (fun _ => ?_)
  all_goals first | exact Or.inl rfl | exact Or.inr (Or.inl rfl) | exact gw_b | exact gw_o
theorem gw_O {K1 : (Nat → Int32)} {K2 : (Nat → Int32)} {K3 : (Nat → Int32)} {M0 : Int32} {M1 : (Nat → Int32)} {M2 : (Nat → Int32)} {M3 : (Nat → Int32)} {M4 : (Nat → Int32)} {M5 : (Nat → Int64)} {M6 : Int64} {M7 : Int32} {U0 : Int32} {U2 : Int32} {x y : Int32} {v : Int64} {q : Int32 × (Nat → Int32) × (Nat → Int32) × (Nat → Int32) × (Nat → Int32) × (Nat → Int64) × Int64 × Int32 × Int32 × Int32} (h : fX4_goesOrder K1 K2 K3 M0 M1 M2 M3 M4 M5 M6 M7 U0 U2 x y v = q) : gw_p M0 q.1 := by
  subst h
  unfold fX4_goesOrder
  repeat' first | refine gw_i2 (fun _ => ?_) (fun _ => ?_) | refine gw_i1 (fun _ => ?_) (fun _ => ?_)
  all_goals first | exact Or.inl rfl | exact Or.inr (Or.inl rfl) | exact gw_b | exact gw_o
theorem gw_i {x y : Int32} (s0 : ∃ i : Nat, i ≤ 79 ∧ x = nI i) (hc : ¬ x ≤ 0) (h : gw_p x y) : ∃ i : Nat, i ≤ 80 ∧ y = nI i := by
  obtain ⟨i, hi, e⟩ := s0
  obtain ⟨m, em, e5, -⟩ := dm_pred e (by omega) hc
  rcases h with h | h | h
  · exact ⟨i, by omega, h.trans e⟩
  · exact ⟨m, by omega, h.trans e5⟩
  · exact ⟨i + 1, by omega, by rw [h, e]; exact nI_1 i⟩
