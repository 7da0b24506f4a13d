/-! THE TURNS, PURE: what a turn leaves is looked at once more where a failure stands -/
def mfin (K1 : Nat → Int32) (d : mY) : mY := if d.2.2.2.2.2.2.2.2.1 ≤ 0 then d else zw_l (fX4_recovers K1 d.2.1 d.2.2.1 d.2.2.2.2.2.1 d.2.2.2.2.2.2.2.1 d.2.2.2.2.2.2.2.2.1 d.2.2.2.2.2.2.2.2.2.2.2) (fun q => (d.1, q.1, d.2.2.1, d.2.2.2.1, d.2.2.2.2.1, d.2.2.2.2.2.1, d.2.2.2.2.2.2.1, q.2.1, q.2.2.1, d.2.2.2.2.2.2.2.2.2.1, d.2.2.2.2.2.2.2.2.2.2.1, q.2.2.2))
theorem nI_nonpos {h : Nat} (hh : h < 2 ^ 31) : ¬ nI (h + 1) ≤ 0 ∨ h + 1 ≥ 2 ^ 31 := by
  rcases Nat.lt_or_ge (h + 1) (2 ^ 31) with h1 | h1
  · exact Or.inl (nI_nle (by omega) h1)
  · exact Or.inr h1
theorem nI_np {h : Nat} (hh : h + 1 < 2 ^ 31) : ¬ nI (h + 1) ≤ 0 := nI_nle (by omega) hh
theorem rl_1 {K1 M1 M4 : Nat → Int32} {M7 x : Int32} : ∀ n : Nat, fX4_recovers_loop K1 M1 M4 M7 n x 1 = (x, 1) := by
  intro n
  cases n with
  | zero => rfl
  | succ n =>
    rw [fX4_recovers_loop]
    by_cases h : x ≤ 0
    · rw [if_pos h]
    · rw [if_neg h, if_neg (by decide)]
theorem rl_0 {K1 M1 M4 : Nat → Int32} {M7 : Int32} (n : Nat) : fX4_recovers_loop K1 M1 M4 M7 n (nI 0) 0 = (nI 0, 0) := by
  cases n with
  | zero => rfl
  | succ n => rw [fX4_recovers_loop, if_pos (by decide)]
theorem rl_fuel {K1 M1 M4 : Nat → Int32} {M7 : Int32} : ∀ (h n k : Nat), h ≤ 80 → h < n → h < k → fX4_recovers_loop K1 M1 M4 M7 n (nI h) 0 = fX4_recovers_loop K1 M1 M4 M7 k (nI h) 0 := by
  intro h
  induction h with
  | zero => intro n k _ _ _; rw [rl_0, rl_0]
  | succ h ih =>
    intro n k hh hn hk
    obtain ⟨n, rfl⟩ : ∃ a, n = a + 1 := ⟨n - 1, by omega⟩
    obtain ⟨k, rfl⟩ : ∃ a, k = a + 1 := ⟨k - 1, by omega⟩
    have e := ih n k (by omega) (by omega) (by omega)
    rw [fX4_recovers_loop, fX4_recovers_loop]
    simp only [nI_pred, rl_1, e]
/-- a frame that meets no failure -/
def nocatch (K1 : Nat → Int32) (w st f : Int32) : Prop := f = 4 ∨ w < 24 ∨ 48 ≤ w ∨ ¬ K1 w.toNatClampNeg = 8 ∨ st ≤ 0
theorem rl_pop {K1 M1 M4 : Nat → Int32} {M7 : Int32} {h n : Nat} (hh : h < 80) (hc : nocatch K1 (M1 h) (M4 h) M7) : fX4_recovers_loop K1 M1 M4 M7 (n + 1) (nI (h + 1)) 0 = fX4_recovers_loop K1 M1 M4 M7 n (nI h) 0 := by
  rw [fX4_recovers_loop, if_neg (nI_np (by omega)), if_pos rfl, nI_pred, nI_clamp (by omega)]
  by_cases h1 : M7 = 4
  · rw [if_pos h1]
  rw [if_neg h1]
  by_cases h2 : M1 h < 24
  · rw [if_pos h2]
  rw [if_neg h2]
  by_cases h3 : 48 ≤ M1 h
  · rw [if_pos h3]
  rw [if_neg h3]
  by_cases h4 : K1 (M1 h).toNatClampNeg = 8
  · rw [if_pos h4]
    by_cases h5 : M4 h ≤ 0
    · rw [if_pos h5]
    · rcases hc with c | c | c | c | c
      · exact absurd c h1
      · exact absurd c h2
      · exact absurd c h3
      · exact absurd h4 c
      · exact absurd c h5
  · rw [if_neg h4]
theorem rl_catch {K1 M1 M4 : Nat → Int32} {M7 : Int32} {h n : Nat} (hh : h < 80) (h1 : ¬ M7 = 4) (h2 : ¬ M1 h < 24) (h3 : ¬ (48 : Int32) ≤ M1 h) (h4 : K1 (M1 h).toNatClampNeg = 8) (h5 : ¬ M4 h ≤ 0) : fX4_recovers_loop K1 M1 M4 M7 (n + 1) (nI (h + 1)) 0 = (nI h, 1) := by
  rw [fX4_recovers_loop, if_neg (nI_np (by omega)), if_pos rfl, nI_pred, nI_clamp (by omega), if_neg h1, if_neg h2, if_neg h3, if_pos h4, if_neg h5, rl_1]
/-- a failure goes through a frame that doesn't meet it -/
theorem fin_pop {K1 : Nat → Int32} {E : Nat → Int32} {W X Y G : Nat → Int32} {Hd : Nat → Int64} {tv : Int64} {f a ev mt : Int32} {h : Nat} (hh : h < 80) (hf : ¬ f ≤ 0) (hc : nocatch K1 (W h) (G h) f) : mfin K1 (E, nI (h + 1), W, X, Y, G, Hd, tv, f, a, ev, mt) = mfin K1 (E, nI h, W, X, Y, G, Hd, tv, f, a, ev, mt) := by
  unfold mfin
  dsimp only
  rw [if_neg hf, if_neg hf]
  unfold fX4_recovers zw_l
  dsimp only
  rw [rl_pop hh hc, rl_fuel h 80 81 (by omega) (by omega) (by omega)]
theorem fin_ok {K1 : Nat → Int32} {E : Nat → Int32} {M0 : Int32} {W X Y G : Nat → Int32} {Hd : Nat → Int64} {tv : Int64} {a ev mt : Int32} : mfin K1 (E, M0, W, X, Y, G, Hd, tv, 0, a, ev, mt) = (E, M0, W, X, Y, G, Hd, tv, 0, a, ev, mt) := by
  unfold mfin
  dsimp only
  exact if_pos (by decide)
theorem fin_empty {K1 : Nat → Int32} {E : Nat → Int32} {W X Y G : Nat → Int32} {Hd : Nat → Int64} {tv : Int64} {f a ev mt : Int32} : mfin K1 (E, nI 0, W, X, Y, G, Hd, tv, f, a, ev, mt) = (E, nI 0, W, X, Y, G, Hd, tv, f, a, ev, mt) := by
  unfold mfin
  dsimp only
  split
  · rfl
  · unfold fX4_recovers zw_l
    dsimp only
    rw [rl_0]
    rfl
theorem fin_catch {K1 : Nat → Int32} {E : Nat → Int32} {W X Y G : Nat → Int32} {Hd : Nat → Int64} {tv : Int64} {f a ev mt : Int32} {h : Nat} (hh : h < 80) (hf : ¬ f ≤ 0) (h1 : ¬ f = 4) (h2 : ¬ W h < 24) (h3 : ¬ (48 : Int32) ≤ W h) (h4 : K1 (W h).toNatClampNeg = 8) (h5 : ¬ G h ≤ 0) : mfin K1 (E, nI (h + 1), W, X, Y, G, Hd, tv, f, a, ev, mt) = (E, nI h, W, X, Y, G, Hd, 0, 0, a, ev, mt + 1) := by
  unfold mfin
  dsimp only
  rw [if_neg hf]
  unfold fX4_recovers zw_l
  dsimp only
  rw [rl_catch hh h1 h2 h3 h4 h5]
  rfl
/-- a turn, by the kind of what stands on top -/
theorem mT_S {B3 : (Nat → Int64)} {B4 : (Nat → Int64)} {K1 : (Nat → Int32)} {K2 : (Nat → Int32)} {K3 : (Nat → Int32)} {K4 : (Nat → Int64)} {E : Nat → Int32} {W X Y G : Nat → Int32} {Hd : Nat → Int64} {tv : Int64} {a ev mt : Int32} {h : Nat} (hh : h < 80) (h2 : W h < 24) : mT B3 B4 K1 K2 K3 K4 (E, nI (h + 1), W, X, Y, G, Hd, tv, 0, a, ev, mt) = mfin K1 (zw_l (fX4_goesScale B3 B4 K1 K2 K3 K4 E (nI (h + 1)) W X Y (upd G h (G h + 1)) Hd tv 0 a ev (W h) (X h) (G h) tv) (fun q => (q.1, q.2.1, q.2.2.1, q.2.2.2.1, q.2.2.2.2.1, q.2.2.2.2.2.1, q.2.2.2.2.2.2.1, q.2.2.2.2.2.2.2.1, q.2.2.2.2.2.2.2.2.1, q.2.2.2.2.2.2.2.2.2.1, q.2.2.2.2.2.2.2.2.2.2, mt))) := by
  unfold mT fX4_step
  dsimp only
  rw [if_neg (nI_np (by omega)), if_pos rfl, nI_pred, nI_clamp (by omega), if_neg (Int32.not_le.mpr h2)]
  rfl
theorem mT_V {B3 : (Nat → Int64)} {B4 : (Nat → Int64)} {K1 : (Nat → Int32)} {K2 : (Nat → Int32)} {K3 : (Nat → Int32)} {K4 : (Nat → Int64)} {E : Nat → Int32} {W X Y G : Nat → Int32} {Hd : Nat → Int64} {tv : Int64} {a ev mt : Int32} {h : Nat} (hh : h < 80) (h2 : 24 ≤ W h) (h3 : ¬ (48 : Int32) ≤ W h) : mT B3 B4 K1 K2 K3 K4 (E, nI (h + 1), W, X, Y, G, Hd, tv, 0, a, ev, mt) = mfin K1 (zw_l (fX4_goesSieve K1 K2 K3 E (nI (h + 1)) W X Y (upd G h (G h + 1)) Hd tv 0 a ev (W h) (X h) (G h) tv) (fun q => (q.1, q.2.1, q.2.2.1, q.2.2.2.1, q.2.2.2.2.1, q.2.2.2.2.2.1, q.2.2.2.2.2.2.1, q.2.2.2.2.2.2.2.1, q.2.2.2.2.2.2.2.2.1, q.2.2.2.2.2.2.2.2.2.1, q.2.2.2.2.2.2.2.2.2.2, mt))) := by
  unfold mT fX4_step
  dsimp only
  rw [if_neg (nI_np (by omega)), if_pos rfl, nI_pred, nI_clamp (by omega), if_pos h2, if_neg h3]
  rfl
theorem mT_O {B3 : (Nat → Int64)} {B4 : (Nat → Int64)} {K1 : (Nat → Int32)} {K2 : (Nat → Int32)} {K3 : (Nat → Int32)} {K4 : (Nat → Int64)} {E : Nat → Int32} {W X Y G : Nat → Int32} {Hd : Nat → Int64} {tv : Int64} {a ev mt : Int32} {h : Nat} (hh : h < 80) (h2 : 24 ≤ W h) (h3 : 48 ≤ W h) : mT B3 B4 K1 K2 K3 K4 (E, nI (h + 1), W, X, Y, G, Hd, tv, 0, a, ev, mt) = mfin K1 (zw_l (fX4_goesOrder K1 K2 K3 (nI (h + 1)) W X Y (upd G h (G h + 1)) Hd tv 0 a ev (W h) (G h) tv) (fun q => (E, q.1, q.2.1, q.2.2.1, q.2.2.2.1, q.2.2.2.2.1, q.2.2.2.2.2.1, q.2.2.2.2.2.2.1, q.2.2.2.2.2.2.2.1, q.2.2.2.2.2.2.2.2.1, q.2.2.2.2.2.2.2.2.2, mt))) := by
  unfold mT fX4_step
  dsimp only
  rw [if_neg (nI_np (by omega)), if_pos rfl, nI_pred, nI_clamp (by omega), if_pos h2, if_pos h3]
  rfl
