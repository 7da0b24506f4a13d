theorem gV_0 {K1 : (Nat → Int32)} {K2 : (Nat → Int32)} {K3 : (Nat → Int32)} {E W X Y G : Nat → Int32} {Hd : Nat → Int64} {tv : Int64} {a ev mt : Int32} {h : Nat} {f w x : Int32} {v : Int64} {st : Int32} (hh : h < 80)  (hk : K1 w.toNatClampNeg = 0) : mj (fX4_goesSieve K1 K2 K3 E (nI (h + 1)) W X Y G Hd tv f a ev w x st v) mt = (E, nI h, W, X, Y, G, Hd, 1, f, a, ev, mt) := by
  unfold mj fX4_goesSieve
  rw [hk, if_neg (show ¬ (0 : Int32) = 9 by decide), if_pos (show (0 : Int32) = 0 by decide)]
  simp only [nI_pred, nI_clamp (show h < 2 ^ 31 by omega), zw_l, fX4_tells, pk_us]
  try rfl
theorem gV_9 {K1 : (Nat → Int32)} {K2 : (Nat → Int32)} {K3 : (Nat → Int32)} {E W X Y G : Nat → Int32} {Hd : Nat → Int64} {tv : Int64} {a ev mt : Int32} {h : Nat} {f w x : Int32} {v : Int64} {st : Int32} (hh : h < 80)  (hk : K1 w.toNatClampNeg = 9) : mj (fX4_goesSieve K1 K2 K3 E (nI (h + 1)) W X Y G Hd tv f a ev w x st v) mt = (E, nI (h + 1), W, X, Y, G, Hd, tv, 3, a, ev, mt) := by
  unfold mj fX4_goesSieve
  rw [hk, if_pos (show (9 : Int32) = 9 by decide)]
  skip
theorem gV_6 {K1 : (Nat → Int32)} {K2 : (Nat → Int32)} {K3 : (Nat → Int32)} {E W X Y G : Nat → Int32} {Hd : Nat → Int64} {tv : Int64} {a ev mt : Int32} {h : Nat} {f w x : Int32} {v : Int64} {st : Int32} (hh : h < 80) (hk : K1 w.toNatClampNeg = 6) : mj (fX4_goesSieve K1 K2 K3 E (nI (h + 1)) W X Y G Hd tv f a ev w x st v) mt = (if E w.toNatClampNeg + 1 = (if K2 w.toNatClampNeg < 1 then 1 else K2 w.toNatClampNeg) then (upd E w.toNatClampNeg 0, nI h, W, X, Y, G, Hd, 1, f, a, ev, mt) else (upd E w.toNatClampNeg (E w.toNatClampNeg + 1), nI h, W, X, Y, G, Hd, 0, f, a, ev, mt)) := by
  unfold mj fX4_goesSieve
  rw [hk, if_neg (show ¬ (6 : Int32) = 9 by decide), if_neg (show ¬ (6 : Int32) = 0 by decide), if_pos (show (6 : Int32) = 6 by decide)]
  have uu : ∀ (p q : Int32), upd (upd E w.toNatClampNeg p) w.toNatClampNeg q = upd E w.toNatClampNeg q := fun p q => by
    funext j
    by_cases hj : j = w.toNatClampNeg
    · subst hj; rw [pk_us, pk_us]
    · rw [pk_un hj, pk_un hj, pk_un hj]
  by_cases h1 : 1 ≤ K2 w.toNatClampNeg
  · rw [if_pos h1, if_neg (Int32.not_lt.mpr h1), pk_us]
    by_cases h2 : E w.toNatClampNeg + 1 = K2 w.toNatClampNeg
    · rw [if_pos h2, if_pos h2, uu]; simp only [zw_l, fX4_tells, nI_pred]
    · rw [if_neg h2, if_neg h2, uu]; simp only [zw_l, fX4_tells, nI_pred]
  · rw [if_neg h1, if_pos (Int32.not_le.mp h1), pk_us]
    by_cases h2 : E w.toNatClampNeg + 1 = 1
    · rw [if_pos h2, if_pos h2, uu]; simp only [zw_l, fX4_tells, nI_pred]
    · rw [if_neg h2, if_neg h2, uu]; simp only [zw_l, fX4_tells, nI_pred]
theorem gV_7f {K1 : (Nat → Int32)} {K2 : (Nat → Int32)} {K3 : (Nat → Int32)} {E W X Y G : Nat → Int32} {Hd : Nat → Int64} {tv : Int64} {a ev mt : Int32} {h : Nat} {f w x : Int32} {v : Int64} {st : Int32} (hh : h < 80) (hv : K2 w.toNatClampNeg ≤ x) (hk : K1 w.toNatClampNeg = 7) : mj (fX4_goesSieve K1 K2 K3 E (nI (h + 1)) W X Y G Hd tv f a ev w x st v) mt = (E, nI h, W, X, Y, G, Hd, 0, f, a, ev, mt) := by
  unfold mj fX4_goesSieve
  rw [hk, if_neg (show ¬ (7 : Int32) = 9 by decide), if_neg (show ¬ (7 : Int32) = 0 by decide), if_neg (show ¬ (7 : Int32) = 6 by decide), if_pos (show (7 : Int32) = 7 by decide), if_pos hv]
  simp only [nI_pred, nI_clamp (show h < 2 ^ 31 by omega), zw_l, fX4_tells, pk_us]
  try rfl
theorem gV_7t {K1 : (Nat → Int32)} {K2 : (Nat → Int32)} {K3 : (Nat → Int32)} {E W X Y G : Nat → Int32} {Hd : Nat → Int64} {tv : Int64} {a ev mt : Int32} {h : Nat} {f w x : Int32} {v : Int64} {st : Int32} (hh : h < 80) (hv : ¬ K2 w.toNatClampNeg ≤ x) (hk : K1 w.toNatClampNeg = 7) : mj (fX4_goesSieve K1 K2 K3 E (nI (h + 1)) W X Y G Hd tv f a ev w x st v) mt = (E, nI h, W, X, Y, G, Hd, 1, f, a, ev, mt) := by
  unfold mj fX4_goesSieve
  rw [hk, if_neg (show ¬ (7 : Int32) = 9 by decide), if_neg (show ¬ (7 : Int32) = 0 by decide), if_neg (show ¬ (7 : Int32) = 6 by decide), if_pos (show (7 : Int32) = 7 by decide), if_neg hv]
  simp only [nI_pred, nI_clamp (show h < 2 ^ 31 by omega), zw_l, fX4_tells, pk_us]
  try rfl
theorem gV_1_0 {K1 : (Nat → Int32)} {K2 : (Nat → Int32)} {K3 : (Nat → Int32)} {E W X Y G : Nat → Int32} {Hd : Nat → Int64} {tv : Int64} {a ev mt : Int32} {h : Nat} {f w x : Int32} {v : Int64} (hh : h < 80)  (hk : K1 w.toNatClampNeg = 1) : mj (fX4_goesSieve K1 K2 K3 E (nI (h + 1)) W X Y G Hd tv f a ev w x 0 v) mt = mbeg E (nI (h + 1)) W X Y G Hd tv f a ev mt 0 (K2 w.toNatClampNeg) x x := by
  unfold mj fX4_goesSieve
  rw [hk, if_neg (show ¬ (1 : Int32) = 9 by decide), if_neg (show ¬ (1 : Int32) = 0 by decide), if_neg (show ¬ (1 : Int32) = 6 by decide), if_neg (show ¬ (1 : Int32) = 7 by decide), if_pos (show (0 : Int32) = 0 by decide), if_neg (show ¬ (3 : Int32) ≤ 1 by decide)]
  rfl
theorem gV_2_0 {K1 : (Nat → Int32)} {K2 : (Nat → Int32)} {K3 : (Nat → Int32)} {E W X Y G : Nat → Int32} {Hd : Nat → Int64} {tv : Int64} {a ev mt : Int32} {h : Nat} {f w x : Int32} {v : Int64} (hh : h < 80)  (hk : K1 w.toNatClampNeg = 2) : mj (fX4_goesSieve K1 K2 K3 E (nI (h + 1)) W X Y G Hd tv f a ev w x 0 v) mt = mbeg E (nI (h + 1)) W X Y G Hd tv f a ev mt 0 (K2 w.toNatClampNeg) x x := by
  unfold mj fX4_goesSieve
  rw [hk, if_neg (show ¬ (2 : Int32) = 9 by decide), if_neg (show ¬ (2 : Int32) = 0 by decide), if_neg (show ¬ (2 : Int32) = 6 by decide), if_neg (show ¬ (2 : Int32) = 7 by decide), if_pos (show (0 : Int32) = 0 by decide), if_neg (show ¬ (3 : Int32) ≤ 2 by decide)]
  rfl
theorem gV_3_0 {K1 : (Nat → Int32)} {K2 : (Nat → Int32)} {K3 : (Nat → Int32)} {E W X Y G : Nat → Int32} {Hd : Nat → Int64} {tv : Int64} {a ev mt : Int32} {h : Nat} {f w x : Int32} {v : Int64} (hh : h < 80)  (hk : K1 w.toNatClampNeg = 3) : mj (fX4_goesSieve K1 K2 K3 E (nI (h + 1)) W X Y G Hd tv f a ev w x 0 v) mt = mbeg E (nI (h + 1)) W X Y G Hd tv f a ev mt 1 (K2 w.toNatClampNeg) x x := by
  unfold mj fX4_goesSieve
  rw [hk, if_neg (show ¬ (3 : Int32) = 9 by decide), if_neg (show ¬ (3 : Int32) = 0 by decide), if_neg (show ¬ (3 : Int32) = 6 by decide), if_neg (show ¬ (3 : Int32) = 7 by decide), if_pos (show (0 : Int32) = 0 by decide), if_pos (show (3 : Int32) ≤ 3 by decide)]
  rfl
theorem gV_4_0 {K1 : (Nat → Int32)} {K2 : (Nat → Int32)} {K3 : (Nat → Int32)} {E W X Y G : Nat → Int32} {Hd : Nat → Int64} {tv : Int64} {a ev mt : Int32} {h : Nat} {f w x : Int32} {v : Int64} (hh : h < 80)  (hk : K1 w.toNatClampNeg = 4) : mj (fX4_goesSieve K1 K2 K3 E (nI (h + 1)) W X Y G Hd tv f a ev w x 0 v) mt = mbeg E (nI (h + 1)) W X Y G Hd tv f a ev mt 1 (K2 w.toNatClampNeg) x x := by
  unfold mj fX4_goesSieve
  rw [hk, if_neg (show ¬ (4 : Int32) = 9 by decide), if_neg (show ¬ (4 : Int32) = 0 by decide), if_neg (show ¬ (4 : Int32) = 6 by decide), if_neg (show ¬ (4 : Int32) = 7 by decide), if_pos (show (0 : Int32) = 0 by decide), if_pos (show (3 : Int32) ≤ 4 by decide)]
  rfl
theorem gV_5_0 {K1 : (Nat → Int32)} {K2 : (Nat → Int32)} {K3 : (Nat → Int32)} {E W X Y G : Nat → Int32} {Hd : Nat → Int64} {tv : Int64} {a ev mt : Int32} {h : Nat} {f w x : Int32} {v : Int64} (hh : h < 80)  (hk : K1 w.toNatClampNeg = 5) : mj (fX4_goesSieve K1 K2 K3 E (nI (h + 1)) W X Y G Hd tv f a ev w x 0 v) mt = mbeg E (nI (h + 1)) W X Y G Hd tv f a ev mt 1 (K2 w.toNatClampNeg) x x := by
  unfold mj fX4_goesSieve
  rw [hk, if_neg (show ¬ (5 : Int32) = 9 by decide), if_neg (show ¬ (5 : Int32) = 0 by decide), if_neg (show ¬ (5 : Int32) = 6 by decide), if_neg (show ¬ (5 : Int32) = 7 by decide), if_pos (show (0 : Int32) = 0 by decide), if_pos (show (3 : Int32) ≤ 5 by decide)]
  rfl
theorem gV_8_0 {K1 : (Nat → Int32)} {K2 : (Nat → Int32)} {K3 : (Nat → Int32)} {E W X Y G : Nat → Int32} {Hd : Nat → Int64} {tv : Int64} {a ev mt : Int32} {h : Nat} {f w x : Int32} {v : Int64} (hh : h < 80)  (hk : K1 w.toNatClampNeg = 8) : mj (fX4_goesSieve K1 K2 K3 E (nI (h + 1)) W X Y G Hd tv f a ev w x 0 v) mt = mbeg E (nI (h + 1)) W X Y G Hd tv f a ev mt 1 (K2 w.toNatClampNeg) x x := by
  unfold mj fX4_goesSieve
  rw [hk, if_neg (show ¬ (8 : Int32) = 9 by decide), if_neg (show ¬ (8 : Int32) = 0 by decide), if_neg (show ¬ (8 : Int32) = 6 by decide), if_neg (show ¬ (8 : Int32) = 7 by decide), if_pos (show (0 : Int32) = 0 by decide), if_pos (show (3 : Int32) ≤ 8 by decide)]
  rfl
theorem gV_3_1 {K1 : (Nat → Int32)} {K2 : (Nat → Int32)} {K3 : (Nat → Int32)} {E W X Y G : Nat → Int32} {Hd : Nat → Int64} {tv : Int64} {a ev mt : Int32} {h : Nat} {f w x : Int32} {v : Int64} (hh : h < 80)  (hk : K1 w.toNatClampNeg = 3) : mj (fX4_goesSieve K1 K2 K3 E (nI (h + 1)) W X Y G Hd tv f a ev w x 1 v) mt = (E, nI h, W, X, Y, G, Hd, (1 - v), f, a, ev, mt) := by
  unfold mj fX4_goesSieve
  rw [hk, if_neg (show ¬ (3 : Int32) = 9 by decide), if_neg (show ¬ (3 : Int32) = 0 by decide), if_neg (show ¬ (3 : Int32) = 6 by decide), if_neg (show ¬ (3 : Int32) = 7 by decide), if_neg (show ¬ (1 : Int32) = 0 by decide), if_pos (show (3 : Int32) = 3 by decide)]
  simp only [nI_pred, nI_clamp (show h < 2 ^ 31 by omega), zw_l, fX4_tells, pk_us]
  try rfl
theorem gV_8_1 {K1 : (Nat → Int32)} {K2 : (Nat → Int32)} {K3 : (Nat → Int32)} {E W X Y G : Nat → Int32} {Hd : Nat → Int64} {tv : Int64} {a ev mt : Int32} {h : Nat} {f w x : Int32} {v : Int64} (hh : h < 80)  (hk : K1 w.toNatClampNeg = 8) : mj (fX4_goesSieve K1 K2 K3 E (nI (h + 1)) W X Y G Hd tv f a ev w x 1 v) mt = (E, nI h, W, X, Y, G, Hd, v, f, a, ev, mt) := by
  unfold mj fX4_goesSieve
  rw [hk, if_neg (show ¬ (8 : Int32) = 9 by decide), if_neg (show ¬ (8 : Int32) = 0 by decide), if_neg (show ¬ (8 : Int32) = 6 by decide), if_neg (show ¬ (8 : Int32) = 7 by decide), if_neg (show ¬ (1 : Int32) = 0 by decide), if_neg (show ¬ (8 : Int32) = 3 by decide), if_pos (show (8 : Int32) = 8 by decide)]
  simp only [nI_pred, nI_clamp (show h < 2 ^ 31 by omega), zw_l, fX4_tells, pk_us]
  try rfl
theorem gV_1_1 {K1 : (Nat → Int32)} {K2 : (Nat → Int32)} {K3 : (Nat → Int32)} {E W X Y G : Nat → Int32} {Hd : Nat → Int64} {tv : Int64} {a ev mt : Int32} {h : Nat} {f w x : Int32} {v : Int64} (hh : h < 80)  (hk : K1 w.toNatClampNeg = 1) : mj (fX4_goesSieve K1 K2 K3 E (nI (h + 1)) W X Y G Hd tv f a ev w x 1 v) mt = mbeg E (nI (h + 1)) W X Y G (vp_updL Hd h v) tv f a ev mt 0 (K3 w.toNatClampNeg) x x := by
  unfold mj fX4_goesSieve
  rw [hk, if_neg (show ¬ (1 : Int32) = 9 by decide), if_neg (show ¬ (1 : Int32) = 0 by decide), if_neg (show ¬ (1 : Int32) = 6 by decide), if_neg (show ¬ (1 : Int32) = 7 by decide), if_neg (show ¬ (1 : Int32) = 0 by decide), if_neg (show ¬ (1 : Int32) = 3 by decide), if_neg (show ¬ (1 : Int32) = 8 by decide), if_pos (show (1 : Int32) = 1 by decide), if_neg (show ¬ (1 : Int32) = 4 by decide), if_neg (show ¬ (1 : Int32) = 5 by decide), if_neg (show ¬ (3 : Int32) ≤ 1 by decide)]
  simp only [nI_pred, nI_clamp (show h < 2 ^ 31 by omega)]
  rfl
theorem gV_2_1 {K1 : (Nat → Int32)} {K2 : (Nat → Int32)} {K3 : (Nat → Int32)} {E W X Y G : Nat → Int32} {Hd : Nat → Int64} {tv : Int64} {a ev mt : Int32} {h : Nat} {f w x : Int32} {v : Int64} (hh : h < 80)  (hk : K1 w.toNatClampNeg = 2) : mj (fX4_goesSieve K1 K2 K3 E (nI (h + 1)) W X Y G Hd tv f a ev w x 1 v) mt = mbeg E (nI (h + 1)) W X Y G (vp_updL Hd h v) tv f a ev mt 0 (K3 w.toNatClampNeg) x x := by
  unfold mj fX4_goesSieve
  rw [hk, if_neg (show ¬ (2 : Int32) = 9 by decide), if_neg (show ¬ (2 : Int32) = 0 by decide), if_neg (show ¬ (2 : Int32) = 6 by decide), if_neg (show ¬ (2 : Int32) = 7 by decide), if_neg (show ¬ (1 : Int32) = 0 by decide), if_neg (show ¬ (2 : Int32) = 3 by decide), if_neg (show ¬ (2 : Int32) = 8 by decide), if_pos (show (1 : Int32) = 1 by decide), if_neg (show ¬ (2 : Int32) = 4 by decide), if_neg (show ¬ (2 : Int32) = 5 by decide), if_neg (show ¬ (3 : Int32) ≤ 2 by decide)]
  simp only [nI_pred, nI_clamp (show h < 2 ^ 31 by omega)]
  rfl
theorem gV_4_1f {K1 : (Nat → Int32)} {K2 : (Nat → Int32)} {K3 : (Nat → Int32)} {E W X Y G : Nat → Int32} {Hd : Nat → Int64} {tv : Int64} {a ev mt : Int32} {h : Nat} {f w x : Int32} {v : Int64} (hh : h < 80) (hv : lg_cmp v 0 = 0) (hk : K1 w.toNatClampNeg = 4) : mj (fX4_goesSieve K1 K2 K3 E (nI (h + 1)) W X Y G Hd tv f a ev w x 1 v) mt = (E, nI h, W, X, Y, G, Hd, v, f, a, ev, mt) := by
  unfold mj fX4_goesSieve
  rw [hk, if_neg (show ¬ (4 : Int32) = 9 by decide), if_neg (show ¬ (4 : Int32) = 0 by decide), if_neg (show ¬ (4 : Int32) = 6 by decide), if_neg (show ¬ (4 : Int32) = 7 by decide), if_neg (show ¬ (1 : Int32) = 0 by decide), if_neg (show ¬ (4 : Int32) = 3 by decide), if_neg (show ¬ (4 : Int32) = 8 by decide), if_pos (show (1 : Int32) = 1 by decide), if_pos (show (4 : Int32) = 4 by decide), if_pos hv]
  simp only [nI_pred, nI_clamp (show h < 2 ^ 31 by omega), zw_l, fX4_tells, pk_us]
  try rfl
theorem gV_4_1t {K1 : (Nat → Int32)} {K2 : (Nat → Int32)} {K3 : (Nat → Int32)} {E W X Y G : Nat → Int32} {Hd : Nat → Int64} {tv : Int64} {a ev mt : Int32} {h : Nat} {f w x : Int32} {v : Int64} (hh : h < 80) (hv : ¬ lg_cmp v 0 = 0) (hk : K1 w.toNatClampNeg = 4) : mj (fX4_goesSieve K1 K2 K3 E (nI (h + 1)) W X Y G Hd tv f a ev w x 1 v) mt = mbeg E (nI (h + 1)) W X Y G (vp_updL Hd h v) tv f a ev mt 1 (K3 w.toNatClampNeg) x x := by
  unfold mj fX4_goesSieve
  rw [hk, if_neg (show ¬ (4 : Int32) = 9 by decide), if_neg (show ¬ (4 : Int32) = 0 by decide), if_neg (show ¬ (4 : Int32) = 6 by decide), if_neg (show ¬ (4 : Int32) = 7 by decide), if_neg (show ¬ (1 : Int32) = 0 by decide), if_neg (show ¬ (4 : Int32) = 3 by decide), if_neg (show ¬ (4 : Int32) = 8 by decide), if_pos (show (1 : Int32) = 1 by decide), if_pos (show (4 : Int32) = 4 by decide), if_neg hv, if_neg (show ¬ (4 : Int32) = 5 by decide), if_pos (show (3 : Int32) ≤ 4 by decide)]
  simp only [nI_pred, nI_clamp (show h < 2 ^ 31 by omega)]
  rfl
theorem gV_5_1t {K1 : (Nat → Int32)} {K2 : (Nat → Int32)} {K3 : (Nat → Int32)} {E W X Y G : Nat → Int32} {Hd : Nat → Int64} {tv : Int64} {a ev mt : Int32} {h : Nat} {f w x : Int32} {v : Int64} (hh : h < 80) (hv : lg_cmp v 1 = 0) (hk : K1 w.toNatClampNeg = 5) : mj (fX4_goesSieve K1 K2 K3 E (nI (h + 1)) W X Y G Hd tv f a ev w x 1 v) mt = (E, nI h, W, X, Y, G, Hd, v, f, a, ev, mt) := by
  unfold mj fX4_goesSieve
  rw [hk, if_neg (show ¬ (5 : Int32) = 9 by decide), if_neg (show ¬ (5 : Int32) = 0 by decide), if_neg (show ¬ (5 : Int32) = 6 by decide), if_neg (show ¬ (5 : Int32) = 7 by decide), if_neg (show ¬ (1 : Int32) = 0 by decide), if_neg (show ¬ (5 : Int32) = 3 by decide), if_neg (show ¬ (5 : Int32) = 8 by decide), if_pos (show (1 : Int32) = 1 by decide), if_neg (show ¬ (5 : Int32) = 4 by decide), if_pos (show (5 : Int32) = 5 by decide), if_pos hv]
  simp only [nI_pred, nI_clamp (show h < 2 ^ 31 by omega), zw_l, fX4_tells, pk_us]
  try rfl
theorem gV_5_1f {K1 : (Nat → Int32)} {K2 : (Nat → Int32)} {K3 : (Nat → Int32)} {E W X Y G : Nat → Int32} {Hd : Nat → Int64} {tv : Int64} {a ev mt : Int32} {h : Nat} {f w x : Int32} {v : Int64} (hh : h < 80) (hv : ¬ lg_cmp v 1 = 0) (hk : K1 w.toNatClampNeg = 5) : mj (fX4_goesSieve K1 K2 K3 E (nI (h + 1)) W X Y G Hd tv f a ev w x 1 v) mt = mbeg E (nI (h + 1)) W X Y G (vp_updL Hd h v) tv f a ev mt 1 (K3 w.toNatClampNeg) x x := by
  unfold mj fX4_goesSieve
  rw [hk, if_neg (show ¬ (5 : Int32) = 9 by decide), if_neg (show ¬ (5 : Int32) = 0 by decide), if_neg (show ¬ (5 : Int32) = 6 by decide), if_neg (show ¬ (5 : Int32) = 7 by decide), if_neg (show ¬ (1 : Int32) = 0 by decide), if_neg (show ¬ (5 : Int32) = 3 by decide), if_neg (show ¬ (5 : Int32) = 8 by decide), if_pos (show (1 : Int32) = 1 by decide), if_neg (show ¬ (5 : Int32) = 4 by decide), if_pos (show (5 : Int32) = 5 by decide), if_neg hv, if_pos (show (3 : Int32) ≤ 5 by decide)]
  simp only [nI_pred, nI_clamp (show h < 2 ^ 31 by omega)]
  rfl
theorem gV_4_2 {K1 : (Nat → Int32)} {K2 : (Nat → Int32)} {K3 : (Nat → Int32)} {E W X Y G : Nat → Int32} {Hd : Nat → Int64} {tv : Int64} {a ev mt : Int32} {h : Nat} {f w x : Int32} {v : Int64} (hh : h < 80)  (hk : K1 w.toNatClampNeg = 4) : mj (fX4_goesSieve K1 K2 K3 E (nI (h + 1)) W X Y G Hd tv f a ev w x 2 v) mt = (E, nI h, W, X, Y, G, Hd, v, f, a, ev, mt) := by
  unfold mj fX4_goesSieve
  rw [hk, if_neg (show ¬ (4 : Int32) = 9 by decide), if_neg (show ¬ (4 : Int32) = 0 by decide), if_neg (show ¬ (4 : Int32) = 6 by decide), if_neg (show ¬ (4 : Int32) = 7 by decide), if_neg (show ¬ (2 : Int32) = 0 by decide), if_neg (show ¬ (4 : Int32) = 3 by decide), if_neg (show ¬ (4 : Int32) = 8 by decide), if_neg (show ¬ (2 : Int32) = 1 by decide), if_neg (show ¬ (4 : Int32) = 1 by decide), if_neg (show ¬ (4 : Int32) = 2 by decide)]
  simp only [nI_pred, nI_clamp (show h < 2 ^ 31 by omega), zw_l, fX4_tells, pk_us]
  try rfl
theorem gV_5_2 {K1 : (Nat → Int32)} {K2 : (Nat → Int32)} {K3 : (Nat → Int32)} {E W X Y G : Nat → Int32} {Hd : Nat → Int64} {tv : Int64} {a ev mt : Int32} {h : Nat} {f w x : Int32} {v : Int64} (hh : h < 80)  (hk : K1 w.toNatClampNeg = 5) : mj (fX4_goesSieve K1 K2 K3 E (nI (h + 1)) W X Y G Hd tv f a ev w x 2 v) mt = (E, nI h, W, X, Y, G, Hd, v, f, a, ev, mt) := by
  unfold mj fX4_goesSieve
  rw [hk, if_neg (show ¬ (5 : Int32) = 9 by decide), if_neg (show ¬ (5 : Int32) = 0 by decide), if_neg (show ¬ (5 : Int32) = 6 by decide), if_neg (show ¬ (5 : Int32) = 7 by decide), if_neg (show ¬ (2 : Int32) = 0 by decide), if_neg (show ¬ (5 : Int32) = 3 by decide), if_neg (show ¬ (5 : Int32) = 8 by decide), if_neg (show ¬ (2 : Int32) = 1 by decide), if_neg (show ¬ (5 : Int32) = 1 by decide), if_neg (show ¬ (5 : Int32) = 2 by decide)]
  simp only [nI_pred, nI_clamp (show h < 2 ^ 31 by omega), zw_l, fX4_tells, pk_us]
  try rfl
theorem gV_1_2 {K1 : (Nat → Int32)} {K2 : (Nat → Int32)} {K3 : (Nat → Int32)} {E W X Y G : Nat → Int32} {Hd : Nat → Int64} {tv : Int64} {a ev mt : Int32} {h : Nat} {f w x : Int32} {v : Int64} (hh : h < 80)  (hk : K1 w.toNatClampNeg = 1) : mj (fX4_goesSieve K1 K2 K3 E (nI (h + 1)) W X Y G Hd tv f a ev w x 2 v) mt = (E, nI h, W, X, Y, G, Hd, (if lg_cmp (Hd h) v ≤ 0 then 0 else 1), f, a, ev, mt) := by
  unfold mj fX4_goesSieve
  rw [hk, if_neg (show ¬ (1 : Int32) = 9 by decide), if_neg (show ¬ (1 : Int32) = 0 by decide), if_neg (show ¬ (1 : Int32) = 6 by decide), if_neg (show ¬ (1 : Int32) = 7 by decide), if_neg (show ¬ (2 : Int32) = 0 by decide), if_neg (show ¬ (1 : Int32) = 3 by decide), if_neg (show ¬ (1 : Int32) = 8 by decide), if_neg (show ¬ (2 : Int32) = 1 by decide), if_pos (show (1 : Int32) = 1 by decide)]
  simp only [nI_pred, nI_clamp (show h < 2 ^ 31 by omega), zw_l, fX4_tells]
  split <;> rfl
theorem gV_2_2 {K1 : (Nat → Int32)} {K2 : (Nat → Int32)} {K3 : (Nat → Int32)} {E W X Y G : Nat → Int32} {Hd : Nat → Int64} {tv : Int64} {a ev mt : Int32} {h : Nat} {f w x : Int32} {v : Int64} (hh : h < 80)  (hk : K1 w.toNatClampNeg = 2) : mj (fX4_goesSieve K1 K2 K3 E (nI (h + 1)) W X Y G Hd tv f a ev w x 2 v) mt = (E, nI h, W, X, Y, G, Hd, (if lg_cmp (Hd h) v = 0 then 1 else 0), f, a, ev, mt) := by
  unfold mj fX4_goesSieve
  rw [hk, if_neg (show ¬ (2 : Int32) = 9 by decide), if_neg (show ¬ (2 : Int32) = 0 by decide), if_neg (show ¬ (2 : Int32) = 6 by decide), if_neg (show ¬ (2 : Int32) = 7 by decide), if_neg (show ¬ (2 : Int32) = 0 by decide), if_neg (show ¬ (2 : Int32) = 3 by decide), if_neg (show ¬ (2 : Int32) = 8 by decide), if_neg (show ¬ (2 : Int32) = 1 by decide), if_neg (show ¬ (2 : Int32) = 1 by decide), if_pos (show (2 : Int32) = 2 by decide)]
  simp only [nI_pred, nI_clamp (show h < 2 ^ 31 by omega), zw_l, fX4_tells]
  split <;> rfl
theorem gO_5 {K1 : (Nat → Int32)} {K2 : (Nat → Int32)} {K3 : (Nat → Int32)} {E W X Y G : Nat → Int32} {Hd : Nat → Int64} {tv : Int64} {a ev mt : Int32} {h : Nat} {f w : Int32} {v : Int64} {st : Int32} (hh : h < 80)  (hk : K1 w.toNatClampNeg = 5) : mjO E (fX4_goesOrder K1 K2 K3 (nI (h + 1)) W X Y G Hd tv f a ev w st v) mt = (E, nI (h + 1), W, X, Y, G, Hd, tv, 3, a, ev, mt) := by
  unfold mjO fX4_goesOrder
  rw [hk, if_pos (show (5 : Int32) = 5 by decide)]
  skip
theorem gO_4 {K1 : (Nat → Int32)} {K2 : (Nat → Int32)} {K3 : (Nat → Int32)} {E W X Y G : Nat → Int32} {Hd : Nat → Int64} {tv : Int64} {a ev mt : Int32} {h : Nat} {f w : Int32} {v : Int64} {st : Int32} (hh : h < 80)  (hk : K1 w.toNatClampNeg = 4) : mjO E (fX4_goesOrder K1 K2 K3 (nI (h + 1)) W X Y G Hd tv f a ev w st v) mt = (E, nI h, W, X, Y, G, Hd, (if Y h ≤ X h then (if X h ≤ Y h then 0 else 1) else -1), f, a, ev, mt) := by
  unfold mjO fX4_goesOrder
  rw [hk, if_neg (show ¬ (4 : Int32) = 5 by decide), if_pos (show (4 : Int32) = 4 by decide)]
  simp only [nI_pred, nI_clamp (show h < 2 ^ 31 by omega), zw_l, fX4_tells]
  split
  · split <;> rfl
  · rfl
theorem gO_0_0 {K1 : (Nat → Int32)} {K2 : (Nat → Int32)} {K3 : (Nat → Int32)} {E W X Y G : Nat → Int32} {Hd : Nat → Int64} {tv : Int64} {a ev mt : Int32} {h : Nat} {f w : Int32} {v : Int64} (hh : h < 80)  (hk : K1 w.toNatClampNeg = 0) : mjO E (fX4_goesOrder K1 K2 K3 (nI (h + 1)) W X Y G Hd tv f a ev w 0 v) mt = mbeg E (nI (h + 1)) W X Y G Hd tv f a ev mt 0 (K2 w.toNatClampNeg) (X h) (X h) := by
  unfold mjO fX4_goesOrder
  rw [hk, if_neg (show ¬ (0 : Int32) = 5 by decide), if_neg (show ¬ (0 : Int32) = 4 by decide), if_pos (show (0 : Int32) = 0 by decide), if_pos (show (0 : Int32) = 0 by decide), if_pos (show (0 : Int32) = 0 by decide)]
  simp only [nI_pred, nI_clamp (show h < 2 ^ 31 by omega)]
  rfl
theorem gO_3_0 {K1 : (Nat → Int32)} {K2 : (Nat → Int32)} {K3 : (Nat → Int32)} {E W X Y G : Nat → Int32} {Hd : Nat → Int64} {tv : Int64} {a ev mt : Int32} {h : Nat} {f w : Int32} {v : Int64} (hh : h < 80)  (hk : K1 w.toNatClampNeg = 3) : mjO E (fX4_goesOrder K1 K2 K3 (nI (h + 1)) W X Y G Hd tv f a ev w 0 v) mt = mbeg E (nI (h + 1)) W X Y G Hd tv f a ev mt 1 (K2 w.toNatClampNeg) (X h) (X h) := by
  unfold mjO fX4_goesOrder
  rw [hk, if_neg (show ¬ (3 : Int32) = 5 by decide), if_neg (show ¬ (3 : Int32) = 4 by decide), if_pos (show (0 : Int32) = 0 by decide), if_neg (show ¬ (3 : Int32) = 0 by decide), if_pos (show (3 : Int32) = 3 by decide), if_neg (show ¬ (3 : Int32) = 0 by decide), if_pos (show (3 : Int32) = 3 by decide)]
  simp only [nI_pred, nI_clamp (show h < 2 ^ 31 by omega)]
  rfl
theorem gO_1_0 {K1 : (Nat → Int32)} {K2 : (Nat → Int32)} {K3 : (Nat → Int32)} {E W X Y G : Nat → Int32} {Hd : Nat → Int64} {tv : Int64} {a ev mt : Int32} {h : Nat} {f w : Int32} {v : Int64} (hh : h < 80)  (hk : K1 w.toNatClampNeg = 1) : mjO E (fX4_goesOrder K1 K2 K3 (nI (h + 1)) W X Y G Hd tv f a ev w 0 v) mt = mbeg E (nI (h + 1)) W X Y G Hd tv f a ev mt 2 (K2 w.toNatClampNeg) (X h) (Y h) := by
  unfold mjO fX4_goesOrder
  rw [hk, if_neg (show ¬ (1 : Int32) = 5 by decide), if_neg (show ¬ (1 : Int32) = 4 by decide), if_pos (show (0 : Int32) = 0 by decide), if_neg (show ¬ (1 : Int32) = 0 by decide), if_neg (show ¬ (1 : Int32) = 3 by decide), if_neg (show ¬ (1 : Int32) = 0 by decide), if_neg (show ¬ (1 : Int32) = 3 by decide)]
  simp only [nI_pred, nI_clamp (show h < 2 ^ 31 by omega)]
  rfl
theorem gO_2_0 {K1 : (Nat → Int32)} {K2 : (Nat → Int32)} {K3 : (Nat → Int32)} {E W X Y G : Nat → Int32} {Hd : Nat → Int64} {tv : Int64} {a ev mt : Int32} {h : Nat} {f w : Int32} {v : Int64} (hh : h < 80)  (hk : K1 w.toNatClampNeg = 2) : mjO E (fX4_goesOrder K1 K2 K3 (nI (h + 1)) W X Y G Hd tv f a ev w 0 v) mt = mbeg E (nI (h + 1)) W X Y G Hd tv f a ev mt 2 (K2 w.toNatClampNeg) (X h) (Y h) := by
  unfold mjO fX4_goesOrder
  rw [hk, if_neg (show ¬ (2 : Int32) = 5 by decide), if_neg (show ¬ (2 : Int32) = 4 by decide), if_pos (show (0 : Int32) = 0 by decide), if_neg (show ¬ (2 : Int32) = 0 by decide), if_neg (show ¬ (2 : Int32) = 3 by decide), if_neg (show ¬ (2 : Int32) = 0 by decide), if_neg (show ¬ (2 : Int32) = 3 by decide)]
  simp only [nI_pred, nI_clamp (show h < 2 ^ 31 by omega)]
  rfl
theorem gO_1_1 {K1 : (Nat → Int32)} {K2 : (Nat → Int32)} {K3 : (Nat → Int32)} {E W X Y G : Nat → Int32} {Hd : Nat → Int64} {tv : Int64} {a ev mt : Int32} {h : Nat} {f w : Int32} {v : Int64} (hh : h < 80)  (hk : K1 w.toNatClampNeg = 1) : mjO E (fX4_goesOrder K1 K2 K3 (nI (h + 1)) W X Y G Hd tv f a ev w 1 v) mt = (E, nI h, W, X, Y, G, Hd, (-v), f, a, ev, mt) := by
  unfold mjO fX4_goesOrder
  rw [hk, if_neg (show ¬ (1 : Int32) = 5 by decide), if_neg (show ¬ (1 : Int32) = 4 by decide), if_neg (show ¬ (1 : Int32) = 0 by decide), if_pos (show (1 : Int32) = 1 by decide)]
  simp only [nI_pred, nI_clamp (show h < 2 ^ 31 by omega), zw_l, fX4_tells]
theorem gO_2_1z {K1 : (Nat → Int32)} {K2 : (Nat → Int32)} {K3 : (Nat → Int32)} {E W X Y G : Nat → Int32} {Hd : Nat → Int64} {tv : Int64} {a ev mt : Int32} {h : Nat} {f w : Int32} {v : Int64} (hh : h < 80) (hv : lg_cmp v 0 = 0) (hk : K1 w.toNatClampNeg = 2) : mjO E (fX4_goesOrder K1 K2 K3 (nI (h + 1)) W X Y G Hd tv f a ev w 1 v) mt = mbeg E (nI (h + 1)) W X Y G Hd tv f a ev mt 2 (K3 w.toNatClampNeg) (X h) (Y h) := by
  unfold mjO fX4_goesOrder
  rw [hk, if_neg (show ¬ (2 : Int32) = 5 by decide), if_neg (show ¬ (2 : Int32) = 4 by decide), if_neg (show ¬ (1 : Int32) = 0 by decide), if_neg (show ¬ (2 : Int32) = 1 by decide), if_pos (show (2 : Int32) = 2 by decide), if_pos (show (1 : Int32) = 1 by decide), if_pos hv]
  simp only [nI_pred, nI_clamp (show h < 2 ^ 31 by omega)]
  rfl
theorem gO_2_1n {K1 : (Nat → Int32)} {K2 : (Nat → Int32)} {K3 : (Nat → Int32)} {E W X Y G : Nat → Int32} {Hd : Nat → Int64} {tv : Int64} {a ev mt : Int32} {h : Nat} {f w : Int32} {v : Int64} (hh : h < 80) (hv : ¬ lg_cmp v 0 = 0) (hk : K1 w.toNatClampNeg = 2) : mjO E (fX4_goesOrder K1 K2 K3 (nI (h + 1)) W X Y G Hd tv f a ev w 1 v) mt = (E, nI h, W, X, Y, G, Hd, v, f, a, ev, mt) := by
  unfold mjO fX4_goesOrder
  rw [hk, if_neg (show ¬ (2 : Int32) = 5 by decide), if_neg (show ¬ (2 : Int32) = 4 by decide), if_neg (show ¬ (1 : Int32) = 0 by decide), if_neg (show ¬ (2 : Int32) = 1 by decide), if_pos (show (2 : Int32) = 2 by decide), if_pos (show (1 : Int32) = 1 by decide), if_neg hv]
  simp only [nI_pred, nI_clamp (show h < 2 ^ 31 by omega), zw_l, fX4_tells]
theorem gO_2_2 {K1 : (Nat → Int32)} {K2 : (Nat → Int32)} {K3 : (Nat → Int32)} {E W X Y G : Nat → Int32} {Hd : Nat → Int64} {tv : Int64} {a ev mt : Int32} {h : Nat} {f w : Int32} {v : Int64} (hh : h < 80)  (hk : K1 w.toNatClampNeg = 2) : mjO E (fX4_goesOrder K1 K2 K3 (nI (h + 1)) W X Y G Hd tv f a ev w 2 v) mt = (E, nI h, W, X, Y, G, Hd, v, f, a, ev, mt) := by
  unfold mjO fX4_goesOrder
  rw [hk, if_neg (show ¬ (2 : Int32) = 5 by decide), if_neg (show ¬ (2 : Int32) = 4 by decide), if_neg (show ¬ (2 : Int32) = 0 by decide), if_neg (show ¬ (2 : Int32) = 1 by decide), if_pos (show (2 : Int32) = 2 by decide), if_neg (show ¬ (2 : Int32) = 1 by decide)]
  simp only [nI_pred, nI_clamp (show h < 2 ^ 31 by omega), zw_l, fX4_tells]
theorem gO_0_1 {K1 : (Nat → Int32)} {K2 : (Nat → Int32)} {K3 : (Nat → Int32)} {E W X Y G : Nat → Int32} {Hd : Nat → Int64} {tv : Int64} {a ev mt : Int32} {h : Nat} {f w : Int32} {v : Int64} (hh : h < 80)  (hk : K1 w.toNatClampNeg = 0) : mjO E (fX4_goesOrder K1 K2 K3 (nI (h + 1)) W X Y G Hd tv f a ev w 1 v) mt = mbeg E (nI (h + 1)) W X Y G (vp_updL Hd h v) tv f a ev mt 0 (K2 w.toNatClampNeg) (Y h) (Y h) := by
  unfold mjO fX4_goesOrder
  rw [hk, if_neg (show ¬ (0 : Int32) = 5 by decide), if_neg (show ¬ (0 : Int32) = 4 by decide), if_neg (show ¬ (1 : Int32) = 0 by decide), if_neg (show ¬ (0 : Int32) = 1 by decide), if_neg (show ¬ (0 : Int32) = 2 by decide), if_pos (show (1 : Int32) = 1 by decide), if_pos (show (0 : Int32) = 0 by decide)]
  simp only [nI_pred, nI_clamp (show h < 2 ^ 31 by omega)]
  rfl
theorem gO_3_1 {K1 : (Nat → Int32)} {K2 : (Nat → Int32)} {K3 : (Nat → Int32)} {E W X Y G : Nat → Int32} {Hd : Nat → Int64} {tv : Int64} {a ev mt : Int32} {h : Nat} {f w : Int32} {v : Int64} (hh : h < 80)  (hk : K1 w.toNatClampNeg = 3) : mjO E (fX4_goesOrder K1 K2 K3 (nI (h + 1)) W X Y G Hd tv f a ev w 1 v) mt = mbeg E (nI (h + 1)) W X Y G (vp_updL Hd h v) tv f a ev mt 1 (K2 w.toNatClampNeg) (Y h) (Y h) := by
  unfold mjO fX4_goesOrder
  rw [hk, if_neg (show ¬ (3 : Int32) = 5 by decide), if_neg (show ¬ (3 : Int32) = 4 by decide), if_neg (show ¬ (1 : Int32) = 0 by decide), if_neg (show ¬ (3 : Int32) = 1 by decide), if_neg (show ¬ (3 : Int32) = 2 by decide), if_pos (show (1 : Int32) = 1 by decide), if_neg (show ¬ (3 : Int32) = 0 by decide)]
  simp only [nI_pred, nI_clamp (show h < 2 ^ 31 by omega)]
  rfl
theorem gO_0_2 {K1 : (Nat → Int32)} {K2 : (Nat → Int32)} {K3 : (Nat → Int32)} {E W X Y G : Nat → Int32} {Hd : Nat → Int64} {tv : Int64} {a ev mt : Int32} {h : Nat} {f w : Int32} {v : Int64} (hh : h < 80)  (hk : K1 w.toNatClampNeg = 0) : mjO E (fX4_goesOrder K1 K2 K3 (nI (h + 1)) W X Y G Hd tv f a ev w 2 v) mt = (E, nI h, W, X, Y, G, Hd, (if 0 ≤ lg_cmp (Hd h) v then (if lg_cmp (Hd h) v ≤ 0 then 0 else 1) else -1), f, a, ev, mt) := by
  unfold mjO fX4_goesOrder
  rw [hk, if_neg (show ¬ (0 : Int32) = 5 by decide), if_neg (show ¬ (0 : Int32) = 4 by decide), if_neg (show ¬ (2 : Int32) = 0 by decide), if_neg (show ¬ (0 : Int32) = 1 by decide), if_neg (show ¬ (0 : Int32) = 2 by decide), if_neg (show ¬ (2 : Int32) = 1 by decide)]
  simp only [nI_pred, nI_clamp (show h < 2 ^ 31 by omega), zw_l, fX4_tells]
  split
  · split
    · rfl
    · rfl
  · rfl
theorem gO_3_2 {K1 : (Nat → Int32)} {K2 : (Nat → Int32)} {K3 : (Nat → Int32)} {E W X Y G : Nat → Int32} {Hd : Nat → Int64} {tv : Int64} {a ev mt : Int32} {h : Nat} {f w : Int32} {v : Int64} (hh : h < 80)  (hk : K1 w.toNatClampNeg = 3) : mjO E (fX4_goesOrder K1 K2 K3 (nI (h + 1)) W X Y G Hd tv f a ev w 2 v) mt = (E, nI h, W, X, Y, G, Hd, (if 0 ≤ lg_cmp (Hd h) v then (if lg_cmp (Hd h) v ≤ 0 then 0 else -1) else 1), f, a, ev, mt) := by
  unfold mjO fX4_goesOrder
  rw [hk, if_neg (show ¬ (3 : Int32) = 5 by decide), if_neg (show ¬ (3 : Int32) = 4 by decide), if_neg (show ¬ (2 : Int32) = 0 by decide), if_neg (show ¬ (3 : Int32) = 1 by decide), if_neg (show ¬ (3 : Int32) = 2 by decide), if_neg (show ¬ (2 : Int32) = 1 by decide)]
  simp only [nI_pred, nI_clamp (show h < 2 ^ 31 by omega), zw_l, fX4_tells]
  split
  · split
    · rw [if_neg (show ¬ (3 : Int32) = 0 by decide)]; rfl
    · rw [if_neg (show ¬ (3 : Int32) = 0 by decide)]
  · rw [if_neg (show ¬ (3 : Int32) = 0 by decide)]; rfl
