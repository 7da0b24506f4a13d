/-! WHAT A TURN DOES, by kind and stage -/
def mj (q : (Nat → Int32) × Int32 × (Nat → Int32) × (Nat → Int32) × (Nat → Int32) × (Nat → Int32) × (Nat → Int64) × Int64 × Int32 × Int32 × Int32) (mt : Int32) : mY := (q.1, q.2.1, q.2.2.1, q.2.2.2.1, q.2.2.2.2.1, q.2.2.2.2.2.1, q.2.2.2.2.2.2.1, q.2.2.2.2.2.2.2.1, q.2.2.2.2.2.2.2.2.1, q.2.2.2.2.2.2.2.2.2.1, q.2.2.2.2.2.2.2.2.2.2, mt)
def mjO (E : Nat → Int32) (q : Int32 × (Nat → Int32) × (Nat → Int32) × (Nat → Int32) × (Nat → Int32) × (Nat → Int64) × Int64 × Int32 × Int32 × Int32) (mt : Int32) : mY := (E, q.1, q.2.1, q.2.2.1, q.2.2.2.1, q.2.2.2.2.1, q.2.2.2.2.2.1, q.2.2.2.2.2.2.1, q.2.2.2.2.2.2.2.1, q.2.2.2.2.2.2.2.2.1, q.2.2.2.2.2.2.2.2.2, mt)
theorem tS {B3 : (Nat → Int64)} {B4 : (Nat → Int64)} {K1 : (Nat → Int32)} {K2 : (Nat → Int32)} {K3 : (Nat → Int32)} {K4 : (Nat → Int64)} {E W X Y G : Nat → Int32} {Hd : Nat → Int64} {tv : Int64} {a ev mt : Int32} {h : Nat} {w x st : Int32} (hh : h < 80) (ew : W h = w) (ex : X h = x) (es : G h = st) (h2 : w < 24) : mT B3 B4 K1 K2 K3 K4 (E, nI (h + 1), W, X, Y, G, Hd, tv, 0, a, ev, mt) = mfin K1 (mj (fX4_goesScale B3 B4 K1 K2 K3 K4 E (nI (h + 1)) W X Y (upd G h (st + 1)) Hd tv 0 a ev w x st tv) mt) := by
  subst ew; subst ex; subst es; exact mT_S hh h2
theorem tV {B3 : (Nat → Int64)} {B4 : (Nat → Int64)} {K1 : (Nat → Int32)} {K2 : (Nat → Int32)} {K3 : (Nat → Int32)} {K4 : (Nat → Int64)} {E W X Y G : Nat → Int32} {Hd : Nat → Int64} {tv : Int64} {a ev mt : Int32} {h : Nat} {w x st : Int32} (hh : h < 80) (ew : W h = w) (ex : X h = x) (es : G h = st) (h2 : 24 ≤ w) (h3 : ¬ (48 : Int32) ≤ w) : mT B3 B4 K1 K2 K3 K4 (E, nI (h + 1), W, X, Y, G, Hd, tv, 0, a, ev, mt) = mfin K1 (mj (fX4_goesSieve K1 K2 K3 E (nI (h + 1)) W X Y (upd G h (st + 1)) Hd tv 0 a ev w x st tv) mt) := by
  subst ew; subst ex; subst es; exact mT_V hh h2 h3
theorem tO {B3 : (Nat → Int64)} {B4 : (Nat → Int64)} {K1 : (Nat → Int32)} {K2 : (Nat → Int32)} {K3 : (Nat → Int32)} {K4 : (Nat → Int64)} {E W X Y G : Nat → Int32} {Hd : Nat → Int64} {tv : Int64} {a ev mt : Int32} {h : Nat} {w st : Int32} (hh : h < 80) (ew : W h = w) (es : G h = st) (h2 : 24 ≤ w) (h3 : 48 ≤ w) : mT B3 B4 K1 K2 K3 K4 (E, nI (h + 1), W, X, Y, G, Hd, tv, 0, a, ev, mt) = mfin K1 (mjO E (fX4_goesOrder K1 K2 K3 (nI (h + 1)) W X Y (upd G h (st + 1)) Hd tv 0 a ev w st tv) mt) := by
  subst ew; subst es; exact mT_O hh h2 h3
theorem safe_of {K1 K2 : Nat → Int32} {E W X Y G : Nat → Int32} {Hd : Nat → Int64} {tv : Int64} {a ev mt : Int32} {f : Int32} {h : Nat} (hh : h ≤ 78) (hw : vp_in (W h) 72) (hc : W h < 24 → K1 (W h).toNatClampNeg = 0 → vp_in (3 * X h + K2 (W h).toNatClampNeg) 120) : msafe K1 K2 (E, nI (h + 1), W, X, Y, G, Hd, tv, f, a, ev, mt) := by
  unfold msafe
  dsimp only
  rw [nI_pred, nI_clamp (by omega)]
  exact ⟨⟨h + 1, by omega, rfl⟩, hw, hc⟩
theorem go_of {E W X Y G : Nat → Int32} {Hd : Nat → Int64} {tv : Int64} {a ev mt : Int32} {h : Nat} (hh : h ≤ 78) : mgo (E, nI (h + 1), W, X, Y, G, Hd, tv, 0, a, ev, mt) := ⟨nI_np (by omega), rfl⟩
theorem fr_push {W X Y G : Nat → Int32} {Hd : Nat → Int64} {h : Nat} {w x y u v : Int32} : (∀ j, j < h → (upd W h w) j = W j ∧ (upd X h x) j = X j ∧ (upd Y h y) j = Y j ∧ (upd (upd G h u) h v) j = G j ∧ Hd j = Hd j) := fun j hj => ⟨pk_un (by omega), pk_un (by omega), pk_un (by omega), by rw [pk_un (by omega), pk_un (by omega)], rfl⟩
theorem gS_0 {B3 : (Nat → Int64)} {B4 : (Nat → Int64)} {K1 : (Nat → Int32)} {K2 : (Nat → Int32)} {K3 : (Nat → Int32)} {K4 : (Nat → Int64)} {E W X Y G : Nat → Int32} {Hd : Nat → Int64} {tv : Int64} {a ev mt : Int32} {h : Nat} {f w x : Int32} {v : Int64} {st : Int32}  (hk : K1 w.toNatClampNeg = 0) : mj (fX4_goesScale B3 B4 K1 K2 K3 K4 E (nI (h + 1)) W X Y G Hd tv f a ev w x st v) mt = (E, nI h, W, X, Y, G, Hd, (B3 (3 * x + K2 w.toNatClampNeg).toNatClampNeg), f, a, ev, mt) := by
  unfold mj fX4_goesScale
  rw [hk, if_neg (show ¬ (0 : Int32) = 11 by decide), if_neg (show ¬ (2 : Int32) ≤ (0 : Int32) by decide), if_pos (show (0 : Int32) = 0 by decide)]
  simp only [zw_l, fX4_tells, nI_pred]
theorem gS_1 {B3 : (Nat → Int64)} {B4 : (Nat → Int64)} {K1 : (Nat → Int32)} {K2 : (Nat → Int32)} {K3 : (Nat → Int32)} {K4 : (Nat → Int64)} {E W X Y G : Nat → Int32} {Hd : Nat → Int64} {tv : Int64} {a ev mt : Int32} {h : Nat} {f w x : Int32} {v : Int64} {st : Int32}  (hk : K1 w.toNatClampNeg = 1) : mj (fX4_goesScale B3 B4 K1 K2 K3 K4 E (nI (h + 1)) W X Y G Hd tv f a ev w x st v) mt = (E, nI h, W, X, Y, G, Hd, ((K2 w.toNatClampNeg).toInt64 + (K3 w.toNatClampNeg).toInt64), f, a, ev, mt) := by
  unfold mj fX4_goesScale
  rw [hk, if_neg (show ¬ (1 : Int32) = 11 by decide), if_neg (show ¬ (2 : Int32) ≤ (1 : Int32) by decide), if_neg (show ¬ (1 : Int32) = 0 by decide)]
  simp only [zw_l, fX4_tells, nI_pred]
theorem gS_8 {B3 : (Nat → Int64)} {B4 : (Nat → Int64)} {K1 : (Nat → Int32)} {K2 : (Nat → Int32)} {K3 : (Nat → Int32)} {K4 : (Nat → Int64)} {E W X Y G : Nat → Int32} {Hd : Nat → Int64} {tv : Int64} {a ev mt : Int32} {h : Nat} {f w x : Int32} {v : Int64} {st : Int32}  (hk : K1 w.toNatClampNeg = 8) : mj (fX4_goesScale B3 B4 K1 K2 K3 K4 E (nI (h + 1)) W X Y G Hd tv f a ev w x st v) mt = (E, nI h, W, X, Y, G, Hd, (K4 w.toNatClampNeg), f, a, ev, mt) := by
  unfold mj fX4_goesScale
  rw [hk, if_neg (show ¬ (8 : Int32) = 11 by decide), if_pos (show (2 : Int32) ≤ (8 : Int32) by decide), if_pos (show (8 : Int32) = 8 by decide)]
  simp only [zw_l, fX4_tells, nI_pred]
theorem gS_9 {B3 : (Nat → Int64)} {B4 : (Nat → Int64)} {K1 : (Nat → Int32)} {K2 : (Nat → Int32)} {K3 : (Nat → Int32)} {K4 : (Nat → Int64)} {E W X Y G : Nat → Int32} {Hd : Nat → Int64} {tv : Int64} {a ev mt : Int32} {h : Nat} {f w x : Int32} {v : Int64} {st : Int32}  (hk : K1 w.toNatClampNeg = 9) : mj (fX4_goesScale B3 B4 K1 K2 K3 K4 E (nI (h + 1)) W X Y G Hd tv f a ev w x st v) mt = (E, nI h, W, X, Y, G, Hd, (K4 w.toNatClampNeg), f, a, ev, mt) := by
  unfold mj fX4_goesScale
  rw [hk, if_neg (show ¬ (9 : Int32) = 11 by decide), if_pos (show (2 : Int32) ≤ (9 : Int32) by decide), if_neg (show ¬ (9 : Int32) = 8 by decide), if_pos (show (9 : Int32) = 9 by decide)]
  simp only [zw_l, fX4_tells, nI_pred]
theorem gS_10 {B3 : (Nat → Int64)} {B4 : (Nat → Int64)} {K1 : (Nat → Int32)} {K2 : (Nat → Int32)} {K3 : (Nat → Int32)} {K4 : (Nat → Int64)} {E W X Y G : Nat → Int32} {Hd : Nat → Int64} {tv : Int64} {a ev mt : Int32} {h : Nat} {f w x : Int32} {v : Int64} {st : Int32}  (hk : K1 w.toNatClampNeg = 10) : mj (fX4_goesScale B3 B4 K1 K2 K3 K4 E (nI (h + 1)) W X Y G Hd tv f a ev w x st v) mt = ((upd E w.toNatClampNeg (E w.toNatClampNeg + 1)), nI h, W, X, Y, G, Hd, (((E w.toNatClampNeg + 1).toInt64 - 1) * (K2 w.toNatClampNeg).toInt64 + (K3 w.toNatClampNeg).toInt64), f, a, ev, mt) := by
  unfold mj fX4_goesScale
  rw [hk, if_neg (show ¬ (10 : Int32) = 11 by decide), if_pos (show (2 : Int32) ≤ (10 : Int32) by decide), if_neg (show ¬ (10 : Int32) = 8 by decide), if_neg (show ¬ (10 : Int32) = 9 by decide), if_pos (show (10 : Int32) = 10 by decide)]
  simp only [zw_l, fX4_tells, nI_pred, pk_us]
theorem gS_11 {B3 : (Nat → Int64)} {B4 : (Nat → Int64)} {K1 : (Nat → Int32)} {K2 : (Nat → Int32)} {K3 : (Nat → Int32)} {K4 : (Nat → Int64)} {E W X Y G : Nat → Int32} {Hd : Nat → Int64} {tv : Int64} {a ev mt : Int32} {h : Nat} {f w x : Int32} {v : Int64} {st : Int32}  (hk : K1 w.toNatClampNeg = 11) : mj (fX4_goesScale B3 B4 K1 K2 K3 K4 E (nI (h + 1)) W X Y G Hd tv f a ev w x st v) mt = (E, nI (h + 1), W, X, Y, G, Hd, tv, 3, a, ev, mt) := by
  unfold mj fX4_goesScale
  rw [hk, if_pos (show (11 : Int32) = 11 by decide)]
  skip
theorem gS_2_0 {B3 : (Nat → Int64)} {B4 : (Nat → Int64)} {K1 : (Nat → Int32)} {K2 : (Nat → Int32)} {K3 : (Nat → Int32)} {K4 : (Nat → Int64)} {E W X Y G : Nat → Int32} {Hd : Nat → Int64} {tv : Int64} {a ev mt : Int32} {h : Nat} {f w x : Int32} {v : Int64}  (hk : K1 w.toNatClampNeg = 2) : mj (fX4_goesScale B3 B4 K1 K2 K3 K4 E (nI (h + 1)) W X Y G Hd tv f a ev w x 0 v) mt = mbeg E (nI (h + 1)) W X Y G Hd tv f a ev mt 0 (K2 w.toNatClampNeg) x x := by
  unfold mj fX4_goesScale
  rw [hk, if_neg (show ¬ (2 : Int32) = 11 by decide), if_pos (show (2 : Int32) ≤ (2 : Int32) by decide), if_neg (show ¬ (2 : Int32) = 8 by decide), if_neg (show ¬ (2 : Int32) = 9 by decide), if_neg (show ¬ (2 : Int32) = 10 by decide), if_pos (show (0 : Int32) = 0 by decide), if_neg (show ¬ (2 : Int32) = 6 by decide)]
  rfl
theorem gS_3_0 {B3 : (Nat → Int64)} {B4 : (Nat → Int64)} {K1 : (Nat → Int32)} {K2 : (Nat → Int32)} {K3 : (Nat → Int32)} {K4 : (Nat → Int64)} {E W X Y G : Nat → Int32} {Hd : Nat → Int64} {tv : Int64} {a ev mt : Int32} {h : Nat} {f w x : Int32} {v : Int64}  (hk : K1 w.toNatClampNeg = 3) : mj (fX4_goesScale B3 B4 K1 K2 K3 K4 E (nI (h + 1)) W X Y G Hd tv f a ev w x 0 v) mt = mbeg E (nI (h + 1)) W X Y G Hd tv f a ev mt 0 (K2 w.toNatClampNeg) x x := by
  unfold mj fX4_goesScale
  rw [hk, if_neg (show ¬ (3 : Int32) = 11 by decide), if_pos (show (2 : Int32) ≤ (3 : Int32) by decide), if_neg (show ¬ (3 : Int32) = 8 by decide), if_neg (show ¬ (3 : Int32) = 9 by decide), if_neg (show ¬ (3 : Int32) = 10 by decide), if_pos (show (0 : Int32) = 0 by decide), if_neg (show ¬ (3 : Int32) = 6 by decide)]
  rfl
theorem gS_4_0 {B3 : (Nat → Int64)} {B4 : (Nat → Int64)} {K1 : (Nat → Int32)} {K2 : (Nat → Int32)} {K3 : (Nat → Int32)} {K4 : (Nat → Int64)} {E W X Y G : Nat → Int32} {Hd : Nat → Int64} {tv : Int64} {a ev mt : Int32} {h : Nat} {f w x : Int32} {v : Int64}  (hk : K1 w.toNatClampNeg = 4) : mj (fX4_goesScale B3 B4 K1 K2 K3 K4 E (nI (h + 1)) W X Y G Hd tv f a ev w x 0 v) mt = mbeg E (nI (h + 1)) W X Y G Hd tv f a ev mt 0 (K2 w.toNatClampNeg) x x := by
  unfold mj fX4_goesScale
  rw [hk, if_neg (show ¬ (4 : Int32) = 11 by decide), if_pos (show (2 : Int32) ≤ (4 : Int32) by decide), if_neg (show ¬ (4 : Int32) = 8 by decide), if_neg (show ¬ (4 : Int32) = 9 by decide), if_neg (show ¬ (4 : Int32) = 10 by decide), if_pos (show (0 : Int32) = 0 by decide), if_neg (show ¬ (4 : Int32) = 6 by decide)]
  rfl
theorem gS_5_0 {B3 : (Nat → Int64)} {B4 : (Nat → Int64)} {K1 : (Nat → Int32)} {K2 : (Nat → Int32)} {K3 : (Nat → Int32)} {K4 : (Nat → Int64)} {E W X Y G : Nat → Int32} {Hd : Nat → Int64} {tv : Int64} {a ev mt : Int32} {h : Nat} {f w x : Int32} {v : Int64}  (hk : K1 w.toNatClampNeg = 5) : mj (fX4_goesScale B3 B4 K1 K2 K3 K4 E (nI (h + 1)) W X Y G Hd tv f a ev w x 0 v) mt = mbeg E (nI (h + 1)) W X Y G Hd tv f a ev mt 0 (K2 w.toNatClampNeg) x x := by
  unfold mj fX4_goesScale
  rw [hk, if_neg (show ¬ (5 : Int32) = 11 by decide), if_pos (show (2 : Int32) ≤ (5 : Int32) by decide), if_neg (show ¬ (5 : Int32) = 8 by decide), if_neg (show ¬ (5 : Int32) = 9 by decide), if_neg (show ¬ (5 : Int32) = 10 by decide), if_pos (show (0 : Int32) = 0 by decide), if_neg (show ¬ (5 : Int32) = 6 by decide)]
  rfl
theorem gS_7_0 {B3 : (Nat → Int64)} {B4 : (Nat → Int64)} {K1 : (Nat → Int32)} {K2 : (Nat → Int32)} {K3 : (Nat → Int32)} {K4 : (Nat → Int64)} {E W X Y G : Nat → Int32} {Hd : Nat → Int64} {tv : Int64} {a ev mt : Int32} {h : Nat} {f w x : Int32} {v : Int64}  (hk : K1 w.toNatClampNeg = 7) : mj (fX4_goesScale B3 B4 K1 K2 K3 K4 E (nI (h + 1)) W X Y G Hd tv f a ev w x 0 v) mt = mbeg E (nI (h + 1)) W X Y G Hd tv f a ev mt 0 (K2 w.toNatClampNeg) x x := by
  unfold mj fX4_goesScale
  rw [hk, if_neg (show ¬ (7 : Int32) = 11 by decide), if_pos (show (2 : Int32) ≤ (7 : Int32) by decide), if_neg (show ¬ (7 : Int32) = 8 by decide), if_neg (show ¬ (7 : Int32) = 9 by decide), if_neg (show ¬ (7 : Int32) = 10 by decide), if_pos (show (0 : Int32) = 0 by decide), if_neg (show ¬ (7 : Int32) = 6 by decide)]
  rfl
theorem gS_6_0 {B3 : (Nat → Int64)} {B4 : (Nat → Int64)} {K1 : (Nat → Int32)} {K2 : (Nat → Int32)} {K3 : (Nat → Int32)} {K4 : (Nat → Int64)} {E W X Y G : Nat → Int32} {Hd : Nat → Int64} {tv : Int64} {a ev mt : Int32} {h : Nat} {f w x : Int32} {v : Int64}  (hk : K1 w.toNatClampNeg = 6) : mj (fX4_goesScale B3 B4 K1 K2 K3 K4 E (nI (h + 1)) W X Y G Hd tv f a ev w x 0 v) mt = mbeg E (nI (h + 1)) W X Y G Hd tv f a ev mt 1 (K2 w.toNatClampNeg) x x := by
  unfold mj fX4_goesScale
  rw [hk, if_neg (show ¬ (6 : Int32) = 11 by decide), if_pos (show (2 : Int32) ≤ (6 : Int32) by decide), if_neg (show ¬ (6 : Int32) = 8 by decide), if_neg (show ¬ (6 : Int32) = 9 by decide), if_neg (show ¬ (6 : Int32) = 10 by decide), if_pos (show (0 : Int32) = 0 by decide), if_pos (show (6 : Int32) = 6 by decide)]
  rfl
theorem gS_2_1 {B3 : (Nat → Int64)} {B4 : (Nat → Int64)} {K1 : (Nat → Int32)} {K2 : (Nat → Int32)} {K3 : (Nat → Int32)} {K4 : (Nat → Int64)} {E W X Y G : Nat → Int32} {Hd : Nat → Int64} {tv : Int64} {a ev mt : Int32} {h : Nat} {f w x : Int32} {v : Int64} (hh : h < 80) (hk : K1 w.toNatClampNeg = 2) : mj (fX4_goesScale B3 B4 K1 K2 K3 K4 E (nI (h + 1)) W X Y G Hd tv f a ev w x 1 v) mt = mbeg E (nI (h + 1)) W X Y G (vp_updL Hd h v) tv f a ev mt 0 (K3 w.toNatClampNeg) x x := by
  unfold mj fX4_goesScale
  rw [hk, if_neg (show ¬ (2 : Int32) = 11 by decide), if_pos (show (2 : Int32) ≤ (2 : Int32) by decide), if_neg (show ¬ (2 : Int32) = 8 by decide), if_neg (show ¬ (2 : Int32) = 9 by decide), if_neg (show ¬ (2 : Int32) = 10 by decide), if_neg (show ¬ (1 : Int32) = 0 by decide), if_neg (show ¬ (2 : Int32) = 7 by decide), if_pos (show (1 : Int32) = 1 by decide), if_neg (show ¬ (2 : Int32) = 6 by decide)]
  simp only [nI_pred, nI_clamp (show h < 2 ^ 31 by omega)]
  rfl
theorem gS_3_1 {B3 : (Nat → Int64)} {B4 : (Nat → Int64)} {K1 : (Nat → Int32)} {K2 : (Nat → Int32)} {K3 : (Nat → Int32)} {K4 : (Nat → Int64)} {E W X Y G : Nat → Int32} {Hd : Nat → Int64} {tv : Int64} {a ev mt : Int32} {h : Nat} {f w x : Int32} {v : Int64} (hh : h < 80) (hk : K1 w.toNatClampNeg = 3) : mj (fX4_goesScale B3 B4 K1 K2 K3 K4 E (nI (h + 1)) W X Y G Hd tv f a ev w x 1 v) mt = mbeg E (nI (h + 1)) W X Y G (vp_updL Hd h v) tv f a ev mt 0 (K3 w.toNatClampNeg) x x := by
  unfold mj fX4_goesScale
  rw [hk, if_neg (show ¬ (3 : Int32) = 11 by decide), if_pos (show (2 : Int32) ≤ (3 : Int32) by decide), if_neg (show ¬ (3 : Int32) = 8 by decide), if_neg (show ¬ (3 : Int32) = 9 by decide), if_neg (show ¬ (3 : Int32) = 10 by decide), if_neg (show ¬ (1 : Int32) = 0 by decide), if_neg (show ¬ (3 : Int32) = 7 by decide), if_pos (show (1 : Int32) = 1 by decide), if_neg (show ¬ (3 : Int32) = 6 by decide)]
  simp only [nI_pred, nI_clamp (show h < 2 ^ 31 by omega)]
  rfl
theorem gS_4_1 {B3 : (Nat → Int64)} {B4 : (Nat → Int64)} {K1 : (Nat → Int32)} {K2 : (Nat → Int32)} {K3 : (Nat → Int32)} {K4 : (Nat → Int64)} {E W X Y G : Nat → Int32} {Hd : Nat → Int64} {tv : Int64} {a ev mt : Int32} {h : Nat} {f w x : Int32} {v : Int64} (hh : h < 80) (hk : K1 w.toNatClampNeg = 4) : mj (fX4_goesScale B3 B4 K1 K2 K3 K4 E (nI (h + 1)) W X Y G Hd tv f a ev w x 1 v) mt = mbeg E (nI (h + 1)) W X Y G (vp_updL Hd h v) tv f a ev mt 0 (K3 w.toNatClampNeg) x x := by
  unfold mj fX4_goesScale
  rw [hk, if_neg (show ¬ (4 : Int32) = 11 by decide), if_pos (show (2 : Int32) ≤ (4 : Int32) by decide), if_neg (show ¬ (4 : Int32) = 8 by decide), if_neg (show ¬ (4 : Int32) = 9 by decide), if_neg (show ¬ (4 : Int32) = 10 by decide), if_neg (show ¬ (1 : Int32) = 0 by decide), if_neg (show ¬ (4 : Int32) = 7 by decide), if_pos (show (1 : Int32) = 1 by decide), if_neg (show ¬ (4 : Int32) = 6 by decide)]
  simp only [nI_pred, nI_clamp (show h < 2 ^ 31 by omega)]
  rfl
theorem gS_5_1 {B3 : (Nat → Int64)} {B4 : (Nat → Int64)} {K1 : (Nat → Int32)} {K2 : (Nat → Int32)} {K3 : (Nat → Int32)} {K4 : (Nat → Int64)} {E W X Y G : Nat → Int32} {Hd : Nat → Int64} {tv : Int64} {a ev mt : Int32} {h : Nat} {f w x : Int32} {v : Int64} (hh : h < 80) (hk : K1 w.toNatClampNeg = 5) : mj (fX4_goesScale B3 B4 K1 K2 K3 K4 E (nI (h + 1)) W X Y G Hd tv f a ev w x 1 v) mt = mbeg E (nI (h + 1)) W X Y G (vp_updL Hd h v) tv f a ev mt 0 (K3 w.toNatClampNeg) x x := by
  unfold mj fX4_goesScale
  rw [hk, if_neg (show ¬ (5 : Int32) = 11 by decide), if_pos (show (2 : Int32) ≤ (5 : Int32) by decide), if_neg (show ¬ (5 : Int32) = 8 by decide), if_neg (show ¬ (5 : Int32) = 9 by decide), if_neg (show ¬ (5 : Int32) = 10 by decide), if_neg (show ¬ (1 : Int32) = 0 by decide), if_neg (show ¬ (5 : Int32) = 7 by decide), if_pos (show (1 : Int32) = 1 by decide), if_neg (show ¬ (5 : Int32) = 6 by decide)]
  simp only [nI_pred, nI_clamp (show h < 2 ^ 31 by omega)]
  rfl
theorem gS_6_1f {B3 : (Nat → Int64)} {B4 : (Nat → Int64)} {K1 : (Nat → Int32)} {K2 : (Nat → Int32)} {K3 : (Nat → Int32)} {K4 : (Nat → Int64)} {E W X Y G : Nat → Int32} {Hd : Nat → Int64} {tv : Int64} {a ev mt : Int32} {h : Nat} {f w x : Int32} {v : Int64} (hv : lg_cmp v 0 = 0) (hk : K1 w.toNatClampNeg = 6) : mj (fX4_goesScale B3 B4 K1 K2 K3 K4 E (nI (h + 1)) W X Y G Hd tv f a ev w x 1 v) mt = (E, nI h, W, X, Y, G, Hd, 0, f, a, ev, mt) := by
  unfold mj fX4_goesScale
  rw [hk, if_neg (show ¬ (6 : Int32) = 11 by decide), if_pos (show (2 : Int32) ≤ (6 : Int32) by decide), if_neg (show ¬ (6 : Int32) = 8 by decide), if_neg (show ¬ (6 : Int32) = 9 by decide), if_neg (show ¬ (6 : Int32) = 10 by decide), if_neg (show ¬ (1 : Int32) = 0 by decide), if_neg (show ¬ (6 : Int32) = 7 by decide), if_pos (show (1 : Int32) = 1 by decide), if_pos (show (6 : Int32) = 6 by decide)]
  rw [if_pos hv]
  simp only [zw_l, fX4_tells, nI_pred]
theorem gS_6_1t {B3 : (Nat → Int64)} {B4 : (Nat → Int64)} {K1 : (Nat → Int32)} {K2 : (Nat → Int32)} {K3 : (Nat → Int32)} {K4 : (Nat → Int64)} {E W X Y G : Nat → Int32} {Hd : Nat → Int64} {tv : Int64} {a ev mt : Int32} {h : Nat} {f w x : Int32} {v : Int64} (hh : h < 80) (hv : ¬ lg_cmp v 0 = 0) (hk : K1 w.toNatClampNeg = 6) : mj (fX4_goesScale B3 B4 K1 K2 K3 K4 E (nI (h + 1)) W X Y G Hd tv f a ev w x 1 v) mt = mbeg E (nI (h + 1)) W X Y G (vp_updL Hd h v) tv f a ev mt 0 (K3 w.toNatClampNeg) x x := by
  unfold mj fX4_goesScale
  rw [hk, if_neg (show ¬ (6 : Int32) = 11 by decide), if_pos (show (2 : Int32) ≤ (6 : Int32) by decide), if_neg (show ¬ (6 : Int32) = 8 by decide), if_neg (show ¬ (6 : Int32) = 9 by decide), if_neg (show ¬ (6 : Int32) = 10 by decide), if_neg (show ¬ (1 : Int32) = 0 by decide), if_neg (show ¬ (6 : Int32) = 7 by decide), if_pos (show (1 : Int32) = 1 by decide), if_pos (show (6 : Int32) = 6 by decide)]
  rw [if_neg hv]
  simp only [nI_pred, nI_clamp (show h < 2 ^ 31 by omega)]
  rfl
theorem gS_2_2 {B3 : (Nat → Int64)} {B4 : (Nat → Int64)} {K1 : (Nat → Int32)} {K2 : (Nat → Int32)} {K3 : (Nat → Int32)} {K4 : (Nat → Int64)} {E W X Y G : Nat → Int32} {Hd : Nat → Int64} {tv : Int64} {a ev mt : Int32} {h : Nat} {f w x : Int32} {v : Int64} (hh : h < 80) (hk : K1 w.toNatClampNeg = 2) : mj (fX4_goesScale B3 B4 K1 K2 K3 K4 E (nI (h + 1)) W X Y G Hd tv f a ev w x 2 v) mt = (E, nI h, W, X, Y, G, Hd, (Hd h + v), f, a, ev, mt) := by
  unfold mj fX4_goesScale
  rw [hk, if_neg (show ¬ (2 : Int32) = 11 by decide), if_pos (show (2 : Int32) ≤ (2 : Int32) by decide), if_neg (show ¬ (2 : Int32) = 8 by decide), if_neg (show ¬ (2 : Int32) = 9 by decide), if_neg (show ¬ (2 : Int32) = 10 by decide), if_neg (show ¬ (2 : Int32) = 0 by decide), if_neg (show ¬ (2 : Int32) = 7 by decide), if_neg (show ¬ (2 : Int32) = 1 by decide)]
  unfold fX4_both
  rw [if_neg (show ¬ (2 : Int32) = 4 by decide), if_pos (show (2 : Int32) = 2 by decide)]
  simp only [zw_l, fX4_tells, nI_pred, nI_clamp (show h < 2 ^ 31 by omega)]
theorem gS_3_2 {B3 : (Nat → Int64)} {B4 : (Nat → Int64)} {K1 : (Nat → Int32)} {K2 : (Nat → Int32)} {K3 : (Nat → Int32)} {K4 : (Nat → Int64)} {E W X Y G : Nat → Int32} {Hd : Nat → Int64} {tv : Int64} {a ev mt : Int32} {h : Nat} {f w x : Int32} {v : Int64} (hh : h < 80) (hk : K1 w.toNatClampNeg = 3) : mj (fX4_goesScale B3 B4 K1 K2 K3 K4 E (nI (h + 1)) W X Y G Hd tv f a ev w x 2 v) mt = (E, nI h, W, X, Y, G, Hd, (Hd h * v), f, a, ev, mt) := by
  unfold mj fX4_goesScale
  rw [hk, if_neg (show ¬ (3 : Int32) = 11 by decide), if_pos (show (2 : Int32) ≤ (3 : Int32) by decide), if_neg (show ¬ (3 : Int32) = 8 by decide), if_neg (show ¬ (3 : Int32) = 9 by decide), if_neg (show ¬ (3 : Int32) = 10 by decide), if_neg (show ¬ (2 : Int32) = 0 by decide), if_neg (show ¬ (3 : Int32) = 7 by decide), if_neg (show ¬ (2 : Int32) = 1 by decide)]
  unfold fX4_both
  rw [if_neg (show ¬ (3 : Int32) = 4 by decide), if_neg (show ¬ (3 : Int32) = 2 by decide), if_pos (show (3 : Int32) = 3 by decide)]
  simp only [zw_l, fX4_tells, nI_pred, nI_clamp (show h < 2 ^ 31 by omega)]
theorem gS_6_2 {B3 : (Nat → Int64)} {B4 : (Nat → Int64)} {K1 : (Nat → Int32)} {K2 : (Nat → Int32)} {K3 : (Nat → Int32)} {K4 : (Nat → Int64)} {E W X Y G : Nat → Int32} {Hd : Nat → Int64} {tv : Int64} {a ev mt : Int32} {h : Nat} {f w x : Int32} {v : Int64} (hh : h < 80) (hk : K1 w.toNatClampNeg = 6) : mj (fX4_goesScale B3 B4 K1 K2 K3 K4 E (nI (h + 1)) W X Y G Hd tv f a ev w x 2 v) mt = (E, nI h, W, X, Y, G, Hd, v, f, a, ev, mt) := by
  unfold mj fX4_goesScale
  rw [hk, if_neg (show ¬ (6 : Int32) = 11 by decide), if_pos (show (2 : Int32) ≤ (6 : Int32) by decide), if_neg (show ¬ (6 : Int32) = 8 by decide), if_neg (show ¬ (6 : Int32) = 9 by decide), if_neg (show ¬ (6 : Int32) = 10 by decide), if_neg (show ¬ (2 : Int32) = 0 by decide), if_neg (show ¬ (6 : Int32) = 7 by decide), if_neg (show ¬ (2 : Int32) = 1 by decide)]
  unfold fX4_both
  rw [if_neg (show ¬ (6 : Int32) = 4 by decide), if_neg (show ¬ (6 : Int32) = 2 by decide), if_neg (show ¬ (6 : Int32) = 3 by decide), if_neg (show ¬ (6 : Int32) = 4 by decide), if_neg (show ¬ (6 : Int32) = 5 by decide)]
  simp only [zw_l, fX4_tells, nI_pred, nI_clamp (show h < 2 ^ 31 by omega)]
theorem gS_4_2z {B3 : (Nat → Int64)} {B4 : (Nat → Int64)} {K1 : (Nat → Int32)} {K2 : (Nat → Int32)} {K3 : (Nat → Int32)} {K4 : (Nat → Int64)} {E W X Y G : Nat → Int32} {Hd : Nat → Int64} {tv : Int64} {a ev mt : Int32} {h : Nat} {f w x : Int32} {v : Int64} (hh : h < 80) (hv : lg_cmp v 0 = 0) (hk : K1 w.toNatClampNeg = 4) : mj (fX4_goesScale B3 B4 K1 K2 K3 K4 E (nI (h + 1)) W X Y G Hd tv f a ev w x 2 v) mt = (E, nI (h + 1), W, X, Y, G, Hd, tv, 1, a, ev, mt) := by
  unfold mj fX4_goesScale
  rw [hk, if_neg (show ¬ (4 : Int32) = 11 by decide), if_pos (show (2 : Int32) ≤ (4 : Int32) by decide), if_neg (show ¬ (4 : Int32) = 8 by decide), if_neg (show ¬ (4 : Int32) = 9 by decide), if_neg (show ¬ (4 : Int32) = 10 by decide), if_neg (show ¬ (2 : Int32) = 0 by decide), if_neg (show ¬ (4 : Int32) = 7 by decide), if_neg (show ¬ (2 : Int32) = 1 by decide)]
  unfold fX4_both
  rw [if_pos rfl, if_pos hv]
  rfl
theorem gS_4_2 {B3 : (Nat → Int64)} {B4 : (Nat → Int64)} {K1 : (Nat → Int32)} {K2 : (Nat → Int32)} {K3 : (Nat → Int32)} {K4 : (Nat → Int64)} {E W X Y G : Nat → Int32} {Hd : Nat → Int64} {tv : Int64} {a ev mt : Int32} {h : Nat} {f w x : Int32} {v : Int64} (hh : h < 80) (hv : ¬ lg_cmp v 0 = 0) (hk : K1 w.toNatClampNeg = 4) : mj (fX4_goesScale B3 B4 K1 K2 K3 K4 E (nI (h + 1)) W X Y G Hd tv f a ev w x 2 v) mt = (E, nI h, W, X, Y, G, Hd, (Hd h / v), f, a, ev, mt) := by
  unfold mj fX4_goesScale
  rw [hk, if_neg (show ¬ (4 : Int32) = 11 by decide), if_pos (show (2 : Int32) ≤ (4 : Int32) by decide), if_neg (show ¬ (4 : Int32) = 8 by decide), if_neg (show ¬ (4 : Int32) = 9 by decide), if_neg (show ¬ (4 : Int32) = 10 by decide), if_neg (show ¬ (2 : Int32) = 0 by decide), if_neg (show ¬ (4 : Int32) = 7 by decide), if_neg (show ¬ (2 : Int32) = 1 by decide)]
  unfold fX4_both
  rw [if_pos rfl, if_neg hv, if_neg (show ¬ (4 : Int32) = 2 by decide), if_neg (show ¬ (4 : Int32) = 3 by decide), if_pos (show (4 : Int32) = 4 by decide)]
  simp only [zw_l, fX4_tells, nI_pred, nI_clamp (show h < 2 ^ 31 by omega)]
theorem gS_5_2 {B3 : (Nat → Int64)} {B4 : (Nat → Int64)} {K1 : (Nat → Int32)} {K2 : (Nat → Int32)} {K3 : (Nat → Int32)} {K4 : (Nat → Int64)} {E W X Y G : Nat → Int32} {Hd : Nat → Int64} {tv : Int64} {a ev mt : Int32} {h : Nat} {f w x : Int32} {v : Int64} (hh : h < 80) (hk : K1 w.toNatClampNeg = 5) : mj (fX4_goesScale B3 B4 K1 K2 K3 K4 E (nI (h + 1)) W X Y G Hd tv f a ev w x 2 v) mt = (E, nI h, W, X, Y, G, Hd, (if Hd h < v then Hd h else v), f, a, ev, mt) := by
  unfold mj fX4_goesScale
  rw [hk, if_neg (show ¬ (5 : Int32) = 11 by decide), if_pos (show (2 : Int32) ≤ (5 : Int32) by decide), if_neg (show ¬ (5 : Int32) = 8 by decide), if_neg (show ¬ (5 : Int32) = 9 by decide), if_neg (show ¬ (5 : Int32) = 10 by decide), if_neg (show ¬ (2 : Int32) = 0 by decide), if_neg (show ¬ (5 : Int32) = 7 by decide), if_neg (show ¬ (2 : Int32) = 1 by decide)]
  unfold fX4_both
  rw [if_neg (show ¬ (5 : Int32) = 4 by decide), if_neg (show ¬ (5 : Int32) = 2 by decide), if_neg (show ¬ (5 : Int32) = 3 by decide), if_neg (show ¬ (5 : Int32) = 4 by decide), if_pos (show (5 : Int32) = 5 by decide)]
  simp only [nI_pred, nI_clamp (show h < 2 ^ 31 by omega)]
  by_cases hv : Hd h < v
  · rw [if_neg (fun z => absurd ((lg_cmp_ge _ _).mp z) (lg_lt_not_le hv)), if_pos hv]
    simp only [zw_l, fX4_tells, nI_pred]
  · rw [if_pos ((lg_cmp_ge _ _).mpr (Int64.not_lt.mp hv)), if_neg hv]
    simp only [zw_l, fX4_tells, nI_pred]
theorem gS_7_1 {B3 : (Nat → Int64)} {B4 : (Nat → Int64)} {K1 : (Nat → Int32)} {K2 : (Nat → Int32)} {K3 : (Nat → Int32)} {K4 : (Nat → Int64)} {E W X Y G : Nat → Int32} {Hd : Nat → Int64} {tv : Int64} {a ev mt : Int32} {h : Nat} {f w x : Int32} {v : Int64} (h1 : ¬ lg_cmp v 0 < 0) (h2 : lg_cmp v 7 ≤ 0) (hk : K1 w.toNatClampNeg = 7) : mj (fX4_goesScale B3 B4 K1 K2 K3 K4 E (nI (h + 1)) W X Y G Hd tv f a ev w x 1 v) mt = (E, nI h, W, X, Y, G, Hd, (B4 v.toInt32.toNatClampNeg), f, a, ev, mt) := by
  unfold mj fX4_goesScale
  rw [hk, if_neg (show ¬ (7 : Int32) = 11 by decide), if_pos (show (2 : Int32) ≤ (7 : Int32) by decide), if_neg (show ¬ (7 : Int32) = 8 by decide), if_neg (show ¬ (7 : Int32) = 9 by decide), if_neg (show ¬ (7 : Int32) = 10 by decide), if_neg (show ¬ (1 : Int32) = 0 by decide), if_pos (show (7 : Int32) = 7 by decide)]
  rw [if_neg h1, if_pos h2]
  simp only [zw_l, fX4_tells, nI_pred]
theorem gS_7_1a {B3 : (Nat → Int64)} {B4 : (Nat → Int64)} {K1 : (Nat → Int32)} {K2 : (Nat → Int32)} {K3 : (Nat → Int32)} {K4 : (Nat → Int64)} {E W X Y G : Nat → Int32} {Hd : Nat → Int64} {tv : Int64} {a ev mt : Int32} {h : Nat} {f w x : Int32} {v : Int64} (h1 : lg_cmp v 0 < 0) (hk : K1 w.toNatClampNeg = 7) : mj (fX4_goesScale B3 B4 K1 K2 K3 K4 E (nI (h + 1)) W X Y G Hd tv f a ev w x 1 v) mt = (E, nI (h + 1), W, X, Y, G, Hd, tv, 2, a, ev, mt) := by
  unfold mj fX4_goesScale
  rw [hk, if_neg (show ¬ (7 : Int32) = 11 by decide), if_pos (show (2 : Int32) ≤ (7 : Int32) by decide), if_neg (show ¬ (7 : Int32) = 8 by decide), if_neg (show ¬ (7 : Int32) = 9 by decide), if_neg (show ¬ (7 : Int32) = 10 by decide), if_neg (show ¬ (1 : Int32) = 0 by decide), if_pos (show (7 : Int32) = 7 by decide)]
  rw [if_pos h1]
theorem gS_7_1b {B3 : (Nat → Int64)} {B4 : (Nat → Int64)} {K1 : (Nat → Int32)} {K2 : (Nat → Int32)} {K3 : (Nat → Int32)} {K4 : (Nat → Int64)} {E W X Y G : Nat → Int32} {Hd : Nat → Int64} {tv : Int64} {a ev mt : Int32} {h : Nat} {f w x : Int32} {v : Int64} (h1 : ¬ lg_cmp v 0 < 0) (h2 : ¬ lg_cmp v 7 ≤ 0) (hk : K1 w.toNatClampNeg = 7) : mj (fX4_goesScale B3 B4 K1 K2 K3 K4 E (nI (h + 1)) W X Y G Hd tv f a ev w x 1 v) mt = (E, nI (h + 1), W, X, Y, G, Hd, tv, 2, a, ev, mt) := by
  unfold mj fX4_goesScale
  rw [hk, if_neg (show ¬ (7 : Int32) = 11 by decide), if_pos (show (2 : Int32) ≤ (7 : Int32) by decide), if_neg (show ¬ (7 : Int32) = 8 by decide), if_neg (show ¬ (7 : Int32) = 9 by decide), if_neg (show ¬ (7 : Int32) = 10 by decide), if_neg (show ¬ (1 : Int32) = 0 by decide), if_pos (show (7 : Int32) = 7 by decide)]
  rw [if_neg h1, if_neg h2]
