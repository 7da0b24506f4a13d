/-! the reference's ask: turns until nothing waits or a failure stands -/
abbrev mY : Type := (Nat → Int32) × Int32 × (Nat → Int32) × (Nat → Int32) × (Nat → Int32) × (Nat → Int32) × (Nat → Int64) × Int64 × Int32 × Int32 × Int32 × Int32
def mT (B3 B4 : Nat → Int64) (K1 K2 K3 : Nat → Int32) (K4 : Nat → Int64) (d : mY) : mY := fX4_step B3 B4 K1 K2 K3 K4 d.1 d.2.1 d.2.2.1 d.2.2.2.1 d.2.2.2.2.1 d.2.2.2.2.2.1 d.2.2.2.2.2.2.1 d.2.2.2.2.2.2.2.1 d.2.2.2.2.2.2.2.2.1 d.2.2.2.2.2.2.2.2.2.1 d.2.2.2.2.2.2.2.2.2.2.1 d.2.2.2.2.2.2.2.2.2.2.2
def mgo (d : mY) : Prop := ¬ d.2.1 ≤ 0 ∧ d.2.2.2.2.2.2.2.2.1 = 0
def msafe (K1 K2 : Nat → Int32) (d : mY) : Prop := (∃ i : Nat, i ≤ 79 ∧ d.2.1 = nI i) ∧ vp_in (d.2.2.1 (d.2.1 - 1).toNatClampNeg) 72 ∧ (d.2.2.1 (d.2.1 - 1).toNatClampNeg < 24 → K1 (d.2.2.1 (d.2.1 - 1).toNatClampNeg).toNatClampNeg = 0 → vp_in (3 * d.2.2.2.1 (d.2.1 - 1).toNatClampNeg + K2 (d.2.2.1 (d.2.1 - 1).toNatClampNeg).toNatClampNeg) 120)
def mit (B3 B4 : Nat → Int64) (K1 K2 K3 : Nat → Int32) (K4 : Nat → Int64) : Nat → mY → mY
  | 0, d => d
  | n + 1, d => mit B3 B4 K1 K2 K3 K4 n (mT B3 B4 K1 K2 K3 K4 d)
/-- from s the turns lead to t -/
def mR (B3 B4 : Nat → Int64) (K1 K2 K3 : Nat → Int32) (K4 : Nat → Int64) (s t : mY) : Prop := ∃ n : Nat, (∀ i, i < n → mgo (mit B3 B4 K1 K2 K3 K4 i s) ∧ msafe K1 K2 (mit B3 B4 K1 K2 K3 K4 i s)) ∧ mit B3 B4 K1 K2 K3 K4 n s = t
theorem mR.rf {B3 : (Nat → Int64)} {B4 : (Nat → Int64)} {K1 : (Nat → Int32)} {K2 : (Nat → Int32)} {K3 : (Nat → Int32)} {K4 : (Nat → Int64)} {s : mY} : mR B3 B4 K1 K2 K3 K4 s s := ⟨0, fun i h => absurd h (Nat.not_lt_zero i), rfl⟩
theorem mR.one {B3 : (Nat → Int64)} {B4 : (Nat → Int64)} {K1 : (Nat → Int32)} {K2 : (Nat → Int32)} {K3 : (Nat → Int32)} {K4 : (Nat → Int64)} {s t : mY} (hg : mgo s) (hs : msafe K1 K2 s) (h : mR B3 B4 K1 K2 K3 K4 (mT B3 B4 K1 K2 K3 K4 s) t) : mR B3 B4 K1 K2 K3 K4 s t := by
  obtain ⟨n, hn, e⟩ := h
  refine ⟨n + 1, fun i hi => ?_, e⟩
  cases i with
  | zero => exact ⟨hg, hs⟩
  | succ i => exact hn i (by omega)
theorem mit_add {B3 : (Nat → Int64)} {B4 : (Nat → Int64)} {K1 : (Nat → Int32)} {K2 : (Nat → Int32)} {K3 : (Nat → Int32)} {K4 : (Nat → Int64)} : ∀ (n m : Nat) (s : mY), mit B3 B4 K1 K2 K3 K4 (n + m) s = mit B3 B4 K1 K2 K3 K4 m (mit B3 B4 K1 K2 K3 K4 n s) := by
  intro n
  induction n with
  | zero => intro m s; rw [Nat.zero_add]; rfl
  | succ n ih => intro m s; rw [Nat.succ_add]; exact ih m (mT B3 B4 K1 K2 K3 K4 s)
theorem mR.tr {B3 : (Nat → Int64)} {B4 : (Nat → Int64)} {K1 : (Nat → Int32)} {K2 : (Nat → Int32)} {K3 : (Nat → Int32)} {K4 : (Nat → Int64)} {s t u : mY} (h1 : mR B3 B4 K1 K2 K3 K4 s t) (h2 : mR B3 B4 K1 K2 K3 K4 t u) : mR B3 B4 K1 K2 K3 K4 s u := by
  obtain ⟨n, hn, rfl⟩ := h1
  obtain ⟨k, hk, rfl⟩ := h2
  refine ⟨n + k, fun i hi => ?_, mit_add n k s⟩
  rcases Nat.lt_or_ge i n with h | h
  · exact hn i h
  · obtain ⟨j, rfl⟩ := Nat.exists_eq_add_of_le h
    rw [mit_add]; exact hk j (by omega)
/-- two ends are one -/
theorem mR.fn {B3 : (Nat → Int64)} {B4 : (Nat → Int64)} {K1 : (Nat → Int32)} {K2 : (Nat → Int32)} {K3 : (Nat → Int32)} {K4 : (Nat → Int64)} {s t u : mY} (h1 : mR B3 B4 K1 K2 K3 K4 s t) (h2 : mR B3 B4 K1 K2 K3 K4 s u) (x1 : ¬ mgo t) (x2 : ¬ mgo u) : t = u := by
  obtain ⟨n, hn, rfl⟩ := h1
  obtain ⟨k, hk, rfl⟩ := h2
  rcases Nat.lt_trichotomy n k with h | h | h
  · exact absurd (hk n h).1 x1
  · rw [h]
  · exact absurd (hn k h).1 x2
set_option maxHeartbeats 4000000 in
theorem kX4_run {p : Program} {l : Launch} {e : Env} {s : State} {m : MethodId} {args : Array Value} {below : List Frame} {meth : Method} {c : Code} {A : Nat → Prop} {Q : State → Prop} {D : va_G} {cI cL : ClassId} {b : Nat → Nat} {B0 : Int32} {B1 : Int32} {B2 : Int64} {B3 : (Nat → Int64)} {B4 : (Nat → Int64)} {B5 : (Nat → Int32)} {B6 : (Nat → Int32)} {K0 : (Nat → Int32)} {K1 : (Nat → Int32)} {K2 : (Nat → Int32)} {K3 : (Nat → Int32)} {K4 : (Nat → Int64)} {U1 : Int32} {U4 : Int32} {U5 : Int32} {G0 : Int32} {G1 : (Nat → Int64)} {G2 : (Nat → Int32)} {G3 : (Nat → Int64)} {G4 : (Nat → Int32)} {N0 : (Nat → Int64)} {N1 : (Nat → Int32)} {N2 : (Nat → Int64)} {N3 : (Nat → Int32)} (C : zw_C p s m args c D (zw_tys cI cL) A RX4 cX4_ask 8) : ∀ (n : Nat) (d : mY), (∀ i, i < n → mgo (mit B3 B4 K1 K2 K3 K4 i d) ∧ msafe K1 K2 (mit B3 B4 K1 K2 K3 K4 i d)) → zw_W p l e (zw_rm 3 75) s m args below meth c D A 8 Q 0 0 (wM cI cL b B0 B1 B2 B3 B4 B5 B6 K0 K1 K2 K3 K4 (mit B3 B4 K1 K2 K3 K4 n d).1 (mit B3 B4 K1 K2 K3 K4 n d).2.1 (mit B3 B4 K1 K2 K3 K4 n d).2.2.1 (mit B3 B4 K1 K2 K3 K4 n d).2.2.2.1 (mit B3 B4 K1 K2 K3 K4 n d).2.2.2.2.1 (mit B3 B4 K1 K2 K3 K4 n d).2.2.2.2.2.1 (mit B3 B4 K1 K2 K3 K4 n d).2.2.2.2.2.2.1 (mit B3 B4 K1 K2 K3 K4 n d).2.2.2.2.2.2.2.1 (mit B3 B4 K1 K2 K3 K4 n d).2.2.2.2.2.2.2.2.1 (mit B3 B4 K1 K2 K3 K4 n d).2.2.2.2.2.2.2.2.2.1 U1 (mit B3 B4 K1 K2 K3 K4 n d).2.2.2.2.2.2.2.2.2.2.1 (mit B3 B4 K1 K2 K3 K4 n d).2.2.2.2.2.2.2.2.2.2.2 U4 U5 G0 G1 G2 G3 G4 N0 N1 N2 N3) 19 [(0, .ref (b 0))] [] → zw_W p l e (zw_rm 3 75) s m args below meth c D A 8 Q 0 0 (wM cI cL b B0 B1 B2 B3 B4 B5 B6 K0 K1 K2 K3 K4 d.1 d.2.1 d.2.2.1 d.2.2.2.1 d.2.2.2.2.1 d.2.2.2.2.2.1 d.2.2.2.2.2.2.1 d.2.2.2.2.2.2.2.1 d.2.2.2.2.2.2.2.2.1 d.2.2.2.2.2.2.2.2.2.1 U1 d.2.2.2.2.2.2.2.2.2.2.1 d.2.2.2.2.2.2.2.2.2.2.2 U4 U5 G0 G1 G2 G3 G4 N0 N1 N2 N3) 19 [(0, .ref (b 0))] [] := by
  intro n
  induction n with
  | zero => intro d _ k; exact k
  | succ n ih =>
    intro d h k
    have h0 := h 0 (Nat.succ_pos n)
    exact kX4_step C h0.1.1 h0.1.2 h0.2.1 h0.2.2.1 h0.2.2.2 rfl (ih (mT B3 B4 K1 K2 K3 K4 d) (fun i hi => h (i + 1) (by omega)) k)
