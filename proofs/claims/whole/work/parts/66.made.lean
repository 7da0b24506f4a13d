/-! what is made stands in both -/
section ZM
variable {B : dB} {S : dS} {V : dV} {O : dO} {G : dG} {F : dF} {T : dT} {B0 : Int32} {B1 : Int32} {B2 : Int64} {B3 : (Nat → Int64)} {B4 : (Nat → Int64)} {B5 : (Nat → Int32)} {K0 : (Nat → Int32)} {K1 : (Nat → Int32)} {K2 : (Nat → Int32)} {K3 : (Nat → Int32)} {K4 : (Nat → Int64)} {E0 : (Nat → Int32)} {U1 : Int32} {U2 : Int32} {U3 : Int32} {U4 : Int32} {U5 : Int32} {G0 : Int32} {G1 : (Nat → Int64)} {G2 : (Nat → Int32)} {G3 : (Nat → Int64)} {G4 : (Nat → Int32)} {B6 : (Nat → Int32)} {M0 : Int32} {M1 : (Nat → Int32)} {M2 : (Nat → Int32)} {M3 : (Nat → Int32)} {M4 : (Nat → Int32)} {M5 : (Nat → Int64)} {M6 : Int64} {M7 : Int32} {U0 : Int32} {N0 : (Nat → Int64)} {N1 : (Nat → Int32)} {N2 : (Nat → Int64)} {N3 : (Nat → Int32)} {nt k sn vn on g m : Nat} {rs rv ro : Nat → Nat}
def updN (f : Nat → Nat) (i v : Nat) : Nat → Nat := fun j => if j = i then v else f j
theorem updN_s {f : Nat → Nat} {i v : Nat} : updN f i v i = v := if_pos rfl
theorem updN_n {f : Nat → Nat} {i v j : Nat} (h : j ≠ i) : updN f i v j = f j := if_neg h
theorem op_up {sz : Nat} {r : Nat → Nat} {w n : Nat} {x : Int32} (h : dz_op sz r n x) : dz_op (sz + 1) (updN r sz w) n x := by
  have h2 := dz_opLt h
  refine ⟨fun z => h.1 (z.imp id (fun y => by omega)), ?_⟩
  rw [updN_n (by omega)]; exact h.2
theorem op_new {sz : Nat} {r : Nat → Nat} {w : Nat} {x : Int32} (hr : ∀ i, i < sz → r i < w) (h : vp_in x sz) : dz_op (sz + 1) (updN r sz w) w x := op_up ⟨h, hr _ (Nat.lt_of_not_le (fun z => h (Or.inr z)))⟩
theorem op_same {sz : Nat} {r : Nat → Nat} {w : Nat} {x : Int32} (hr : ∀ i, i < sz → r i < w) (h : vp_in x sz) : dz_op sz r w x := ⟨h, hr _ (Nat.lt_of_not_le (fun z => h (Or.inr z)))⟩
theorem made_eq {so n : Nat} {s p1 p2 p3 : Int32} {v : Int64} (hs : s = nI so) (hso : so < 3) (e : K0 so = nI n) (hn : n < 24) : fX4_made K0 K1 K2 K3 K4 E0 s p1 p2 p3 v = (nI n, upd K0 so (nI (n + 1)), upd K1 (24 * so + n) p1, upd K2 (24 * so + n) p2, upd K3 (24 * so + n) p3, vp_updL K4 (24 * so + n) v, upd E0 (24 * so + n) 0) := by
  subst hs
  unfold fX4_made
  rw [nI_clamp (by omega), e, i32_sN, nI_clamp (by omega), pk_us, nI_1, nI_pred]
theorem make_eq {S : dS} {n : Nat} {p1 p2 p3 : Int32} {v : Int64} (e : S.2.2.2.2 = nI n) (hn : n < 24) : fX1_make S p1 p2 p3 v = (nI n, upd S.1 n p1, upd S.2.1 n p2, upd S.2.2.1 n p3, vp_updL S.2.2.2.1 n v, nI (n + 1)) := by
  unfold fX1_make
  rw [e, nI_clamp (by omega), nI_1]
theorem full_iff {S : dS} {n : Nat} (e : S.2.2.2.2 = nI n) (hn : n ≤ 24) : (fX1_isFull S = 0 ↔ ¬ nI n = 24) := by
  unfold fX1_isFull
  rw [e]
  rcases Nat.lt_or_ge n 24 with z | z
  · have h5 : nI n < 24 := (nI_ltI (a := n) (b := 24) (by omega) (by decide)).mpr z
    rw [if_pos h5]
    exact ⟨fun _ q => absurd ((nI_eq (b := 24) (by omega) (by decide)).mp q) (by omega), fun _ => rfl⟩
  · have h5 : ¬ nI n < 24 := fun q => absurd ((nI_ltI (a := n) (b := 24) (by omega) (by decide)).mp q) (by omega)
    rw [if_neg h5, show n = 24 from by omega]
    exact ⟨fun q => absurd q (by decide), fun q => absurd rfl q⟩
theorem tab_S {p1 p2 p3 : Int32} {v : Int64} (hT : dz_tab S V O sn vn on rs rv ro) (hS : ∀ i, i < sn → rs i < sn + vn + on) (hV : ∀ i, i < vn → rv i < sn + vn + on) (hO : ∀ i, i < on → ro i < sn + vn + on) (hc : (p1 = 0 → ∃ c, c < 3 ∧ p2 = nI c) ∧ (p1 = 2 ∨ p1 = 3 ∨ p1 = 4 ∨ p1 = 5 → vp_in p2 sn ∧ vp_in p3 sn) ∧ (p1 = 6 → vp_in p2 vn ∧ vp_in p3 sn) ∧ (p1 = 7 → vp_in p2 sn)) : dz_tab (upd S.1 sn p1, upd S.2.1 sn p2, upd S.2.2.1 sn p3, vp_updL S.2.2.2.1 sn v, nI (sn + 1)) V O (sn + 1) vn on (updN rs sn (sn + vn + on)) rv ro := by
  refine ⟨?_, ?_, ?_⟩
  · intro i hi
    by_cases hne : i = sn
    · subst hne
      dsimp only
      rw [pk_us, pk_us, pk_us, updN_s]
      exact ⟨hc.1, fun z => ⟨op_new hS ((hc.2.1 z).1), op_new hS ((hc.2.1 z).2)⟩, fun z => ⟨op_same hV ((hc.2.2.1 z).1), op_new hS ((hc.2.2.1 z).2)⟩, fun z => op_new hS (hc.2.2.2 z)⟩
    · dsimp only
      rw [pk_un hne, pk_un hne, pk_un hne, updN_n hne]
      have q := hT.1 i (by omega)
      exact ⟨q.1, fun z => ⟨op_up ((q.2.1 z).1), op_up ((q.2.1 z).2)⟩, fun z => ⟨(q.2.2.1 z).1, op_up ((q.2.2.1 z).2)⟩, fun z => op_up (q.2.2.2 z)⟩
  · intro i hi
    have q := hT.2.1 i hi
    exact ⟨fun z => ⟨op_up ((q.1 z).1), op_up ((q.1 z).2)⟩, fun z => q.2.1 z, fun z => ⟨(q.2.2 z).1, (q.2.2 z).2⟩⟩
  · intro i hi
    have q := hT.2.2 i hi
    exact ⟨fun z => op_up (q.1 z), fun z => q.2.1 z, fun z => ⟨(q.2.2.1 z).1, (q.2.2.1 z).2⟩, fun z => q.2.2.2 z⟩
theorem mtab_S {p1 p2 p3 : Int32} {v : Int64} (hM : mTab S V O K1 K2 K3 sn vn on) (hsn : sn ≤ 24) (hvn : vn ≤ 24) (hon : on ≤ 24) (hlt : sn < 24) (hk : ∃ k : Nat, k ≤ 11 ∧ p1 = nI k) : mTab (upd S.1 sn p1, upd S.2.1 sn p2, upd S.2.2.1 sn p3, vp_updL S.2.2.2.1 sn v, nI (sn + 1)) V O (upd K1 (0 + sn) p1) (upd K2 (0 + sn) p2) (upd K3 (0 + sn) p3) (sn + 1) vn on := by
  refine ⟨?_, ?_, ?_⟩
  · intro i hi
    by_cases hne : i = sn
    · subst hne
      show upd K1 (0 + i) p1 (i) = upd S.1 i p1 i ∧ upd K2 (0 + i) p2 (i) = upd S.2.1 i p2 i ∧ upd K3 (0 + i) p3 (i) = upd S.2.2.1 i p3 i ∧ ∃ k : Nat, k ≤ 11 ∧ upd S.1 i p1 i = nI k
      rw [Nat.zero_add]
      rw [pk_us, pk_us, pk_us, pk_us, pk_us, pk_us]
      exact ⟨rfl, rfl, rfl, hk⟩
    · show upd K1 (0 + sn) p1 (i) = upd S.1 sn p1 i ∧ upd K2 (0 + sn) p2 (i) = upd S.2.1 sn p2 i ∧ upd K3 (0 + sn) p3 (i) = upd S.2.2.1 sn p3 i ∧ ∃ k : Nat, k ≤ 11 ∧ upd S.1 sn p1 i = nI k
      rw [pk_un (by omega), pk_un (by omega), pk_un (by omega), pk_un (by omega), pk_un (by omega), pk_un (by omega)]
      exact hM.1 i (by omega)
  · intro i hi
    rw [pk_un (by omega), pk_un (by omega), pk_un (by omega)]
    exact hM.2.1 i hi
  · intro i hi
    rw [pk_un (by omega), pk_un (by omega), pk_un (by omega)]
    exact hM.2.2 i hi
theorem cnt_S {p1 p2 p3 : Int32} {v : Int64} (hC : mCnt S V K4 E0 sn vn m) (hsn : sn ≤ 24) (hvn : vn ≤ 24) (hlt : sn < 24) (hv : p1 = 10 → v = 0) : mCnt (upd S.1 sn p1, upd S.2.1 sn p2, upd S.2.2.1 sn p3, vp_updL S.2.2.2.1 sn v, nI (sn + 1)) V (vp_updL K4 (0 + sn) v) (upd E0 (0 + sn) 0) (sn + 1) vn m := by
  refine ⟨fun i hi => ?_, fun i hi hv6 => ?_⟩
  · rw [Nat.zero_add]
    by_cases hne : i = sn
    · subst hne
      dsimp only
      rw [pk_us, pk_uLs, pk_uLs, pk_us]
      exact ⟨fun _ => rfl, fun z => ⟨0, Nat.zero_le _, hv z, rfl⟩⟩
    · dsimp only
      rw [pk_un hne, pk_uLn hne, pk_uLn hne, pk_un hne]
      exact hC.1 i (by omega)
  · rw [pk_un (by omega)]
    exact hC.2 i hi hv6
theorem rel_S (h : zRel B S V O G T B0 B1 B2 B3 B4 B5 K0 K1 K2 K3 K4 E0 U1 U2 U3 U4 U5 G0 G1 G2 G3 G4 nt k sn vn on g m rs rv ro) {p1 p2 p3 : Int32} {v : Int64} (hlt : sn < 24) (hk : ∃ k : Nat, k ≤ 11 ∧ p1 = nI k) (hc : (p1 = 0 → ∃ c, c < 3 ∧ p2 = nI c) ∧ (p1 = 2 ∨ p1 = 3 ∨ p1 = 4 ∨ p1 = 5 → vp_in p2 sn ∧ vp_in p3 sn) ∧ (p1 = 6 → vp_in p2 vn ∧ vp_in p3 sn) ∧ (p1 = 7 → vp_in p2 sn)) (hv : p1 = 10 → v = 0) : zRel B (upd S.1 sn p1, upd S.2.1 sn p2, upd S.2.2.1 sn p3, vp_updL S.2.2.2.1 sn v, nI (sn + 1)) V O G T B0 B1 B2 B3 B4 B5 (upd K0 0 (nI (sn + 1))) (upd K1 (0 + sn) p1) (upd K2 (0 + sn) p2) (upd K3 (0 + sn) p3) (vp_updL K4 (0 + sn) v) (upd E0 (0 + sn) 0) U1 U2 U3 U4 U5 G0 G1 G2 G3 G4 nt k (sn + 1) vn on g m (updN rs sn (sn + vn + on)) rv ro := by
  obtain ⟨hB, ⟨⟨k1, k2, k3, k4, k5, k6, k7, k8, k9, k10⟩, hM, e0, e1, e2⟩, hT, hC, hG⟩ := h
  refine ⟨hB, ⟨⟨by omega, k2, k3, rfl, k5, k6, tab_S k7 k8 k9 k10 hc, ?_, ?_, ?_⟩, mtab_S hM k1 k2 k3 hlt hk, ?_, ?_, ?_⟩, hT, cnt_S (p1 := p1) (p2 := p2) (p3 := p3) hC k1 k2 hlt hv, hG⟩
  · intro i hi
    by_cases hne : i = sn
    · subst hne; rw [updN_s]; omega
    · rw [updN_n hne]; have := k8 i (by omega); omega
  · intro i hi
    have := k9 i hi; omega
  · intro i hi
    have := k10 i hi; omega
  · exact pk_us
  · rw [pk_un (by decide)]; exact e1
  · rw [pk_un (by decide)]; exact e2
theorem tab_V {p1 p2 p3 : Int32} {v : Int64} (hT : dz_tab S V O sn vn on rs rv ro) (hS : ∀ i, i < sn → rs i < sn + vn + on) (hV : ∀ i, i < vn → rv i < sn + vn + on) (hO : ∀ i, i < on → ro i < sn + vn + on) (hc : (p1 = 1 ∨ p1 = 2 → vp_in p2 sn ∧ vp_in p3 sn) ∧ (p1 = 3 ∨ p1 = 8 → vp_in p2 vn) ∧ (p1 = 4 ∨ p1 = 5 → vp_in p2 vn ∧ vp_in p3 vn)) : dz_tab S (upd V.1 vn p1, upd V.2.1 vn p2, upd V.2.2.1 vn p3, vp_updL V.2.2.2.1 vn v, nI (vn + 1)) O sn (vn + 1) on rs (updN rv vn (sn + vn + on)) ro := by
  refine ⟨?_, ?_, ?_⟩
  · intro i hi
    have q := hT.1 i hi
    exact ⟨q.1, fun z => ⟨(q.2.1 z).1, (q.2.1 z).2⟩, fun z => ⟨op_up ((q.2.2.1 z).1), (q.2.2.1 z).2⟩, fun z => q.2.2.2 z⟩
  · intro i hi
    by_cases hne : i = vn
    · subst hne
      dsimp only
      rw [pk_us, pk_us, pk_us, updN_s]
      exact ⟨fun z => ⟨op_same hS ((hc.1 z).1), op_same hS ((hc.1 z).2)⟩, fun z => op_new hV (hc.2.1 z), fun z => ⟨op_new hV ((hc.2.2 z).1), op_new hV ((hc.2.2 z).2)⟩⟩
    · dsimp only
      rw [pk_un hne, pk_un hne, pk_un hne, updN_n hne]
      have q := hT.2.1 i (by omega)
      exact ⟨fun z => ⟨(q.1 z).1, (q.1 z).2⟩, fun z => op_up (q.2.1 z), fun z => ⟨op_up ((q.2.2 z).1), op_up ((q.2.2 z).2)⟩⟩
  · intro i hi
    have q := hT.2.2 i hi
    exact ⟨fun z => q.1 z, fun z => q.2.1 z, fun z => ⟨(q.2.2.1 z).1, (q.2.2.1 z).2⟩, fun z => op_up (q.2.2.2 z)⟩
theorem mtab_V {p1 p2 p3 : Int32} {v : Int64} (hM : mTab S V O K1 K2 K3 sn vn on) (hsn : sn ≤ 24) (hvn : vn ≤ 24) (hon : on ≤ 24) (hlt : vn < 24) (hk : ∃ k : Nat, k ≤ 9 ∧ p1 = nI k) : mTab S (upd V.1 vn p1, upd V.2.1 vn p2, upd V.2.2.1 vn p3, vp_updL V.2.2.2.1 vn v, nI (vn + 1)) O (upd K1 (24 + vn) p1) (upd K2 (24 + vn) p2) (upd K3 (24 + vn) p3) sn (vn + 1) on := by
  refine ⟨?_, ?_, ?_⟩
  · intro i hi
    rw [pk_un (by omega), pk_un (by omega), pk_un (by omega)]
    exact hM.1 i hi
  · intro i hi
    by_cases hne : i = vn
    · subst hne
      show upd K1 (24 + i) p1 (24 + i) = upd V.1 i p1 i ∧ upd K2 (24 + i) p2 (24 + i) = upd V.2.1 i p2 i ∧ upd K3 (24 + i) p3 (24 + i) = upd V.2.2.1 i p3 i ∧ ∃ k : Nat, k ≤ 9 ∧ upd V.1 i p1 i = nI k
      skip
      rw [pk_us, pk_us, pk_us, pk_us, pk_us, pk_us]
      exact ⟨rfl, rfl, rfl, hk⟩
    · show upd K1 (24 + vn) p1 (24 + i) = upd V.1 vn p1 i ∧ upd K2 (24 + vn) p2 (24 + i) = upd V.2.1 vn p2 i ∧ upd K3 (24 + vn) p3 (24 + i) = upd V.2.2.1 vn p3 i ∧ ∃ k : Nat, k ≤ 9 ∧ upd V.1 vn p1 i = nI k
      rw [pk_un (by omega), pk_un (by omega), pk_un (by omega), pk_un (by omega), pk_un (by omega), pk_un (by omega)]
      exact hM.2.1 i (by omega)
  · intro i hi
    rw [pk_un (by omega), pk_un (by omega), pk_un (by omega)]
    exact hM.2.2 i hi
theorem cnt_V {p1 p2 p3 : Int32} {v : Int64} (hC : mCnt S V K4 E0 sn vn m) (hsn : sn ≤ 24) (hvn : vn ≤ 24) (hlt : vn < 24) (hv : v = 0) : mCnt S (upd V.1 vn p1, upd V.2.1 vn p2, upd V.2.2.1 vn p3, vp_updL V.2.2.2.1 vn v, nI (vn + 1)) (vp_updL K4 (24 + vn) v) (upd E0 (24 + vn) 0) sn (vn + 1) m := by
  refine ⟨fun i hi => ?_, fun i hi => ?_⟩
  · rw [pk_uLn (by omega), pk_un (by omega)]
    exact hC.1 i hi
  · by_cases hne : i = vn
    · subst hne
      dsimp only
      rw [pk_us, pk_us, pk_uLs, pk_us]
      exact fun z => ⟨0, Nat.zero_le _, hv, by rw [Nat.zero_mod]; rfl⟩
    · dsimp only
      rw [pk_un hne, pk_un hne, pk_uLn hne, pk_un (by omega)]
      exact hC.2 i (by omega)
theorem rel_V (h : zRel B S V O G T B0 B1 B2 B3 B4 B5 K0 K1 K2 K3 K4 E0 U1 U2 U3 U4 U5 G0 G1 G2 G3 G4 nt k sn vn on g m rs rv ro) {p1 p2 p3 : Int32} {v : Int64} (hlt : vn < 24) (hk : ∃ k : Nat, k ≤ 9 ∧ p1 = nI k) (hc : (p1 = 1 ∨ p1 = 2 → vp_in p2 sn ∧ vp_in p3 sn) ∧ (p1 = 3 ∨ p1 = 8 → vp_in p2 vn) ∧ (p1 = 4 ∨ p1 = 5 → vp_in p2 vn ∧ vp_in p3 vn)) (hv : v = 0) : zRel B S (upd V.1 vn p1, upd V.2.1 vn p2, upd V.2.2.1 vn p3, vp_updL V.2.2.2.1 vn v, nI (vn + 1)) O G T B0 B1 B2 B3 B4 B5 (upd K0 1 (nI (vn + 1))) (upd K1 (24 + vn) p1) (upd K2 (24 + vn) p2) (upd K3 (24 + vn) p3) (vp_updL K4 (24 + vn) v) (upd E0 (24 + vn) 0) U1 U2 U3 U4 U5 G0 G1 G2 G3 G4 nt k sn (vn + 1) on g m rs (updN rv vn (sn + vn + on)) ro := by
  obtain ⟨hB, ⟨⟨k1, k2, k3, k4, k5, k6, k7, k8, k9, k10⟩, hM, e0, e1, e2⟩, hT, hC, hG⟩ := h
  refine ⟨hB, ⟨⟨k1, by omega, k3, k4, rfl, k6, tab_V k7 k8 k9 k10 hc, ?_, ?_, ?_⟩, mtab_V hM k1 k2 k3 hlt hk, ?_, ?_, ?_⟩, hT, cnt_V (p1 := p1) (p2 := p2) (p3 := p3) hC k1 k2 hlt hv, hG⟩
  · intro i hi
    have := k8 i hi; omega
  · intro i hi
    by_cases hne : i = vn
    · subst hne; rw [updN_s]; omega
    · rw [updN_n hne]; have := k9 i (by omega); omega
  · intro i hi
    have := k10 i hi; omega
  · rw [pk_un (by decide)]; exact e0
  · exact pk_us
  · rw [pk_un (by decide)]; exact e2
theorem tab_O {p1 p2 p3 : Int32} {v : Int64} (hT : dz_tab S V O sn vn on rs rv ro) (hS : ∀ i, i < sn → rs i < sn + vn + on) (hV : ∀ i, i < vn → rv i < sn + vn + on) (hO : ∀ i, i < on → ro i < sn + vn + on) (hc : (p1 = 0 → vp_in p2 sn) ∧ (p1 = 1 → vp_in p2 on) ∧ (p1 = 2 → vp_in p2 on ∧ vp_in p3 on) ∧ (p1 = 3 → vp_in p2 vn)) : dz_tab S V (upd O.1 on p1, upd O.2.1 on p2, upd O.2.2.1 on p3, vp_updL O.2.2.2.1 on v, nI (on + 1)) sn vn (on + 1) rs rv (updN ro on (sn + vn + on)) := by
  refine ⟨?_, ?_, ?_⟩
  · intro i hi
    have q := hT.1 i hi
    exact ⟨q.1, fun z => ⟨(q.2.1 z).1, (q.2.1 z).2⟩, fun z => ⟨(q.2.2.1 z).1, (q.2.2.1 z).2⟩, fun z => q.2.2.2 z⟩
  · intro i hi
    have q := hT.2.1 i hi
    exact ⟨fun z => ⟨(q.1 z).1, (q.1 z).2⟩, fun z => q.2.1 z, fun z => ⟨(q.2.2 z).1, (q.2.2 z).2⟩⟩
  · intro i hi
    by_cases hne : i = on
    · subst hne
      dsimp only
      rw [pk_us, pk_us, pk_us, updN_s]
      exact ⟨fun z => op_same hS (hc.1 z), fun z => op_new hO (hc.2.1 z), fun z => ⟨op_new hO ((hc.2.2.1 z).1), op_new hO ((hc.2.2.1 z).2)⟩, fun z => op_same hV (hc.2.2.2 z)⟩
    · dsimp only
      rw [pk_un hne, pk_un hne, pk_un hne, updN_n hne]
      have q := hT.2.2 i (by omega)
      exact ⟨fun z => q.1 z, fun z => op_up (q.2.1 z), fun z => ⟨op_up ((q.2.2.1 z).1), op_up ((q.2.2.1 z).2)⟩, fun z => q.2.2.2 z⟩
theorem mtab_O {p1 p2 p3 : Int32} {v : Int64} (hM : mTab S V O K1 K2 K3 sn vn on) (hsn : sn ≤ 24) (hvn : vn ≤ 24) (hon : on ≤ 24) (hlt : on < 24) (hk : ∃ k : Nat, k ≤ 5 ∧ p1 = nI k) : mTab S V (upd O.1 on p1, upd O.2.1 on p2, upd O.2.2.1 on p3, vp_updL O.2.2.2.1 on v, nI (on + 1)) (upd K1 (48 + on) p1) (upd K2 (48 + on) p2) (upd K3 (48 + on) p3) sn vn (on + 1) := by
  refine ⟨?_, ?_, ?_⟩
  · intro i hi
    rw [pk_un (by omega), pk_un (by omega), pk_un (by omega)]
    exact hM.1 i hi
  · intro i hi
    rw [pk_un (by omega), pk_un (by omega), pk_un (by omega)]
    exact hM.2.1 i hi
  · intro i hi
    by_cases hne : i = on
    · subst hne
      show upd K1 (48 + i) p1 (48 + i) = upd O.1 i p1 i ∧ upd K2 (48 + i) p2 (48 + i) = upd O.2.1 i p2 i ∧ upd K3 (48 + i) p3 (48 + i) = upd O.2.2.1 i p3 i ∧ ∃ k : Nat, k ≤ 5 ∧ upd O.1 i p1 i = nI k
      skip
      rw [pk_us, pk_us, pk_us, pk_us, pk_us, pk_us]
      exact ⟨rfl, rfl, rfl, hk⟩
    · show upd K1 (48 + on) p1 (48 + i) = upd O.1 on p1 i ∧ upd K2 (48 + on) p2 (48 + i) = upd O.2.1 on p2 i ∧ upd K3 (48 + on) p3 (48 + i) = upd O.2.2.1 on p3 i ∧ ∃ k : Nat, k ≤ 5 ∧ upd O.1 on p1 i = nI k
      rw [pk_un (by omega), pk_un (by omega), pk_un (by omega), pk_un (by omega), pk_un (by omega), pk_un (by omega)]
      exact hM.2.2 i (by omega)
theorem cnt_O {p1 p2 p3 : Int32} {v : Int64} (hC : mCnt S V K4 E0 sn vn m) (hsn : sn ≤ 24) (hvn : vn ≤ 24) (hlt : on < 24) (hv : v = 0) : mCnt S V (vp_updL K4 (48 + on) v) (upd E0 (48 + on) 0) sn vn m := by
  refine ⟨fun i hi => ?_, fun i hi hv6 => ?_⟩
  · rw [pk_uLn (by omega), pk_un (by omega)]
    exact hC.1 i hi
  · rw [pk_un (by omega)]
    exact hC.2 i hi hv6
theorem rel_O (h : zRel B S V O G T B0 B1 B2 B3 B4 B5 K0 K1 K2 K3 K4 E0 U1 U2 U3 U4 U5 G0 G1 G2 G3 G4 nt k sn vn on g m rs rv ro) {p1 p2 p3 : Int32} {v : Int64} (hlt : on < 24) (hk : ∃ k : Nat, k ≤ 5 ∧ p1 = nI k) (hc : (p1 = 0 → vp_in p2 sn) ∧ (p1 = 1 → vp_in p2 on) ∧ (p1 = 2 → vp_in p2 on ∧ vp_in p3 on) ∧ (p1 = 3 → vp_in p2 vn)) (hv : v = 0) : zRel B S V (upd O.1 on p1, upd O.2.1 on p2, upd O.2.2.1 on p3, vp_updL O.2.2.2.1 on v, nI (on + 1)) G T B0 B1 B2 B3 B4 B5 (upd K0 2 (nI (on + 1))) (upd K1 (48 + on) p1) (upd K2 (48 + on) p2) (upd K3 (48 + on) p3) (vp_updL K4 (48 + on) v) (upd E0 (48 + on) 0) U1 U2 U3 U4 U5 G0 G1 G2 G3 G4 nt k sn vn (on + 1) g m rs rv (updN ro on (sn + vn + on)) := by
  obtain ⟨hB, ⟨⟨k1, k2, k3, k4, k5, k6, k7, k8, k9, k10⟩, hM, e0, e1, e2⟩, hT, hC, hG⟩ := h
  refine ⟨hB, ⟨⟨k1, k2, by omega, k4, k5, rfl, tab_O k7 k8 k9 k10 hc, ?_, ?_, ?_⟩, mtab_O hM k1 k2 k3 hlt hk, ?_, ?_, ?_⟩, hT, cnt_O (p1 := p1) (p2 := p2) (p3 := p3) hC k1 k2 hlt hv, hG⟩
  · intro i hi
    have := k8 i hi; omega
  · intro i hi
    have := k9 i hi; omega
  · intro i hi
    by_cases hne : i = on
    · subst hne; rw [updN_s]; omega
    · rw [updN_n hne]; have := k10 i (by omega); omega
  · rw [pk_un (by decide)]; exact e0
  · rw [pk_un (by decide)]; exact e1
  · exact pk_us
theorem cond_V (h : zRel B S V O G T B0 B1 B2 B3 B4 B5 K0 K1 K2 K3 K4 E0 U1 U2 U3 U4 U5 G0 G1 G2 G3 G4 nt k sn vn on g m rs rv ro) {x y z : Int32} (hc : ¬ fX3_canMakeSieve S V x y z = 0) : (∃ k : Nat, k ≤ 9 ∧ x = nI k) ∧ (x = 1 ∨ x = 2 → vp_in y sn ∧ vp_in z sn) ∧ (x = 3 ∨ x = 8 → vp_in y vn) ∧ (x = 4 ∨ x = 5 → vp_in y vn ∧ vp_in z vn) := by
  have hK := h.2.1.1
  have iS : ∀ w, ¬ fX1_has S w = 0 → vp_in w sn := fun w hw => dz_hasIn hw hK.2.2.2.1 hK.1
  have iV : ∀ w, ¬ fX1_has V w = 0 → vp_in w vn := fun w hw => dz_hasIn hw hK.2.2.2.2.1 hK.2.1
  have two : ∀ {P Q : Prop} [Decidable P] [Decidable Q], ¬ ((if P then (0 : Int32) else (if Q then 0 else 1)) = 0) → ¬ P ∧ ¬ Q := by
    intro P Q _ _ hh
    by_cases hp : P
    · rw [if_pos hp] at hh; exact absurd rfl hh
    · rw [if_neg hp, ite01] at hh; exact ⟨hp, hh⟩
  refine ⟨?_, ?_, ?_, ?_⟩
  · have h4 := (fun q => hc ((canV h x y z).mpr q) : ¬ fX4_sieveOk K0 x y z = 0)
    by_cases h0 : fX4_in x 0 9 = 0
    · exact absurd (by unfold fX4_sieveOk; rw [if_pos h0]) h4
    · exact dm_inC (n := 9) (by decide) rfl h0
  · rintro (rfl | rfl)
    · have q := two (show ¬ ((if fX1_has S y = 0 then (0 : Int32) else (if fX1_has S z = 0 then 0 else 1)) = 0) from fun w => hc (by simp only [fX3_canMakeSieve, show (((1 : Int32) = 0) = False) from eq_false (by decide), show (((1 : Int32) = 2) = False) from eq_false (by decide), show (((1 : Int32) = 3) = False) from eq_false (by decide), show (((1 : Int32) = 4) = False) from eq_false (by decide), show (((1 : Int32) = 5) = False) from eq_false (by decide), show (((1 : Int32) = 6) = False) from eq_false (by decide), show (((1 : Int32) = 7) = False) from eq_false (by decide), show (((1 : Int32) = 8) = False) from eq_false (by decide), show (((1 : Int32) = 9) = False) from eq_false (by decide), ↓reduceIte]; exact w)); exact ⟨iS _ q.1, iS _ q.2⟩
    · have q := two (show ¬ ((if fX1_has S y = 0 then (0 : Int32) else (if fX1_has S z = 0 then 0 else 1)) = 0) from fun w => hc (by simp only [fX3_canMakeSieve, show (((2 : Int32) = 0) = False) from eq_false (by decide), show (((2 : Int32) = 1) = False) from eq_false (by decide), show (((2 : Int32) = 3) = False) from eq_false (by decide), show (((2 : Int32) = 4) = False) from eq_false (by decide), show (((2 : Int32) = 5) = False) from eq_false (by decide), show (((2 : Int32) = 6) = False) from eq_false (by decide), show (((2 : Int32) = 7) = False) from eq_false (by decide), show (((2 : Int32) = 8) = False) from eq_false (by decide), show (((2 : Int32) = 9) = False) from eq_false (by decide), ↓reduceIte]; exact w)); exact ⟨iS _ q.1, iS _ q.2⟩
  · rintro (rfl | rfl)
    · exact iV _ (fun w => hc (by simp only [fX3_canMakeSieve, show (((3 : Int32) = 0) = False) from eq_false (by decide), show (((3 : Int32) = 1) = False) from eq_false (by decide), show (((3 : Int32) = 2) = False) from eq_false (by decide), show (((3 : Int32) = 4) = False) from eq_false (by decide), show (((3 : Int32) = 5) = False) from eq_false (by decide), show (((3 : Int32) = 6) = False) from eq_false (by decide), show (((3 : Int32) = 7) = False) from eq_false (by decide), show (((3 : Int32) = 8) = False) from eq_false (by decide), show (((3 : Int32) = 9) = False) from eq_false (by decide), ↓reduceIte]; exact w))
    · exact iV _ (fun w => hc (by simp only [fX3_canMakeSieve, show (((8 : Int32) = 0) = False) from eq_false (by decide), show (((8 : Int32) = 1) = False) from eq_false (by decide), show (((8 : Int32) = 2) = False) from eq_false (by decide), show (((8 : Int32) = 3) = False) from eq_false (by decide), show (((8 : Int32) = 4) = False) from eq_false (by decide), show (((8 : Int32) = 5) = False) from eq_false (by decide), show (((8 : Int32) = 6) = False) from eq_false (by decide), show (((8 : Int32) = 7) = False) from eq_false (by decide), show (((8 : Int32) = 9) = False) from eq_false (by decide), ↓reduceIte]; exact w))
  · rintro (rfl | rfl)
    · have q := two (show ¬ ((if fX1_has V y = 0 then (0 : Int32) else (if fX1_has V z = 0 then 0 else 1)) = 0) from fun w => hc (by simp only [fX3_canMakeSieve, show (((4 : Int32) = 0) = False) from eq_false (by decide), show (((4 : Int32) = 1) = False) from eq_false (by decide), show (((4 : Int32) = 2) = False) from eq_false (by decide), show (((4 : Int32) = 3) = False) from eq_false (by decide), show (((4 : Int32) = 5) = False) from eq_false (by decide), show (((4 : Int32) = 6) = False) from eq_false (by decide), show (((4 : Int32) = 7) = False) from eq_false (by decide), show (((4 : Int32) = 8) = False) from eq_false (by decide), show (((4 : Int32) = 9) = False) from eq_false (by decide), ↓reduceIte]; exact w)); exact ⟨iV _ q.1, iV _ q.2⟩
    · have q := two (show ¬ ((if fX1_has V y = 0 then (0 : Int32) else (if fX1_has V z = 0 then 0 else 1)) = 0) from fun w => hc (by simp only [fX3_canMakeSieve, show (((5 : Int32) = 0) = False) from eq_false (by decide), show (((5 : Int32) = 1) = False) from eq_false (by decide), show (((5 : Int32) = 2) = False) from eq_false (by decide), show (((5 : Int32) = 3) = False) from eq_false (by decide), show (((5 : Int32) = 4) = False) from eq_false (by decide), show (((5 : Int32) = 6) = False) from eq_false (by decide), show (((5 : Int32) = 7) = False) from eq_false (by decide), show (((5 : Int32) = 8) = False) from eq_false (by decide), show (((5 : Int32) = 9) = False) from eq_false (by decide), ↓reduceIte]; exact w)); exact ⟨iV _ q.1, iV _ q.2⟩
theorem cond_O (h : zRel B S V O G T B0 B1 B2 B3 B4 B5 K0 K1 K2 K3 K4 E0 U1 U2 U3 U4 U5 G0 G1 G2 G3 G4 nt k sn vn on g m rs rv ro) {x y z : Int32} (hc : ¬ fX3_canMakeOrder S V O x y z = 0) : (∃ k : Nat, k ≤ 5 ∧ x = nI k) ∧ (x = 0 → vp_in y sn) ∧ (x = 1 → vp_in y on) ∧ (x = 2 → vp_in y on ∧ vp_in z on) ∧ (x = 3 → vp_in y vn) := by
  have hK := h.2.1.1
  have iS : ∀ w, ¬ fX1_has S w = 0 → vp_in w sn := fun w hw => dz_hasIn hw hK.2.2.2.1 hK.1
  have iV : ∀ w, ¬ fX1_has V w = 0 → vp_in w vn := fun w hw => dz_hasIn hw hK.2.2.2.2.1 hK.2.1
  have iO : ∀ w, ¬ fX1_has O w = 0 → vp_in w on := fun w hw => dz_hasIn hw hK.2.2.2.2.2.1 hK.2.2.1
  have two : ∀ {P Q : Prop} [Decidable P] [Decidable Q], ¬ ((if P then (0 : Int32) else (if Q then 0 else 1)) = 0) → ¬ P ∧ ¬ Q := by
    intro P Q _ _ hh
    by_cases hp : P
    · rw [if_pos hp] at hh; exact absurd rfl hh
    · rw [if_neg hp, ite01] at hh; exact ⟨hp, hh⟩
  refine ⟨?_, ?_, ?_, ?_, ?_⟩
  · have h4 := (fun q => hc ((canO h x y z).mpr q) : ¬ fX4_orderOk K0 x y z = 0)
    by_cases h0 : fX4_in x 0 5 = 0
    · exact absurd (by unfold fX4_orderOk; rw [if_pos h0]) h4
    · exact dm_inC (n := 5) (by decide) rfl h0
  · rintro rfl
    exact iS _ (fun w => hc (by simp only [fX3_canMakeOrder, show (((0 : Int32) = 1) = False) from eq_false (by decide), show (((0 : Int32) = 2) = False) from eq_false (by decide), show (((0 : Int32) = 3) = False) from eq_false (by decide), show (((0 : Int32) = 4) = False) from eq_false (by decide), show (((0 : Int32) = 5) = False) from eq_false (by decide), ↓reduceIte]; exact w))
  · rintro rfl
    exact iO _ (fun w => hc (by simp only [fX3_canMakeOrder, show (((1 : Int32) = 0) = False) from eq_false (by decide), show (((1 : Int32) = 2) = False) from eq_false (by decide), show (((1 : Int32) = 3) = False) from eq_false (by decide), show (((1 : Int32) = 4) = False) from eq_false (by decide), show (((1 : Int32) = 5) = False) from eq_false (by decide), ↓reduceIte]; exact w))
  · rintro rfl
    have q := two (show ¬ ((if fX1_has O y = 0 then (0 : Int32) else (if fX1_has O z = 0 then 0 else 1)) = 0) from fun w => hc (by simp only [fX3_canMakeOrder, show (((2 : Int32) = 0) = False) from eq_false (by decide), show (((2 : Int32) = 1) = False) from eq_false (by decide), show (((2 : Int32) = 3) = False) from eq_false (by decide), show (((2 : Int32) = 4) = False) from eq_false (by decide), show (((2 : Int32) = 5) = False) from eq_false (by decide), ↓reduceIte]; exact w)); exact ⟨iO _ q.1, iO _ q.2⟩
  · rintro rfl
    exact iV _ (fun w => hc (by simp only [fX3_canMakeOrder, show (((3 : Int32) = 0) = False) from eq_false (by decide), show (((3 : Int32) = 1) = False) from eq_false (by decide), show (((3 : Int32) = 2) = False) from eq_false (by decide), show (((3 : Int32) = 4) = False) from eq_false (by decide), show (((3 : Int32) = 5) = False) from eq_false (by decide), ↓reduceIte]; exact w))
theorem cond_S (h : zRel B S V O G T B0 B1 B2 B3 B4 B5 K0 K1 K2 K3 K4 E0 U1 U2 U3 U4 U5 G0 G1 G2 G3 G4 nt k sn vn on g m rs rv ro) {x y z : Int32} (hc : ¬ fX3_canMakeScale B S V x y z = 0) : (∃ k : Nat, k ≤ 11 ∧ x = nI k) ∧ (x = 0 → ∃ c, c < 3 ∧ y = nI c) ∧ (x = 2 ∨ x = 3 ∨ x = 4 ∨ x = 5 → vp_in y sn ∧ vp_in z sn) ∧ (x = 6 → vp_in y vn ∧ vp_in z sn) ∧ (x = 7 → vp_in y sn) := by
  have hK := h.2.1.1
  have iS : ∀ w, ¬ fX1_has S w = 0 → vp_in w sn := fun w hw => dz_hasIn hw hK.2.2.2.1 hK.1
  have iV : ∀ w, ¬ fX1_has V w = 0 → vp_in w vn := fun w hw => dz_hasIn hw hK.2.2.2.2.1 hK.2.1
  have two : ∀ {P Q : Prop} [Decidable P] [Decidable Q], ¬ ((if P then (0 : Int32) else (if Q then 0 else 1)) = 0) → ¬ P ∧ ¬ Q := by
    intro P Q _ _ hh
    by_cases hp : P
    · rw [if_pos hp] at hh; exact absurd rfl hh
    · rw [if_neg hp, ite01] at hh; exact ⟨hp, hh⟩
  refine ⟨?_, ?_, ?_, ?_, ?_⟩
  · have h4 := (fun q => hc ((canS h x y z).mpr q) : ¬ fX4_scaleOk B0 K0 x y z = 0)
    by_cases h0 : fX4_in x 0 11 = 0
    · exact absurd (by unfold fX4_scaleOk; rw [if_pos h0]) h4
    · exact dm_inC (n := 11) (by decide) rfl h0
  · rintro rfl
    exact dz_isColumn (fun w => hc (by simp only [fX3_canMakeScale, show (((0 : Int32) = 1) = False) from eq_false (by decide), show (((0 : Int32) = 2) = False) from eq_false (by decide), show (((0 : Int32) = 3) = False) from eq_false (by decide), show (((0 : Int32) = 4) = False) from eq_false (by decide), show (((0 : Int32) = 5) = False) from eq_false (by decide), show (((0 : Int32) = 6) = False) from eq_false (by decide), show (((0 : Int32) = 7) = False) from eq_false (by decide), show (((0 : Int32) = 8) = False) from eq_false (by decide), show (((0 : Int32) = 9) = False) from eq_false (by decide), show (((0 : Int32) = 10) = False) from eq_false (by decide), show (((0 : Int32) = 11) = False) from eq_false (by decide), ↓reduceIte]; exact w))
  · rintro (rfl | rfl | rfl | rfl)
    · have q := two (show ¬ ((if fX1_has S y = 0 then (0 : Int32) else (if fX1_has S z = 0 then 0 else 1)) = 0) from fun w => hc (by simp only [fX3_canMakeScale, show (((2 : Int32) = 0) = False) from eq_false (by decide), show (((2 : Int32) = 1) = False) from eq_false (by decide), show (((2 : Int32) = 3) = False) from eq_false (by decide), show (((2 : Int32) = 4) = False) from eq_false (by decide), show (((2 : Int32) = 5) = False) from eq_false (by decide), show (((2 : Int32) = 6) = False) from eq_false (by decide), show (((2 : Int32) = 7) = False) from eq_false (by decide), show (((2 : Int32) = 8) = False) from eq_false (by decide), show (((2 : Int32) = 9) = False) from eq_false (by decide), show (((2 : Int32) = 10) = False) from eq_false (by decide), show (((2 : Int32) = 11) = False) from eq_false (by decide), ↓reduceIte]; exact w)); exact ⟨iS _ q.1, iS _ q.2⟩
    · have q := two (show ¬ ((if fX1_has S y = 0 then (0 : Int32) else (if fX1_has S z = 0 then 0 else 1)) = 0) from fun w => hc (by simp only [fX3_canMakeScale, show (((3 : Int32) = 0) = False) from eq_false (by decide), show (((3 : Int32) = 1) = False) from eq_false (by decide), show (((3 : Int32) = 2) = False) from eq_false (by decide), show (((3 : Int32) = 4) = False) from eq_false (by decide), show (((3 : Int32) = 5) = False) from eq_false (by decide), show (((3 : Int32) = 6) = False) from eq_false (by decide), show (((3 : Int32) = 7) = False) from eq_false (by decide), show (((3 : Int32) = 8) = False) from eq_false (by decide), show (((3 : Int32) = 9) = False) from eq_false (by decide), show (((3 : Int32) = 10) = False) from eq_false (by decide), show (((3 : Int32) = 11) = False) from eq_false (by decide), ↓reduceIte]; exact w)); exact ⟨iS _ q.1, iS _ q.2⟩
    · have q := two (show ¬ ((if fX1_has S y = 0 then (0 : Int32) else (if fX1_has S z = 0 then 0 else 1)) = 0) from fun w => hc (by simp only [fX3_canMakeScale, show (((4 : Int32) = 0) = False) from eq_false (by decide), show (((4 : Int32) = 1) = False) from eq_false (by decide), show (((4 : Int32) = 2) = False) from eq_false (by decide), show (((4 : Int32) = 3) = False) from eq_false (by decide), show (((4 : Int32) = 5) = False) from eq_false (by decide), show (((4 : Int32) = 6) = False) from eq_false (by decide), show (((4 : Int32) = 7) = False) from eq_false (by decide), show (((4 : Int32) = 8) = False) from eq_false (by decide), show (((4 : Int32) = 9) = False) from eq_false (by decide), show (((4 : Int32) = 10) = False) from eq_false (by decide), show (((4 : Int32) = 11) = False) from eq_false (by decide), ↓reduceIte]; exact w)); exact ⟨iS _ q.1, iS _ q.2⟩
    · have q := two (show ¬ ((if fX1_has S y = 0 then (0 : Int32) else (if fX1_has S z = 0 then 0 else 1)) = 0) from fun w => hc (by simp only [fX3_canMakeScale, show (((5 : Int32) = 0) = False) from eq_false (by decide), show (((5 : Int32) = 1) = False) from eq_false (by decide), show (((5 : Int32) = 2) = False) from eq_false (by decide), show (((5 : Int32) = 3) = False) from eq_false (by decide), show (((5 : Int32) = 4) = False) from eq_false (by decide), show (((5 : Int32) = 6) = False) from eq_false (by decide), show (((5 : Int32) = 7) = False) from eq_false (by decide), show (((5 : Int32) = 8) = False) from eq_false (by decide), show (((5 : Int32) = 9) = False) from eq_false (by decide), show (((5 : Int32) = 10) = False) from eq_false (by decide), show (((5 : Int32) = 11) = False) from eq_false (by decide), ↓reduceIte]; exact w)); exact ⟨iS _ q.1, iS _ q.2⟩
  · rintro rfl
    have q := two (show ¬ ((if fX1_has V y = 0 then (0 : Int32) else (if fX1_has S z = 0 then 0 else 1)) = 0) from fun w => hc (by simp only [fX3_canMakeScale, show (((6 : Int32) = 0) = False) from eq_false (by decide), show (((6 : Int32) = 1) = False) from eq_false (by decide), show (((6 : Int32) = 2) = False) from eq_false (by decide), show (((6 : Int32) = 3) = False) from eq_false (by decide), show (((6 : Int32) = 4) = False) from eq_false (by decide), show (((6 : Int32) = 5) = False) from eq_false (by decide), show (((6 : Int32) = 7) = False) from eq_false (by decide), show (((6 : Int32) = 8) = False) from eq_false (by decide), show (((6 : Int32) = 9) = False) from eq_false (by decide), show (((6 : Int32) = 10) = False) from eq_false (by decide), show (((6 : Int32) = 11) = False) from eq_false (by decide), ↓reduceIte]; exact w)); exact ⟨iV _ q.1, iS _ q.2⟩
  · rintro rfl
    exact iS _ (fun w => hc (by simp only [fX3_canMakeScale, show (((7 : Int32) = 0) = False) from eq_false (by decide), show (((7 : Int32) = 1) = False) from eq_false (by decide), show (((7 : Int32) = 2) = False) from eq_false (by decide), show (((7 : Int32) = 3) = False) from eq_false (by decide), show (((7 : Int32) = 4) = False) from eq_false (by decide), show (((7 : Int32) = 5) = False) from eq_false (by decide), show (((7 : Int32) = 6) = False) from eq_false (by decide), show (((7 : Int32) = 8) = False) from eq_false (by decide), show (((7 : Int32) = 9) = False) from eq_false (by decide), show (((7 : Int32) = 10) = False) from eq_false (by decide), show (((7 : Int32) = 11) = False) from eq_false (by decide), ↓reduceIte]; exact w))
theorem eqn_sieve (h : zRel B S V O G T B0 B1 B2 B3 B4 B5 K0 K1 K2 K3 K4 E0 U1 U2 U3 U4 U5 G0 G1 G2 G3 G4 nt k sn vn on g m rs rv ro) {p1 : Int32} {p2 : Int32} {p3 : Int32} {q : Int32 × dV} {r : Int32 × (Nat → Int32) × (Nat → Int32) × (Nat → Int32) × (Nat → Int32) × (Nat → Int64) × (Nat → Int32)} (hq : fX3_sieve S V p1 p2 p3 = q) (hr : fX4_sieve K0 K1 K2 K3 K4 E0 p1 p2 p3 = r) : q.1 = r.1 ∧ ∃ nt2 k2 sn2 vn2 on2 g2 m2 : Nat, ∃ rs2 rv2 ro2 : Nat → Nat, m2 ≤ m + 2000 ∧ zRel B S q.2 O G T B0 B1 B2 B3 B4 B5 r.2.1 r.2.2.1 r.2.2.2.1 r.2.2.2.2.1 r.2.2.2.2.2.1 r.2.2.2.2.2.2 U1 U2 U3 U4 U5 G0 G1 G2 G3 G4 nt2 k2 sn2 vn2 on2 g2 m2 rs2 rv2 ro2 := by
  subst hq; subst hr
  have hK := h.2.1.1
  have e0 : K0 (1 : Int32).toNatClampNeg = nI vn := h.2.1.2.2.2.1
  unfold fX3_sieve fX4_sieve zw_l
  dsimp only
  by_cases h1 : fX3_canMakeSieve S V p1 p2 p3 = 0
  · rw [if_pos h1, if_pos ((canV h p1 p2 p3).mp h1)]
    exact ⟨rfl, nt, k, sn, vn, on, g, m, rs, rv, ro, Nat.le_add_right _ _, h⟩
  · rw [if_neg h1, if_neg (fun z => h1 ((canV h p1 p2 p3).mpr z)), e0]
    by_cases h2 : fX1_isFull V = 0
    · have h3 := (full_iff hK.2.2.2.2.1 hK.2.1).mp h2
      have hlt := (dz_notFull h2 hK.2.2.2.2.1 hK.2.1).1
      rw [if_pos h2, if_neg h3, make_eq hK.2.2.2.2.1 hlt, made_eq (s := 1) (so := 1) rfl (by decide) h.2.1.2.2.2.1 hlt]
      have cv := cond_V h h1
      exact ⟨rfl, nt, k, sn, vn + 1, on, g, m, rs, updN rv vn (sn + vn + on), ro, Nat.le_add_right _ _, rel_V h hlt cv.1 cv.2 rfl⟩
    · rw [if_neg h2, if_pos (Classical.not_not.mp (fun z => h2 ((full_iff hK.2.2.2.2.1 hK.2.1).mpr z)))]
      exact ⟨rfl, nt, k, sn, vn, on, g, m, rs, rv, ro, Nat.le_add_right _ _, h⟩
theorem eqn_order (h : zRel B S V O G T B0 B1 B2 B3 B4 B5 K0 K1 K2 K3 K4 E0 U1 U2 U3 U4 U5 G0 G1 G2 G3 G4 nt k sn vn on g m rs rv ro) {p1 : Int32} {p2 : Int32} {p3 : Int32} {q : Int32 × dO} {r : Int32 × (Nat → Int32) × (Nat → Int32) × (Nat → Int32) × (Nat → Int32) × (Nat → Int64) × (Nat → Int32)} (hq : fX3_order S V O p1 p2 p3 = q) (hr : fX4_order K0 K1 K2 K3 K4 E0 p1 p2 p3 = r) : q.1 = r.1 ∧ ∃ nt2 k2 sn2 vn2 on2 g2 m2 : Nat, ∃ rs2 rv2 ro2 : Nat → Nat, m2 ≤ m + 2000 ∧ zRel B S V q.2 G T B0 B1 B2 B3 B4 B5 r.2.1 r.2.2.1 r.2.2.2.1 r.2.2.2.2.1 r.2.2.2.2.2.1 r.2.2.2.2.2.2 U1 U2 U3 U4 U5 G0 G1 G2 G3 G4 nt2 k2 sn2 vn2 on2 g2 m2 rs2 rv2 ro2 := by
  subst hq; subst hr
  have hK := h.2.1.1
  have e0 : K0 (2 : Int32).toNatClampNeg = nI on := h.2.1.2.2.2.2
  unfold fX3_order fX4_order zw_l
  dsimp only
  by_cases h1 : fX3_canMakeOrder S V O p1 p2 p3 = 0
  · rw [if_pos h1, if_pos ((canO h p1 p2 p3).mp h1)]
    exact ⟨rfl, nt, k, sn, vn, on, g, m, rs, rv, ro, Nat.le_add_right _ _, h⟩
  · rw [if_neg h1, if_neg (fun z => h1 ((canO h p1 p2 p3).mpr z)), e0]
    by_cases h2 : fX1_isFull O = 0
    · have h3 := (full_iff hK.2.2.2.2.2.1 hK.2.2.1).mp h2
      have hlt := (dz_notFull h2 hK.2.2.2.2.2.1 hK.2.2.1).1
      rw [if_pos h2, if_neg h3, make_eq hK.2.2.2.2.2.1 hlt, made_eq (s := 2) (so := 2) rfl (by decide) h.2.1.2.2.2.2 hlt]
      have cv := cond_O h h1
      exact ⟨rfl, nt, k, sn, vn, on + 1, g, m, rs, rv, updN ro on (sn + vn + on), Nat.le_add_right _ _, rel_O h hlt cv.1 cv.2 rfl⟩
    · rw [if_neg h2, if_pos (Classical.not_not.mp (fun z => h2 ((full_iff hK.2.2.2.2.2.1 hK.2.2.1).mpr z)))]
      exact ⟨rfl, nt, k, sn, vn, on, g, m, rs, rv, ro, Nat.le_add_right _ _, h⟩
end ZM
