/-! the calls that ask -/
section ZU
variable {B : dB} {S : dS} {V : dV} {O : dO} {G : dG} {F : dF} {T : dT} {B0 : Int32} {B1 : Int32} {B2 : Int64} {B3 : (Nat → Int64)} {B4 : (Nat → Int64)} {B5 : (Nat → Int32)} {K0 : (Nat → Int32)} {K1 : (Nat → Int32)} {K2 : (Nat → Int32)} {K3 : (Nat → Int32)} {K4 : (Nat → Int64)} {E0 : (Nat → Int32)} {U1 : Int32} {U2 : Int32} {U3 : Int32} {U4 : Int32} {U5 : Int32} {G0 : Int32} {G1 : (Nat → Int64)} {G2 : (Nat → Int32)} {G3 : (Nat → Int64)} {G4 : (Nat → Int32)} {B6 : (Nat → Int32)} {M0 : Int32} {M1 : (Nat → Int32)} {M2 : (Nat → Int32)} {M3 : (Nat → Int32)} {M4 : (Nat → Int32)} {M5 : (Nat → Int64)} {M6 : Int64} {M7 : Int32} {U0 : Int32} {N0 : (Nat → Int64)} {N1 : (Nat → Int32)} {N2 : (Nat → Int64)} {N3 : (Nat → Int32)} {nt k sn vn on g m : Nat} {rs rv ro : Nat → Nat}
/-- a failure that stands is none, or one of four -/
def sdo (T : dT) : Prop := T.2.2.2.2.2 = 0 ∨ T.2.2.2.2.2 = 1 ∨ T.2.2.2.2.2 = 2 ∨ T.2.2.2.2.2 = 3 ∨ T.2.2.2.2.2 = 4
/-- the counts of failed calls, and the latest failure, are not changed by askings -/
def kp (T T2 : dT) : Prop := T2.2.2.2.1 = T.2.2.2.1 ∧ T2.2.2.2.2.1 = T.2.2.2.2.1 ∧ (sdo T → sdo T2)
theorem kp_r {T : dT} : kp T T := ⟨rfl, rfl, id⟩
theorem kp_tr {T T2 T3 : dT} (h : kp T T2) (h2 : kp T2 T3) : kp T T3 := ⟨h2.1.trans h.1, h2.2.1.trans h.2.1, fun z => h2.2.2 (h.2.2 z)⟩
theorem kp_fail {T : dT} {x : Int32} (hx : x = 0 ∨ x = 1 ∨ x = 2 ∨ x = 3 ∨ x = 4) : kp T (fX2_fail T x) := by
  unfold fX2_fail
  split
  · exact ⟨rfl, rfl, fun _ => hx⟩
  · exact kp_r
set_option maxHeartbeats 200000 in
theorem kp_ba {T : dT} : kp T (fX2_beginsAsking T).2 := by
  unfold fX2_beginsAsking zw_l
  split
  · split
    · exact ⟨rfl, rfl, id⟩
    · exact kp_fail (by decide)
  · exact kp_r
theorem kp_meet {T : dT} : kp T (fX2_meetsFailure T).2 := by
  unfold fX2_meetsFailure
  split
  · exact kp_r
  · split
    · exact kp_r
    · exact ⟨rfl, rfl, fun _ => Or.inl rfl⟩
theorem kp_quo {T : dT} {x y : Int64} : kp T (fX3_quotient T x y).2 := by
  unfold fX3_quotient zw_l
  split
  · exact kp_fail (by decide)
  · exact kp_r
theorem kp_item {T : dT} {f : Nat → Int64} {y : Int64} : kp T (fX3_itemAt f T y).2 := by
  unfold fX3_itemAt zw_l
  split
  · exact kp_fail (by decide)
  · exact kp_r
abbrev kpS (f : dFS) : Prop := ∀ d i t, kp d.2.2 (f d i t).2.2.2
abbrev kpV (f : dFV) : Prop := ∀ d i t, kp d.2.2 (f d i t).2.2.2
abbrev kpO (f : dFO) : Prop := ∀ d i x y, kp d.2.2 (f d i x y).2.2.2
theorem kp_rt {T T2 T3 : dT} (h2 : kp T2 T3) (h : kp T T2) : kp T T3 := kp_tr h h2
theorem kp_ite {α : Type} {c : Prop} [Decidable c] {a b : α × dY} {T : dT} (h1 : kp T a.2.2.2) (h2 : kp T b.2.2.2) : kp T (if c then a else b).2.2.2 := by
  by_cases h : c
  · rw [if_pos h]; exact h1
  · rw [if_neg h]; exact h2
set_option maxHeartbeats 200000 in
theorem kp_bF {fV : dFV} (hV : kpV fV) {d : dY} {i t : Int32} : kp d.2.2 (bF fV d i t).2.2.2 := by
  unfold bF zw_l
  exact kp_ite (kp_ite (kp_rt kp_meet (hV _ _ _)) (kp_rt kp_meet (hV _ _ _))) (kp_rt kp_meet (hV _ _ _))
set_option maxHeartbeats 200000 in
theorem kp_bH {fO : dFO} (hO : kpO fO) {d : dY} {i j x y : Int32} : kp d.2.2 (bH fO d i j x y).2.2.2 := by
  unfold bH zw_l
  exact kp_ite (kp_rt (hO _ _ _ _) (hO _ _ _ _)) (hO _ _ _ _)
set_option maxHeartbeats 200000 in
theorem kp_bR {fV : dFV} (hV : kpV fV) {d : dY} {i t : Int32} : kp d.2.2 (bR fV d i t).2.2.2 := by
  unfold bR zw_l
  exact kp_ite (hV _ _ _) (hV _ _ _)
set_option maxHeartbeats 200000 in
theorem kp_bS {fS : dFS} {fV : dFV} (hS : kpS fS) (hV : kpV fV) {ce rw : Nat → Int64} {sk sa sb : Nat → Int32} : kpS (bS fS fV ce rw sk sa sb) := by
  intro d i t
  unfold bS zw_l
  exact kp_ite (kp_ba) (kp_ite (kp_ba) (kp_ite (kp_ba) (kp_ite (kp_rt (hS _ _ _) (kp_rt (hS _ _ _) kp_ba)) (kp_ite (kp_rt (hS _ _ _) (kp_rt (hS _ _ _) kp_ba)) (kp_ite (kp_rt kp_quo (kp_rt (hS _ _ _) (kp_rt (hS _ _ _) kp_ba))) (kp_ite (kp_rt (hS _ _ _) (kp_rt (hS _ _ _) kp_ba)) (kp_ite (kp_ite (kp_rt (hV _ _ _) kp_ba) (kp_rt (hS _ _ _) (kp_rt (hV _ _ _) kp_ba))) (kp_ite (kp_rt kp_item (kp_rt (hS _ _ _) kp_ba)) (kp_ite (kp_ba) (kp_ite (kp_ba) (kp_ite (kp_ba) (kp_rt (kp_fail (by decide)) kp_ba))))))))))))
set_option maxHeartbeats 200000 in
theorem kp_bV {fS : dFS} {fV : dFV} (hS : kpS fS) (hV : kpV fV) {vk va vb : Nat → Int32} : kpV (bV fS fV vk va vb) := by
  intro d i t
  unfold bV zw_l
  exact kp_ite (kp_ba) (kp_ite (kp_ba) (kp_ite (kp_ite (kp_rt (hS _ _ _) (kp_rt (hS _ _ _) kp_ba)) (kp_rt (hS _ _ _) (kp_rt (hS _ _ _) kp_ba))) (kp_ite (kp_ite (kp_rt (hS _ _ _) (kp_rt (hS _ _ _) kp_ba)) (kp_rt (hS _ _ _) (kp_rt (hS _ _ _) kp_ba))) (kp_ite (kp_ite (kp_rt (hV _ _ _) kp_ba) (kp_rt (hV _ _ _) kp_ba)) (kp_ite (kp_ite (kp_rt (hV _ _ _) kp_ba) (kp_ite (kp_rt (hV _ _ _) (kp_rt (hV _ _ _) kp_ba)) (kp_rt (hV _ _ _) (kp_rt (hV _ _ _) kp_ba)))) (kp_ite (kp_ite (kp_ite (kp_rt (hV _ _ _) (kp_rt (hV _ _ _) kp_ba)) (kp_rt (hV _ _ _) (kp_rt (hV _ _ _) kp_ba))) (kp_rt (hV _ _ _) kp_ba)) (kp_ite (kp_ite kp_ba kp_ba) (kp_ite (kp_ite kp_ba kp_ba) (kp_ite (show kp d.2.2 (bF fV (d.1, d.2.1, (fX2_beginsAsking d.2.2).2) (va i.toNatClampNeg) t).2.2.2 from kp_rt (kp_bF hV (d := (d.1, d.2.1, (fX2_beginsAsking d.2.2).2)) (i := va i.toNatClampNeg) (t := t)) kp_ba) (kp_rt (kp_fail (by decide)) kp_ba))))))))))
set_option maxHeartbeats 200000 in
theorem kp_bO {fS : dFS} {fV : dFV} {fO : dFO} (hS : kpS fS) (hV : kpV fV) (hO : kpO fO) {ok oa ob : Nat → Int32} : kpO (bO fS fV fO ok oa ob) := by
  intro d i x y
  unfold bO zw_l
  exact kp_ite (kp_ba) (kp_ite (kp_rt (hS _ _ _) (kp_rt (hS _ _ _) kp_ba)) (kp_ite (kp_rt (hO _ _ _ _) kp_ba) (kp_ite (kp_rt (kp_bH hO) kp_ba) (kp_ite (kp_rt (kp_bR hV) (kp_rt (kp_bR hV) kp_ba)) (kp_ite (kp_ba) (kp_rt (kp_fail (by decide)) kp_ba))))))
theorem kp_A {ce rw : Nat → Int64} {sk sa sb vk va vb : Nat → Int32} : ∀ n : Nat, kpS (zA ce rw sk sa sb vk va vb n).1 ∧ kpV (zA ce rw sk sa sb vk va vb n).2 := by
  intro n
  induction n with
  | zero => exact ⟨fun _ _ _ => kp_r, fun _ _ _ => kp_r⟩
  | succ n ih => exact ⟨kp_bS ih.1 ih.2, kp_bV ih.1 ih.2⟩
theorem kp_O {ce rw : Nat → Int64} {sk sa sb vk va vb ok oa ob : Nat → Int32} : ∀ n : Nat, kpO (zO ce rw sk sa sb vk va vb ok oa ob n) := by
  intro n
  induction n with
  | zero => exact fun _ _ _ _ => kp_r
  | succ n ih => exact kp_bO (kp_A n).1 (kp_A n).2 ih
theorem hf0 {T : dT} (h : T.2.2.2.2.2 = 0) : fX2_hasFailure T = 0 := by unfold fX2_hasFailure; rw [if_pos h]
theorem hf1 {T : dT} (h : ¬ T.2.2.2.2.2 = 0) : ¬ fX2_hasFailure T = 0 := by unfold fX2_hasFailure; rw [if_neg h]; decide
theorem open1 {T : dT} (h : T.2.2.1 < 2000) : fX2_opensCall T = (1, (0, T.2.1, T.2.2.1, T.2.2.2.1, T.2.2.2.2.1, 0)) := by unfold fX2_opensCall; rw [if_pos h]
theorem open0 {T : dT} (h : ¬ T.2.2.1 < 2000) : fX2_opensCall T = (0, T) := by unfold fX2_opensCall; rw [if_neg h]
theorem ends0 {M7 U0 U1 U2 U3 U4 U5 p : Int32} (h : M7 = 0) : fX4_ends M7 U0 U1 U2 U3 U4 U5 p = (p, U0, U3, U4, U5) := by unfold fX4_ends; rw [if_pos h]
theorem ends1 {M7 U0 U1 U2 U3 U4 U5 p : Int32} (h : ¬ M7 = 0) : fX4_ends M7 U0 U1 U2 U3 U4 U5 p = ((-10) - M7, U0, U3 + 1, U4 + 1, M7) := by unfold fX4_ends; rw [if_neg h]
/-- the start of a call that asks -/
theorem sim_start (hC : mCnt S V K4 E0 sn vn m) (e : U2 = nI m) (h3 : T.2.2.1 = U3) (h2 : T.2.1 = U2) {x y : Int32} : mSim S V K4 sn vn (m + 2000) (S.2.2.2.1, V.2.2.2.1, 0, T.2.1, T.2.2.1, x, y, 0) E0 0 U2 U3 :=
  ⟨rfl, h2, h3, 0, m, Nat.zero_le _, rfl, e, by omega, hC.1, hC.2⟩
/-- its end -/
theorem sim_end {d : dY} {E : Nat → Int32} {a ev mt : Int32} (h : mSim S V K4 sn vn (m + 2000) d E a ev mt) : d.2.2.1 = a ∧ d.2.2.2.1 = ev ∧ d.2.2.2.2.1 = mt ∧ ∃ m2 : Nat, m2 ≤ m + 2000 ∧ ev = nI m2 ∧ mCnt (S.1, S.2.1, S.2.2.1, d.1, S.2.2.2.2) (V.1, V.2.1, V.2.2.1, d.2.1, V.2.2.2.2) K4 E sn vn m2 := by
  obtain ⟨h1, h2, h3, n, m2, h4, h5, h6, h7, h8, h9⟩ := h
  exact ⟨h1, h2, h3, m2, by omega, h6, h8, h9⟩
end ZU
