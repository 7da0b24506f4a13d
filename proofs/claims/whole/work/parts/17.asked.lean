/-! the askings by their ranks; every one that is made may be asked -/
def zA (ce rw : Nat → Int64) (sk sa sb vk va vb : Nat → Int32) : Nat → dFS × dFV
  | 0 => (fun d _ _ => (0, d), fun d _ _ => (0, d))
  | n + 1 => (bS (zA ce rw sk sa sb vk va vb n).1 (zA ce rw sk sa sb vk va vb n).2 ce rw sk sa sb, bV (zA ce rw sk sa sb vk va vb n).1 (zA ce rw sk sa sb vk va vb n).2 vk va vb)
def zO (ce rw : Nat → Int64) (sk sa sb vk va vb ok oa ob : Nat → Int32) : Nat → dFO
  | 0 => fun d _ _ _ => (0, d)
  | n + 1 => bO (zA ce rw sk sa sb vk va vb n).1 (zA ce rw sk sa sb vk va vb n).2 (zO ce rw sk sa sb vk va vb ok oa ob n) ok oa ob
/-- how many are made, and of what -/
def dz_K (S : dS) (V : dV) (O : dO) (sn vn on : Nat) (rs rv ro : Nat → Nat) : Prop := sn ≤ 24 ∧ vn ≤ 24 ∧ on ≤ 24 ∧ S.2.2.2.2 = nI sn ∧ V.2.2.2.2 = nI vn ∧ O.2.2.2.2 = nI on ∧ dz_tab S V O sn vn on rs rv ro ∧ (∀ i, i < sn → rs i < sn + vn + on) ∧ (∀ i, i < vn → rv i < sn + vn + on) ∧ (∀ i, i < on → ro i < sn + vn + on)
section ZA
variable {l : Launch} {D : va_G} {cI cL : ClassId} {a : Nat → Nat} {B : dB} {S : dS} {V : dV} {O : dO} {G : dG} {F : dF} {sn vn on tn : Nat} {rs rv ro : Nat → Nat}
theorem kA (hK : dz_K S V O sn vn on rs rv ro) (htn : tn ≤ 40) : ∀ n : Nat, CS l D cI cL a B S V O G F (dz_rm n) (dz_op sn rs n) (fun t => vp_in t tn) (zA B.2.2.2.1 B.2.2.2.2.1 S.1 S.2.1 S.2.2.1 V.1 V.2.1 V.2.2.1 n).1 ∧ CV l D cI cL a B S V O G F (dz_rm n) (dz_op vn rv n) (fun t => vp_in t tn) (zA B.2.2.2.1 B.2.2.2.2.1 S.1 S.2.1 S.2.2.1 V.1 V.2.1 V.2.2.1 n).2 := by
  intro n
  induction n with
  | zero => exact ⟨fun _ _ _ _ h => absurd h.2 (Nat.not_lt_zero _), fun _ _ _ _ h => absurd h.2 (Nat.not_lt_zero _)⟩
  | succ n ih =>
    obtain ⟨h1, h2, h3, -, -, -, h4, -⟩ := hK
    exact ⟨fun d i t q a1 a2 e => kbS h1 h2 h3 htn h4 ih.1 ih.2 d i t q a1 a2 e, fun d i t q a1 a2 e => kbV h1 h2 h3 htn h4 ih.1 ih.2 d i t q a1 a2 e⟩
theorem kO (hK : dz_K S V O sn vn on rs rv ro) (htn : tn ≤ 40) : ∀ n : Nat, CO l D cI cL a B S V O G F (dz_rm n) (dz_op on ro n) (fun t => vp_in t tn) (zO B.2.2.2.1 B.2.2.2.2.1 S.1 S.2.1 S.2.2.1 V.1 V.2.1 V.2.2.1 O.1 O.2.1 O.2.2.1 n) := by
  intro n
  induction n with
  | zero => exact fun _ _ _ _ _ h => absurd h.2 (Nat.not_lt_zero _)
  | succ n ih =>
    have hA := kA (l := l) (D := D) (cI := cI) (cL := cL) (a := a) (B := B) (G := G) (F := F) hK htn n
    obtain ⟨h1, h2, h3, -, -, -, h4, -⟩ := hK
    exact fun d i x y q a1 a2 a3 e => kbO h1 h2 h3 htn h4 hA.1 hA.2 ih d i x y q a1 a2 a3 e
theorem dz_op73 {sz m : Nat} {r : Nat → Nat} {x : Int32} (h : vp_in x sz) (hr : ∀ i, i < sz → r i < m) (hm : m ≤ 72) : dz_op sz r 73 x := ⟨h, by
  have h2 : x.toNatClampNeg < sz := Nat.lt_of_not_le (fun z => h (Or.inr z))
  have := hr _ h2
  omega⟩
theorem kAS (hK : dz_K S V O sn vn on rs rv ro) (htn : tn ≤ 40) : CS l D cI cL a B S V O G F (dz_rm 73) (fun i => vp_in i sn) (fun t => vp_in t tn) (zA B.2.2.2.1 B.2.2.2.2.1 S.1 S.2.1 S.2.2.1 V.1 V.2.1 V.2.2.1 73).1 := fun d i t q a1 a2 e => (kA hK htn 73).1 d i t q (dz_op73 a1 hK.2.2.2.2.2.2.2.1 (by have := hK.1; have := hK.2.1; have := hK.2.2.1; omega)) a2 e
theorem kAV (hK : dz_K S V O sn vn on rs rv ro) (htn : tn ≤ 40) : CV l D cI cL a B S V O G F (dz_rm 73) (fun i => vp_in i vn) (fun t => vp_in t tn) (zA B.2.2.2.1 B.2.2.2.2.1 S.1 S.2.1 S.2.2.1 V.1 V.2.1 V.2.2.1 73).2 := fun d i t q a1 a2 e => (kA hK htn 73).2 d i t q (dz_op73 a1 hK.2.2.2.2.2.2.2.2.1 (by have := hK.1; have := hK.2.1; have := hK.2.2.1; omega)) a2 e
theorem kAO (hK : dz_K S V O sn vn on rs rv ro) (htn : tn ≤ 40) : CO l D cI cL a B S V O G F (dz_rm 73) (fun i => vp_in i on) (fun t => vp_in t tn) (zO B.2.2.2.1 B.2.2.2.2.1 S.1 S.2.1 S.2.2.1 V.1 V.2.1 V.2.2.1 O.1 O.2.1 O.2.2.1 73) := fun d i x y q a1 a2 a3 e => kO hK htn 73 d i x y q (dz_op73 a1 hK.2.2.2.2.2.2.2.2.2 (by have := hK.1; have := hK.2.1; have := hK.2.2.1; omega)) a2 a3 e
end ZA
