/-! THE LAW: calls that leave the other object's cells as they are; the script -/
theorem fm_of_map {α β : Type} {f : α → Option β} : ∀ {l : List α} {w : List β}, l.map f = w.map some → l.filterMap f = w := by
  intro l
  induction l with
  | nil =>
    intro w h
    cases w with
    | nil => rfl
    | cons x w => exact absurd h (by simp)
  | cons a l ih =>
    intro w h
    cases w with
    | nil => exact absurd h (by simp)
    | cons x w =>
      have h1 : f a = some x := (List.cons.inj h).1
      rw [List.filterMap_cons_some h1, ih (List.cons.inj h).2]
theorem fr_C (wc wr : va_W) {n : Nat} (hn : wc.length = n) : (List.range n).map (fun i => (wc ++ wr)[i]?) = wc.map some := by
  subst hn
  apply List.ext_getElem?
  intro i
  rw [List.getElem?_map, List.getElem?_map]
  by_cases h : i < wc.length
  · rw [List.getElem?_range h]
    show some ((wc ++ wr)[i]?) = _
    rw [List.getElem?_append_left h, List.getElem?_eq_getElem h]
    rfl
  · rw [List.getElem?_eq_none (l := List.range wc.length) (by rw [List.length_range]; omega), List.getElem?_eq_none (l := wc) (by omega)]
    rfl
theorem fr_R (wc wr : va_W) {n n2 : Nat} (hn : wc.length = n) (hn2 : wr.length = n2) : ((List.range n2).map (· + n)).map (fun i => (wc ++ wr)[i]?) = wr.map some := by
  subst hn; subst hn2
  apply List.ext_getElem?
  intro i
  rw [List.getElem?_map, List.getElem?_map, List.getElem?_map]
  by_cases h : i < wr.length
  · rw [List.getElem?_range h]
    show some ((wc ++ wr)[i + wc.length]?) = _
    rw [List.getElem?_append_right (by omega), Nat.add_sub_cancel, List.getElem?_eq_getElem h]
    rfl
  · rw [List.getElem?_eq_none (l := List.range wr.length) (by rw [List.length_range]; omega), List.getElem?_eq_none (l := wr) (by omega)]
    rfl
theorem fr_dis {n n2 : Nat} : ∀ i ∈ (List.range n2).map (· + n), i ∉ List.range n := by
  intro i hi h
  obtain ⟨j, -, rfl⟩ := List.mem_map.mp hi
  have := List.mem_range.mp h
  omega
theorem nd31 : va_nd (List.range 31) = true ∧ va_nd ((List.range 24).map (· + 31)) = true := by decide +kernel
theorem nd24 : va_nd (List.range 24) = true ∧ va_nd ((List.range 31).map (· + 24)) = true := by decide +kernel
section ZF
variable {p : Program} {l : Launch} {e : Env} {R : Room} {s : State} {m : MethodId} {args : Array Value} {below : List Frame} {meth : Method} {c : Code} {D : va_G} {tys : List (ClassId × FieldType)} {A : Nat → Prop} {own : String} {cc : ByteArray} {nL : Nat} {Q : State → Prop} {nc ns : Nat} {ws : va_W} {pc : Nat} {lv : List (Nat × Value)} {st : List Value}
theorem zw_fcalli (C : zw_C p s m args c D tys A own cc nL) {y : MethodName} {bytes : ByteArray} {maxL n index : Nat} {rt : FieldType} {rm : Room} {Cn : String} {b ci N : Nat} {T : u_T} {fs As rest : List Value} {r : Int32} {wc wr wc2 : va_W} (n1 n2 : Nat) (h1 : wc.length = n1) (h2 : wr.length = n2) (hnd : va_nd (List.range n1) = true ∧ va_nd ((List.range n2).map (· + n1)) = true) (K : zw_KV own index Cn y bytes maxL (some rt) n) (hM : zw_Mi l y bytes maxL rt D tys rm (.ref b :: As) wc wc2 r) (hR : zw_RR rm R maxL nc ns) (F : zw_F Cn T N ci) (q0 : Nat) (he : wc[q0]? = some (b, .inr (ci, fs))) (hn : As.length = n) (hst : st = As.reverse ++ .ref b :: rest) (hcat : (rest.map fun v => v.category).sum ≤ 8) (hd : decode cc pc = .ok (.invokevirtual index, 3)) (k : zw_W p l e R s m args below meth c D A nL Q nc ns (wr ++ wc2) (pc + 3) lv (.int r :: rest)) : zw_W p l e R s m args below meth c D A nL Q nc ns (wc ++ wr) pc lv st := by
  intro H locs ls hP hD hS hl
  subst hst
  have hC := fr_C wc wr h1
  have hF := va_free hD hS C.2.2.2.2.2.2 (List.range n1) hC
  have hP0 := hP.sub (List.range n1) (fm_of_map hC)
  have hD0 := hD.sub (List.range n1) hnd.1 hC
  refine va_calli (va_runV (As := As) (rest := rest) ⟨C.1, C.2.1, C.2.2.1, C.2.2.2.1, C.2.2.2.2.1⟩ (hM H.size) (cwV n C.2.2.2.2.1 (zw_goodV K) rfl hR.1 hR.2.1 K.2.2 hR.2.2.1) ⟨zw_blind, va_recv C.2.2.2.2.2.1 hP0 F.1 he, fun U hU hW => ⟨rfl, by rw [hU], by rw [hU]; exact hP0, va_K.moved hW.alike C.2.2.2.2.2.1, hD0.weaken (fun _ _ _ _ => trivial)⟩⟩ rfl hn hl.1 rfl (lv_room hcat) hd hR.2.2.2) hS (fun q _ h => hF q h) hF (fun r2 u t H1 locs1 ht hvm hw hB hz1 hk1 hS1 => ?_)
  subst hw
  have hB1 : va_P D vwCl wc2 H1 := ht ▸ hB.1
  obtain ⟨hP2, hD2⟩ := va_join hP hD (List.range n1) ((List.range n2).map (· + n1)) hC (fr_R wc wr h1 h2) hnd.2 fr_dis hk1 hF hB1 hB.2
  exact k H1 locs1 ls hP2 hD2 hS1 hl
theorem zw_fcalll (C : zw_C p s m args c D tys A own cc nL) {y : MethodName} {bytes : ByteArray} {maxL n index : Nat} {rm : Room} {Cn : String} {b ci N : Nat} {T : u_T} {fs As rest : List Value} {r : Int64} {wc wr wc2 : va_W} (n1 n2 : Nat) (h1 : wc.length = n1) (h2 : wr.length = n2) (hnd : va_nd (List.range n1) = true ∧ va_nd ((List.range n2).map (· + n1)) = true) (K : zw_KV own index Cn y bytes maxL (some .long) n) (hM : zw_Ml l y bytes maxL D tys rm (.ref b :: As) wc wc2 r) (hR : zw_RR rm R maxL nc ns) (F : zw_F Cn T N ci) (q0 : Nat) (he : wc[q0]? = some (b, .inr (ci, fs))) (hn : As.length = n) (hst : st = As.reverse ++ .ref b :: rest) (hcat : (rest.map fun v => v.category).sum ≤ 8) (hd : decode cc pc = .ok (.invokevirtual index, 3)) (k : zw_W p l e R s m args below meth c D A nL Q nc ns (wr ++ wc2) (pc + 3) lv (.long r :: rest)) : zw_W p l e R s m args below meth c D A nL Q nc ns (wc ++ wr) pc lv st := by
  intro H locs ls hP hD hS hl
  subst hst
  have hC := fr_C wc wr h1
  have hF := va_free hD hS C.2.2.2.2.2.2 (List.range n1) hC
  have hP0 := hP.sub (List.range n1) (fm_of_map hC)
  have hD0 := hD.sub (List.range n1) hnd.1 hC
  refine va_calll (va_runV (As := As) (rest := rest) ⟨C.1, C.2.1, C.2.2.1, C.2.2.2.1, C.2.2.2.2.1⟩ (hM H.size) (cwV n C.2.2.2.2.1 (zw_goodV K) rfl hR.1 hR.2.1 K.2.2 hR.2.2.1) ⟨zw_blind, va_recv C.2.2.2.2.2.1 hP0 F.1 he, fun U hU hW => ⟨rfl, by rw [hU], by rw [hU]; exact hP0, va_K.moved hW.alike C.2.2.2.2.2.1, hD0.weaken (fun _ _ _ _ => trivial)⟩⟩ rfl hn hl.1 rfl (lv_room hcat) hd hR.2.2.2) hS (fun q _ h => hF q h) hF (fun r2 u t H1 locs1 ht hvm hw hB hz1 hk1 hS1 => ?_)
  subst hw
  have hB1 : va_P D vwCl wc2 H1 := ht ▸ hB.1
  obtain ⟨hP2, hD2⟩ := va_join hP hD (List.range n1) ((List.range n2).map (· + n1)) hC (fr_R wc wr h1 h2) hnd.2 fr_dis hk1 hF hB1 hB.2
  exact k H1 locs1 ls hP2 hD2 hS1 hl
/-- a constructor, on the cell that was made last; the rest stays -/
theorem zw_fctor (C : zw_C p s m args c D tys A own cc nL) {y : MethodName} {bytes : ByteArray} {maxL index mc ms b : Nat} {rm : Room} {S : Type} {wsf : S → va_W} {wc wr : va_W} {rest : List Value} (ws2 : S → va_W) (K : Cond.code y bytes maxL none ∈ zw_tbl ∧ Cond.initialized y.cls ∈ zw_tbl ∧ Cond.methodLink own index y ∈ zw_tbl ∧ Cond.instanceMethod y ∈ zw_tbl) (hy : y.name = "<init>" ∧ y.cls ≠ "java/lang/invoke/MethodHandle" ∧ y.cls ≠ "java/lang/invoke/VarHandle" ∧ (parseMethodDescriptor y.desc).map (fun d => d.parameters.length) = some 0) (hM : zw_Mc l y bytes maxL D tys rm [.ref b] wc mc ms wsf) (hR : rm.cells = mc ∧ rm.slots = ms ∧ (rm.frames + 1 ≤ R.frames ∧ 8 + (maxL + 11) + rm.locals ≤ R.locals) ∧ nc + mc ≤ R.cells ∧ ns + ms ≤ R.slots) (isC isR : List Nat) (hC : isC.map (fun i => ws[i]?) = wc.map some) (hRr : isR.map (fun i => ws[i]?) = wr.map some) (hn : va_nd isR = true) (hnC : va_nd isC = true) (hdis : ∀ i ∈ isR, i ∉ isC) (hst : st = .ref b :: rest) (hcat : (rest.map fun v => v.category).sum ≤ 8) (hw : ∀ u : S, wr ++ wsf u = ws2 u) (hd : decode cc pc = .ok (.invokespecial index, 3)) (k : ∀ u : S, zw_W p l e R s m args below meth c D A nL Q (nc + mc) (ns + ms) (ws2 u) (pc + 3) lv rest) : zw_W p l e R s m args below meth c D A nL Q nc ns ws pc lv st := by
  intro H locs ls hP hD hS hl
  subst hst
  have hF := va_free hD hS C.2.2.2.2.2.2 isC hC
  have hP0 := hP.sub isC (fm_of_map hC)
  have hD0 := hD.sub isC hnC hC
  refine va_callv (va_runI (As := []) (rest := rest) ⟨C.1, C.2.1, C.2.2.1, C.2.2.2.1, C.2.2.2.2.1⟩ (hM H.size) (cwI 0 C.2.2.2.2.1 (fun w hw => (List.mem_cons.mp hw).elim (fun e => by rw [e]; exact zw_good _ K.1) (fun h => zw_good _ h)) rfl hR.1 hR.2.1 (C.2.2.2.2.1 _ K.2.1) (C.2.2.2.2.1 _ K.2.2.1) (C.2.2.2.2.1 _ K.2.2.2) hy.1 hy.2 hR.2.2.1) ⟨zw_blind, fun U hU hW => ⟨rfl, by rw [hU], by rw [hU]; exact hP0, va_K.moved hW.alike C.2.2.2.2.2.1, hD0.weaken (fun _ _ _ _ => trivial)⟩⟩ rfl rfl hl.1 rfl (lv_room hcat) hd hR.2.2.2) hS (fun q _ h => hF q h) hF (fun u t H1 locs1 ht hvm hw1 hB hz1 hk1 hS1 => ?_)
  have hB1 : va_P D vwCl (wsf u) H1 := ht ▸ hB.1
  obtain ⟨hP2, hD2⟩ := va_join hP hD isC isR hC hRr hn hdis hk1 hF hB1 hB.2
  rw [hw u] at hP2 hD2
  exact k u H1 locs1 ls hP2 hD2 hS1 hl
/-- the desk's, which wants the words of its nest -/
theorem zw_fctorN (C : zw_C p s m args c D tys A own cc nL) (hN3 : zw_N3 s) {y : MethodName} {bytes : ByteArray} {maxL index mc ms b : Nat} {rm : Room} {S : Type} {wsf : S → va_W} {wc wr : va_W} {rest : List Value} (ws2 : S → va_W) (K : Cond.code y bytes maxL none ∈ zw_tbl ∧ Cond.initialized y.cls ∈ zw_tbl ∧ Cond.methodLink own index y ∈ zw_tbl ∧ Cond.instanceMethod y ∈ zw_tbl) (hy : y.name = "<init>" ∧ y.cls ≠ "java/lang/invoke/MethodHandle" ∧ y.cls ≠ "java/lang/invoke/VarHandle" ∧ (parseMethodDescriptor y.desc).map (fun d => d.parameters.length) = some 0) (hM : zw_McN l y bytes maxL D tys rm [.ref b] wc mc ms wsf) (hR : rm.cells = mc ∧ rm.slots = ms ∧ (rm.frames + 1 ≤ R.frames ∧ 8 + (maxL + 11) + rm.locals ≤ R.locals) ∧ nc + mc ≤ R.cells ∧ ns + ms ≤ R.slots) (isC isR : List Nat) (hC : isC.map (fun i => ws[i]?) = wc.map some) (hRr : isR.map (fun i => ws[i]?) = wr.map some) (hn : va_nd isR = true) (hnC : va_nd isC = true) (hdis : ∀ i ∈ isR, i ∉ isC) (hst : st = .ref b :: rest) (hcat : (rest.map fun v => v.category).sum ≤ 8) (hw : ∀ u : S, wr ++ wsf u = ws2 u) (hd : decode cc pc = .ok (.invokespecial index, 3)) (k : ∀ u : S, zw_W p l e R s m args below meth c D A nL Q (nc + mc) (ns + ms) (ws2 u) (pc + 3) lv rest) : zw_W p l e R s m args below meth c D A nL Q nc ns ws pc lv st := by
  intro H locs ls hP hD hS hl
  subst hst
  have hF := va_free hD hS C.2.2.2.2.2.2 isC hC
  have hP0 := hP.sub isC (fm_of_map hC)
  have hD0 := hD.sub isC hnC hC
  refine va_callv (va_runI (As := []) (rest := rest) ⟨C.1, C.2.1, C.2.2.1, C.2.2.2.1, C.2.2.2.2.1⟩ (hM H.size) (cwI 0 C.2.2.2.2.1 (fun w hw => (List.mem_cons.mp hw).elim (fun e => by rw [e]; exact zw_good _ K.1) (fun h => zw_good _ h)) rfl hR.1 hR.2.1 (C.2.2.2.2.1 _ K.2.1) (C.2.2.2.2.1 _ K.2.2.1) (C.2.2.2.2.1 _ K.2.2.2) hy.1 hy.2 hR.2.2.1) ⟨zw_blindN, fun U hU hW => ⟨rfl, by rw [hU], by rw [hU]; exact hP0, va_K.moved hW.alike C.2.2.2.2.2.1, hD0.weaken (fun _ _ _ _ => trivial), va_Nw.warmM hW hN3.1, va_Nw.warmM hW hN3.2.1, va_Nw.warmM hW hN3.2.2⟩⟩ rfl rfl hl.1 rfl (lv_room hcat) hd hR.2.2.2) hS (fun q _ h => hF q h) hF (fun u t H1 locs1 ht hvm hw1 hB hz1 hk1 hS1 => ?_)
  have hB1 : va_P D vwCl (wsf u) H1 := ht ▸ hB.1
  obtain ⟨hP2, hD2⟩ := va_join hP hD isC isR hC hRr hn hdis hk1 hF hB1 hB.2
  rw [hw u] at hP2 hD2
  exact k u H1 locs1 ls hP2 hD2 hS1 hl
/-- the script: it is older than all that the law makes -/
def zw_X (s : State) (A : Nat → Prop) (b L : Nat) (xs : Nat → Int32) : Prop := va_X b L xs s s.heap ∧ b < s.heap.size ∧ ¬ A b
theorem zw_sld (C : zw_C p s m args c D tys A own cc nL) {b L : Nat} {xs : Nat → Int32} (X : zw_X s A b L xs) {i : Int32} (hin : vp_in i L) (hd : decode cc pc = .ok (.iaload, 1)) (k : zw_W p l e R s m args below meth c D A nL Q nc ns ws (pc + 1) lv (.int (xs i.toNatClampNeg) :: st)) : zw_W p l e R s m args below meth c D A nL Q nc ns ws pc lv (.int i :: .ref b :: st) := fun H locs ls hP hD hS hl => va_sld C.1 C.2.1 X.1 X.2.1 X.2.2 hS hin hd (k H locs ls hP hD hS hl)
theorem zw_slen (C : zw_C p s m args c D tys A own cc nL) {b L : Nat} {xs : Nat → Int32} (X : zw_X s A b L xs) (hd : decode cc pc = .ok (.arraylength, 1)) (k : zw_W p l e R s m args below meth c D A nL Q nc ns ws (pc + 1) lv (.int (nI L) :: st)) : zw_W p l e R s m args below meth c D A nL Q nc ns ws pc lv (.ref b :: st) := fun H locs ls hP hD hS hl => va_slen C.1 C.2.1 X.1 X.2.1 X.2.2 hS hd (k H locs ls hP hD hS hl)
end ZF

