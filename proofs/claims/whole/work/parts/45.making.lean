/-! MAKING: constructors, which make cells -/
abbrev zw_rmA (f k c s : Nat) : Room := { frames := f, cells := c, slots := s, locals := k }
def zw_Mc (l : Launch) (y : MethodName) (cc : ByteArray) (nL : Nat) (D : va_G) (tys : List (ClassId × FieldType)) (rm : Room) (av : List Value) (ws : va_W) (mc ms : Nat) {S : Type} (wsf : S → va_W) : Prop :=
  ∀ sz : Nat, Met l y (Cond.code y cc nL none :: zw_tbl) rm (zw_Pre D tys av ws sz) (va_Qv (fun (_ : S) => True) (fun u t => zw_Post D (va_A ws sz) (wsf u) t) (va_A ws sz)) mc ms (va_A ws sz)
def zw_Qc (D : va_G) (A : Nat → Prop) (mc ms : Nat) {S : Type} (wsf : S → va_W) (below : List Frame) (args : Array Value) (s : State) : State → Prop := MQ below (va_Qv (fun (_ : S) => True) (fun u t => zw_Post D A (wsf u) t) A) args s mc ms A
theorem zw_Mc_of {l : Launch} {y : MethodName} {cc : ByteArray} {nL : Nat} {D : va_G} {tys : List (ClassId × FieldType)} {rm : Room} {av : List Value} {ws : va_W} {own : String} {mc ms : Nat} {S : Type} {wsf : S → va_W} (hy : plainName y.cls = true) (hyc : y.cls = own) (hyn : y.name = "<init>") (hlen : (lg_sl av).length ≤ nL) (h : ∀ (p : Program) (e : Env) (s : State) (m : MethodId) (args : Array Value) (below : List Frame) (meth : Method) (c : Code) (A : Nat → Prop), zw_C p s m args c D tys A own cc nL → meth.sig.returnType = none → meth.locks = false → meth.name = "<init>" → zw_W p l e rm s m args below meth c D A nL (zw_Qc D A mc ms wsf below args s) 0 0 ws 0 (lv_args 0 av) []) : zw_Mc l y cc nL D tys rm av ws mc ms wsf := by
  intro sz
  refine Met.ofW (cc := cc) (maxL := nL) (ret := none) hy rfl ?_
  intro p e s m args below meth c s₁ B hml hv
  obtain ⟨rfl, hsz, hP, hK, hD0⟩ := hv
  have hts := atoms_spec (ws := Cond.code y cc nL none :: zw_tbl) B.pre
  have hown : s.vm.findClass y.cls = some m.cls := findClass_of_methodNamed B.named
  have hin : meth.name = "<init>" := (name_of_methodNamed B.named B.method).1.trans hyn
  subst hsz
  have hl := lv_entry av (n := nL) hlen
  rw [lg_entry_eq]
  exact h p e s m _ below meth c (va_A ws s.heap.size) ⟨B.exec, B.bytes, hml, hyc ▸ hown, fun w hw => hts w (List.mem_cons_of_mem _ hw), hK, fun q hq => Or.inr hq⟩ B.returns B.notSynchronized hin s.heap [] _ hP hD0.self va_S.rf hl
section ZN
variable {p : Program} {l : Launch} {e : Env} {R : Room} {s : State} {m : MethodId} {args : Array Value} {below : List Frame} {meth : Method} {c : Code} {D : va_G} {tys : List (ClassId × FieldType)} {A : Nat → Prop} {own : String} {cc : ByteArray} {nL : Nat} {Q : State → Prop} {nc ns : Nat} {ws : va_W} {pc : Nat} {lv : List (Nat × Value)} {st : List Value}
theorem zw_returnA (C : zw_C p s m args c D tys A own cc nL) (hr : meth.sig.returnType = none) (hlk : meth.locks = false) {S : Type} {wsf : S → va_W} (u : S) (hw : ws = wsf u) (hd : decode cc pc = .ok (.return_, 1)) : zw_W p l e R s m args below meth c D A nL (zw_Qc D A nc ns wsf below args s) nc ns ws pc lv [] := by
  subst hw
  intro H locs ls hP hD hS hl
  exact W.vret C.1 C.2.1 hr (fun t ht _ => ⟨⟨u, rfl, trivial, by rw [ht]; exact hP, hD⟩, hS.F ht⟩) hS.2.2 hd hlk
theorem zw_objInit (C : zw_C p s m args c D tys A own cc nL) {index a : Nat} (K : Cond.methodLink own index objectInit ∈ zw_tbl ∧ Cond.instanceMethod objectInit ∈ zw_tbl ∧ Cond.code objectInit ⟨#[0xb1]⟩ 1 none ∈ zw_tbl) (hf : 1 ≤ R.frames) (hlo : 20 ≤ R.locals) (hcat : (st.map fun v => v.category).sum ≤ 8) (hd : decode cc pc = .ok (.invokespecial index, 3)) (k : zw_W p l e R s m args below meth c D A nL Q nc ns ws (pc + 3) lv st) : zw_W p l e R s m args below meth c D A nL Q nc ns ws pc lv (.ref a :: st) := by
  intro H locs ls hP hD hS hl
  refine W.objInit C.1 C.2.1 C.2.2.2.1 (C.2.2.2.2.1 _ K.1) (C.2.2.2.2.1 _ K.2.1) (C.2.2.2.2.1 _ K.2.2) (g := F0 m pc ls (.ref a :: st)) rfl (hl.1.trans C.2.2.1.symm) rfl hd hf ?_ (k H locs ls hP hD hS hl)
  have h8 := lv_room (m := m) (pc := pc) (ls := ls) (rest := .ref a :: st) hcat
  omega
theorem zw_newI (C : zw_C p s m args c D tys A own cc nL) {n : Int32} (N t0 : Nat) {cA : ClassId} (ws2 : Nat → va_W) (harr : Cond.arrayClass .int ∈ zw_tbl) (ht : tys[t0]? = some (cA, .int)) (hn : ¬ n < 0) (hN : n.toNatClampNeg = N) (hb : N * componentBytes .int ≤ 536870912) (hc : nc + 1 ≤ R.cells) (hs : ns + N ≤ R.slots) (hw : ∀ q : Nat, ws ++ [(q, .inl (cA, N, .inl (fun _ => 0)))] = ws2 q) (hd : decode cc pc = .ok (.newarray .int, 2)) (k : ∀ q : Nat, zw_W p l e R s m args below meth c D A nL Q (nc + 1) (ns + N) (ws2 q) (pc + 2) lv (.ref q :: st)) : zw_W p l e R s m args below meth c D A nL Q nc ns ws pc lv (.int n :: st) := by
  intro H locs ls hP hD hS hl
  refine va_newa (atype := .int) (ty := .int) C.1 C.2.1 (C.2.2.2.2.1 _ harr) rfl C.2.2.2.2.2.1 hP hD hS C.2.2.2.2.2.2 (a0 := (N, .inl (fun _ => 0))) (fun _ => rfl) hn hN hb hc hs hd (fun q cB H1 hK1 hP1 hD1 hS1 => ?_)
  have e1 := (hK1.2 tys.length (cB, .int) (by simp)).2
  have e2 := (C.2.2.2.2.2.1.2 t0 (cA, .int) ht).2
  have e3 : cB = cA := Option.some.inj (e1.symm.trans e2)
  subst e3
  rw [hw q] at hP1 hD1
  exact k q H1 locs ls hP1 hD1 hS1 hl
theorem zw_newL (C : zw_C p s m args c D tys A own cc nL) {n : Int32} (N t0 : Nat) {cA : ClassId} (ws2 : Nat → va_W) (harr : Cond.arrayClass .long ∈ zw_tbl) (ht : tys[t0]? = some (cA, .long)) (hn : ¬ n < 0) (hN : n.toNatClampNeg = N) (hb : N * componentBytes .long ≤ 536870912) (hc : nc + 1 ≤ R.cells) (hs : ns + N ≤ R.slots) (hw : ∀ q : Nat, ws ++ [(q, .inl (cA, N, .inr (.inl (fun _ => 0))))] = ws2 q) (hd : decode cc pc = .ok (.newarray .long, 2)) (k : ∀ q : Nat, zw_W p l e R s m args below meth c D A nL Q (nc + 1) (ns + N) (ws2 q) (pc + 2) lv (.ref q :: st)) : zw_W p l e R s m args below meth c D A nL Q nc ns ws pc lv (.int n :: st) := by
  intro H locs ls hP hD hS hl
  refine va_newa (atype := .long) (ty := .long) C.1 C.2.1 (C.2.2.2.2.1 _ harr) rfl C.2.2.2.2.2.1 hP hD hS C.2.2.2.2.2.2 (a0 := (N, .inr (.inl (fun _ => 0)))) (fun _ => rfl) hn hN hb hc hs hd (fun q cB H1 hK1 hP1 hD1 hS1 => ?_)
  have e1 := (hK1.2 tys.length (cB, .long) (by simp)).2
  have e2 := (C.2.2.2.2.2.1.2 t0 (cA, .long) ht).2
  have e3 : cB = cA := Option.some.inj (e1.symm.trans e2)
  subst e3
  rw [hw q] at hP1 hD1
  exact k q H1 locs ls hP1 hD1 hS1 hl
theorem zw_new (C : zw_C p s m args c D tys A own cc nL) {Cn : String} {T : u_T} {N ci index : Nat} {ty : Nat → FieldType} (F : zw_F Cn T N ci) (FW : zw_FW T N ty) (ws2 : Nat → va_W) (fs : List Value) (K : Cond.classLink own index Cn ∈ zw_tbl ∧ Cond.instantiable Cn N ∈ zw_tbl ∧ Cond.initialized Cn ∈ zw_tbl) (hfs : ∀ j, j < N → defaultValue (ty j) = vp_V fs j) (hc : nc + 1 ≤ R.cells) (hs : ns + N ≤ R.slots) (hw : ∀ q : Nat, ws ++ [(q, .inr (ci, fs))] = ws2 q) (hd : decode cc pc = .ok (.new index, 3)) (k : ∀ q : Nat, zw_W p l e R s m args below meth c D A nL Q (nc + 1) (ns + N) (ws2 q) (pc + 3) lv (.ref q :: st)) : zw_W p l e R s m args below meth c D A nL Q nc ns ws pc lv st := by
  intro H locs ls hP hD hS hl
  refine va_new (ci := ci) (fs := fs) C.1 C.2.1 C.2.2.2.2.1 F.2 ty FW.1 C.2.2.2.1 (C.2.2.2.2.1 _ K.1) (C.2.2.2.2.1 _ K.2.1) (C.2.2.2.2.1 _ K.2.2) C.2.2.2.2.2.1 hP hD hS C.2.2.2.2.2.2 F.1 hfs hc hs hd (fun q H1 hP1 hD1 hS1 => ?_)
  rw [hw q] at hP1 hD1
  exact k q H1 locs ls hP1 hD1 hS1 hl
/-- a constructor of a nest mate, on the cell that was made last; the rest stays -/
theorem zw_ctorN (C : zw_C p s m args c D tys A own cc nL) {y : MethodName} {bytes : ByteArray} {maxL index mc ms b : Nat} {rm : Room} {host : String} {S : Type} {wsf : S → va_W} {wc wr : va_W} {rest : List Value} (ws2 : S → va_W) (K : Cond.code y bytes maxL none ∈ zw_tbl ∧ Cond.initialized y.cls ∈ zw_tbl ∧ Cond.instanceMethod y ∈ zw_tbl) (hNw : va_Nw (.methodLinkNest own index y host) s) (hy : y.name = "<init>" ∧ y.cls ≠ "java/lang/invoke/MethodHandle" ∧ y.cls ≠ "java/lang/invoke/VarHandle" ∧ (parseMethodDescriptor y.desc).map (fun d => d.parameters.length) = some 0) (hM : zw_Mc l y bytes maxL D tys rm [.ref b] wc mc ms wsf) (hR : rm.cells = mc ∧ rm.slots = ms ∧ (rm.frames + 1 ≤ R.frames ∧ 8 + (maxL + 11) + rm.locals ≤ R.locals) ∧ nc + mc ≤ R.cells ∧ ns + ms ≤ R.slots) (isC isR : List Nat) (hPc : isC.filterMap (fun i => ws[i]?) = wc) (hC : isC.map (fun i => ws[i]?) = wc.map some) (hRr : isR.map (fun i => ws[i]?) = wr.map some) (hn : va_nd isR = true) (hnC : va_nd isC = true) (hdis : ∀ i ∈ isR, i ∉ isC) (hst : st = .ref b :: rest) (hcat : (rest.map fun v => v.category).sum ≤ 8) (hw : ∀ u : S, wr ++ wsf u = ws2 u) (hd : decode cc pc = .ok (.invokespecial index, 3)) (k : ∀ u : S, zw_W p l e R s m args below meth c D A nL Q (nc + mc) (ns + ms) (ws2 u) (pc + 3) lv rest) : zw_W p l e R s m args below meth c D A nL Q nc ns ws pc lv st := by
  intro H locs ls hP hD hS hl
  subst hst
  have hF := va_free hD hS C.2.2.2.2.2.2 isC hC
  have hP0 := hP.sub isC hPc
  have hD0 := hD.sub isC hnC hC
  refine va_callv (va_runIN (As := []) (rest := rest) ⟨C.1, C.2.1, C.2.2.1, C.2.2.2.1, C.2.2.2.2.1⟩ (hM H.size) ⟨va_cnB 0 C.2.2.2.2.1 (fun w hw => (List.mem_cons.mp hw).elim (fun e => by rw [e]; exact zw_good _ K.1) (fun h => zw_good _ h)) rfl hR.1 hR.2.1 hNw (C.2.2.2.2.1 _ K.2.1) hy.2 hR.2.2.1, hy.1, C.2.2.2.2.1 _ K.2.2⟩ ⟨zw_blind, fun U hU hW => ⟨rfl, by rw [hU], by rw [hU]; exact hP0, va_K.moved hW.alike C.2.2.2.2.2.1, hD0.weaken (fun _ _ _ _ => trivial)⟩⟩ rfl rfl hl.1 rfl (lv_room hcat) hd hR.2.2.2) hS (fun q _ h => hF q h) hF (fun u t H1 locs1 ht hvm hw1 hB hz1 hk1 hS1 => ?_)
  have hB1 : va_P D vwCl (wsf u) H1 := ht ▸ hB.1
  obtain ⟨hP2, hD2⟩ := va_join hP hD isC isR hC hRr hn hdis hk1 hF hB1 hB.2
  rw [hw u] at hP2 hD2
  exact k u H1 locs1 ls hP2 hD2 hS1 hl
end ZN
/-- the words of the nest: the desk's constructor calls private ones -/
def zw_N3 (U : State) : Prop := va_Nw (.methodLinkNest RX3 32 yX1_init "SieveDesk") U ∧ va_Nw (.methodLinkNest RX3 45 yX0_init "SieveDesk") U ∧ va_Nw (.methodLinkNest RX3 55 yX2_init "SieveDesk") U
def zw_PreN (D : va_G) (tys : List (ClassId × FieldType)) (av : List Value) (ws : va_W) (sz : Nat) : Array Value → State → Prop := va_Pc av (fun U => U.heap.size = sz ∧ va_P D vwCl ws U.heap ∧ va_K D vwCl tys U ∧ va_D (fun _ => True) ws ∧ zw_N3 U)
theorem zw_blindN {D : va_G} {tys : List (ClassId × FieldType)} {av : List Value} {ws : va_W} {sz : Nat} : FrameBlind (zw_PreN D tys av ws sz) := fun a U g mk q => by
  obtain ⟨q0, q1, qP, qK, qD, qN⟩ := q
  exact ⟨q0, q1, qP, va_K.moved (u := U) (U := U.calling g mk a) (Vm.Alike.refl U.vm) qK, qD, va_Nw.same rfl (u := U) (U := U.calling g mk a) rfl qN.1, va_Nw.same rfl (u := U) (U := U.calling g mk a) rfl qN.2.1, va_Nw.same rfl (u := U) (U := U.calling g mk a) rfl qN.2.2⟩
def zw_McN (l : Launch) (y : MethodName) (cc : ByteArray) (nL : Nat) (D : va_G) (tys : List (ClassId × FieldType)) (rm : Room) (av : List Value) (ws : va_W) (mc ms : Nat) {S : Type} (wsf : S → va_W) : Prop :=
  ∀ sz : Nat, Met l y (Cond.code y cc nL none :: zw_tbl) rm (zw_PreN D tys av ws sz) (va_Qv (fun (_ : S) => True) (fun u t => zw_Post D (va_A ws sz) (wsf u) t) (va_A ws sz)) mc ms (va_A ws sz)
theorem zw_McN_of {l : Launch} {y : MethodName} {cc : ByteArray} {nL : Nat} {D : va_G} {tys : List (ClassId × FieldType)} {rm : Room} {av : List Value} {ws : va_W} {own : String} {mc ms : Nat} {S : Type} {wsf : S → va_W} (hy : plainName y.cls = true) (hyc : y.cls = own) (hyn : y.name = "<init>") (hlen : (lg_sl av).length ≤ nL) (h : ∀ (p : Program) (e : Env) (s : State) (m : MethodId) (args : Array Value) (below : List Frame) (meth : Method) (c : Code) (A : Nat → Prop), zw_C p s m args c D tys A own cc nL → meth.sig.returnType = none → meth.locks = false → meth.name = "<init>" → zw_N3 s → zw_W p l e rm s m args below meth c D A nL (zw_Qc D A mc ms wsf below args s) 0 0 ws 0 (lv_args 0 av) []) : zw_McN l y cc nL D tys rm av ws mc ms wsf := by
  intro sz
  refine Met.ofW (cc := cc) (maxL := nL) (ret := none) hy rfl ?_
  intro p e s m args below meth c s₁ B hml hv
  obtain ⟨rfl, hsz, hP, hK, hD0, hN⟩ := hv
  have hts := atoms_spec (ws := Cond.code y cc nL none :: zw_tbl) B.pre
  have hown : s.vm.findClass y.cls = some m.cls := findClass_of_methodNamed B.named
  have hin : meth.name = "<init>" := (name_of_methodNamed B.named B.method).1.trans hyn
  subst hsz
  have hl := lv_entry av (n := nL) hlen
  rw [lg_entry_eq]
  exact h p e s m _ below meth c (va_A ws s.heap.size) ⟨B.exec, B.bytes, hml, hyc ▸ hown, fun w hw => hts w (List.mem_cons_of_mem _ hw), hK, fun q hq => Or.inr hq⟩ B.returns B.notSynchronized hin hN s.heap [] _ hP hD0.self va_S.rf hl

