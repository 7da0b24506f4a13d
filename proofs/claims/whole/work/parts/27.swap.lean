/-! the two groupings change places: the world is the same cells in another order -/
def dsw (a : Nat → Nat) : Nat → Nat := fun k => if 20 ≤ k ∧ k < 25 then a (k + 5) else if 25 ≤ k ∧ k < 30 then a (k - 5) else a k
def dsa (b : Bool) (a : Nat → Nat) : Nat → Nat := match b with
  | true => dsw a
  | false => a
section ZP
variable {p : Program} {l : Launch} {e : Env} {R : Room} {s : State} {m : MethodId} {args : Array Value} {below : List Frame} {meth : Method} {c : Code} {D : va_G} {A : Nat → Prop} {nL : Nat} {Q : State → Prop} {nc ns : Nat} {ws : va_W} {pc : Nat} {lv : List (Nat × Value)} {st : List Value}
theorem zw_perm {ws2 : va_W} (is : List Nat) (h1 : is.filterMap (fun i => ws[i]?) = ws2) (h2 : va_nd is = true) (h3 : is.map (fun i => ws[i]?) = ws2.map some) (k : zw_W p l e R s m args below meth c D A nL Q nc ns ws2 pc lv st) : zw_W p l e R s m args below meth c D A nL Q nc ns ws pc lv st := fun H locs ls hP hD hS hl => k H locs ls (hP.sub is h1) (hD.sub is h2 h3) hS hl
end ZP
