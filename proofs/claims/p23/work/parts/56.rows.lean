-- THE SCRIPT, read
section SCR
variable {p : Program} {l : Launch} {e : Env} {R : Room} {s : State} {m : MethodId} {args : Array Value} {below : List Frame} {meth : Method} {c : Code} {H : Heap} {locs : List Loc} {cells slots : Nat} {cc : ByteArray} {pc : Nat} {ls : Array Slot} {A : Nat → Prop} {Q : State → Prop} {rest : List Value}
theorem r_sldx (hx : p.tables.exec = Jvm.exec) (hb : c.code = cc) {b L : Nat} {xs : Nat → Int32} (hX : SC b L xs A s s.heap) (hS : va_S A s.heap H locs) (k : Nat) {z : Int} (hz : z = (k : Int)) (hk : k < L ∧ L ≤ 260) (d : decode cc pc = .ok (.iaload, 1)) (kk : ∀ y : Int, W p l e R s m args below meth c H locs cells slots Q (F0 m (pc + 1) ls (.int (iv y) :: rest))) : W p l e R s m args below meth c H locs cells slots Q (F0 m pc ls (.int (iv z) :: .ref b :: rest)) := by
  obtain ⟨h1, -⟩ := iv_ix hz hk.1 (by omega)
  refine va_sld hx hb hX.1 hX.2.1 hX.2.2 hS h1 d ?_
  rw [← iv_of (xs _)]
  exact kk _
theorem r_slenx (hx : p.tables.exec = Jvm.exec) (hb : c.code = cc) {b L : Nat} {xs : Nat → Int32} (hX : SC b L xs A s s.heap) (hS : va_S A s.heap H locs) (d : decode cc pc = .ok (.arraylength, 1)) (kk : W p l e R s m args below meth c H locs cells slots Q (F0 m (pc + 1) ls (.int (iv (L : Int)) :: rest))) : W p l e R s m args below meth c H locs cells slots Q (F0 m pc ls (.ref b :: rest)) :=
  va_slen hx hb hX.1 hX.2.1 hX.2.2 hS d (by rw [show Int32.ofNat L = iv (L : Int) from iv_nI L]; exact kk)
end SCR
