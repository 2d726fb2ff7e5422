-- THE LAW: rows
section LAWROWS
variable {p : Program} {l : Launch} {e : Env} {R : Room} {s : State} {m : MethodId} {args : Array Value} {below : List Frame} {meth : Method} {c : Code} {H H0 : Heap} {locs : List Loc} {cells slots : Nat} {cc : ByteArray} {pc : Nat} {ls : Array Slot} {A : Nat → Prop} {Q : State → Prop} {rest : List Value}
theorem r_lcmp_eq (hx : p.tables.exec = Jvm.exec) (hb : c.code = cc) {x : Int64} (hdg : decode cc pc = .ok (.lcmp, 1)) (k : W p l e R s m args below meth c H locs cells slots Q (F0 m (pc + 1) ls (.int 0 :: rest))) : W p l e R s m args below meth c H locs cells slots Q (F0 m pc ls (.long x :: .long x :: rest)) := by
  intro T hT X
  obtain ⟨t, a, b⟩ := k T hT X
  have h1 : ¬ x < x := Int64.lt_irrefl
  refine ⟨t, ?_, b⟩
  jvm_step X.here [X.here.top, hx, hb, hdg, Op.lcmp.sem, h1]
  exact a
theorem iv_back (x : Int32) : iv x.toInt = x := Int32.ofInt_toInt x
theorem xs_rng (x : Int32) : -2147483648 ≤ x.toInt ∧ x.toInt < 2147483648 := by
  have h1 := Int32.le_toInt x
  have h2 := Int32.toInt_lt x
  omega
theorem r_sld (hx : p.tables.exec = Jvm.exec) (hb : c.code = cc) {b L : Nat} {xs : Nat → Int32} (hX : va_X b L xs s H0) (hbl : b < H0.size) (hbA : ¬ A b) (hS : va_S A H0 H locs) (k : Nat) {z : Int} (hz : z = (k : Int)) (hk : k < L) (hL : L ≤ 3584) (d : decode cc pc = .ok (.iaload, 1)) (kk : W p l e R s m args below meth c H locs cells slots Q (F0 m (pc + 1) ls (.int (iv (xs k).toInt) :: rest))) : W p l e R s m args below meth c H locs cells slots Q (F0 m pc ls (.int (iv z) :: .ref b :: rest)) := by
  obtain ⟨h1, h2⟩ := iv_ix hz hk (by omega)
  refine va_sld hx hb hX hbl hbA hS h1 d ?_
  rw [h2, ← iv_back (xs k)]
  exact kk
end LAWROWS
/-- what stays through the law -/
def LB (p : Program) (l : Launch) (s : State) (m : MethodId) (meth : Method) (c : Code) (D : va_G) (G : Nat → ClassId) (b L : Nat) (xs : Nat → Int32) (A : Nat → Prop) : Prop :=
  p.tables.exec = Jvm.exec ∧ c.code = cL_law ∧ c.maxLocals = 9 ∧ s.vm.findClass RL = some m.cls ∧ (∀ w ∈ wsL_law, w.before #[Value.ref b] s = true) ∧ va_K D vwCl (TY G) s ∧ TH A s s.heap ∧ NC s ∧ (∀ q, s.heap.size ≤ q → A q) ∧ va_X b L xs s s.heap ∧ b < s.heap.size ∧ ¬ A b ∧ L ≤ 3584 ∧ l.stackTraces = false
theorem iv_k {k v : Int} (hk : -2147483648 ≤ k ∧ k < 2147483648) (h : iv k = iv v) (hv : -2147483648 ≤ v ∧ v < 2147483648) : k = v := by
  have h2 := congrArg Int32.toInt h
  rw [iv_toInt hk, iv_toInt hv] at h2
  exact h2
section LAW2
variable {p : Program} {l : Launch} {e : Env} {R : Room} {s : State} {m : MethodId} {args : Array Value} {below : List Frame} {meth : Method} {c : Code} {H : Heap} {locs : List Loc} {cells slots mc ms : Nat} {cc : ByteArray} {pc : Nat} {ls : Array Slot} {D : va_G} {A : Nat → Prop} {Q : State → Prop} {tys : List (ClassId × FieldType)} {ws wc wr : va_W} {As rest st0 : List Value} {f lc : Nat}
theorem r_newJ {G : Nat → ClassId} {H0 : Heap} (hx : p.tables.exec = Jvm.exec) (hb : c.code = cc) (harr : (Cond.arrayClass .long).before args s = true) (hK : va_K D vwCl (TY G) s) (hP : va_P D vwCl ws H) (hD : va_D A ws) (hS : va_S A H0 H locs) (hA : ∀ q, H0.size ≤ q → A q) (N : Nat) {z : Int} (hz : z = (N : Int)) (hN : N < 1000) (hcells : cells + 1 ≤ R.cells) (hslots : slots + N ≤ R.slots) (d : decode cc pc = .ok (.newarray .long, 2)) (kk : ∀ (q : Nat) (H : Heap), va_P D vwCl (ws ++ [(q, .inl (G 5, N, .inr (.inl (fun _ => 0))))]) H → va_D A (ws ++ [(q, .inl (G 5, N, .inr (.inl (fun _ => 0))))]) → va_S A H0 H locs → W p l e R s m args below meth c H locs (cells + 1) (slots + N) Q (F0 m (pc + 2) ls (.ref q :: rest))) : W p l e R s m args below meth c H locs cells slots Q (F0 m pc ls (.int (iv z) :: rest)) := by
  subst hz
  have h2 : (iv (N : Int)).toNatClampNeg = N := (iv_ix rfl (Nat.lt_succ_self N) (by omega)).2
  have h3 : ¬ iv (N : Int) < 0 := fun q => by have := (iv_lt (a := (N : Int)) (b := 0) (by omega) (by decide)).mp q; omega
  refine va_newa (atype := .long) (ty := .long) (a0 := (N, .inr (.inl (fun _ => 0)))) hx hb harr rfl hK hP hD hS hA (fun cA => rfl) h3 h2 (by simp [componentBytes]; omega) hcells hslots d (fun q cA H1 k1 g1 g2 g3 => ?_)
  have r1 := (k1.2 6 (cA, .long) rfl).2
  have r0 := (hK.2 5 (G 5, .long) rfl).2
  have e1 : cA = G 5 := Option.some.inj (Eq.trans (Eq.symm r1) r0)
  subst e1
  exact kk q H1 g1 g2 g3
theorem g_IT {Ts ws1 : List Cond} {nL maxL n index : Nat} {own : String} {y : MethodName} {bytes : ByteArray} {qc : QcT} {b : Nat} (S : CallFix p m c cc nL s args Ts own) (hM : MtX l y ws1 f lc mc ms D tys (.ref b :: As) wc qc) (cw : CallB R s args own index y bytes maxL none ws1 (rmOf f lc mc ms) mc ms n ∧ y.name = "<init>" ∧ (Cond.instanceMethod y).before args s = true) (hK : va_K D vwCl tys s) (hT : TH A s s.heap) (hA : ∀ q, s.heap.size ≤ q → A q) (hP : va_P D vwCl ws H) (hD : va_D A ws) (hS : va_S A s.heap H locs) (hp : ws.Perm (wc ++ wr)) (hn : As.length = n) (hsize : ls.size = nL) (hst : st0 = As.reverse ++ .ref b :: rest) (hW : (rest.map fun v => v.category).sum ≤ 8) (d : decode cc pc = .ok (.invokespecial index, 3)) (hf : cells + mc ≤ R.cells ∧ slots + ms ≤ R.slots) : va_Run p l e R s m args below meth c H locs cells slots mc ms (F0 m pc ls st0) rest (qc (va_A wc H.size) (Value.ref b :: As).toArray) (va_A wc H.size) :=
  va_runI (g := F0 m pc ls st0) S (hM H.size) cw ⟨w_blindX _ _ _ _ _, w_preX hK hT hA hP hD hS hp _⟩ rfl hn hsize hst (by simpa [JFrame.monitorRoom] using hW) d hf
end LAW2
