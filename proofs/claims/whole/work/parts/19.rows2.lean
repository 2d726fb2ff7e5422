-- clone and arraycopy of rows of ints
theorem cpy_iv (F Gf : Nat → Int) (sp dp n : Nat) : va_cpy (fun j => iv (F j)) (fun j => iv (Gf j)) sp dp n = fun j => iv (va_cpy F Gf sp dp n j) := by
  funext k
  unfold va_cpy
  split <;> rfl
theorem cpy_all {F Gf : Nat → Int} {n j : Nat} (h : j < n) : va_cpy F Gf 0 0 n j = F j := by
  rw [pk_cpy_in (Nat.zero_le j) (by omega)]
  congr 1
  omega
def kref (q : Nat → Nat) : Nat → Option Nat := va_up (va_up (va_up (fun _ => none) 0 (some (q 1))) 1 (some (q 2))) 2 (some (q 3))
section R2
variable {p : Program} {l : Launch} {e : Env} {R : Room} {s : State} {m : MethodId} {args : Array Value} {below : List Frame} {meth : Method} {c : Code} {H : Heap} {locs : List Loc} {cells slots mc ms : Nat} {cc : ByteArray} {pc : Nat} {ls : Array Slot} {D : va_G} {A : Nat → Prop} {Q : State → Prop} {rest : List Value}
theorem r_cloneI {G : Nat → ClassId} {ws : va_W} {H0 : Heap} {own : String} {index a : Nat} (hx : p.tables.exec = Jvm.exec) (hb : c.code = cc) (hml : c.maxLocals = ls.size) (hown : s.vm.findClass own = some m.cls) (hlink : (Cond.methodLink own index ⟨"[I", "clone", "()Ljava/lang/Object;"⟩).before args s = true) (hsame : (Cond.sameMethod "[I" "java/lang/Object" "clone" "()Ljava/lang/Object;").before args s = true) (hnat : (Cond.native ⟨"java/lang/Object", "clone", "()Ljava/lang/Object;"⟩).before args s = true) (hinst : (Cond.instanceMethod ⟨"java/lang/Object", "clone", "()Ljava/lang/Object;"⟩).before args s = true) (hsel : (Cond.selects "[I" ⟨"[I", "clone", "()Ljava/lang/Object;"⟩ ⟨"java/lang/Object", "clone", "()Ljava/lang/Object;"⟩).before args s = true) (hcl : va_Nw (.castable "[I" "java/lang/Cloneable") s)
    (hK : va_K D vwCl (TY G) s) (hP : va_P D vwCl ws H) (hD : va_D A ws) (hS : va_S A H0 H locs) (hA : ∀ q, H0.size ≤ q → A q) (q0 : Nat) {n : Nat} {F : Nat → Int} (ha : ws[q0]? = some (a, .inl (G 0, n, .inl (fun j => iv (F j))))) (hframes : 1 ≤ R.frames) (hlocals : (rest.map fun v => v.category).sum + 14 ≤ R.locals) (hcells : cells + 1 ≤ R.cells) (hslots : slots + n ≤ R.slots) (d : decode cc pc = .ok (.invokevirtual index, 3))
    (kk : ∀ (q : Nat) (H : Heap), va_P D vwCl (ws ++ [(q, .inl (G 0, n, .inl (fun j => iv (F j))))]) H → va_D A (ws ++ [(q, .inl (G 0, n, .inl (fun j => iv (F j))))]) → va_S A H0 H locs → W p l e R s m args below meth c H locs (cells + 1) (slots + n) Q (F0 m (pc + 3) ls (.ref q :: rest))) : W p l e R s m args below meth c H locs cells slots Q (F0 m pc ls (.ref a :: rest)) := by
  have r0 := (hK.2 0 (G 0, .int) rfl).2
  refine va_clone (ad := "[I") (ty := .int) hx hb hml hown hlink hsame hnat hinst hsel hcl hK hP hD hS hA q0 0 ha rfl (show s.vm.findClass "[I" = some (G 0) from r0) ?_ hframes hlocals hcells hslots d (fun q H1 _ g1 g2 g3 => kk q H1 g1 g2 g3)
  intro i v hv
  rw [vp_cell_i] at hv
  unfold arrV at hv
  simp only [Array.getElem?_ofFn] at hv
  split at hv
  · cases hv
    rfl
  · cases hv
theorem r_copyI {G : Nat → ClassId} {ws : va_W} {H0 : Heap} {own : String} {index a a0 : Nat} (hx : p.tables.exec = Jvm.exec) (hb : c.code = cc) (hml : c.maxLocals = ls.size) (hown : s.vm.findClass own = some m.cls) (hlink : (Cond.methodLink own index arraycopyName).before args s = true) (hnat : (Cond.native arraycopyName).before args s = true) (hstat : (Cond.static arraycopyName).before args s = true) (hini : (Cond.initialized "java/lang/System").before args s = true)
    (hK : va_K D vwCl (TY G) s) (hP : va_P D vwCl ws H) (hD : va_D A ws) (hS : va_S A H0 H locs) (q0 q1 : Nat) {n0 n1 : Nat} {F Gf : Nat → Int} (ha0 : ws[q0]? = some (a0, .inl (G 0, n0, .inl (fun j => iv (F j))))) (ha1 : ws[q1]? = some (a, .inl (G 0, n1, .inl (fun j => iv (Gf j))))) {z0 z1 z2 : Int} (sp dp n : Nat) (h0 : z0 = (sp : Int)) (h1 : z1 = (dp : Int)) (h2 : z2 = (n : Int)) (h4 : sp + n ≤ n0) (h5 : dp + n ≤ n1) (hn0 : n0 < 100000) (hn1 : n1 < 100000) (hframes : 1 ≤ R.frames) (hlocals : (rest.map fun v => v.category).sum + (nativeFrameWords "java/lang/System" "arraycopy" 5 + 11) ≤ R.locals) (d : decode cc pc = .ok (.invokestatic index, 3))
    (kk : ∀ (H1 : Heap) (locs1 : List Loc), va_P D vwCl (ws.set q1 (a, .inl (G 0, n1, .inl (fun j => iv (va_cpy F Gf sp dp n j))))) H1 → va_D A (ws.set q1 (a, .inl (G 0, n1, .inl (fun j => iv (va_cpy F Gf sp dp n j))))) → va_S A H0 H1 locs1 → W p l e R s m args below meth c H1 locs1 cells slots Q (F0 m (pc + 3) ls rest)) : W p l e R s m args below meth c H locs cells slots Q (F0 m pc ls (.int (iv z2) :: .int (iv z1) :: .ref a :: .int (iv z0) :: .ref a0 :: rest)) := by
  subst h0; subst h1; subst h2
  have cl : ∀ k : Nat, k < 100001 → (iv (k : Int)).toNatClampNeg = k ∧ ¬ iv (k : Int) < 0 := fun k hk => ⟨(iv_ix rfl (Nat.lt_succ_self k) (by omega)).2, fun q => by have := (iv_lt (a := (k : Int)) (b := 0) (by omega) (by decide)).mp q; omega⟩
  obtain ⟨e0, n0'⟩ := cl sp (by omega)
  obtain ⟨e1, n1'⟩ := cl dp (by omega)
  obtain ⟨e2, n2'⟩ := cl n (by omega)
  refine va_copyi (ty := .int) hx hb hml hown hlink hnat hstat hini hK hP hD hS q0 q1 0 0 ha0 ha1 rfl rfl rfl n0' n1' n2' (by rw [e0, e2]; exact h4) (by rw [e1, e2]; exact h5) (fun i _ => rfl) hframes hlocals d (fun H1 locs1 g1 g2 g3 => ?_)
  rw [e0, e1, e2, cpy_iv] at g1 g2
  exact kk H1 locs1 g1 g2 g3
end R2
theorem after_eq (c : CS) (k : Nat) : dayS (km c) (kd c) (kn c) (kS c) k 0 = afterS c k := by
  funext e
  unfold dayS afterS
  split
  · rw [if_neg (Nat.not_lt_zero e)]
  · rfl
theorem tally_4 (s : DS) : tally 4 s = cntW 100 s := rfl
theorem tally_5 (s : DS) : tally 5 s = if dg s = -1 then 0 else 1 := rfl
theorem tally_6 (s : DS) : tally 6 s = if dv s = 0 then 0 else 1 := rfl
theorem tally_7 {s : DS} (h : okD s) : tally 7 s = (if dU s 0 = 9 then 1 else 0) + (if dU s 1 = 9 then 1 else 0) := by
  have h0 := okD_U h 0 (by omega)
  have h1 := okD_U h 1 (by omega)
  show 0 + b2i (decide (9 ≤ dU s 0)) + b2i (decide (9 ≤ dU s 1)) = _
  have e : ∀ x : Int, x ≤ 9 → b2i (decide (9 ≤ x)) = if x = 9 then 1 else 0 := fun x hx => by
    by_cases q : x = 9
    · rw [if_pos q, decide_eq_true (by omega : 9 ≤ x)]; rfl
    · rw [if_neg q, decide_eq_false (by omega : ¬ 9 ≤ x)]; rfl
  rw [e _ h0.2, e _ h1.2]
  omega
theorem jt_3 (s : DS) (j : Nat) : jtold s j 3 = if dW s j = 100 then 1 else 0 := rfl
theorem afterC_ok {c : CS} {k : Nat} (hk : k ≤ 60) (hd : kd c ≤ 1000000) (h : okC c) : okC (afterC c k) := by
  obtain ⟨h1, h2, h3, h4, h5, h6, h7⟩ := h
  refine ⟨h1, h2, fun d hd2 => ?_, h4, h5, ?_, h7⟩
  · show okD (afterS c k d)
    unfold afterS
    rw [if_pos (show d < kn c from hd2)]
    exact dayN_ok h7 (h3 d hd2) k
  · show 0 ≤ kd c + (k : Int) ∧ kd c + (k : Int) ≤ 1900000000
    omega
