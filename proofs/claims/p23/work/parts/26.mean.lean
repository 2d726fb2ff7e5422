-- THE MEAN: its quotient is a number, so no draw
def qd (n a : Nat) : UInt64 := FP.ddiv (FP.i2d (iv (a : Int))) (FP.i2d (iv (6 * (n : Int))))
def qok (n a : Nat) : Bool := decide (qd n a &&& 0x7fffffffffffffff ≤ 0x7ff0000000000000) && (FP.dcmp (qd n a) (qd n a) == some .eq)
set_option maxRecDepth 100000 in
theorem qok_1 : ∀ h : Nat, h < 7 → ∀ t : Nat, t < 100 → qok 1 (100 * h + t) = true := by decide +kernel
set_option maxRecDepth 100000 in
theorem qok_2 : ∀ h : Nat, h < 13 → ∀ t : Nat, t < 100 → qok 2 (100 * h + t) = true := by decide +kernel
set_option maxRecDepth 100000 in
theorem qok_3 : ∀ h : Nat, h < 19 → ∀ t : Nat, t < 100 → qok 3 (100 * h + t) = true := by decide +kernel
set_option maxRecDepth 100000 in
theorem qok_4 : ∀ h : Nat, h < 25 → ∀ t : Nat, t < 100 → qok 4 (100 * h + t) = true := by decide +kernel
set_option maxRecDepth 100000 in
theorem qok_5 : ∀ h : Nat, h < 31 → ∀ t : Nat, t < 100 → qok 5 (100 * h + t) = true := by decide +kernel
set_option maxRecDepth 100000 in
theorem qok_6 : ∀ h : Nat, h < 37 → ∀ t : Nat, t < 100 → qok 6 (100 * h + t) = true := by decide +kernel
set_option maxRecDepth 100000 in
theorem qok_7 : ∀ h : Nat, h < 43 → ∀ t : Nat, t < 100 → qok 7 (100 * h + t) = true := by decide +kernel
set_option maxRecDepth 100000 in
theorem qok_8 : ∀ h : Nat, h < 49 → ∀ t : Nat, t < 100 → qok 8 (100 * h + t) = true := by decide +kernel
theorem qok_all {n a : Nat} (h0 : n ≠ 0) (h8 : n ≤ 8) (ha : a ≤ 600 * n) : qok n a = true := by
  have e : a = 100 * (a / 100) + a % 100 := by omega
  have ht : a % 100 < 100 := by omega
  rw [e]
  rcases (show n = 1 ∨ n = 2 ∨ n = 3 ∨ n = 4 ∨ n = 5 ∨ n = 6 ∨ n = 7 ∨ n = 8 by omega) with rfl | rfl | rfl | rfl | rfl | rfl | rfl | rfl
  · exact qok_1 _ (by omega) _ ht
  · exact qok_2 _ (by omega) _ ht
  · exact qok_3 _ (by omega) _ ht
  · exact qok_4 _ (by omega) _ ht
  · exact qok_5 _ (by omega) _ ht
  · exact qok_6 _ (by omega) _ ht
  · exact qok_7 _ (by omega) _ ht
  · exact qok_8 _ (by omega) _ ht
theorem qd_ok {n : Nat} {x : Int} (h0 : n ≠ 0) (h8 : n ≤ 8) (hx : 0 ≤ x ∧ x ≤ 600 * (n : Int)) : vf_n64 (FP.ddiv (FP.i2d (iv x)) (FP.i2d (iv (6 * (n : Int))))) ∧ FP.dcmp (FP.ddiv (FP.i2d (iv x)) (FP.i2d (iv (6 * (n : Int))))) (FP.ddiv (FP.i2d (iv x)) (FP.i2d (iv (6 * (n : Int))))) = some .eq := by
  obtain ⟨a, rfl⟩ := Int.eq_ofNat_of_zero_le hx.1
  have h := qok_all h0 h8 (a := a) (by omega)
  unfold qok qd at h
  simp only [Bool.and_eq_true, decide_eq_true_eq, beq_iff_eq] at h
  exact h
def meanV (c : CS) : UInt64 := if kn c = 0 then FP.dconst0 else FP.ddiv (FP.i2d (iv (wearAll c))) (FP.i2d (iv (6 * (kn c : Int))))
theorem wearAll_rng {c : CS} (h : okC c) : 0 ≤ wearAll c ∧ wearAll c ≤ 600 * (kn c : Int) := by
  have := sm_bound (f := fun e => sm (dW (kS c e)) 6) (c := 600) (n := kn c) (fun j hj => by
    have h1 := sm_bound (f := dW (kS c j)) (c := 100) (n := 6) (fun i hi => okD_W (okC_D h hj) i hi)
    omega)
  unfold wearAll
  omega
theorem dconst0_eq : FP.dcmp FP.dconst0 FP.dconst0 = some .eq := by decide +kernel
theorem mean_eq {c : CS} (h : okC c) : FP.dcmp (meanV c) (meanV c) = some .eq := by
  unfold meanV
  split
  · exact dconst0_eq
  · exact (qd_ok (by assumption) h.1 (wearAll_rng h)).2
section DBL
variable {p : Program} {l : Launch} {e : Env} {R : Room} {s : State} {m : MethodId} {args : Array Value} {below : List Frame} {meth : Method} {c : Code} {H : Heap} {locs : List Loc} {cells slots mc ms : Nat} {cc : ByteArray} {pc : Nat} {ls : Array Slot} {D : va_G} {A : Nat → Prop} {Q : State → Prop}
theorem e_dbl {post : UInt64 → va_W → Prop} {u : va_W} {v : UInt64} (hx : p.tables.exec = Jvm.exec) (hb : c.code = cc) (hr : meth.sig.returnType = some .double) (hlk : meth.locks = false) (d : decode cc pc = .ok (.dreturn, 1)) (hS : va_S A s.heap H locs) (hP : va_P D vwCl u H) (hD : va_D A u) (hc : cells ≤ mc) (hs : slots ≤ ms) (hp : post v u) : W p l e R s m args below meth c H locs cells slots (MQ below (qD D post A) args s mc ms A) (F0 m pc ls [.double v]) :=
  W.widen hc hs (W.dret hx hb hr (fun t ht _ => ⟨⟨v, u, rfl, hp, by rw [ht]; exact hP, hD⟩, hS.F ht⟩) hS.2.2 d (hlocks := hlk))
variable {H0 : Heap} {ws wc wr : va_W} {st0 rest : List Value}
theorem k_dbl {post : UInt64 → va_W → Prop} {a : Array Value} (hr : va_Run p l e R s m args below meth c H locs cells slots mc ms (F0 m pc ls st0) rest (qD D post (va_A wc H.size) a) (va_A wc H.size)) (hP : va_P D vwCl ws H) (hD : va_D A ws) (hS : va_S A H0 H locs) (hA : ∀ q, H0.size ≤ q → A q) (hp : ws.Perm (wc ++ wr))
    (kk : ∀ (v : UInt64) (u : va_W) (H1 : Heap) (locs1 : List Loc), post v u → va_P D vwCl (u ++ wr) H1 → va_D A (u ++ wr) → va_S A H0 H1 locs1 → W p l e R s m args below meth c H1 locs1 (cells + mc) (slots + ms) Q (F0 m (pc + 3) ls (.double v :: rest))) : W p l e R s m args below meth c H locs cells slots Q (F0 m pc ls st0) := by
  have hF := wF hD hS hA hp
  refine va_calld hr hS (fun q _ h => hF q h) hF (fun v u t H1 locs1 ht _ hw hB _ hk hS1 => ?_)
  obtain ⟨hP1, hD1⟩ := hB
  rw [ht] at hP1
  obtain ⟨g1, g2⟩ := wJ hP hD hp hk hF hP1 hD1
  exact kk v u H1 locs1 hw g1 g2 hS1
end DBL
