-- THE CITADEL'S STATE, and what each call does to it
abbrev CS : Type := (Nat → DS) × (Nat → Nat → Int) × (Nat → Int) × Nat × Nat × Int × Int
abbrev kS (c : CS) : Nat → DS := c.1
abbrev kP (c : CS) : Nat → Nat → Int := c.2.1
abbrev kT (c : CS) : Nat → Int := c.2.2.1
abbrev kn (c : CS) : Nat := c.2.2.2.1
abbrev kp (c : CS) : Nat := c.2.2.2.2.1
abbrev kd (c : CS) : Int := c.2.2.2.2.2.1
abbrev km (c : CS) : Int := c.2.2.2.2.2.2
def okC (c : CS) : Prop := kn c ≤ 8 ∧ kp c ≤ 8 ∧ (∀ d, d < kn c → okD (kS c d)) ∧ (∀ q, q < kp c → okP (kP c q)) ∧ (∀ j, j < 5 → 0 ≤ kT c j ∧ kT c j ≤ 99) ∧ (0 ≤ kd c ∧ kd c ≤ 1900000000) ∧ (0 ≤ km c ∧ km c ≤ 3)
theorem okC_D {c : CS} (h : okC c) {d : Nat} (hd : d < kn c) : okD (kS c d) := h.2.2.1 d hd
theorem okC_P {c : CS} (h : okC c) {q : Nat} (hq : q < kp c) : okP (kP c q) := h.2.2.2.1 q hq
theorem okC_T {c : CS} (h : okC c) : ∀ j, j < 5 → 0 ≤ kT c j ∧ kT c j ≤ 99 := h.2.2.2.2.1
def wS (c : CS) (S : Nat → DS) : CS := (S, kP c, kT c, kn c, kp c, kd c, km c)
def wT (c : CS) (T : Nat → Int) : CS := (kS c, kP c, T, kn c, kp c, kd c, km c)
abbrev OP : Type := Int × Int × CS
abbrev isD (c : CS) (d : Int) : Prop := 0 ≤ d ∧ d ≤ (kn c : Int) - 1
abbrev isP (c : CS) (q : Int) : Prop := 0 ≤ q ∧ q ≤ (kp c : Int) - 1
def pf6 (a b c d e f : Int) : Nat → Int := fun j => if j = 0 then a else if j = 1 then b else if j = 2 then c else if j = 3 then d else if j = 4 then e else f
abbrev isAng (x : Int) : Prop := 0 ≤ x ∧ x ≤ 90
def opMake (c : CS) : OP := if kn c = 8 then (1, 0, c) else (0, (kn c : Int), (updS (kS c) (kn c) dNew, kP c, kT c, kn c + 1, kp c, kd c, km c))
def opPose (c : CS) (x0 x1 x2 x3 x4 x5 : Int) : OP := if ¬ (isAng x0 ∧ isAng x1 ∧ isAng x2 ∧ isAng x3 ∧ isAng x4 ∧ isAng x5) then (1, 0, c) else if kp c = 8 then (2, 0, c) else (0, (kp c : Int), (kS c, fun q => if q = kp c then pf6 x0 x1 x2 x3 x4 x5 else kP c q, kT c, kn c, kp c + 1, kd c, km c))
def addT (s : DS) : DS := (dA s, dW s, dQ s, dO s, dU s, dg s, dv s, dn s, dt s + 1)
def opTake (c : CS) (d q : Int) : OP := if ¬ (isD c d ∧ isP c q) then (1, 0, c) else if canT (kP c q.toNat) (kS c d.toNat) = false then (2, 0, c) else (0, cntW 100 (turnN (kP c q.toNat) 6 (kS c d.toNat)) - cntW 100 (kS c d.toNat), wS c (updS (kS c) d.toNat (addT (turnN (kP c q.toNat) 6 (kS c d.toNat)))))
def flipO (s : DS) (e : Nat) : DS := (dA s, dW s, dQ s, updI (dO s) e (1 - dO s e), dU s, dg s, dv s, dn s, dt s)
def opBlink (c : CS) (d e : Int) : OP := if ¬ (isD c d ∧ 0 ≤ e ∧ e ≤ 1) then (1, 0, c) else if dU (kS c d.toNat) e.toNat = 9 then (2, 0, c) else (0, 1 - dO (kS c d.toNat) e.toNat, wS c (updS (kS c) d.toNat (flipO (kS c d.toNat) e.toNat)))
def opDress (c : CS) (d w q : Int) : OP := if ¬ isD c d then (1, 0, c) else if ¬ ((1 ≤ w ∧ w ≤ 9) ∧ 0 ≤ q ∧ q ≤ 12) then (2, 0, c) else if q < w ∨ kT c 2 < q then (3, 0, c) else (0, min 99 (kT c 2 - q + dn (kS c d.toNat)), wT (wS c (updS (kS c) d.toNat (dsetR (kS c d.toNat) (dg (kS c d.toNat)) w q))) (updI (kT c) 2 (min 99 (kT c 2 - q + dn (kS c d.toNat)))))
def opBring (c : CS) (k m : Int) : OP := if ¬ ((0 ≤ k ∧ k ≤ 4) ∧ 1 ≤ m ∧ m ≤ 99) then (1, 0, c) else (0, min 99 (kT c k.toNat + m), wT c (updI (kT c) k.toNat (min 99 (kT c k.toNat + m))))
def opMoths (c : CS) (x : Int) : OP := if ¬ (0 ≤ x ∧ x ≤ 3) then (1, 0, c) else (0, km c, (kS c, kP c, kT c, kn c, kp c, kd c, x))
def mendD (s : DS) (k : Int) (j : Nat) : DS := if k = 0 then setL (setL s 1 j 0) 2 j 0 else if k = 1 then setL s 2 j 20 else if k = 2 then dsetR s (dg s) (dv s) (dn s + 1) else if k = 3 then (dA s, dW s, dQ s, dO s, fun _ => 0, dg s, dv s, dn s, dt s) else dsetR s 0 (dv s) (dn s)
def opMend (c : CS) (d k j : Int) : OP := if ¬ (isD c d ∧ 0 ≤ j ∧ j ≤ 5) then (1, 0, c) else if ¬ (0 ≤ k ∧ k ≤ 4) then (2, 0, c) else if kT c k.toNat = 0 ∨ (k = 2 ∧ (dv (kS c d.toNat) = 0 ∨ dn (kS c d.toNat) = 12)) then (3, 0, c) else (0, kT c k.toNat - 1, wT (wS c (updS (kS c) d.toNat (mendD (kS c d.toNat) k j.toNat))) (updI (kT c) k.toNat (kT c k.toNat - 1)))
def opJoint (c : CS) (d j w : Int) : OP := if isD c d ∧ (0 ≤ j ∧ j ≤ 5) ∧ 0 ≤ w ∧ w ≤ 3 then (0, jtold (kS c d.toNat) j.toNat w.toNat, c) else (1, 0, c)
def opDoll (c : CS) (d w : Int) : OP := if isD c d ∧ 0 ≤ w ∧ w ≤ 7 then (0, roomv (kS c d.toNat) w.toNat, c) else (1, 0, c)
def countV (c : CS) (w : Int) : Int := if w = 0 then kd c else if w = 1 then (kn c : Int) else if w = 2 then (kp c : Int) else if w = 3 then km c else if w < 8 then sm (fun e => tally w (kS c e)) (kn c) else kT c (w - 8).toNat
def opCount (c : CS) (w : Int) : OP := if 0 ≤ w ∧ w ≤ 12 then (0, countV c w, c) else (1, 0, c)
def opCosts (c : CS) (d q : Int) : OP := if ¬ (isD c d ∧ isP c q) then (1, 0, c) else if canT (kP c q.toNat) (kS c d.toNat) = false then (0, -1, c) else (0, sm (dW (turnN (kP c q.toNat) 6 (kS c d.toNat))) 6 - sm (dW (kS c d.toNat)) 6, c)
def ofN (P : Nat → Int) (s : DS) : Nat → DS
  | 0 => s
  | i + 1 => turnN zz 6 (turnN P 6 (ofN P s i))
def ofT (P : Nat → Int) (s : DS) : Nat → Nat → Nat
  | 0, t => t
  | f + 1, t => if canT P (ofN P s t) = true then ofT P s f (t + 1) else t
def opOften (c : CS) (d q : Int) : OP := if ¬ (isD c d ∧ isP c q) then (1, 0, c) else (0, (ofT (kP c q.toNat) (kS c d.toNat) 50 0 : Int), c)
def opNeeds (c : CS) (d k : Int) : OP := if ¬ isD c d then (1, 0, c) else if 0 ≤ k ∧ k ≤ 4 then (0, wants k (kS c d.toNat), c) else (2, 0, c)
def opLacks (c : CS) (k : Int) : OP := if ¬ (0 ≤ k ∧ k ≤ 4) then (1, 0, c) else (0, max 0 (sm (fun e => wants k (kS c e)) (kn c) - kT c k.toNat), c)
/-- the best so far: who, how much -/
def wstN (S : Nat → DS) : Nat → Int × Int
  | 0 => (-1, 0)
  | i + 1 => if wantsAll (S i) ≤ (wstN S i).2 then wstN S i else ((i : Int), wantsAll (S i))
def opWorst (c : CS) : Int := (wstN (kS c) (kn c)).1
def lossN (S : Nat → DS) (S' : Nat → DS) (n : Nat) : Int := sm (fun e => has (S e)) n - sm (fun e => has (S' e)) n
def afterS (c : CS) (k : Nat) : Nat → DS := fun e => if e < kn c then dayN (km c) (kd c) k (kS c e) else kS c e
def afterC (c : CS) (k : Nat) : CS := (afterS c k, kP c, kT c, kn c, kp c, kd c + k, km c)
def opForesee (c : CS) (k w : Int) : OP := if ¬ (1 ≤ k ∧ k ≤ 60) then (1, 0, c) else if ¬ (4 ≤ w ∧ w ≤ 7) then (2, 0, c) else (0, countV (afterC c k.toNat) w, c)
def opPass (c : CS) (k : Int) : OP := if 1 ≤ k ∧ k ≤ 60 then (0, lossN (kS c) (afterS c k.toNat) (kn c), afterC c k.toNat) else (1, 0, c)
def wearAll (c : CS) : Int := sm (fun e => sm (dW (kS c e)) 6) (kn c)
/-- folds of a digest -/
def dgS (f : Nat → Int64 → Int64) (d : Int64) : Nat → Int64
  | 0 => d
  | n + 1 => f n (dgS f d n)
def dgDoll (s : DS) (d : Int64) : Int64 := dgS (fun j x => dg64 (fun w => jtold s j w) x 4) (dg64 (fun w => roomv s w) d 8) 6
def opDigest (c : CS) : Int64 := dgS (fun e x => dgDoll (kS c e) x) (dgS (fun q x => dg64 (kP c q) x 6) (dg64 (fun w => countV c (w : Int)) 1063 13) (kp c)) (kn c)
-- days
def dayS (mo day : Int) (n : Nat) (S : Nat → DS) (k d : Nat) : Nat → DS := fun e => if e < n then (if e < d then dayN mo day (k + 1) (S e) else dayN mo day k (S e)) else S e
theorem dayS_0 (mo day : Int) (n : Nat) (S : Nat → DS) : dayS mo day n S 0 0 = S := by
  funext e
  unfold dayS
  split
  · rw [if_neg (Nat.not_lt_zero e)]
    rfl
  · rfl
theorem dayS_at {mo day : Int} {n : Nat} {S : Nat → DS} {k d : Nat} (h : d < n) : dayS mo day n S k d d = dayN mo day k (S d) := by
  unfold dayS
  rw [if_pos h, if_neg (Nat.lt_irrefl d)]
theorem dayS_step {mo day : Int} {n : Nat} {S : Nat → DS} {k d : Nat} (h : d < n) : updS (dayS mo day n S k d) d (day1 (day + k) mo (dayN mo day k (S d))) = dayS mo day n S k (d + 1) := by
  funext e
  unfold updS dayS
  by_cases q : e = d
  · subst q
    rw [if_pos rfl, if_pos h, if_pos (Nat.lt_succ_self e)]
    rfl
  · rw [if_neg q]
    by_cases q2 : e < n
    · rw [if_pos q2, if_pos q2]
      by_cases q3 : e < d
      · rw [if_pos q3, if_pos (by omega)]
      · rw [if_neg q3, if_neg (by omega)]
    · rw [if_neg q2, if_neg q2]
theorem dayS_n (mo day : Int) (n : Nat) (S : Nat → DS) (k : Nat) : dayS mo day n S k n = dayS mo day n S (k + 1) 0 := by
  funext e
  unfold dayS
  by_cases q : e < n
  · rw [if_pos q, if_pos q, if_pos q, if_neg (Nat.not_lt_zero e)]
  · rw [if_neg q, if_neg q]
theorem loss_upd {S S' : Nat → DS} {s : DS} {n d : Nat} (h : d < n) : lossN S (updS S' d s) n = lossN S S' n + has (S' d) - has s := by
  unfold lossN
  rw [sm_one (f := fun e => has (updS S' d s e)) (g := fun e => has (S' e)) h (fun i hi => by rw [updS_n _ _ hi])]
  show _ - (_ - has (S' d) + has (updS S' d s d)) = _
  rw [updS_s]
  omega
theorem loss_0 (S : Nat → DS) (n : Nat) : lossN S S n = 0 := by unfold lossN; omega
theorem loss_rng (S S' : Nat → DS) {n : Nat} (hn : n ≤ 8) : -16 ≤ lossN S S' n ∧ lossN S S' n ≤ 16 := by
  have h1 := sm_bound (f := fun e => has (S e)) (c := 2) (n := n) (fun j _ => has_rng)
  have h2 := sm_bound (f := fun e => has (S' e)) (c := 2) (n := n) (fun j _ => has_rng)
  unfold lossN
  omega
theorem smT_rng {w : Int} {S : Nat → DS} {n : Nat} (hn : n ≤ 8) : 0 ≤ sm (fun e => tally w (S e)) n ∧ sm (fun e => tally w (S e)) n ≤ 48 := by
  have h1 := sm_bound (f := fun e => tally w (S e)) (c := 6) (n := n) (fun j _ => tally_rng)
  omega
theorem addT_turn1 (P : Nat → Int) (i : Nat) (s : DS) : turn1 P i (addT s) = addT (turn1 P i s) := by
  unfold turn1
  by_cases h : dA s i = P i ∨ 100 ≤ dW s i
  · rw [if_pos h, if_pos (show dA (addT s) i = P i ∨ 100 ≤ dW (addT s) i from h)]
  · rw [if_neg h, if_neg (show ¬ (dA (addT s) i = P i ∨ 100 ≤ dW (addT s) i) from h)]
    rfl
theorem addT_turnN (P : Nat → Int) (s : DS) : ∀ i, turnN P i (addT s) = addT (turnN P i s)
  | 0 => rfl
  | i + 1 => by
    show turn1 P i (turnN P i (addT s)) = addT (turn1 P i (turnN P i s))
    rw [addT_turnN P s i, addT_turn1]
section II
variable {p : Program} {l : Launch} {e : Env} {R : Room} {s : State} {m : MethodId} {args : Array Value} {below : List Frame} {meth : Method} {c : Code} {H : Heap} {locs : List Loc} {cells slots mc ms : Nat} {cc : ByteArray} {pc : Nat} {ls : Array Slot} {D : va_G} {A : Nat → Prop} {Q : State → Prop} {rest : List Value}
/-- new int[N][] -/
theorem r_newII {G : Nat → ClassId} {ws : va_W} {H0 : Heap} {own : String} {index : Nat} (hx : p.tables.exec = Jvm.exec) (hb : c.code = cc) (hown : s.vm.findClass own = some m.cls) (hlink : (Cond.classLink own index "[I").before args s = true) (ho : AOI s) (hK : va_K D vwCl (TY G) s) (hP : va_P D vwCl ws H) (hD : va_D A ws) (hS : va_S A H0 H locs) (hA : ∀ q, H0.size ≤ q → A q) (N : Nat) {z : Int} (hz : z = (N : Int)) (hN : N < 1000) (hcells : cells + 1 ≤ R.cells) (hslots : slots + N ≤ R.slots) (d : decode cc pc = .ok (.anewarray index, 3))
    (kk : ∀ (q : Nat) (H : Heap) (kA : Class), s.vm.classes[G 4]? = some kA → kA.kind = .array (G 0) (.array .int) → va_P D vwCl (ws ++ [(q, .inl (G 4, N, .inr (.inr (.inr (.inr (fun _ => none))))))]) H → va_D A (ws ++ [(q, .inl (G 4, N, .inr (.inr (.inr (.inr (fun _ => none))))))]) → va_S A H0 H locs → W p l e R s m args below meth c H locs (cells + 1) (slots + N) Q (F0 m (pc + 3) ls (.ref q :: rest))) : W p l e R s m args below meth c H locs cells slots Q (F0 m pc ls (.int (iv z) :: rest)) := by
  subst hz
  have h2 : (iv (N : Int)).toNatClampNeg = N := (iv_ix rfl (Nat.lt_succ_self N) (by omega)).2
  have h3 : ¬ iv (N : Int) < 0 := fun q => by have := (iv_lt (a := (N : Int)) (b := 0) (by omega) (by decide)).mp q; omega
  refine W.anewA (t := .int) hx hb hown hlink ho rfl d rfl h3 (by rw [h2]; omega) hcells (by rw [h2]; exact hslots) fun cA kA comp f1 f2 f3 f4 => ?_
  rw [h2]
  have r4 := (hK.2 4 (G 4, .array .int) rfl).2
  have r0 := (hK.2 0 (G 0, .int) rfl).2
  have e1 : cA = G 4 := Option.some.inj (Eq.trans (Eq.symm f1) r4)
  have e2 : comp = G 0 := Option.some.inj (Eq.trans (Eq.symm f4) r0)
  subst e1
  subst e2
  generalize hH1 : H.push ({ cls := G 4, slots := Array.replicate N .null, vm := .none } : Cell) = H1
  have z1 : H1.size = H.size + 1 := by rw [← hH1, Array.size_push]
  have g1 : H1[H.size]? = some (arrV (G 4) N (fun _ => .null)) := by rw [← hH1, Array.getElem?_push_size, ← arrV_new]
  have o1 : ∀ q : Nat, q < H.size → H1[q]? = H[q]? := fun q hq => by rw [← hH1, Array.getElem?_push, if_neg (Nat.ne_of_lt hq)]
  have hk : ∀ (k : Nat) (x : Nat × va_E), ws[k]? = some x → H1[x.1]? = H[x.1]? := fun k x hx => o1 x.1 ((hP k x hx).lt)
  refine kk H.size H1 kA f2 f3 ((hP.kept hk).app (fun k x hx => ?_)) (hD.push hP rfl (hA _ hS.1)) ⟨Nat.le_trans hS.1 (by omega), fun x h1 h2 => (o1 x (Nat.lt_of_lt_of_le h1 hS.1)).trans (hS.2.1 x h1 h2), hS.2.2⟩
  have hz : k < 1 := (List.getElem?_eq_some_iff.mp hx).1
  rw [show k = 0 by omega] at hx
  cases hx
  show H1[H.size]? = some (vp_cell _ _)
  rw [vp_cell_q]
  exact g1
theorem r_aastII {G : Nat → ClassId} {ws : va_W} {H0 : Heap} {a v : Nat} {kA : Class} (hx : p.tables.exec = Jvm.exec) (hb : c.code = cc) (hk : s.vm.classes[G 4]? = some kA) (hkind : kA.kind = .array (G 0) (.array .int)) (hK : va_K D vwCl (TY G) s) (hP : va_P D vwCl ws H) (hD : va_D A ws) (hS : va_S A H0 H locs) (q0 qk : Nat) {n nv : Nat} {f : Nat → Option Nat} {F : Nat → Int} (ha : ws[q0]? = some (a, .inl (G 4, n, .inr (.inr (.inr (.inr f)))))) (hv : ws[qk]? = some (v, .inl (G 0, nv, .inl (fun j => iv (F j))))) {z : Int} (k : Nat) (hz : z = (k : Int)) (hkn : k < n) (hn : n < 2147483648) (d : decode cc pc = .ok (.aastore, 1))
    (kk : ∀ (H1 : Heap) (locs1 : List Loc), va_P D vwCl (ws.set q0 (a, .inl (G 4, n, .inr (.inr (.inr (.inr (va_up f k (some v)))))))) H1 → va_D A (ws.set q0 (a, .inl (G 4, n, .inr (.inr (.inr (.inr (va_up f k (some v)))))))) → va_S A H0 H1 locs1 → W p l e R s m args below meth c H1 locs1 cells slots Q (F0 m (pc + 1) ls rest)) : W p l e R s m args below meth c H locs cells slots Q (F0 m pc ls (.ref v :: .int (iv z) :: .ref a :: rest)) := by
  obtain ⟨hin, h2⟩ := iv_ix hz hkn hn
  have hlt : (iv z).toNatClampNeg < n := by rw [h2]; exact hkn
  have h0 : ¬ iv z < 0 := fun q => hin (Or.inl q)
  have hcv : H[v]? = some (vp_cell (G 0) (nv, .inl (fun j => iv (F j)))) := hP qk _ hv
  have r0 := (hK.2 0 (G 0, .int) rfl).2
  obtain ⟨kE, hkE, -⟩ := Vm.findClass_spec (show s.vm.findClass ("[" ++ FieldType.int.toString) = some (G 0) from r0)
  refine W.aast hx hb (hP q0 _ ha) (fun q h => by cases h) (fun h => by cases h) hk hkind rfl hkE ⟨h0, by show _ < (arrV _ _ _).slots.size; rw [arrV_size]; exact hlt⟩ hcv (fun q h => by cases h) (show s.vm.classes[G 0]? = some kE from hkE) (va_asg _ _) rfl rfl d fun H1 e z9 oq => ?_
  refine kk H1 _ (hP.set hD ha ?_ oq) (hD.set ha) (hS.put z9 oq (hD.2 q0 _ ha))
  show H1[a]? = some (vp_cell _ _)
  rw [e, h2]
  rw [vp_cell_q, vp_cell_q, arrV_store]
  congr 2
  funext q
  by_cases hq : q = k
  · subst hq
    simp [updV, va_up, va_rf]
  · simp [updV, va_up, hq]
theorem r_aaldII {G : Nat → ClassId} {ws : va_W} {a : Nat} (hx : p.tables.exec = Jvm.exec) (hb : c.code = cc) (hK : va_K D vwCl (TY G) s) (hP : va_P D vwCl ws H) (q0 : Nat) {n : Nat} {f : Nat → Option Nat} (ha : ws[q0]? = some (a, .inl (G 4, n, .inr (.inr (.inr (.inr f)))))) {z : Int} (k : Nat) (hz : z = (k : Int)) (hkn : k < n) (hn : n < 2147483648) (d : decode cc pc = .ok (.aaload, 1)) (kk : W p l e R s m args below meth c H locs cells slots Q (F0 m (pc + 1) ls (va_rf (f k) :: rest))) : W p l e R s m args below meth c H locs cells slots Q (F0 m pc ls (.int (iv z) :: .ref a :: rest)) := by
  obtain ⟨hin, h2⟩ := iv_ix hz hkn hn
  have hlt : (iv z).toNatClampNeg < n := Nat.not_le.mp fun q => hin (Or.inr q)
  refine W.aald (v := va_rf (f (iv z).toNatClampNeg)) hx hb (hP q0 _ ha) ((hK.2 4 _ rfl).1 n (fun j => va_rf (f j))) rfl (fun q => by cases q) (by show ¬ (_ < 0 ∨ (arrV _ _ _).slots.size ≤ _); rw [arrV_size]; exact hin) (by show (arrV _ _ _).slots[_]? = _; rw [arrV_read _ _ hlt]) rfl rfl d ?_
  rw [h2]
  exact kk
end II
