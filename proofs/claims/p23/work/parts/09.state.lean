-- THE STATE, in one form for the class and for the reference
abbrev DS : Type := (Nat → Int) × (Nat → Int) × (Nat → Int) × (Nat → Int) × (Nat → Int) × Int × Int × Int × Int
abbrev dA (s : DS) : Nat → Int := s.1
abbrev dW (s : DS) : Nat → Int := s.2.1
abbrev dQ (s : DS) : Nat → Int := s.2.2.1
abbrev dO (s : DS) : Nat → Int := s.2.2.2.1
abbrev dU (s : DS) : Nat → Int := s.2.2.2.2.1
abbrev dg (s : DS) : Int := s.2.2.2.2.2.1
abbrev dv (s : DS) : Int := s.2.2.2.2.2.2.1
abbrev dn (s : DS) : Int := s.2.2.2.2.2.2.2.1
abbrev dt (s : DS) : Int := s.2.2.2.2.2.2.2.2
/-- the classes of arrays: 0 int, 1 boolean, 2 dolls, 3 poses, 4 rows of ints, 5 the dolls of the law, 6 rows of rows -/
abbrev TY (G : Nat → ClassId) : List (ClassId × FieldType) := [(G 0, .int), (G 1, .boolean), (G 2, .object RX0), (G 3, .object RX1), (G 4, .array .int), (G 5, .object RX3), (G 6, .array (.array .int))]
def wDoll (G : Nat → ClassId) (a : Nat → Nat) (s : DS) : va_W := [(a 0, .inr (0, [.ref (a 1), .ref (a 2), .ref (a 3), .ref (a 4), .ref (a 5), .int (iv (dg s)), .int (iv (dv s)), .int (iv (dn s)), .int (iv (dt s))])), (a 1, .inl (G 0, 6, .inl (fun j => iv (dA s j)))), (a 2, .inl (G 0, 6, .inl (fun j => iv (dW s j)))), (a 3, .inl (G 0, 6, .inl (fun j => iv (dQ s j)))), (a 4, .inl (G 1, 2, .inl (fun j => iv (dO s j)))), (a 5, .inl (G 0, 2, .inl (fun j => iv (dU s j))))]
def wPose (G : Nat → ClassId) (a : Nat → Nat) (P : Nat → Int) : va_W := [(a 0, .inr (1, [.ref (a 1)])), (a 1, .inl (G 0, 6, .inl (fun j => iv (P j))))]
/-- what holds of a doll at any time -/
def okD (s : DS) : Prop := (∀ j, j < 6 → (0 ≤ dA s j ∧ dA s j ≤ 90) ∧ (0 ≤ dW s j ∧ dW s j ≤ 100) ∧ (0 ≤ dQ s j ∧ dQ s j ≤ 20)) ∧ (∀ j, j < 2 → (0 ≤ dO s j ∧ dO s j ≤ 1) ∧ (0 ≤ dU s j ∧ dU s j ≤ 9)) ∧ (-1 ≤ dg s ∧ dg s ≤ 9) ∧ (0 ≤ dv s ∧ dv s ≤ 9) ∧ (0 ≤ dn s ∧ dn s ≤ 12) ∧ (dv s = 0 → dn s = 0) ∧ dv s ≤ dn s
def okP (P : Nat → Int) : Prop := ∀ j, j < 6 → 0 ≤ P j ∧ P j ≤ 90
theorem okD_A {s : DS} (h : okD s) : ∀ j, j < 6 → 0 ≤ dA s j ∧ dA s j ≤ 90 := fun j hj => (h.1 j hj).1
theorem okD_W {s : DS} (h : okD s) : ∀ j, j < 6 → 0 ≤ dW s j ∧ dW s j ≤ 100 := fun j hj => (h.1 j hj).2.1
theorem okD_Q {s : DS} (h : okD s) : ∀ j, j < 6 → 0 ≤ dQ s j ∧ dQ s j ≤ 20 := fun j hj => (h.1 j hj).2.2
theorem okD_O {s : DS} (h : okD s) : ∀ j, j < 2 → 0 ≤ dO s j ∧ dO s j ≤ 1 := fun j hj => (h.2.1 j hj).1
theorem okD_U {s : DS} (h : okD s) : ∀ j, j < 2 → 0 ≤ dU s j ∧ dU s j ≤ 9 := fun j hj => (h.2.1 j hj).2
-- sums and counts
def sm (f : Nat → Int) : Nat → Int
  | 0 => 0
  | n + 1 => sm f n + f n
def cnt (f : Nat → Bool) (n : Nat) : Int := sm (fun j => b2i (f j)) n
theorem sm_bound {f : Nat → Int} {c : Int} : ∀ {n : Nat}, (∀ j, j < n → 0 ≤ f j ∧ f j ≤ c) → 0 ≤ sm f n ∧ sm f n ≤ n * c
  | 0, _ => by simp [sm]
  | n + 1, h => by
    have h1 := sm_bound (n := n) (fun j hj => h j (by omega))
    have h2 := h n (by omega)
    have e : ((n + 1 : Nat) : Int) * c = n * c + c := by rw [Int.natCast_add, Int.add_mul]; simp
    rw [e]
    unfold sm
    omega
theorem cnt_bound (f : Nat → Bool) (n : Nat) : 0 ≤ cnt f n ∧ cnt f n ≤ n := by
  have h := sm_bound (f := fun j => b2i (f j)) (c := 1) (n := n) (fun j _ => b2i_rng (f j))
  unfold cnt
  omega
theorem sm_congr {f g : Nat → Int} : ∀ {n : Nat}, (∀ j, j < n → f j = g j) → sm f n = sm g n
  | 0, _ => rfl
  | n + 1, h => by
    unfold sm
    rw [sm_congr (n := n) (fun j hj => h j (by omega)), h n (by omega)]
-- the dolls' turns
def wearMore (q d : Int) : Int := if 0 < q then d / 20 else d / 10 + 1
def wearBT (w q d : Int) : Int := min 100 (w + wearMore q d)
def dset (s : DS) (i : Nat) (a w q : Int) : DS := (updI (dA s) i a, updI (dW s) i w, updI (dQ s) i q, dO s, dU s, dg s, dv s, dn s, dt s)
def turn1 (P : Nat → Int) (i : Nat) (s : DS) : DS := if dA s i = P i ∨ 100 ≤ dW s i then s else dset s i (P i) (wearBT (dW s i) (dQ s i) (max (P i - dA s i) (-(P i - dA s i)))) (max 0 (dQ s i - 1))
def turnN (P : Nat → Int) : Nat → DS → DS
  | 0, s => s
  | i + 1, s => turn1 P i (turnN P i s)
def allB (f : Nat → Bool) : Nat → Bool
  | 0 => true
  | n + 1 => allB f n && f n
theorem allB_iff {f : Nat → Bool} : ∀ {n : Nat}, allB f n = true ↔ ∀ j, j < n → f j = true
  | 0 => ⟨fun _ j h => absurd h (Nat.not_lt_zero j), fun _ => rfl⟩
  | n + 1 => by
    unfold allB
    rw [Bool.and_eq_true, allB_iff (n := n)]
    constructor
    · intro h j hj
      by_cases e : j = n
      · rw [e]; exact h.2
      · exact h.1 j (by omega)
    · intro h
      exact ⟨fun j hj => h j (by omega), h n (by omega)⟩
theorem allB_no {f : Nat → Bool} {n j : Nat} (hj : j < n) (h : f j = false) : allB f n = false := by
  cases e : allB f n
  · rfl
  · have := allB_iff.mp e j hj
    rw [h] at this
    cases this
def canT (P : Nat → Int) (s : DS) : Bool := allB (fun j => decide (dW s j < 100 ∨ dA s j = P j)) 6
theorem canT_at {P : Nat → Int} {s : DS} (h : canT P s = true) {j : Nat} (hj : j < 6) : dW s j < 100 ∨ dA s j = P j := of_decide_eq_true (allB_iff.mp h j hj)
theorem canT_no {P : Nat → Int} {s : DS} {j : Nat} (hj : j < 6) (h1 : 100 ≤ dW s j) (h2 : ¬ dA s j = P j) : false = canT P s := (allB_no hj (decide_eq_false (by omega))).symm
theorem canT_yes {P : Nat → Int} {s : DS} (h : ∀ j, j < 6 → dW s j < 100 ∨ dA s j = P j) : true = canT P s := (allB_iff.mpr fun j hj => decide_eq_true (h j hj)).symm
theorem wearBT_rng {w q d : Int} (hw : 0 ≤ w ∧ w ≤ 100) (hd : 0 ≤ d ∧ d ≤ 90) : 0 ≤ wearBT w q d ∧ wearBT w q d ≤ 100 := by
  unfold wearBT wearMore
  split <;> omega
theorem dset_ok {s : DS} {i : Nat} {a w q : Int} (h : okD s) (ha : 0 ≤ a ∧ a ≤ 90) (hw : 0 ≤ w ∧ w ≤ 100) (hq : 0 ≤ q ∧ q ≤ 20) : okD (dset s i a w q) := by
  obtain ⟨h1, h2⟩ := h
  refine ⟨fun j hj => ?_, h2⟩
  have h3 := h1 j hj
  by_cases e : j = i
  · subst e
    simp only [dset, dA, dW, dQ, updI_s]
    exact ⟨ha, hw, hq⟩
  · simp only [dset, dA, dW, dQ, updI_n _ _ e]
    exact h3
theorem turn1_ok {P : Nat → Int} {i : Nat} {s : DS} (hP : okP P) (hi : i < 6) (h : okD s) : okD (turn1 P i s) := by
  unfold turn1
  split
  · exact h
  · have h1 := hP i hi
    have h2 := okD_A h i hi
    have h3 := okD_W h i hi
    have h4 := okD_Q h i hi
    exact dset_ok h h1 (wearBT_rng h3 (by omega)) (by omega)
theorem turnN_ok {P : Nat → Int} {s : DS} (hP : okP P) (h : okD s) : ∀ i, i ≤ 6 → okD (turnN P i s)
  | 0, _ => h
  | i + 1, hi => turn1_ok hP (by omega) (turnN_ok hP h i (by omega))
-- what is told of a doll
def cntW (least : Int) (s : DS) : Int := cnt (fun j => decide (least ≤ dW s j)) 6
def cntU (least : Int) (s : DS) : Int := cnt (fun j => decide (least ≤ dU s j)) 2
def cntQ (s : DS) : Int := cnt (fun j => decide (dQ s j = 0)) 6
def tally (what : Int) (s : DS) : Int := if what = 4 then cntW 100 s else if what = 5 then (if dg s = -1 then 0 else 1) else if what = 6 then (if dv s = 0 then 0 else 1) else cntU 9 s
def wants (kind : Int) (s : DS) : Int := if kind = 0 then cntW 50 s else if kind = 1 then cntQ s else if kind = 2 then (if dv s = 0 then 0 else 12 - dn s) else if kind = 3 then (if 0 < cntU 5 s then 1 else 0) else (if dg s = -1 ∨ 5 ≤ dg s then 1 else 0)
def wantsAll (s : DS) : Int := sm (fun k => wants (k : Int) s) 5
theorem tally_rng {what : Int} {s : DS} : 0 ≤ tally what s ∧ tally what s ≤ 6 := by
  unfold tally cntW cntU
  have h1 := cnt_bound (fun j => decide (100 ≤ dW s j)) 6
  have h2 := cnt_bound (fun j => decide (9 ≤ dU s j)) 2
  split
  · omega
  · split
    · split <;> omega
    · split
      · split <;> omega
      · omega
theorem wants_rng {kind : Int} {s : DS} (h : okD s) : 0 ≤ wants kind s ∧ wants kind s ≤ 12 := by
  obtain ⟨-, -, -, -, h5, -, -⟩ := h
  unfold wants cntW cntQ
  have h1 := cnt_bound (fun j => decide (50 ≤ dW s j)) 6
  have h2 := cnt_bound (fun j => decide (dQ s j = 0)) 6
  split
  · omega
  · split
    · omega
    · split
      · split <;> omega
      · split
        · split <;> omega
        · split <;> omega
theorem wantsAll_rng {s : DS} (h : okD s) : 0 ≤ wantsAll s ∧ wantsAll s ≤ 60 := by
  have := sm_bound (f := fun k => wants (k : Int) s) (c := 12) (n := 5) (fun j _ => wants_rng h)
  unfold wantsAll
  omega
-- a day of a doll
def dsetR (s : DS) (g v n : Int) : DS := (dA s, dW s, dQ s, dO s, dU s, g, v, n, dt s)
def eatW (moths : Int) (s : DS) : DS := if dg s = -1 then s else dsetR s (if 10 ≤ dg s + moths then -1 else dg s + moths) (dv s) (dn s)
def loosen (s : DS) : DS := if dv s = 0 ∨ dW s 5 < 50 then s else if max 0 (dn s - 1) < dv s then dsetR s (dg s) 0 0 else dsetR s (dg s) (dv s) (max 0 (dn s - 1))
def dryN : Nat → DS → DS
  | 0, s => s
  | i + 1, s => dset (dryN i s) i (dA (dryN i s) i) (dW (dryN i s) i) (max 0 (dQ (dryN i s) i - 1))
def dsetU (s : DS) (i : Nat) (u : Int) : DS := (dA s, dW s, dQ s, dO s, updI (dU s) i u, dg s, dv s, dn s, dt s)
def gatN : Nat → DS → DS
  | 0, s => s
  | i + 1, s => if dO (gatN i s) i = 0 then gatN i s else dsetU (gatN i s) i (min 9 (dU (gatN i s) i + 1))
def has (s : DS) : Int := tally 5 s + tally 6 s
def day1 (day moths : Int) (s : DS) : DS := gatN 2 (if day % 3 = 0 then dryN 6 (loosen (eatW moths s)) else loosen (eatW moths s))
def dayN (moths : Int) (day : Int) : Nat → DS → DS
  | 0, s => s
  | i + 1, s => day1 (day + i) moths (dayN moths day i s)
theorem cnt_yes {f : Nat → Bool} {i : Nat} (h : f i = true) : cnt f i + 1 = cnt f (i + 1) := by
  show _ = sm (fun j => b2i (f j)) i + b2i (f i)
  rw [h]
  rfl
theorem cnt_no {f : Nat → Bool} {i : Nat} (h : f i = false) : cnt f i = cnt f (i + 1) := by
  show _ = sm (fun j => b2i (f j)) i + b2i (f i)
  rw [h]
  exact (Int.add_zero _).symm
theorem sm_s {f : Nat → Int} {i : Nat} {x y : Int} (h : x = sm f i) (hy : y = f i) : x + y = sm f (i + 1) := by rw [h, hy]; rfl
section MORE
variable {p : Program} {l : Launch} {e : Env} {R : Room} {s : State} {m : MethodId} {args : Array Value} {below : List Frame} {meth : Method} {c : Code} {H : Heap} {locs : List Loc} {cells slots mc ms : Nat} {cc : ByteArray} {pc : Nat} {ls : Array Slot} {D : va_G} {A : Nat → Prop} {Q : State → Prop} {rest : List Value}
theorem e_b01 {post : Int32 → va_W → Prop} {u : va_W} {v : Int} (hx : p.tables.exec = Jvm.exec) (hb : c.code = cc) (hr : meth.sig.returnType = some .boolean) (hv : 0 ≤ v ∧ v ≤ 1) (hlk : meth.locks = false) (d : decode cc pc = .ok (.ireturn, 1)) (hS : va_S A s.heap H locs) (hP : va_P D vwCl u H) (hD : va_D A u) (hc : cells ≤ mc) (hs : slots ≤ ms) (hp : post (iv v) u) : W p l e R s m args below meth c H locs cells slots (MQ below (qI D post A) args s mc ms A) (F0 m pc ls [.int (iv v)]) :=
  W.widen hc hs (W.zret hx hb hr (by rcases (show v = 0 ∨ v = 1 by omega) with rfl | rfl <;> decide) (fun t ht _ => ⟨⟨_, u, rfl, hp, by rw [ht]; exact hP, hD⟩, hS.F ht⟩) hS.2.2 d (hlocks := hlk))
theorem r_aald {tys : List (ClassId × FieldType)} {ws : va_W} {a : Nat} (hx : p.tables.exec = Jvm.exec) (hb : c.code = cc) (hK : va_K D vwCl tys s) (hP : va_P D vwCl ws H) (q0 t0 : Nat) {cA : ClassId} {C : String} {n : Nat} {F : Nat → Option Nat} (ha : ws[q0]? = some (a, .inl (cA, n, .inr (.inr (.inr (.inr F)))))) (ht : tys[t0]? = some (cA, .object C)) {z : Int} (k : Nat) (hz : z = (k : Int)) (hk : k < n) (hn : n < 2147483648) (d : decode cc pc = .ok (.aaload, 1)) (kk : W p l e R s m args below meth c H locs cells slots Q (F0 m (pc + 1) ls (va_rf (F k) :: rest))) : W p l e R s m args below meth c H locs cells slots Q (F0 m pc ls (.int (iv z) :: .ref a :: rest)) := by
  obtain ⟨h1, h2⟩ := iv_ix hz hk hn
  refine va_aldq hx hb hK hP q0 t0 ha ht h1 d ?_
  rw [h2]
  exact kk
end MORE
