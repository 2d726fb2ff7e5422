-- pure rows of a doll's ways
abbrev zz : Nat → Int := fun _ => 0
theorem turn1_t {P : Nat → Int} {i : Nat} {s : DS} (h : dA s i = P i ∨ 100 ≤ dW s i) : s = turn1 P i s := by
  unfold turn1
  rw [if_pos h]
theorem turn1_f {P : Nat → Int} {i : Nat} {s : DS} (h : ¬ (dA s i = P i ∨ 100 ≤ dW s i)) : dset s i (P i) (wearBT (dW s i) (dQ s i) (max (P i - dA s i) (-(P i - dA s i)))) (max 0 (dQ s i - 1)) = turn1 P i s := by
  unfold turn1
  rw [if_neg h]
theorem eatW_ok {mo : Int} {s : DS} (hm : 0 ≤ mo ∧ mo ≤ 3) (h : okD s) : okD (eatW mo s) := by
  unfold eatW
  split
  · exact h
  · obtain ⟨h1, h2, h3, h4, h5, h6, h7⟩ := h
    refine ⟨h1, h2, ?_, h4, h5, h6, h7⟩
    show -1 ≤ (if 10 ≤ dg s + mo then (-1 : Int) else dg s + mo) ∧ (if 10 ≤ dg s + mo then (-1 : Int) else dg s + mo) ≤ 9
    split <;> omega
theorem loosen_ok {s : DS} (h : okD s) : okD (loosen s) := by
  unfold loosen
  split
  · exact h
  · rename_i c1
    obtain ⟨h1, h2, h3, h4, h5, h6, h7⟩ := h
    split
    · exact ⟨h1, h2, h3, by show (0:Int) ≤ 0 ∧ (0:Int) ≤ 9; omega, by show (0:Int) ≤ 0 ∧ (0:Int) ≤ 12; omega, fun _ => rfl, by show (0:Int) ≤ 0; omega⟩
    · refine ⟨h1, h2, h3, h4, ?_, ?_, ?_⟩
      · show 0 ≤ max 0 (dn s - 1) ∧ max 0 (dn s - 1) ≤ 12
        omega
      · intro q
        exact absurd (Or.inl q) c1
      · show dv s ≤ max 0 (dn s - 1)
        omega
theorem dryN_ok {s : DS} (h : okD s) : ∀ i, i ≤ 6 → okD (dryN i s)
  | 0, _ => h
  | i + 1, hi => by
    have ih := dryN_ok h i (by omega)
    have h1 := okD_Q ih i (by omega)
    exact dset_ok ih (okD_A ih i (by omega)) (okD_W ih i (by omega)) (by omega)
theorem dsetU_ok {s : DS} {i : Nat} {u : Int} (h : okD s) (hu : 0 ≤ u ∧ u ≤ 9) : okD (dsetU s i u) := by
  obtain ⟨h1, h2, h3⟩ := h
  refine ⟨h1, fun j hj => ⟨(h2 j hj).1, ?_⟩, h3⟩
  by_cases e : j = i
  · subst e
    simp only [dsetU, dU, updI_s]
    exact hu
  · simp only [dsetU, dU, updI_n _ _ e]
    exact (h2 j hj).2
theorem gatN_ok {s : DS} (h : okD s) : ∀ i, i ≤ 2 → okD (gatN i s)
  | 0, _ => h
  | i + 1, hi => by
    have ih := gatN_ok h i (by omega)
    unfold gatN
    split
    · exact ih
    · have h1 := okD_U ih i (by omega)
      exact dsetU_ok ih (by omega)
theorem day1_ok {day mo : Int} {s : DS} (hm : 0 ≤ mo ∧ mo ≤ 3) (h : okD s) : okD (day1 day mo s) := by
  unfold day1
  have h1 := loosen_ok (eatW_ok hm h)
  split
  · exact gatN_ok (dryN_ok h1 6 (by omega)) 2 (by omega)
  · exact gatN_ok h1 2 (by omega)
theorem dayN_ok {mo day : Int} {s : DS} (hm : 0 ≤ mo ∧ mo ≤ 3) (h : okD s) : ∀ i, okD (dayN mo day i s)
  | 0 => h
  | i + 1 => day1_ok hm (dayN_ok hm h i)
theorem has_rng {s : DS} : 0 ≤ has s ∧ has s ≤ 2 := by
  unfold has tally
  rw [if_neg (show ¬ (5 : Int) = 4 by decide), if_pos rfl, if_neg (show ¬ (6 : Int) = 4 by decide), if_neg (show ¬ (6 : Int) = 5 by decide), if_pos rfl]
  split <;> split <;> omega
theorem dryN_s {s st : DS} {i : Nat} (h : st = dryN i s) : dset st i (dA st i) (dW st i) (max 0 (dQ st i - 1)) = dryN (i + 1) s := by
  subst h
  rfl
theorem updI_same (F : Nat → Int) (i : Nat) : updI F i (F i) = F := by
  funext j
  unfold updI
  split
  · rename_i h; rw [h]
  · rfl
theorem dset_same {s : DS} {i : Nat} {q : Int} : (dA s, dW s, updI (dQ s) i q, dO s, dU s, dg s, dv s, dn s, dt s) = dset s i (dA s i) (dW s i) q := by
  unfold dset
  rw [updI_same, updI_same]
theorem gatN_0 {s st : DS} {i : Nat} (h : st = gatN i s) (c : dO st i = 0) : st = gatN (i + 1) s := by
  subst h
  show _ = if dO (gatN i s) i = 0 then gatN i s else _
  rw [if_pos c]
theorem gatN_1 {s st : DS} {i : Nat} (h : st = gatN i s) (c : ¬ dO st i = 0) : dsetU st i (min 9 (dU st i + 1)) = gatN (i + 1) s := by
  subst h
  show _ = if dO (gatN i s) i = 0 then gatN i s else _
  rw [if_neg c]
-- a fold of numbers into a long
def dg64 (f : Nat → Int) (d : Int64) : Nat → Int64
  | 0 => d
  | n + 1 => dg64 f d n * 31 + (iv (f n)).toInt64
-- a new doll
def dNew : DS := (fun _ => 0, fun _ => 0, fun _ => 0, fun _ => 1, fun _ => 0, 0, 0, 0, 0)
theorem dNew_ok : okD dNew := ⟨fun j _ => by simp [dNew, dA, dW, dQ], fun j _ => by simp [dNew, dO, dU], by simp [dNew, dg], by simp [dNew, dv], by simp [dNew, dn], fun _ => rfl, by simp [dNew, dv, dn]⟩
-- cells that hold the same
theorem cell_ext {D : va_G} {a n : Nat} {cA : ClassId} {F F' : Nat → Int} {H : Heap} (h : ∀ j, j < n → F j = F' j) (k : va_at D vwCl (a, .inl (cA, n, .inl (fun j => iv (F j)))) H) : va_at D vwCl (a, .inl (cA, n, .inl (fun j => iv (F' j)))) H := by
  have e : vp_cell cA (n, .inl (fun j => iv (F j))) = vp_cell cA (n, .inl (fun j => iv (F' j))) := by
    rw [vp_cell_i, vp_cell_i]
    unfold arrV
    congr 1
    apply Array.ext
    · simp
    · intro i h1 h2
      have hi : i < n := by simpa using h1
      simp [h i hi]
  show H[a]? = some (vp_cell cA (n, .inl (fun j => iv (F' j))))
  rw [← e]
  exact k
/-- an array's content put in other words -/
theorem wP_say {D : va_G} {ws : va_W} {H : Heap} (k : Nat) {a n : Nat} {cA : ClassId} {F : Nat → Int} (F' : Nat → Int) (hP : va_P D vwCl ws H) (he : ws[k]? = some (a, .inl (cA, n, .inl (fun j => iv (F j))))) (h : ∀ j, j < n → F j = F' j) : va_P D vwCl (ws.set k (a, .inl (cA, n, .inl (fun j => iv (F' j))))) H := by
  intro i q hq
  by_cases e : i = k
  · subst e
    rw [List.getElem?_set_self (List.getElem?_eq_some_iff.mp he).1] at hq
    cases hq
    exact cell_ext h (hP i _ he)
  · rw [List.getElem?_set_ne (Ne.symm e)] at hq
    exact hP i q hq
theorem wD_say {A : Nat → Prop} {ws : va_W} (k : Nat) {a : Nat} {x : va_E} (y : va_E) (hD : va_D A ws) (he : ws[k]? = some (a, x)) : va_D A (ws.set k (a, y)) := hD.set he
section NEWS
variable {p : Program} {l : Launch} {e : Env} {R : Room} {s : State} {m : MethodId} {args : Array Value} {below : List Frame} {meth : Method} {c : Code} {H : Heap} {locs : List Loc} {cells slots mc ms : Nat} {cc : ByteArray} {pc : Nat} {ls : Array Slot} {D : va_G} {A : Nat → Prop} {Q : State → Prop} {rest : List Value}
theorem r_newI {G : Nat → ClassId} {ws : va_W} {H0 : Heap} (hx : p.tables.exec = Jvm.exec) (hb : c.code = cc) (harr : (Cond.arrayClass .int).before args s = true) (hK : va_K D vwCl (TY G) s) (hP : va_P D vwCl ws H) (hD : va_D A ws) (hS : va_S A H0 H locs) (hA : ∀ q, H0.size ≤ q → A q) (N : Nat) {z : Int} (hz : z = (N : Int)) (hN : N < 1000) (hcells : cells + 1 ≤ R.cells) (hslots : slots + N ≤ R.slots) (d : decode cc pc = .ok (.newarray .int, 2)) (kk : ∀ (q : Nat) (H : Heap), va_P D vwCl (ws ++ [(q, .inl (G 0, N, .inl (fun j => iv (zz j))))]) H → va_D A (ws ++ [(q, .inl (G 0, N, .inl (fun j => iv (zz j))))]) → va_S A H0 H locs → W p l e R s m args below meth c H locs (cells + 1) (slots + N) Q (F0 m (pc + 2) ls (.ref q :: rest))) : W p l e R s m args below meth c H locs cells slots Q (F0 m pc ls (.int (iv z) :: rest)) := by
  subst hz
  have h2 : (iv (N : Int)).toNatClampNeg = N := (iv_ix rfl (Nat.lt_succ_self N) (by omega)).2
  have h3 : ¬ iv (N : Int) < 0 := fun q => by have := (iv_lt (a := (N : Int)) (b := 0) (by omega) (by decide)).mp q; omega
  refine va_newa (atype := .int) (ty := .int) (a0 := (N, .inl (fun j => iv (zz j)))) hx hb harr rfl hK hP hD hS hA (fun cA => rfl) h3 h2 (by simp [componentBytes]; omega) hcells hslots d (fun q cA H1 k1 g1 g2 g3 => ?_)
  have r1 := (k1.2 7 (cA, .int) rfl).2
  have r0 := (hK.2 0 (G 0, .int) rfl).2
  have e1 : cA = G 0 := Option.some.inj (Eq.trans (Eq.symm r1) r0)
  subst e1
  exact kk q H1 g1 g2 g3
theorem r_newZ {G : Nat → ClassId} {ws : va_W} {H0 : Heap} (hx : p.tables.exec = Jvm.exec) (hb : c.code = cc) (harr : (Cond.arrayClass .boolean).before args s = true) (hK : va_K D vwCl (TY G) s) (hP : va_P D vwCl ws H) (hD : va_D A ws) (hS : va_S A H0 H locs) (hA : ∀ q, H0.size ≤ q → A q) (N : Nat) {z : Int} (hz : z = (N : Int)) (hN : N < 1000) (hcells : cells + 1 ≤ R.cells) (hslots : slots + N ≤ R.slots) (d : decode cc pc = .ok (.newarray .boolean, 2)) (kk : ∀ (q : Nat) (H : Heap), va_P D vwCl (ws ++ [(q, .inl (G 1, N, .inl (fun j => iv (zz j))))]) H → va_D A (ws ++ [(q, .inl (G 1, N, .inl (fun j => iv (zz j))))]) → va_S A H0 H locs → W p l e R s m args below meth c H locs (cells + 1) (slots + N) Q (F0 m (pc + 2) ls (.ref q :: rest))) : W p l e R s m args below meth c H locs cells slots Q (F0 m pc ls (.int (iv z) :: rest)) := by
  subst hz
  have h2 : (iv (N : Int)).toNatClampNeg = N := (iv_ix rfl (Nat.lt_succ_self N) (by omega)).2
  have h3 : ¬ iv (N : Int) < 0 := fun q => by have := (iv_lt (a := (N : Int)) (b := 0) (by omega) (by decide)).mp q; omega
  refine va_newa (atype := .boolean) (ty := .boolean) (a0 := (N, .inl (fun j => iv (zz j)))) hx hb harr rfl hK hP hD hS hA (fun cA => rfl) h3 h2 (by simp [componentBytes]; omega) hcells hslots d (fun q cA H1 k1 g1 g2 g3 => ?_)
  have r1 := (k1.2 7 (cA, .boolean) rfl).2
  have r0 := (hK.2 1 (G 1, .boolean) rfl).2
  have e1 : cA = G 1 := Option.some.inj (Eq.trans (Eq.symm r1) r0)
  subst e1
  exact kk q H1 g1 g2 g3
end NEWS
/-- an explicit head of n cells, cut in two -/
theorem wsp (E rest : va_W) (n : Nat) {is js : List Nat} {wc wr : va_W} (h : (is ++ js).Perm (List.range n)) (hn : E.length = n) (hc : wpick E is = wc) (hr : wpick E js = wr) : (E ++ rest).Perm (wc ++ (wr ++ rest)) := wsplit E rest (by rw [hn]; exact h) hc hr
theorem upd_step {F f : Nat → Int} {i : Nat} (h : ∀ j, j < i → F j = f j) : ∀ j, j < i + 1 → updI F i (f i) j = f j := fun j hj => by
  by_cases q : j = i
  · rw [q, updI_s]
  · rw [updI_n _ _ q]
    exact h j (by omega)
theorem upd_step1 {F : Nat → Int} {i : Nat} {x : Int} (h : ∀ j, j < i → F j = x) : ∀ j, j < i + 1 → updI F i x j = x := fun j hj => by
  by_cases q : j = i
  · rw [q, updI_s]
  · rw [updI_n _ _ q]
    exact h j (by omega)
