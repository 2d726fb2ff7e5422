-- the worst, step by step
theorem wst_no {S : Nat → DS} {i : Nat} {x mx su : Int} (hs : su = wantsAll (S i)) (hx : x = (wstN S i).1) (hm : mx = (wstN S i).2) (h : su ≤ mx) : x = (wstN S (i + 1)).1 ∧ mx = (wstN S (i + 1)).2 := by
  subst hs hm
  have e : wstN S (i + 1) = wstN S i := if_pos h
  rw [e]
  exact ⟨hx, rfl⟩
theorem wst_yes {S : Nat → DS} {i : Nat} {mx su : Int} (hs : su = wantsAll (S i)) (hm : mx = (wstN S i).2) (h : mx < su) : (i : Int) = (wstN S (i + 1)).1 ∧ su = (wstN S (i + 1)).2 := by
  subst hs hm
  have e : wstN S (i + 1) = ((i : Int), wantsAll (S i)) := if_neg (by omega)
  rw [e]
  exact ⟨rfl, rfl⟩
