theorem canT_add (P : Nat → Int) (s : DS) : canT P (addT s) = canT P s := rfl
theorem okD_add {s : DS} (h : okD s) : okD (addT s) := h
def sd6 (x0 x1 x2 x3 x4 x5 : Int) : Nat → Int := updI (updI (updI (updI (updI (updI zz 0 x0) 1 x1) 2 x2) 3 x3) 4 x4) 5 x5
theorem sd6_at {x0 x1 x2 x3 x4 x5 : Int} {k : Nat} (hk : k < 6) : sd6 x0 x1 x2 x3 x4 x5 k = pf6 x0 x1 x2 x3 x4 x5 k := by
  rcases (show k = 0 ∨ k = 1 ∨ k = 2 ∨ k = 3 ∨ k = 4 ∨ k = 5 by omega) with rfl | rfl | rfl | rfl | rfl | rfl <;> rfl
theorem pf6_all {x0 x1 x2 x3 x4 x5 : Int} (h : ∀ j, j < 6 → 0 ≤ pf6 x0 x1 x2 x3 x4 x5 j ∧ pf6 x0 x1 x2 x3 x4 x5 j ≤ 90) : isAng x0 ∧ isAng x1 ∧ isAng x2 ∧ isAng x3 ∧ isAng x4 ∧ isAng x5 := ⟨h 0 (by omega), h 1 (by omega), h 2 (by omega), h 3 (by omega), h 4 (by omega), h 5 (by omega)⟩
theorem pf6_one {x0 x1 x2 x3 x4 x5 : Int} (h : isAng x0 ∧ isAng x1 ∧ isAng x2 ∧ isAng x3 ∧ isAng x4 ∧ isAng x5) {j : Nat} (hj : j < 6) : 0 ≤ pf6 x0 x1 x2 x3 x4 x5 j ∧ pf6 x0 x1 x2 x3 x4 x5 j ≤ 90 := by
  obtain ⟨h0, h1, h2, h3, h4, h5⟩ := h
  rcases (show j = 0 ∨ j = 1 ∨ j = 2 ∨ j = 3 ∨ j = 4 ∨ j = 5 by omega) with rfl | rfl | rfl | rfl | rfl | rfl
  · exact h0
  · exact h1
  · exact h2
  · exact h3
  · exact h4
  · exact h5
-- how often
theorem ofT_s {P : Nat → Int} {s : DS} {t : Nat} (h : t < 50) (c : canT P (ofN P s t) = true) : ofT P s (50 - t) t = ofT P s (50 - (t + 1)) (t + 1) := by
  rw [show 50 - t = (50 - (t + 1)) + 1 by omega]
  show (if canT P (ofN P s t) = true then _ else _) = _
  rw [if_pos c]
theorem ofT_no {P : Nat → Int} {s : DS} {t : Nat} (h : t < 50) (c : canT P (ofN P s t) = false) : ofT P s (50 - t) t = t := by
  rw [show 50 - t = (50 - (t + 1)) + 1 by omega]
  show (if canT P (ofN P s t) = true then _ else _) = _
  rw [if_neg (by rw [c]; decide)]
theorem ofT_end {P : Nat → Int} {s : DS} {t : Nat} (h : 50 ≤ t) : ofT P s (50 - t) t = t := by
  rw [show 50 - t = 0 by omega]
  rfl
theorem okP_zz : okP zz := fun j _ => ⟨Int.le_refl 0, (by decide : (0 : Int) ≤ 90)⟩
theorem ofN_ok {P : Nat → Int} {s : DS} (hP : okP P) (h : okD s) : ∀ t, okD (ofN P s t)
  | 0 => h
  | t + 1 => turnN_ok okP_zz (turnN_ok hP (ofN_ok hP h t) 6 (by omega)) 6 (by omega)
-- the worst
theorem wst_rng {S : Nat → DS} {n : Nat} : ∀ {i : Nat}, (∀ d, d < n → okD (S d)) → i ≤ n → (0 ≤ (wstN S i).2 ∧ (wstN S i).2 ≤ 60)
  | 0, _, _ => by simp [wstN]
  | i + 1, h, hi => by
    have ih := wst_rng (i := i) h (by omega)
    have h1 := wantsAll_rng (h i (by omega))
    unfold wstN
    split
    · exact ih
    · exact h1
-- digests, row by row
theorem dg_pose {P : Nat → Nat → Int} {d : Int64} {q : Nat} : ∀ {j : Nat}, j ≤ 6 → dg64 (PP P) d (6 * q + j) = dg64 (P q) (dg64 (PP P) d (6 * q)) j
  | 0, _ => rfl
  | j + 1, h => by
    show dg64 (PP P) d (6 * q + j) * 31 + (iv (PP P (6 * q + j))).toInt64 = dg64 (P q) (dg64 (PP P) d (6 * q)) j * 31 + (iv (P q j)).toInt64
    rw [dg_pose (j := j) (by omega), PP_at P (by omega)]
theorem dg_poses (P : Nat → Nat → Int) (d : Int64) : ∀ q : Nat, dg64 (PP P) d (6 * q) = dgS (fun q x => dg64 (P q) x 6) d q
  | 0 => rfl
  | q + 1 => by
    rw [show 6 * (q + 1) = 6 * q + 6 by omega, dg_pose (by omega), dg_poses P d q]
    rfl
def dZ : DS := (zz, zz, zz, zz, zz, 0, 0, 0, 0)
def c0 : CS := (fun _ => dZ, fun _ => zz, zz, 0, 0, 0, 1)
theorem c0_ok : okC c0 := ⟨by decide, by decide, fun d h => absurd h (Nat.not_lt_zero d), fun d h => absurd h (Nat.not_lt_zero d), fun j _ => ⟨Int.le_refl 0, (by decide : (0 : Int) ≤ 99)⟩, ⟨by decide, by decide⟩, ⟨by decide, by decide⟩⟩
theorem pf6_rng {x0 x1 x2 x3 x4 x5 : Int} (r0 : -2147483648 ≤ x0 ∧ x0 < 2147483648) (r1 : -2147483648 ≤ x1 ∧ x1 < 2147483648) (r2 : -2147483648 ≤ x2 ∧ x2 < 2147483648) (r3 : -2147483648 ≤ x3 ∧ x3 < 2147483648) (r4 : -2147483648 ≤ x4 ∧ x4 < 2147483648) (r5 : -2147483648 ≤ x5 ∧ x5 < 2147483648) (j : Nat) : -2147483648 ≤ pf6 x0 x1 x2 x3 x4 x5 j ∧ pf6 x0 x1 x2 x3 x4 x5 j < 2147483648 := by
  unfold pf6
  repeat' split
  all_goals assumption
