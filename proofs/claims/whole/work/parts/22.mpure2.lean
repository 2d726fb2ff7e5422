-- more pure rows for the reference
theorem RR_turnN (S : Nat → DS) (d : Nat) (P : Nat → Int) (s : DS) : ∀ i, RR (updS S d (turnN P i s)) = RR (updS S d s)
  | 0 => rfl
  | i + 1 => by
    have h := RR_turn1 (updS S d (turnN P i s)) d P i (updS_s S d (turnN P i s))
    rw [updS_u] at h
    exact h.trans (RR_turnN S d P s i)
theorem setR_flip {s : DS} {i : Nat} (hi : i < 2) : setR s (0 + i) (1 - dO s i) = flipO s i := by
  rcases (show i = 0 ∨ i = 1 by omega) with rfl | rfl <;> rfl
theorem LL_flip (S : Nat → DS) (d : Nat) (s : DS) (i : Nat) : LL (updS S d s) = LL (updS S d (flipO s i)) := by
  funext k
  unfold LL
  by_cases e : k / 18 = d
  · rw [e, updS_s, updS_s]
    rfl
  · rw [updS_n _ _ e, updS_n _ _ e]
theorem setR_dress (s : DS) (w q : Int) : setR (setR s 5 w) 6 q = dsetR s (dg s) w q := rfl
theorem canT_add (P : Nat → Int) (s : DS) : canT P (addT s) = canT P s := rfl
theorem okD_add {s : DS} (h : okD s) : okD (addT s) := h
def sd8 : Nat → Int := updI (updI (updI (updI (updI (updI (updI (updI zz 0 1) 1 1) 2 0) 3 0) 4 0) 5 0) 6 0) 7 0
theorem sd8_at {k : Nat} (hk : k < 8) : sd8 k = roomv dNew k := by
  rcases (show k = 0 ∨ k = 1 ∨ k = 2 ∨ k = 3 ∨ k = 4 ∨ k = 5 ∨ k = 6 ∨ k = 7 by omega) with rfl | rfl | rfl | rfl | rfl | rfl | rfl | rfl <;> rfl
theorem limv_new (w j : Nat) : limv dNew w j = 0 := by
  unfold limv
  repeat' split
  all_goals rfl
theorem LL_new {S : Nat → DS} {n i : Nat} {F : Nat → Int} (h : ∀ i, F i = if 18 * n ≤ i ∧ i < 18 * n + 18 then 0 else LL S i) : F i = LL (updS S n dNew) i := by
  rw [h]
  unfold LL
  by_cases e : i / 18 = n
  · rw [if_pos (by omega), e, updS_s, limv_new]
  · rw [if_neg (by omega), updS_n _ _ e]
theorem RR_new {S : Nat → DS} {n i : Nat} : va_cpy sd8 (RR S) 0 (8 * n) 8 i = RR (updS S n dNew) i := by
  unfold va_cpy RR
  by_cases e : i / 8 = n
  · rw [if_pos (by omega), e, updS_s, sd8_at (by omega)]
    congr 1
    omega
  · rw [if_neg (by omega), updS_n _ _ e]
def sd6 (x0 x1 x2 x3 x4 x5 : Int) : Nat → Int := updI (updI (updI (updI (updI (updI zz 0 x0) 1 x1) 2 x2) 3 x3) 4 x4) 5 x5
theorem sd6_at {x0 x1 x2 x3 x4 x5 : Int} {k : Nat} (hk : k < 6) : sd6 x0 x1 x2 x3 x4 x5 k = pf6 x0 x1 x2 x3 x4 x5 k := by
  rcases (show k = 0 ∨ k = 1 ∨ k = 2 ∨ k = 3 ∨ k = 4 ∨ k = 5 by omega) with rfl | rfl | rfl | rfl | rfl | rfl <;> rfl
theorem pf6_all {x0 x1 x2 x3 x4 x5 : Int} (h : ∀ j, j < 6 → 0 ≤ pf6 x0 x1 x2 x3 x4 x5 j ∧ pf6 x0 x1 x2 x3 x4 x5 j ≤ 90) : isAng x0 ∧ isAng x1 ∧ isAng x2 ∧ isAng x3 ∧ isAng x4 ∧ isAng x5 := ⟨h 0 (by omega), h 1 (by omega), h 2 (by omega), h 3 (by omega), h 4 (by omega), h 5 (by omega)⟩
theorem pf6_one {x0 x1 x2 x3 x4 x5 : Int} (h : isAng x0 ∧ isAng x1 ∧ isAng x2 ∧ isAng x3 ∧ isAng x4 ∧ isAng x5) {j : Nat} (hj : j < 6) : 0 ≤ pf6 x0 x1 x2 x3 x4 x5 j ∧ pf6 x0 x1 x2 x3 x4 x5 j ≤ 90 := by
  obtain ⟨h0, h1, h2, h3, h4, h5⟩ := h
  rcases (show j = 0 ∨ j = 1 ∨ j = 2 ∨ j = 3 ∨ j = 4 ∨ j = 5 by omega) with rfl | rfl | rfl | rfl | rfl | rfl
  · exact h0
  · exact h1
  · exact h2
  · exact h3
  · exact h4
  · exact h5
theorem PP_new {P : Nat → Nat → Int} {n i : Nat} {x0 x1 x2 x3 x4 x5 : Int} : va_cpy (sd6 x0 x1 x2 x3 x4 x5) (PP P) 0 (6 * n) 6 i = PP (fun q => if q = n then pf6 x0 x1 x2 x3 x4 x5 else P q) i := by
  unfold va_cpy PP
  show _ = (if i / 6 = n then pf6 x0 x1 x2 x3 x4 x5 else P (i / 6)) (i % 6)
  by_cases e : i / 6 = n
  · rw [if_pos (by omega), if_pos e, sd6_at (by omega)]
    congr 1
    omega
  · rw [if_neg (by omega), if_neg e]
-- how often
theorem ofT_s {P : Nat → Int} {s : DS} {t : Nat} (h : t < 50) (c : canT P (ofN P s t) = true) : ofT P s (50 - t) t = ofT P s (50 - (t + 1)) (t + 1) := by
  rw [show 50 - t = (50 - (t + 1)) + 1 by omega]
  show (if canT P (ofN P s t) = true then _ else _) = _
  rw [if_pos c]
theorem ofT_no {P : Nat → Int} {s : DS} {t : Nat} (h : t < 50) (c : canT P (ofN P s t) = false) : ofT P s (50 - t) t = t := by
  rw [show 50 - t = (50 - (t + 1)) + 1 by omega]
  show (if canT P (ofN P s t) = true then _ else _) = _
  rw [if_neg (by rw [c]; decide)]
theorem ofT_end {P : Nat → Int} {s : DS} {t : Nat} (h : 50 ≤ t) : ofT P s (50 - t) t = t := by
  rw [show 50 - t = 0 by omega]
  rfl
theorem okP_zz : okP zz := fun j _ => ⟨Int.le_refl 0, (by decide : (0 : Int) ≤ 90)⟩
theorem ofN_ok {P : Nat → Int} {s : DS} (hP : okP P) (h : okD s) : ∀ t, okD (ofN P s t)
  | 0 => h
  | t + 1 => turnN_ok okP_zz (turnN_ok hP (ofN_ok hP h t) 6 (by omega)) 6 (by omega)
-- the worst
theorem wst_rng {S : Nat → DS} {n : Nat} : ∀ {i : Nat}, (∀ d, d < n → okD (S d)) → i ≤ n → (0 ≤ (wstN S i).2 ∧ (wstN S i).2 ≤ 60)
  | 0, _, _ => by simp [wstN]
  | i + 1, h, hi => by
    have ih := wst_rng (i := i) h (by omega)
    have h1 := wantsAll_rng (h i (by omega))
    unfold wstN
    split
    · exact ih
    · exact h1
-- digests, row by row
theorem dg_pose {P : Nat → Nat → Int} {d : Int64} {q : Nat} : ∀ {j : Nat}, j ≤ 6 → dg64 (PP P) d (6 * q + j) = dg64 (P q) (dg64 (PP P) d (6 * q)) j
  | 0, _ => rfl
  | j + 1, h => by
    show dg64 (PP P) d (6 * q + j) * 31 + (iv (PP P (6 * q + j))).toInt64 = dg64 (P q) (dg64 (PP P) d (6 * q)) j * 31 + (iv (P q j)).toInt64
    rw [dg_pose (j := j) (by omega), PP_at P (by omega)]
theorem dg_poses (P : Nat → Nat → Int) (d : Int64) : ∀ q : Nat, dg64 (PP P) d (6 * q) = dgS (fun q x => dg64 (P q) x 6) d q
  | 0 => rfl
  | q + 1 => by
    rw [show 6 * (q + 1) = 6 * q + 6 by omega, dg_pose (by omega), dg_poses P d q]
    rfl
def dZ : DS := (zz, zz, zz, zz, zz, 0, 0, 0, 0)
def c0 : CS := (fun _ => dZ, fun _ => zz, zz, 0, 0, 0, 1)
theorem c0_ok : okC c0 := ⟨by decide, by decide, fun d h => absurd h (Nat.not_lt_zero d), fun d h => absurd h (Nat.not_lt_zero d), fun j _ => ⟨Int.le_refl 0, (by decide : (0 : Int) ≤ 99)⟩, ⟨by decide, by decide⟩, ⟨by decide, by decide⟩⟩
theorem LL_0 : LL (fun _ => dZ) = zz := by
  funext i
  unfold LL limv
  repeat' split
  all_goals rfl
theorem RR_0 : RR (fun _ => dZ) = zz := by
  funext i
  unfold RR roomv
  repeat' split
  all_goals rfl
theorem RR_wipe (S : Nat → DS) (d : Nat) (s : DS) {j : Nat} : RR (updS S d (setR (setR s 2 0) 3 0)) = RR (updS S d (mendD s 3 j)) := by
  funext i
  unfold RR
  by_cases e : i / 8 = d
  · rw [e, updS_s, updS_s]
    unfold roomv
    repeat' split
    all_goals rfl
  · rw [updS_n _ _ e, updS_n _ _ e]
theorem LL_wipe (S : Nat → DS) (d : Nat) (s : DS) (j : Nat) (u : Unit) : LL (updS S d (setR (setR s 2 0) 3 0)) = LL (updS S d (mendD s 3 j)) := by
  funext i
  unfold LL
  by_cases e : i / 18 = d
  · rw [e, updS_s, updS_s]
    unfold limv
    repeat' split
    all_goals rfl
  · rw [updS_n _ _ e, updS_n _ _ e]
theorem pf6_rng {x0 x1 x2 x3 x4 x5 : Int} (r0 : -2147483648 ≤ x0 ∧ x0 < 2147483648) (r1 : -2147483648 ≤ x1 ∧ x1 < 2147483648) (r2 : -2147483648 ≤ x2 ∧ x2 < 2147483648) (r3 : -2147483648 ≤ x3 ∧ x3 < 2147483648) (r4 : -2147483648 ≤ x4 ∧ x4 < 2147483648) (r5 : -2147483648 ≤ x5 ∧ x5 < 2147483648) (j : Nat) : -2147483648 ≤ pf6 x0 x1 x2 x3 x4 x5 j ∧ pf6 x0 x1 x2 x3 x4 x5 j < 2147483648 := by
  unfold pf6
  repeat' split
  all_goals assumption
