-- THE REFERENCE'S ROWS, in the same words
def limv (s : DS) (w : Nat) : Nat → Int := if w = 0 then dA s else if w = 1 then dW s else dQ s
def roomv (s : DS) (k : Nat) : Int := if k = 0 then dO s 0 else if k = 1 then dO s 1 else if k = 2 then dU s 0 else if k = 3 then dU s 1 else if k = 4 then dg s else if k = 5 then dv s else if k = 6 then dn s else dt s
def LL (S : Nat → DS) : Nat → Int := fun i => limv (S (i / 18)) (i % 18 % 3) (i % 18 / 3)
def RR (S : Nat → DS) : Nat → Int := fun i => roomv (S (i / 8)) (i % 8)
def PP (P : Nat → Nat → Int) : Nat → Int := fun i => P (i / 6) (i % 6)
def updS (S : Nat → DS) (d : Nat) (s : DS) : Nat → DS := fun k => if k = d then s else S k
theorem updS_s (S : Nat → DS) (d : Nat) (s : DS) : updS S d s d = s := by simp [updS]
theorem updS_n (S : Nat → DS) {d k : Nat} (s : DS) (h : k ≠ d) : updS S d s k = S k := by simp [updS, h]
theorem updS_u (S : Nat → DS) (d : Nat) (a b : DS) : updS (updS S d a) d b = updS S d b := by
  funext k
  unfold updS
  split <;> rfl
theorem updS_id (S : Nat → DS) (d : Nat) {s : DS} (h : S d = s) : updS S d s = S := by
  funext k
  unfold updS
  split
  · rename_i e; rw [e, h]
  · rfl
def setL (s : DS) (w j : Nat) (x : Int) : DS := if w = 0 then (updI (dA s) j x, dW s, dQ s, dO s, dU s, dg s, dv s, dn s, dt s) else if w = 1 then (dA s, updI (dW s) j x, dQ s, dO s, dU s, dg s, dv s, dn s, dt s) else (dA s, dW s, updI (dQ s) j x, dO s, dU s, dg s, dv s, dn s, dt s)
def setR (s : DS) (k : Nat) (x : Int) : DS := if k = 0 then (dA s, dW s, dQ s, updI (dO s) 0 x, dU s, dg s, dv s, dn s, dt s) else if k = 1 then (dA s, dW s, dQ s, updI (dO s) 1 x, dU s, dg s, dv s, dn s, dt s) else if k = 2 then (dA s, dW s, dQ s, dO s, updI (dU s) 0 x, dg s, dv s, dn s, dt s) else if k = 3 then (dA s, dW s, dQ s, dO s, updI (dU s) 1 x, dg s, dv s, dn s, dt s) else if k = 4 then (dA s, dW s, dQ s, dO s, dU s, x, dv s, dn s, dt s) else if k = 5 then (dA s, dW s, dQ s, dO s, dU s, dg s, x, dn s, dt s) else if k = 6 then (dA s, dW s, dQ s, dO s, dU s, dg s, dv s, x, dt s) else (dA s, dW s, dQ s, dO s, dU s, dg s, dv s, dn s, x)
theorem LL_at (S : Nat → DS) {d j w : Nat} (hj : j < 6) (hw : w < 3) : LL S (3 * (6 * d + j) + w) = limv (S d) w j := by
  unfold LL
  rw [show (3 * (6 * d + j) + w) / 18 = d by omega, show (3 * (6 * d + j) + w) % 18 % 3 = w by omega, show (3 * (6 * d + j) + w) % 18 / 3 = j by omega]
theorem RR_at (S : Nat → DS) {d k : Nat} (hk : k < 8) : RR S (8 * d + k) = roomv (S d) k := by
  unfold RR
  rw [show (8 * d + k) / 8 = d by omega, show (8 * d + k) % 8 = k by omega]
theorem PP_at (P : Nat → Nat → Int) {p j : Nat} (hj : j < 6) : PP P (6 * p + j) = P p j := by
  unfold PP
  rw [show (6 * p + j) / 6 = p by omega, show (6 * p + j) % 6 = j by omega]
theorem limv_set {s : DS} {w j w' j' : Nat} {x : Int} (hw : w < 3) (hw' : w' < 3) : limv (setL s w j x) w' j' = if w' = w ∧ j' = j then x else limv s w' j' := by
  rcases (show w = 0 ∨ w = 1 ∨ w = 2 by omega) with rfl | rfl | rfl <;> rcases (show w' = 0 ∨ w' = 1 ∨ w' = 2 by omega) with rfl | rfl | rfl <;> simp [limv, setL, updI, dA, dW, dQ]
theorem roomv_set {s : DS} {k k' : Nat} {x : Int} (hk : k < 8) (hk' : k' < 8) : roomv (setR s k x) k' = if k' = k then x else roomv s k' := by
  rcases (show k = 0 ∨ k = 1 ∨ k = 2 ∨ k = 3 ∨ k = 4 ∨ k = 5 ∨ k = 6 ∨ k = 7 by omega) with rfl | rfl | rfl | rfl | rfl | rfl | rfl | rfl <;> rcases (show k' = 0 ∨ k' = 1 ∨ k' = 2 ∨ k' = 3 ∨ k' = 4 ∨ k' = 5 ∨ k' = 6 ∨ k' = 7 by omega) with rfl | rfl | rfl | rfl | rfl | rfl | rfl | rfl <;> simp [roomv, setR, updI, dO, dU, dg, dv, dn, dt]
theorem LL_set (S : Nat → DS) {d j w : Nat} {x : Int} (hj : j < 6) (hw : w < 3) : updI (LL S) (3 * (6 * d + j) + w) x = LL (updS S d (setL (S d) w j x)) := by
  funext i
  unfold updI LL
  by_cases e : i / 18 = d
  · rw [e, updS_s, limv_set hw (by omega)]
    by_cases q : i = 3 * (6 * d + j) + w
    · rw [if_pos q, if_pos ⟨by omega, by omega⟩]
    · rw [if_neg q, if_neg (fun z => q (by omega))]
  · rw [updS_n _ _ e, if_neg (by omega)]
theorem RR_set (S : Nat → DS) {d k : Nat} {x : Int} (hk : k < 8) : updI (RR S) (8 * d + k) x = RR (updS S d (setR (S d) k x)) := by
  funext i
  unfold updI RR
  by_cases e : i / 8 = d
  · rw [e, updS_s, roomv_set hk (by omega)]
    by_cases q : i = 8 * d + k
    · rw [if_pos q, if_pos (by omega)]
    · rw [if_neg q, if_neg (fun z => q (by omega))]
  · rw [updS_n _ _ e, if_neg (by omega)]
theorem LL_setR (S : Nat → DS) (d k : Nat) (x : Int) : LL (updS S d (setR (S d) k x)) = LL S := by
  funext i
  unfold LL
  by_cases e : i / 18 = d
  · rw [e, updS_s]
    unfold setR
    repeat' split
    all_goals rfl
  · rw [updS_n _ _ e]
theorem RR_setL (S : Nat → DS) (d w j : Nat) (x : Int) : RR (updS S d (setL (S d) w j x)) = RR S := by
  funext i
  unfold RR
  by_cases e : i / 8 = d
  · rw [e, updS_s]
    unfold setL
    repeat' split
    all_goals rfl
  · rw [updS_n _ _ e]
theorem setL_dset (s : DS) (j : Nat) (a w q : Int) : setL (setL (setL s 0 j a) 1 j w) 2 j q = dset s j a w q := rfl
theorem RR_dset (S : Nat → DS) (d j : Nat) (a w q : Int) : RR (updS S d (dset (S d) j a w q)) = RR S := by
  funext i
  unfold RR
  by_cases e : i / 8 = d
  · rw [e, updS_s]
    rfl
  · rw [updS_n _ _ e]
theorem LL_dset (S : Nat → DS) {d j : Nat} {a w q : Int} (hj : j < 6) : updI (updI (updI (LL S) (3 * (6 * d + j) + 0) a) (3 * (6 * d + j) + 1) w) (3 * (6 * d + j) + 2) q = LL (updS S d (dset (S d) j a w q)) := by
  rw [LL_set S hj (by omega), LL_set _ hj (by omega), LL_set _ hj (by omega), updS_s, updS_u, updS_s, updS_u, setL_dset]
theorem RR_turn1 (S : Nat → DS) (d : Nat) (P : Nat → Int) (j : Nat) {s : DS} (h : S d = s) : RR (updS S d (turn1 P j s)) = RR S := by
  subst h
  unfold turn1
  split
  · rw [updS_id S d rfl]
  · exact RR_dset S d j _ _ _
-- the reference's cells
abbrev wM0 (m : Nat → Nat) (th n np mo : Int) : Nat × va_E := (m 0, .inr (3, [.int (iv th), .int (iv n), .int (iv np), .int (iv mo), .ref (m 1), .ref (m 2), .ref (m 3), .ref (m 4), .ref (m 5)]))
abbrev wMl (G : Nat → ClassId) (m : Nat → Nat) (F : Nat → Int) : Nat × va_E := (m 1, .inl (G 0, 144, .inl (fun j => iv (F j))))
abbrev wMr (G : Nat → ClassId) (m : Nat → Nat) (F : Nat → Int) : Nat × va_E := (m 2, .inl (G 0, 64, .inl (fun j => iv (F j))))
abbrev wMt (G : Nat → ClassId) (m : Nat → Nat) (F : Nat → Int) : Nat × va_E := (m 3, .inl (G 0, 48, .inl (fun j => iv (F j))))
abbrev wMs (G : Nat → ClassId) (m : Nat → Nat) (F : Nat → Int) : Nat × va_E := (m 4, .inl (G 0, 5, .inl (fun j => iv (F j))))
abbrev wMd (G : Nat → ClassId) (m : Nat → Nat) (F : Nat → Int) : Nat × va_E := (m 5, .inl (G 0, 1, .inl (fun j => iv (F j))))
-- turns in the reference
def brk (ds : DS) (j : Nat) (t : Int) : Bool := decide (¬ dA ds j = t ∧ wearBT (dW ds j) (dQ ds j) (max (t - dA ds j) (-(t - dA ds j))) = 100)
theorem turn_say0 {S : Nat → DS} {d j : Nat} {ds : DS} {t : Int} (hS : S d = ds) (he : dA ds j = t) : LL S = LL (updS S d (turn1 (fun _ => t) j ds)) := by
  rw [← turn1_t (P := fun _ => t) (i := j) (Or.inl he), updS_id S d hS]
theorem turn_sayA {S : Nat → DS} {d j : Nat} {ds : DS} {t x1 x2 : Int} (hS : S d = ds) (hj : j < 6) (hn : ¬ (dA ds j = t ∨ 100 ≤ dW ds j)) (e1 : x1 = wearBT (dW ds j) (dQ ds j) (max (t - dA ds j) (-(t - dA ds j)))) (e2 : x2 = max 0 (dQ ds j - 1)) : updI (updI (updI (LL S) (3 * (6 * d + j) + 0) t) (3 * (6 * d + j) + 1) x1) (3 * (6 * d + j) + 2) x2 = LL (updS S d (turn1 (fun _ => t) j ds)) := by
  subst hS
  rw [← turn1_f (P := fun _ => t) (i := j) hn, LL_dset S hj, e1, e2]
theorem turn_sayB {S : Nat → DS} {d j : Nat} {ds : DS} {t x1 : Int} (hS : S d = ds) (hj : j < 6) (hn : ¬ (dA ds j = t ∨ 100 ≤ dW ds j)) (e1 : x1 = wearBT (dW ds j) (dQ ds j) (max (t - dA ds j) (-(t - dA ds j)))) (e2 : dQ ds j = 0) : updI (updI (LL S) (3 * (6 * d + j) + 0) t) (3 * (6 * d + j) + 1) x1 = LL (updS S d (turn1 (fun _ => t) j ds)) := by
  rw [← turn_sayA hS hj hn e1 (x2 := 0) (by omega)]
  have h : updI (updI (LL S) (3 * (6 * d + j) + 0) t) (3 * (6 * d + j) + 1) x1 (3 * (6 * d + j) + 2) = 0 := by
    rw [updI_n _ _ (by omega), updI_n _ _ (by omega), LL_at S hj (by omega), hS]
    exact e2
  have g := updI_same (updI (updI (LL S) (3 * (6 * d + j) + 0) t) (3 * (6 * d + j) + 1) x1) (3 * (6 * d + j) + 2)
  rw [h] at g
  exact g.symm
theorem sm_one {f g : Nat → Int} {j : Nat} : ∀ {n : Nat}, j < n → (∀ i, i ≠ j → f i = g i) → sm f n = sm g n - g j + f j
  | 0, h, _ => absurd h (Nat.not_lt_zero j)
  | n + 1, h, e => by
    show sm f n + f n = sm g n + g n - g j + f j
    by_cases q : j = n
    · subst q
      rw [sm_congr (f := f) (g := g) (fun i hi => e i (by omega))]
      omega
    · rw [sm_one (n := n) (by omega) e, e n (fun z => q z.symm)]
      omega
theorem turnN_keep (P : Nat → Int) (s : DS) : ∀ (i k : Nat), i ≤ k → dA (turnN P i s) k = dA s k ∧ dW (turnN P i s) k = dW s k ∧ dQ (turnN P i s) k = dQ s k
  | 0, k, _ => ⟨rfl, rfl, rfl⟩
  | i + 1, k, h => by
    have ih := turnN_keep P s i k (by omega)
    show dA (turn1 P i (turnN P i s)) k = _ ∧ dW (turn1 P i (turnN P i s)) k = _ ∧ dQ (turn1 P i (turnN P i s)) k = _
    unfold turn1
    split
    · exact ih
    · simp only [dset, dA, dW, dQ, updI_n _ _ (show k ≠ i by omega)] at ih ⊢
      exact ih
theorem cntW_turn1 {P : Nat → Int} {j : Nat} {st : DS} (hj : j < 6) (h : dW st j < 100 ∨ dA st j = P j) : cntW 100 (turn1 P j st) = cntW 100 st + b2i (brk st j (P j)) := by
  by_cases e : dA st j = P j
  · rw [← turn1_t (P := P) (i := j) (Or.inl e), show brk st j (P j) = false from decide_eq_false (fun z => z.1 e)]
    exact (Int.add_zero _).symm
  · rw [← turn1_f (P := P) (i := j) (by omega)]
    unfold cntW cnt
    rw [sm_one (g := fun i => b2i (decide (100 ≤ dW st i))) hj (fun i hi => by show b2i (decide (100 ≤ updI (dW st) j _ i)) = _; rw [updI_n _ _ hi])]
    show _ - b2i (decide (100 ≤ dW st j)) + b2i (decide (100 ≤ updI (dW st) j _ j)) = _
    rw [updI_s, show decide (100 ≤ dW st j) = false from decide_eq_false (by omega)]
    have hx : ∀ x : Int, x ≤ 100 → b2i (decide (100 ≤ x)) = b2i (decide (x = 100)) := fun x hx => by
      by_cases q : x = 100
      · rw [decide_eq_true q, decide_eq_true (by omega : 100 ≤ x)]
      · rw [decide_eq_false q, decide_eq_false (by omega : ¬ 100 ≤ x)]
    rw [hx _ (by unfold wearBT; omega)]
    have hb : decide (wearBT (dW st j) (dQ st j) (max (P j - dA st j) (-(P j - dA st j))) = 100) = brk st j (P j) := by
      unfold brk
      by_cases q : wearBT (dW st j) (dQ st j) (max (P j - dA st j) (-(P j - dA st j))) = 100
      · rw [decide_eq_true q, decide_eq_true ⟨e, q⟩]
      · rw [decide_eq_false q, decide_eq_false (fun z => q z.2)]
    rw [hb]
    have h0 : b2i false = 0 := rfl
    rw [h0]
    show sm (fun i => b2i (decide (100 ≤ dW st i))) 6 - 0 + _ = sm (fun i => b2i (decide (100 ≤ dW st i))) 6 + _
    omega
def jtold (ds : DS) (j w : Nat) : Int := if w < 3 then limv ds w j else if dW ds j = 100 then 1 else 0
theorem cntU_pos {x : Int} {ds : DS} (h : x ≤ dU ds 0 ∨ x ≤ dU ds 1) : 0 < cntU x ds := by
  unfold cntU cnt
  show 0 < 0 + b2i (decide (x ≤ dU ds 0)) + b2i (decide (x ≤ dU ds 1))
  have h0 := b2i_rng (decide (x ≤ dU ds 0))
  have h1 := b2i_rng (decide (x ≤ dU ds 1))
  rcases h with h | h
  · have e : b2i (decide (x ≤ dU ds 0)) = 1 := by rw [decide_eq_true h]; rfl
    omega
  · have e : b2i (decide (x ≤ dU ds 1)) = 1 := by rw [decide_eq_true h]; rfl
    omega
theorem cntU_neg {x : Int} {ds : DS} (h0 : ¬ x ≤ dU ds 0) (h1 : ¬ x ≤ dU ds 1) : ¬ 0 < cntU x ds := by
  unfold cntU cnt
  show ¬ 0 < 0 + b2i (decide (x ≤ dU ds 0)) + b2i (decide (x ≤ dU ds 1))
  rw [decide_eq_false h0, decide_eq_false h1]
  decide
-- a day in the reference
abbrev kk (x : Int) : Nat → Int := fun _ => x
theorem has_eq (s : DS) : has s = (if dg s = -1 then 0 else 1) + (if dv s = 0 then 0 else 1) := by
  unfold has tally
  rw [if_neg (show ¬ (5 : Int) = 4 by decide), if_pos rfl, if_neg (show ¬ (6 : Int) = 4 by decide), if_neg (show ¬ (6 : Int) = 5 by decide), if_pos rfl]
theorem has_gv {s s' : DS} (h1 : dg s = dg s') (h2 : dv s = dv s') : has s = has s' := by rw [has_eq, has_eq, h1, h2]
theorem has_dry (s : DS) : ∀ i, has (dryN i s) = has s
  | 0 => rfl
  | i + 1 => (has_gv rfl rfl : has (dryN (i + 1) s) = has (dryN i s)).trans (has_dry s i)
theorem has_gat (s : DS) : ∀ i, has (gatN i s) = has s
  | 0 => rfl
  | i + 1 => by
    unfold gatN
    split
    · exact has_gat s i
    · exact (has_gv rfl rfl : has (dsetU (gatN i s) i _) = has (gatN i s)).trans (has_gat s i)
theorem put_say {S : Nat → DS} {d k : Nat} {st : DS} {x : Int} (hk : k < 8) : updI (RR (updS S d st)) (8 * d + k) x = RR (updS S d (setR st k x)) := by
  rw [RR_set _ hk, updS_s, updS_u]
theorem put_LL (S : Nat → DS) (d : Nat) (st : DS) (k : Nat) (x : Int) : LL (updS S d st) = LL (updS S d (setR st k x)) := by
  have h := LL_setR (updS S d st) d k x
  rw [updS_s, updS_u] at h
  exact h.symm
theorem lim_say {S : Nat → DS} {d j w : Nat} {st : DS} {x : Int} (hj : j < 6) (hw : w < 3) : updI (LL (updS S d st)) (3 * (6 * d + j) + w) x = LL (updS S d (setL st w j x)) := by
  rw [LL_set _ hj hw, updS_s, updS_u]
theorem lim_RR (S : Nat → DS) (d : Nat) (st : DS) (w j : Nat) (x : Int) : RR (updS S d st) = RR (updS S d (setL st w j x)) := by
  have h := RR_setL (updS S d st) d w j x
  rw [updS_s, updS_u] at h
  exact h.symm
theorem room_O {s : DS} {i : Nat} (hi : i < 2) : roomv s (0 + i) = dO s i := by
  rcases (show i = 0 ∨ i = 1 by omega) with rfl | rfl <;> rfl
theorem room_U {s : DS} {i : Nat} (hi : i < 2) : roomv s (2 + i) = dU s i := by
  rcases (show i = 0 ∨ i = 1 by omega) with rfl | rfl <;> rfl
theorem setR_U {s : DS} {i : Nat} {x : Int} (hi : i < 2) : setR s (2 + i) x = dsetU s i x := by
  rcases (show i = 0 ∨ i = 1 by omega) with rfl | rfl <;> rfl
theorem dry_set {s st : DS} {i : Nat} (h : st = dryN i s) : setL st 2 i (max 0 (dQ st i - 1)) = dryN (i + 1) s := by
  exact (dset_same (s := st) (i := i) (q := max 0 (dQ st i - 1))).trans (dryN_s h)
