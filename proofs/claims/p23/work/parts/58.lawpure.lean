-- THE LAW'S OWN ROWS OF NUMBERS
def wRw (G : Nat → ClassId) (len : Nat) (sp : AD) (P : Nat → Nat → Int) (n : Nat) : va_W := (List.range n).flatMap (fun q => [(sp q 0, .inl (G 0, len, .inl (fun j => iv (P q j))))])
def wRwo (G : Nat → ClassId) (len : Nat) (sp : AD) (P : Nat → Nat → Int) (n d : Nat) : va_W := (List.range n).flatMap (fun q => if q = d then [] else [(sp q 0, .inl (G 0, len, .inl (fun j => iv (P q j))))])
def updP (P : Nat → Nat → Int) (d : Nat) (p : Nat → Int) : Nat → Nat → Int := fun e => if e = d then p else P e
theorem updP_s (P : Nat → Nat → Int) (d : Nat) (p : Nat → Int) : updP P d p d = p := if_pos rfl
theorem updP_n (P : Nat → Nat → Int) {d e : Nat} (p : Nat → Int) (h : e ≠ d) : updP P d p e = P e := if_neg h
theorem wRw_get {G : Nat → ClassId} {len : Nat} {sp : AD} {P : Nat → Nat → Int} {n d : Nat} (h : d < n) : (wRw G len sp P n).Perm ([(sp d 0, .inl (G 0, len, .inl (fun j => iv (P d j))))] ++ wRwo G len sp P n d) :=
  fm_pull (f := fun q => ([(sp q 0, .inl (G 0, len, .inl (fun j => iv (P q j))))] : va_W)) (g := fun q => if q = d then [] else [(sp q 0, .inl (G 0, len, .inl (fun j => iv (P q j))))]) (if_pos rfl) (fun e he => by rw [if_neg he]) h
theorem wRw_put {G : Nat → ClassId} {len : Nat} {sp : AD} {P : Nat → Nat → Int} {n d : Nat} (h : d < n) (p : Nat → Int) : (wRw G len sp (updP P d p) n).Perm ([(sp d 0, .inl (G 0, len, .inl (fun j => iv (p j))))] ++ wRwo G len sp P n d) := by
  have h1 := fm_pull (f := fun q => ([(sp q 0, .inl (G 0, len, .inl (fun j => iv (updP P d p q j))))] : va_W)) (g := fun q => if q = d then [] else [(sp q 0, .inl (G 0, len, .inl (fun j => iv (P q j))))]) (if_pos rfl) (fun e he => by rw [if_neg he, updP_n _ _ he]) h
  rw [updP_s] at h1
  exact h1
def wKr (G : Nat → ClassId) (z : Nat → Nat) (J : Nat → Nat → Int) : va_W := (List.range 6).flatMap (fun j => [(z j, .inl (G 0, 3, .inl (fun w => iv (J j w))))])
def wKro (G : Nat → ClassId) (z : Nat → Nat) (J : Nat → Nat → Int) (d : Nat) : va_W := (List.range 6).flatMap (fun j => if j = d then [] else [(z j, .inl (G 0, 3, .inl (fun w => iv (J j w))))])
theorem wKr_get {G : Nat → ClassId} {z : Nat → Nat} {J : Nat → Nat → Int} {d : Nat} (h : d < 6) : (wKr G z J).Perm ([(z d, .inl (G 0, 3, .inl (fun w => iv (J d w))))] ++ wKro G z J d) :=
  fm_pull (f := fun j => ([(z j, .inl (G 0, 3, .inl (fun w => iv (J j w))))] : va_W)) (g := fun j => if j = d then [] else [(z j, .inl (G 0, 3, .inl (fun w => iv (J j w))))]) (if_pos rfl) (fun e he => by rw [if_neg he]) h
theorem wKr_put {G : Nat → ClassId} {z : Nat → Nat} {J : Nat → Nat → Int} {d : Nat} (h : d < 6) (p : Nat → Int) : (wKr G z (updP J d p)).Perm ([(z d, .inl (G 0, 3, .inl (fun w => iv (p w))))] ++ wKro G z J d) := by
  have h1 := fm_pull (f := fun j => ([(z j, .inl (G 0, 3, .inl (fun w => iv (updP J d p j w))))] : va_W)) (g := fun j => if j = d then [] else [(z j, .inl (G 0, 3, .inl (fun w => iv (J j w))))]) (if_pos rfl) (fun e he => by rw [if_neg he, updP_n _ _ he]) h
  rw [updP_s] at h1
  exact h1
def wK1 (G : Nat → ClassId) (y : Nat) (z : Nat → Nat) (J : Nat → Nat → Int) : va_W := [(y, .inl (G 4, 6, .inr (.inr (.inr (.inr (zF z))))))] ++ wKr G z J
def wKs (G : Nat → ClassId) (ja : AD) (jz : Nat → Nat → Nat) (J : Nat → Nat → Nat → Int) (n : Nat) : va_W := (List.range n).flatMap (fun i => wK1 G (ja i 0) (jz i) (J i))
def wKso (G : Nat → ClassId) (ja : AD) (jz : Nat → Nat → Nat) (J : Nat → Nat → Nat → Int) (n d : Nat) : va_W := (List.range n).flatMap (fun i => if i = d then [] else wK1 G (ja i 0) (jz i) (J i))
def updQ (J : Nat → Nat → Nat → Int) (d : Nat) (p : Nat → Nat → Int) : Nat → Nat → Nat → Int := fun e => if e = d then p else J e
theorem updQ_s (J : Nat → Nat → Nat → Int) (d : Nat) (p : Nat → Nat → Int) : updQ J d p d = p := if_pos rfl
theorem updQ_n (J : Nat → Nat → Nat → Int) {d e : Nat} (p : Nat → Nat → Int) (h : e ≠ d) : updQ J d p e = J e := if_neg h
theorem wKs_get {G : Nat → ClassId} {ja : AD} {jz : Nat → Nat → Nat} {J : Nat → Nat → Nat → Int} {n d : Nat} (h : d < n) : (wKs G ja jz J n).Perm (wK1 G (ja d 0) (jz d) (J d) ++ wKso G ja jz J n d) :=
  fm_pull (f := fun i => wK1 G (ja i 0) (jz i) (J i)) (g := fun i => if i = d then [] else wK1 G (ja i 0) (jz i) (J i)) (if_pos rfl) (fun e he => by rw [if_neg he]) h
theorem wKs_put {G : Nat → ClassId} {ja : AD} {jz : Nat → Nat → Nat} {J : Nat → Nat → Nat → Int} {n d : Nat} (h : d < n) (p : Nat → Nat → Int) : (wKs G ja jz (updQ J d p) n).Perm (wK1 G (ja d 0) (jz d) p ++ wKso G ja jz J n d) := by
  have h1 := fm_pull (f := fun i => wK1 G (ja i 0) (jz i) (updQ J d p i)) (g := fun i => if i = d then [] else wK1 G (ja i 0) (jz i) (J i)) (if_pos rfl) (fun e he => by rw [if_neg he, updQ_n _ _ he]) h
  rw [updQ_s] at h1
  exact h1
-- WHAT A DAY DOES, in the law's words
theorem day_lim {d mo : Int} {s : DS} {j : Nat} (hj : j < 6) : limv (day1 d mo s) 0 j = limv s 0 j ∧ limv (day1 d mo s) 1 j = limv s 1 j ∧ (d % 3 = 0 → limv (day1 d mo s) 2 j = max 0 (limv s 2 j - 1)) ∧ (¬ d % 3 = 0 → limv (day1 d mo s) 2 j = limv s 2 j) := by
  have e1 := (eatW_fix mo s).2.2.2.2.2 j
  have e2 := (loosen_fix (eatW mo s)).2.2.2.2 j
  have f := gatN_fx (dX d 6 (loosen (eatW mo s))) 2
  have hA : dA (day1 d mo s) = dA (dX d 6 (loosen (eatW mo s))) := f.1
  have hW : dW (day1 d mo s) = dW (dX d 6 (loosen (eatW mo s))) := f.2.1
  have hQ : dQ (day1 d mo s) = dQ (dX d 6 (loosen (eatW mo s))) := f.2.2.1
  have a0 : dA (loosen (eatW mo s)) j = dA s j := (e2 0).trans (e1 0)
  have a1 : dW (loosen (eatW mo s)) j = dW s j := (e2 1).trans (e1 1)
  have a2 : dQ (loosen (eatW mo s)) j = dQ s j := (e2 2).trans (e1 2)
  have aw := dryN_AW (loosen (eatW mo s)) j 6
  have qq := dryN_Q (loosen (eatW mo s)) j 6
  rw [if_pos hj] at qq
  show dA (day1 d mo s) j = dA s j ∧ dW (day1 d mo s) j = dW s j ∧ (d % 3 = 0 → dQ (day1 d mo s) j = max 0 (dQ s j - 1)) ∧ (¬ d % 3 = 0 → dQ (day1 d mo s) j = dQ s j)
  rw [hA, hW, hQ]
  by_cases h3 : d % 3 = 0
  · have ex : dX d 6 (loosen (eatW mo s)) = dryN 6 (loosen (eatW mo s)) := if_pos h3
    rw [ex]
    exact ⟨aw.1.trans a0, aw.2.trans a1, fun _ => by rw [qq, a2], fun h => absurd h3 h⟩
  · have ex : dX d 6 (loosen (eatW mo s)) = loosen (eatW mo s) := if_neg h3
    rw [ex]
    exact ⟨a0, a1, fun h => absurd h h3, fun _ => a2⟩
theorem day_eye {d mo : Int} {s : DS} (h : okD s) {e : Nat} (he : e < 2) : roomv (day1 d mo s) e = roomv s e ∧ roomv (day1 d mo s) (2 + e) = min 9 (roomv s (2 + e) + roomv s e) := by
  have fx := dX_fix d 6 (loosen (eatW mo s))
  have f := gatN_fx (dX d 6 (loosen (eatW mo s))) 2
  have hO : dO (day1 d mo s) = dO s := (f.2.2.2.1.trans fx.1).trans ((loosen_fix (eatW mo s)).2.2.1.trans (eatW_fix mo s).2.2.2.1)
  have hU0 : dU (dX d 6 (loosen (eatW mo s))) = dU s := fx.2.1.trans ((loosen_fix (eatW mo s)).2.2.2.1.trans (eatW_fix mo s).2.2.2.2.1)
  have hO0 : dO (dX d 6 (loosen (eatW mo s))) = dO s := fx.1.trans ((loosen_fix (eatW mo s)).2.2.1.trans (eatW_fix mo s).2.2.2.1)
  have hU : dU (day1 d mo s) e = _ := gat_2 (dX d 6 (loosen (eatW mo s))) e he
  rw [if_pos he, hU0, hO0] at hU
  have r1 := okD_O h e he
  have r2 := okD_U h e he
  have hr : ∀ t : DS, roomv t e = dO t e := fun t => by rw [← room_O (s := t) he, Nat.zero_add]
  rw [hr, hr, room_U he, room_U he, hO]
  refine ⟨rfl, ?_⟩
  by_cases q : dO s e = 0
  · rw [if_pos q] at hU
    omega
  · rw [if_neg q] at hU
    omega
theorem day_g {d mo : Int} {s : DS} : dg (day1 d mo s) = dg (eatW mo s) := by
  have fx := dX_fix d 6 (loosen (eatW mo s))
  have f := gatN_fx (dX d 6 (loosen (eatW mo s))) 2
  exact (f.2.2.2.2.1.trans fx.2.2.1).trans (loosen_fix (eatW mo s)).1
theorem day_wig {d mo : Int} {s : DS} (h : okD s) (hm : 0 ≤ mo ∧ mo ≤ 3) : ((roomv s 4 < 0 ∨ 9 < roomv s 4 + mo) → roomv (day1 d mo s) 4 = -1) ∧ (¬ (roomv s 4 < 0 ∨ 9 < roomv s 4 + mo) → roomv (day1 d mo s) 4 = roomv s 4 + mo) := by
  show ((dg s < 0 ∨ 9 < dg s + mo) → dg (day1 d mo s) = -1) ∧ (¬ (dg s < 0 ∨ 9 < dg s + mo) → dg (day1 d mo s) = dg s + mo)
  rw [day_g]
  obtain ⟨-, -, hg, -, -, -, -⟩ := h
  by_cases q : dg s = -1
  · rw [eatW_no q]
    exact ⟨fun _ => q, fun h => by omega⟩
  · rw [eatW_dg q]
    exact ⟨fun h => by rw [if_pos (by omega)], fun h => by rw [if_neg (by omega)]⟩
theorem day_dress {d mo : Int} {s : DS} (h : okD s) (hm : 0 ≤ mo ∧ mo ≤ 3) {pb : Int} (h1 : (0 < roomv s 5 ∧ 50 ≤ limv s 1 5) → pb = 1) (h2 : ¬ (0 < roomv s 5 ∧ 50 ≤ limv s 1 5) → pb = 0) : ((0 < roomv s 5 ∧ roomv s 6 - pb < roomv s 5) → roomv (day1 d mo s) 5 = 0 ∧ roomv (day1 d mo s) 6 = 0) ∧ (¬ (0 < roomv s 5 ∧ roomv s 6 - pb < roomv s 5) → roomv (day1 d mo s) 5 = roomv s 5 ∧ roomv (day1 d mo s) 6 = roomv s 6 - pb) := by
  have fx := dX_fix d 6 (loosen (eatW mo s))
  have f := gatN_fx (dX d 6 (loosen (eatW mo s))) 2
  have hv : dv (day1 d mo s) = dv (loosen (eatW mo s)) := f.2.2.2.2.2.1.trans fx.2.2.2.1
  have hn : dn (day1 d mo s) = dn (loosen (eatW mo s)) := f.2.2.2.2.2.2.1.trans fx.2.2.2.2.1
  obtain ⟨e1, e2, -, -, -, e6⟩ := eatW_fix mo s
  have ew : dW (eatW mo s) 5 = dW s 5 := e6 5 1
  have ok1 := eatW_ok hm h
  obtain ⟨-, -, -, r4, r5, r6, r7⟩ := h
  change (0 < dv s ∧ 50 ≤ dW s 5) → pb = 1 at h1
  change ¬ (0 < dv s ∧ 50 ≤ dW s 5) → pb = 0 at h2
  show ((0 < dv s ∧ dn s - pb < dv s) → dv (day1 d mo s) = 0 ∧ dn (day1 d mo s) = 0) ∧ (¬ (0 < dv s ∧ dn s - pb < dv s) → dv (day1 d mo s) = dv s ∧ dn (day1 d mo s) = dn s - pb)
  rw [hv, hn]
  have hp : pinH (eatW mo s) (dn s - pb) := by
    unfold pinH
    rw [e1, e2, ew]
    exact ⟨fun q => by omega, fun q => by omega⟩
  constructor
  · intro q
    have := loosen_fall ok1 hp (by rw [e1]; omega)
    omega
  · intro q
    have := loosen_keep ok1 hp (by rw [e1]; omega)
    rw [e1] at this
    omega
theorem day_took (d mo : Int) (s : DS) : roomv (day1 d mo s) 7 = roomv s 7 := by
  have fx := dX_fix d 6 (loosen (eatW mo s))
  have f := gatN_fx (dX d 6 (loosen (eatW mo s))) 2
  exact (f.2.2.2.2.2.2.2.trans fx.2.2.2.2.2).trans ((loosen_fix (eatW mo s)).2.1.trans (eatW_fix mo s).2.2.1)
-- what the citadel would tell
theorem wear_mono {P : Nat → Int} {s : DS} (hP : okP P) (h : okD s) : 0 ≤ sm (dW (turnN P 6 s)) 6 - sm (dW s) 6 ∧ sm (dW (turnN P 6 s)) 6 - sm (dW s) 6 ≤ 600 := by
  have ht := turnN_ok hP h 6 (by omega)
  have h1 := sm_bound (f := dW (turnN P 6 s)) (c := 100) (n := 6) (fun i hi => okD_W ht i hi)
  have h2 := sm_bound (f := dW s) (c := 100) (n := 6) (fun i hi => okD_W h i hi)
  have h3 : ∀ k, ∀ i, dW s k ≤ dW (turnN P i s) k := fun k i => by
    induction i with
    | zero => exact Int.le_refl _
    | succ i ih =>
      refine Int.le_trans ih ?_
      show dW (turnN P i s) k ≤ dW (turn1 P i (turnN P i s)) k
      unfold turn1
      split
      · exact Int.le_refl _
      · rename_i q
        show _ ≤ updI (dW (turnN P i s)) i _ k
        by_cases e : k = i
        · subst e
          rw [updI_s]
          unfold wearBT wearMore
          split <;> omega
        · rw [updI_n _ _ e]
          exact Int.le_refl _
  have h4 : ∀ n : Nat, sm (dW s) n ≤ sm (dW (turnN P 6 s)) n := fun n => by
    induction n with
    | zero => exact Int.le_refl _
    | succ n ih =>
      show sm (dW s) n + dW s n ≤ sm (dW (turnN P 6 s)) n + dW (turnN P 6 s) n
      have := h3 n 6
      omega
  have := h4 6
  omega
theorem ofT_le (P : Nat → Int) (s : DS) : ∀ f t : Nat, t ≤ ofT P s f t ∧ ofT P s f t ≤ t + f
  | 0, t => ⟨Nat.le_refl t, Nat.le_refl t⟩
  | f + 1, t => by
    have ih := ofT_le P s f (t + 1)
    unfold ofT
    split
    · omega
    · omega
theorem co_val {c : CS} (h : okC c) {d q : Nat} (hd : d < kn c) (hq : q < kp c) : ∃ vc vo : Int, opCosts c (d : Int) (q : Int) = (0, vc, c) ∧ opOften c (d : Int) (q : Int) = (0, vo, c) ∧ ((vc = -1 ∧ vo = 0) ∨ (0 ≤ vc ∧ vc ≤ 600 ∧ 1 ≤ vo ∧ vo ≤ 50)) := by
  have ho : opOften c (d : Int) (q : Int) = (0, ((ofT (kP c q) (kS c d) 50 0 : Nat) : Int), c) := by
    unfold opOften
    simp only [Int.toNat_natCast]
    rw [if_neg (by simp only [isD, isP]; omega)]
  cases hc : canT (kP c q) (kS c d) with
  | false =>
    refine ⟨-1, ((ofT (kP c q) (kS c d) 50 0 : Nat) : Int), ?_, ho, Or.inl ⟨rfl, ?_⟩⟩
    · unfold opCosts
      simp only [Int.toNat_natCast]
      rw [if_neg (by simp only [isD, isP]; omega), if_pos hc]
    · have e : ofT (kP c q) (kS c d) 50 0 = 0 := if_neg (by show ¬ canT (kP c q) (kS c d) = true; rw [hc]; decide)
      rw [e]
      rfl
  | true =>
    have hw := wear_mono (okC_P h hq) (okC_D h hd)
    refine ⟨_, ((ofT (kP c q) (kS c d) 50 0 : Nat) : Int), ?_, ho, Or.inr ⟨hw.1, hw.2, ?_⟩⟩
    · unfold opCosts
      simp only [Int.toNat_natCast]
      rw [if_neg (by simp only [isD, isP]; omega), if_neg (by rw [hc]; decide)]
    · have e : ofT (kP c q) (kS c d) 50 0 = ofT (kP c q) (kS c d) 49 1 := if_pos hc
      have := ofT_le (kP c q) (kS c d) 49 1
      omega
theorem op_foresee {c : CS} {w : Int} (h : 4 ≤ w ∧ w ≤ 7) : opForesee c 1 w = (0, countV (afterC c 1) w, c) := by
  unfold opForesee
  rw [if_neg (by omega), if_neg (by omega)]
  rfl
theorem op_pass (c : CS) : opPass c 1 = (0, lossN (kS c) (afterS c 1) (kn c), afterC c 1) := by
  unfold opPass
  rw [if_pos (by omega)]
  rfl
theorem countV_8 (c : CS) {k : Nat} (h : k < 5) : countV c (8 + (k : Int)) = kT c k := by
  unfold countV
  rw [if_neg (by omega), if_neg (by omega), if_neg (by omega), if_neg (by omega), if_neg (by omega), show (8 + (k : Int) - 8).toNat = k by omega]
theorem countV_r {c : CS} (h : okC c) {w : Int} (hw : 4 ≤ w ∧ w ≤ 7) : 0 ≤ countV c w ∧ countV c w ≤ 48 := by
  rw [countV_47 hw]
  exact smT_rng h.1
theorem sm_add (f g : Nat → Int) : ∀ n : Nat, sm (fun e => f e + g e) n = sm f n + sm g n
  | 0 => rfl
  | n + 1 => by
    show sm (fun e => f e + g e) n + (f n + g n) = sm f n + f n + (sm g n + g n)
    rw [sm_add f g n]
    omega
theorem loss_57 (c : CS) : lossN (kS c) (afterS c 1) (kn c) = countV c 5 - countV (afterC c 1) 5 + countV c 6 - countV (afterC c 1) 6 := by
  rw [countV_47 (c := c) (w := 5) (by omega), countV_47 (c := c) (w := 6) (by omega), countV_47 (c := afterC c 1) (w := 5) (by omega), countV_47 (c := afterC c 1) (w := 6) (by omega)]
  have h1 := sm_add (fun e => tally 5 (kS c e)) (fun e => tally 6 (kS c e)) (kn c)
  have h2 := sm_add (fun e => tally 5 (afterS c 1 e)) (fun e => tally 6 (afterS c 1 e)) (kn c)
  show sm (fun e => tally 5 (kS c e) + tally 6 (kS c e)) (kn c) - sm (fun e => tally 5 (afterS c 1 e) + tally 6 (afterS c 1 e)) (kn c) = sm (fun e => tally 5 (kS c e)) (kn c) - sm (fun e => tally 5 (afterS c 1 e)) (kn c) + sm (fun e => tally 6 (kS c e)) (kn c) - sm (fun e => tally 6 (afterS c 1 e)) (kn c)
  rw [h1, h2]
  omega
theorem after_1 {c : CS} {e : Nat} (h : e < kn c) : kS (afterC c 1) e = day1 (kd c) (km c) (kS c e) := (after_lt h).trans (dayN_1 _ _ _)
theorem brk_step {s : DS} {X x v : Int} {j : Nat} (ex : x = X + cnt (fun e => decide (dW s e = 100)) j) (h : (dW s j = 100 ∧ v = 1) ∨ (¬ dW s j = 100 ∧ v = 0)) : x + v = X + cnt (fun e => decide (dW s e = 100)) (j + 1) := by
  rw [ex]
  rcases h with ⟨h, rfl⟩ | ⟨h, rfl⟩
  · rw [← cnt_yes (f := fun e => decide (dW s e = 100)) (i := j) (decide_eq_true h)]
    omega
  · rw [← cnt_no (f := fun e => decide (dW s e = 100)) (i := j) (decide_eq_false h)]
    omega
theorem stk_step {s : DS} {X x v : Int} {j : Nat} (ex : x = X + cnt (fun e => decide (dU s e = 9)) j) (h : (dU s j = 9 ∧ v = 1) ∨ (¬ dU s j = 9 ∧ v = 0)) : x + v = X + cnt (fun e => decide (dU s e = 9)) (j + 1) := by
  rw [ex]
  rcases h with ⟨h, rfl⟩ | ⟨h, rfl⟩
  · rw [← cnt_yes (f := fun e => decide (dU s e = 9)) (i := j) (decide_eq_true h)]
    omega
  · rw [← cnt_no (f := fun e => decide (dU s e = 9)) (i := j) (decide_eq_false h)]
    omega
