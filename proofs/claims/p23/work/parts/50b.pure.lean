-- PURE ROWS of the law's dolls
theorem hJ_dg {s t : DS} (h : dg s = dg t) : hJ s = hJ t := by
  unfold hJ
  rw [h]
theorem xJ_dg {s t : DS} (j : Int) (h : dg s = dg t) : xJ s j = xJ t j := by
  unfold xJ
  rw [h]
theorem hJ_cases (s : DS) (j : Int) : (dg s = -1 ∧ hJ s = 0) ∨ (¬ dg s = -1 ∧ hJ s = 1 ∧ xJ s j = dg s) := by
  unfold hJ xJ
  by_cases h : dg s = -1
  · exact Or.inl ⟨h, if_pos h⟩
  · exact Or.inr ⟨h, if_neg h, if_neg h⟩
theorem wJs_eq {G : Nat → ClassId} {a : Nat → Nat} {s t : DS} (h : ∀ i k, limv s k i = limv t k i) : wJs G a s = wJs G a t := fm_congr (fun i _ => wJ_eq (fun k => h i k))
theorem wSD_of {G : Nat → ClassId} {a : Nat → Nat} {s t : DS} {j h x v n w : Int} {O U : Nat → Int} (hh : h = hJ t) (hx : x = xJ t j) (hv : v = dv t) (hn : n = dn t) (hw : w = dt t) (hO : O = dO t) (hU : U = dU t) (hL : ∀ i k, limv s k i = limv t k i) : ([(a 0, .inr (3, [.ref (a 1), .ref (a 2), .ref (a 3), .int (iv h), .int (iv x), .int (iv v), .int (iv n), .int (iv w)])), (a 1, .inl (G 4, 6, .inr (.inr (.inr (.inr (jF a)))))), (a 2, .inl (G 1, 2, .inl (fun y9 => iv (O y9)))), (a 3, .inl (G 0, 2, .inl (fun y9 => iv (U y9))))] ++ wJs G a s : va_W) = wSD G a t j := by
  subst hh hx hv hn hw hO hU
  rw [wJs_eq hL]
  rfl
/-- what doesn't change -/
def fixD (s t : DS) : Prop := dO s = dO t ∧ dU s = dU t ∧ dg s = dg t ∧ dv s = dv t ∧ dn s = dn t ∧ dt s = dt t
theorem fixD.rf (s : DS) : fixD s s := ⟨rfl, rfl, rfl, rfl, rfl, rfl⟩
theorem fixD.tr {s t u : DS} (h : fixD s t) (k : fixD t u) : fixD s u := ⟨h.1.trans k.1, h.2.1.trans k.2.1, h.2.2.1.trans k.2.2.1, h.2.2.2.1.trans k.2.2.2.1, h.2.2.2.2.1.trans k.2.2.2.2.1, h.2.2.2.2.2.trans k.2.2.2.2.2⟩
theorem turn1_fix (P : Nat → Int) (i : Nat) (s : DS) : fixD (turn1 P i s) s := by
  unfold turn1
  split
  · exact fixD.rf s
  · exact fixD.rf s
theorem turnN_fix (P : Nat → Int) (s : DS) : ∀ i, fixD (turnN P i s) s
  | 0 => fixD.rf s
  | i + 1 => (turn1_fix P i (turnN P i s)).tr (turnN_fix P s i)
theorem wSD_fix {G : Nat → ClassId} {a : Nat → Nat} {s t : DS} (j : Int) (h : fixD t s) : wSD G a t j = ([(a 0, .inr (3, [.ref (a 1), .ref (a 2), .ref (a 3), .int (iv (hJ s)), .int (iv (xJ s j)), .int (iv (dv s)), .int (iv (dn s)), .int (iv (dt s))])), (a 1, .inl (G 4, 6, .inr (.inr (.inr (.inr (jF a)))))), (a 2, .inl (G 1, 2, .inl (fun y9 => iv (dO s y9)))), (a 3, .inl (G 0, 2, .inl (fun y9 => iv (dU s y9))))] ++ wJs G a t : va_W) :=
  (wSD_of (s := t) (hJ_dg h.2.2.1.symm) (xJ_dg j h.2.2.1.symm) h.2.2.2.1.symm h.2.2.2.2.1.symm h.2.2.2.2.2.symm h.1.symm h.2.1.symm (fun _ _ => rfl)).symm
-- moths
theorem eatW_no {mo : Int} {s : DS} (h : dg s = -1) : eatW mo s = s := if_pos h
theorem eatW_fix (mo : Int) (s : DS) : dv (eatW mo s) = dv s ∧ dn (eatW mo s) = dn s ∧ dt (eatW mo s) = dt s ∧ dO (eatW mo s) = dO s ∧ dU (eatW mo s) = dU s ∧ ∀ i k, limv (eatW mo s) k i = limv s k i := by
  unfold eatW
  split
  · exact ⟨rfl, rfl, rfl, rfl, rfl, fun _ _ => rfl⟩
  · exact ⟨rfl, rfl, rfl, rfl, rfl, fun _ _ => rfl⟩
theorem eatW_dg {mo : Int} {s : DS} (h : ¬ dg s = -1) : dg (eatW mo s) = if 10 ≤ dg s + mo then -1 else dg s + mo := by
  unfold eatW
  rw [if_neg h]
  rfl
theorem eatW_on {mo : Int} {s : DS} (j : Int) (hg : -1 ≤ dg s) (hm : 0 ≤ mo) (h : ¬ dg s = -1) (h9 : dg s + mo ≤ 9) : 1 = hJ (eatW mo s) ∧ dg s + mo = xJ (eatW mo s) j := by
  have e : dg (eatW mo s) = dg s + mo := by rw [eatW_dg h, if_neg (by omega)]
  unfold hJ xJ
  rw [e, if_neg (by omega), if_neg (by omega)]
  exact ⟨rfl, rfl⟩
theorem eatW_off {mo : Int} {s : DS} (j : Int) (h : ¬ dg s = -1) (h9 : 9 < dg s + mo) : 0 = hJ (eatW mo s) ∧ j = xJ (eatW mo s) j := by
  have e : dg (eatW mo s) = -1 := by rw [eatW_dg h, if_pos (by omega)]
  unfold hJ xJ
  rw [e]
  exact ⟨rfl, rfl⟩
-- pins
def pinH (s : DS) (n : Int) : Prop := (dv s = 0 ∨ dW s 5 < 50 → n = dn s) ∧ (¬ (dv s = 0 ∨ dW s 5 < 50) → n = max 0 (dn s - 1))
theorem loosen_fix (s : DS) : dg (loosen s) = dg s ∧ dt (loosen s) = dt s ∧ dO (loosen s) = dO s ∧ dU (loosen s) = dU s ∧ ∀ i k, limv (loosen s) k i = limv s k i := by
  unfold loosen
  split
  · exact ⟨rfl, rfl, rfl, rfl, fun _ _ => rfl⟩
  · split
    · exact ⟨rfl, rfl, rfl, rfl, fun _ _ => rfl⟩
    · exact ⟨rfl, rfl, rfl, rfl, fun _ _ => rfl⟩
theorem loosen_keep {s : DS} {n : Int} (h : okD s) (hn : pinH s n) (hk : dv s ≤ n) : dv s = dv (loosen s) ∧ n = dn (loosen s) := by
  obtain ⟨h1, h2⟩ := hn
  unfold loosen
  by_cases q : dv s = 0 ∨ dW s 5 < 50
  · rw [if_pos q]
    exact ⟨rfl, h1 q⟩
  · have e := h2 q
    rw [if_neg q, if_neg (by omega)]
    exact ⟨rfl, e⟩
theorem loosen_fall {s : DS} {n : Int} (h : okD s) (hn : pinH s n) (hk : n < dv s) : 0 = dv (loosen s) ∧ 0 = dn (loosen s) := by
  obtain ⟨h1, h2⟩ := hn
  obtain ⟨-, -, -, h4, h5, h6, h7⟩ := h
  unfold loosen
  by_cases q : dv s = 0 ∨ dW s 5 < 50
  · have e := h1 q
    omega
  · have e := h2 q
    rw [if_neg q, if_pos (by omega)]
    exact ⟨rfl, rfl⟩
-- lacquer
def dX (d : Int) (i : Nat) (s : DS) : DS := if d % 3 = 0 then dryN i s else s
theorem dX_0 (d : Int) (s : DS) : dX d 0 s = s := by
  unfold dX
  split <;> rfl
theorem dX_no {d : Int} (h : ¬ d % 3 = 0) (i : Nat) (s : DS) : dX d (i + 1) s = dX d i s := by
  unfold dX
  rw [if_neg h, if_neg h]
theorem dX_yes {d : Int} (h : d % 3 = 0) (i : Nat) (s : DS) : dX d (i + 1) s = dset (dX d i s) i (dA (dX d i s) i) (dW (dX d i s) i) (max 0 (dQ (dX d i s) i - 1)) := by
  unfold dX
  rw [if_pos h, if_pos h]
  rfl
theorem dX_ok {d : Int} {s : DS} (h : okD s) {i : Nat} (hi : i ≤ 6) : okD (dX d i s) := by
  unfold dX
  split
  · exact dryN_ok h i hi
  · exact h
theorem limv_dset_s (s : DS) (i : Nat) (a w q : Int) (k : Nat) : limv (dset s i a w q) k i = if k = 0 then a else if k = 1 then w else q := by
  unfold limv
  by_cases h0 : k = 0
  · rw [if_pos h0, if_pos h0]
    exact updI_s _ _ _
  · rw [if_neg h0, if_neg h0]
    by_cases h1 : k = 1
    · rw [if_pos h1, if_pos h1]
      exact updI_s _ _ _
    · rw [if_neg h1, if_neg h1]
      exact updI_s _ _ _
theorem dX_o {d : Int} (h : d % 3 = 0) {i e : Nat} (s : DS) (he : e ≠ i) (k : Nat) : limv (dX d (i + 1) s) k e = limv (dX d i s) k e := by
  rw [dX_yes h, limv_dset he]
theorem dryN_fix (s : DS) : ∀ i, fixD (dryN i s) s
  | 0 => fixD.rf s
  | i + 1 => (fixD.rf _ : fixD (dryN (i + 1) s) (dryN i s)).tr (dryN_fix s i)
theorem dX_fix (d : Int) (i : Nat) (s : DS) : fixD (dX d i s) s := by
  unfold dX
  split
  · exact dryN_fix s i
  · exact fixD.rf s
theorem dryN_AW (s : DS) (e : Nat) : ∀ i, dA (dryN i s) e = dA s e ∧ dW (dryN i s) e = dW s e
  | 0 => ⟨rfl, rfl⟩
  | i + 1 => by
    obtain ⟨h1, h2⟩ := dryN_AW s e i
    show updI (dA (dryN i s)) i (dA (dryN i s) i) e = _ ∧ updI (dW (dryN i s)) i (dW (dryN i s) i) e = _
    rw [updI_same, updI_same]
    exact ⟨h1, h2⟩
theorem dryN_Q (s : DS) (e : Nat) : ∀ i, dQ (dryN i s) e = if e < i then max 0 (dQ s e - 1) else dQ s e
  | 0 => rfl
  | i + 1 => by
    have h := dryN_Q s e i
    show updI (dQ (dryN i s)) i (max 0 (dQ (dryN i s) i - 1)) e = _
    by_cases q : e = i
    · subst q
      rw [updI_s, h, if_neg (Nat.lt_irrefl e), if_pos (Nat.lt_succ_self e)]
    · rw [updI_n _ _ q, h]
      by_cases q2 : e < i
      · rw [if_pos q2, if_pos (show e < i + 1 by omega)]
      · rw [if_neg q2, if_neg (show ¬ e < i + 1 by omega)]
-- dust
def gatH (O U0 : Nat → Int) (i : Nat) (U : Nat → Int) : Prop := ∀ e, e < 2 → U e = if e < i then (if O e = 0 then U0 e else min 9 (U0 e + 1)) else U0 e
theorem gatH_0 (O U0 : Nat → Int) : gatH O U0 0 U0 := fun e _ => (if_neg (Nat.not_lt_zero e)).symm
theorem gatH_at {O U0 U : Nat → Int} {i : Nat} (h : gatH O U0 i U) (hi : i < 2) : U i = U0 i := by rw [h i hi, if_neg (Nat.lt_irrefl i)]
theorem gatH_a {O U0 U : Nat → Int} {i : Nat} (h : gatH O U0 i U) (c : O i = 0) : gatH O U0 (i + 1) U := fun e he => by
  rw [h e he]
  by_cases q : e < i
  · rw [if_pos q, if_pos (show e < i + 1 by omega)]
  · rw [if_neg q]
    by_cases q2 : e = i
    · subst q2
      rw [if_pos (Nat.lt_succ_self e), if_pos c]
    · rw [if_neg (show ¬ e < i + 1 by omega)]
theorem gatH_b {O U0 U : Nat → Int} {i : Nat} (h : gatH O U0 i U) (hi : i < 2) (c : ¬ O i = 0) (c9 : 9 ≤ U i) (h9 : U0 i ≤ 9) : gatH O U0 (i + 1) U := fun e he => by
  have hu := gatH_at h hi
  rw [h e he]
  by_cases q : e < i
  · rw [if_pos q, if_pos (show e < i + 1 by omega)]
  · rw [if_neg q]
    by_cases q2 : e = i
    · subst q2
      rw [if_pos (Nat.lt_succ_self e), if_neg c]
      omega
    · rw [if_neg (show ¬ e < i + 1 by omega)]
theorem gatH_c {O U0 U : Nat → Int} {i : Nat} (h : gatH O U0 i U) (hi : i < 2) (c : ¬ O i = 0) (c9 : U i < 9) : gatH O U0 (i + 1) (updI U i (U i + 1)) := fun e he => by
  have hu := gatH_at h hi
  by_cases q2 : e = i
  · subst q2
    rw [updI_s, if_pos (Nat.lt_succ_self e), if_neg c]
    omega
  · rw [updI_n _ _ q2, h e he]
    by_cases q : e < i
    · rw [if_pos q, if_pos (show e < i + 1 by omega)]
    · rw [if_neg q, if_neg (show ¬ e < i + 1 by omega)]
theorem gatN_fx (s : DS) : ∀ i, dA (gatN i s) = dA s ∧ dW (gatN i s) = dW s ∧ dQ (gatN i s) = dQ s ∧ dO (gatN i s) = dO s ∧ dg (gatN i s) = dg s ∧ dv (gatN i s) = dv s ∧ dn (gatN i s) = dn s ∧ dt (gatN i s) = dt s
  | 0 => ⟨rfl, rfl, rfl, rfl, rfl, rfl, rfl, rfl⟩
  | i + 1 => by
    have h := gatN_fx s i
    unfold gatN
    split
    · exact h
    · exact h
theorem gatN_U (s : DS) : ∀ i, gatH (dO s) (dU s) i (dU (gatN i s)) ∨ 2 < i
  | 0 => Or.inl (gatH_0 _ _)
  | i + 1 => by
    rcases gatN_U s i with h | h
    · by_cases hi : i < 2
      · refine Or.inl fun e he => ?_
        have hO := (gatN_fx s i).2.2.2.1
        have hu := gatH_at h hi
        show dU (if dO (gatN i s) i = 0 then gatN i s else dsetU (gatN i s) i (min 9 (dU (gatN i s) i + 1))) e = _
        by_cases c : dO (gatN i s) i = 0
        · rw [if_pos c]
          exact gatH_a h (by rw [← hO]; exact c) e he
        · rw [if_neg c]
          show updI (dU (gatN i s)) i (min 9 (dU (gatN i s) i + 1)) e = _
          rw [hO] at c
          by_cases q : e = i
          · subst q
            rw [updI_s, if_pos (Nat.lt_succ_self e), if_neg c, hu]
          · rw [updI_n _ _ q, h e he]
            by_cases q2 : e < i
            · rw [if_pos q2, if_pos (show e < i + 1 by omega)]
            · rw [if_neg q2, if_neg (show ¬ e < i + 1 by omega)]
      · exact Or.inr (by omega)
    · exact Or.inr (by omega)
theorem gat_2 (s : DS) : gatH (dO s) (dU s) 2 (dU (gatN 2 s)) := (gatN_U s 2).resolve_right (by decide)
theorem gatH_eq {O U0 U V : Nat → Int} {i : Nat} (h : gatH O U0 i U) (k : gatH O U0 i V) : ∀ e, e < 2 → U e = V e := fun e he => (h e he).trans (k e he).symm
theorem day1_eq (d mo : Int) (s : DS) : day1 d mo s = gatN 2 (dX d 6 (loosen (eatW mo s))) := rfl
-- broken joints
theorem cntE {s : DS} (h : okD s) : cnt (fun j => decide (dW s j = 100)) 6 = cntW 100 s := by
  unfold cntW cnt
  refine sm_congr fun j hj => ?_
  have h1 := okD_W h j hj
  show b2i (decide (dW s j = 100)) = b2i (decide (100 ≤ dW s j))
  by_cases q : dW s j = 100
  · rw [decide_eq_true q, decide_eq_true (by omega : 100 ≤ dW s j)]
  · rw [decide_eq_false q, decide_eq_false (by omega : ¬ 100 ≤ dW s j)]
