-- days of all dolls, one after another
def midS (c : CS) (k y : Nat) : Nat → DS := fun e => if e < y then afterS c k e else kS c e
theorem midS_0 (c : CS) (k : Nat) : midS c k 0 = kS c := by
  funext e
  exact if_neg (Nat.not_lt_zero e)
theorem midS_at (c : CS) (k y : Nat) : midS c k y y = kS c y := if_neg (Nat.lt_irrefl y)
theorem after_lt {c : CS} {k y : Nat} (h : y < kn c) : afterS c k y = dayN (km c) (kd c) k (kS c y) := if_pos h
theorem after_ge {c : CS} {k y : Nat} (h : ¬ y < kn c) : afterS c k y = kS c y := if_neg h
theorem midS_up {c : CS} {k y : Nat} (h : y < kn c) : updS (midS c k y) y (dayN (km c) (kd c) k (kS c y)) = midS c k (y + 1) := by
  funext e
  unfold updS midS
  by_cases q : e = y
  · subst q
    rw [if_pos rfl, if_pos (Nat.lt_succ_self e), after_lt h]
  · rw [if_neg q]
    by_cases q2 : e < y
    · rw [if_pos q2, if_pos (by omega)]
    · rw [if_neg q2, if_neg (by omega)]
theorem midS_no {c : CS} {k y : Nat} (h : ¬ y < kn c) : midS c k y = midS c k (y + 1) := by
  funext e
  unfold midS
  by_cases q : e = y
  · subst q
    rw [if_neg (Nat.lt_irrefl e), if_pos (Nat.lt_succ_self e), after_ge h]
  · by_cases q2 : e < y
    · rw [if_pos q2, if_pos (by omega)]
    · rw [if_neg q2, if_neg (by omega)]
theorem midS_8 {c : CS} {k : Nat} (h : kn c ≤ 8) : midS c k 8 = afterS c k := by
  funext e
  unfold midS
  by_cases q : e < 8
  · rw [if_pos q]
  · rw [if_neg q, after_ge (by omega)]
theorem sm_sub (f g : Nat → Int) : ∀ n : Nat, sm (fun e => f e - g e) n = sm f n - sm g n
  | 0 => rfl
  | n + 1 => by
    show sm (fun e => f e - g e) n + (f n - g n) = sm f n + f n - (sm g n + g n)
    rw [sm_sub f g n]
    omega
theorem loss_sm {c : CS} {k : Nat} {x : Int} (h : kn c ≤ 8) (ex : x = sm (fun e => has (kS c e) - has (afterS c k e)) (min 8 (kn c))) : x = lossN (kS c) (afterS c k) (kn c) := (m8_end h ex).trans (sm_sub _ _ _)
theorem newD {G : Nat → ClassId} {ad : AD} {S : Nat → DS} {n : Nat} {x : Nat → Nat} {s : DS} (E Y : va_W) : ((E ++ wDoll G x s) ++ (wDs G ad S n ++ Y)).Perm (E ++ (wDs G (upA ad n x) (updS S n s) (n + 1) ++ Y)) := by
  rw [wDs_new, List.append_assoc]
  refine List.Perm.append_left E ?_
  rw [← List.append_assoc]
  exact List.perm_append_comm.append_right Y
theorem newP {G : Nat → ClassId} {ap : AD} {P : Nat → Nat → Int} {n : Nat} {x : Nat → Nat} {p : Nat → Int} (E X : va_W) : ((E ++ wPose G x p) ++ (X ++ wPs G ap P n)).Perm (E ++ (X ++ wPs G (upA ap n x) (fun q => if q = n then p else P q) (n + 1))) := by
  rw [wPs_new, List.append_assoc]
  refine List.Perm.append_left E ?_
  refine List.perm_append_comm.trans ?_
  rw [List.append_assoc]