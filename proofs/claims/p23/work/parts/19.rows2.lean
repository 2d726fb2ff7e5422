-- clone and arraycopy of rows of ints
theorem cpy_iv (F Gf : Nat → Int) (sp dp n : Nat) : va_cpy (fun j => iv (F j)) (fun j => iv (Gf j)) sp dp n = fun j => iv (va_cpy F Gf sp dp n j) := by
  funext k
  unfold va_cpy
  split <;> rfl
theorem cpy_all {F Gf : Nat → Int} {n j : Nat} (h : j < n) : va_cpy F Gf 0 0 n j = F j := by
  rw [pk_cpy_in (Nat.zero_le j) (by omega)]
  congr 1
  omega
def kref (q : Nat → Nat) : Nat → Option Nat := va_up (va_up (va_up (fun _ => none) 0 (some (q 1))) 1 (some (q 2))) 2 (some (q 3))
section R2
variable {p : Program} {l : Launch} {e : Env} {R : Room} {s : State} {m : MethodId} {args : Array Value} {below : List Frame} {meth : Method} {c : Code} {H : Heap} {locs : List Loc} {cells slots mc ms : Nat} {cc : ByteArray} {pc : Nat} {ls : Array Slot} {D : va_G} {A : Nat → Prop} {Q : State → Prop} {rest : List Value}
end R2
theorem after_eq (c : CS) (k : Nat) : dayS (km c) (kd c) (kn c) (kS c) k 0 = afterS c k := by
  funext e
  unfold dayS afterS
  split
  · rw [if_neg (Nat.not_lt_zero e)]
  · rfl
theorem tally_4 (s : DS) : tally 4 s = cntW 100 s := rfl
theorem tally_5 (s : DS) : tally 5 s = if dg s = -1 then 0 else 1 := rfl
theorem tally_6 (s : DS) : tally 6 s = if dv s = 0 then 0 else 1 := rfl
theorem tally_7 {s : DS} (h : okD s) : tally 7 s = (if dU s 0 = 9 then 1 else 0) + (if dU s 1 = 9 then 1 else 0) := by
  have h0 := okD_U h 0 (by omega)
  have h1 := okD_U h 1 (by omega)
  show 0 + b2i (decide (9 ≤ dU s 0)) + b2i (decide (9 ≤ dU s 1)) = _
  have e : ∀ x : Int, x ≤ 9 → b2i (decide (9 ≤ x)) = if x = 9 then 1 else 0 := fun x hx => by
    by_cases q : x = 9
    · rw [if_pos q, decide_eq_true (by omega : 9 ≤ x)]; rfl
    · rw [if_neg q, decide_eq_false (by omega : ¬ 9 ≤ x)]; rfl
  rw [e _ h0.2, e _ h1.2]
  omega
theorem jt_3 (s : DS) (j : Nat) : jtold s j 3 = if dW s j = 100 then 1 else 0 := rfl
theorem afterC_ok {c : CS} {k : Nat} (hk : k ≤ 60) (hd : kd c ≤ 1000000) (h : okC c) : okC (afterC c k) := by
  obtain ⟨h1, h2, h3, h4, h5, h6, h7⟩ := h
  refine ⟨h1, h2, fun d hd2 => ?_, h4, h5, ?_, h7⟩
  · show okD (afterS c k d)
    unfold afterS
    rw [if_pos (show d < kn c from hd2)]
    exact dayN_ok h7 (h3 d hd2) k
  · show 0 ≤ kd c + (k : Int) ∧ kd c + (k : Int) ≤ 1900000000
    omega
