-- PURE ROWS of the law's citadel
theorem dayN_1 (mo day : Int) (s : DS) : dayN mo day 1 s = day1 day mo s := by
  show day1 (day + ((0 : Nat) : Int)) mo s = _
  rw [show day + ((0 : Nat) : Int) = day by omega]
theorem midS_n (c : CS) (k : Nat) : midS c k (kn c) = afterS c k := by
  funext e
  unfold midS
  by_cases q : e < kn c
  · rw [if_pos q]
  · rw [if_neg q, after_ge q]
theorem wLs_mid {G : Nat → ClassId} {sd : AD} {jj : Nat → Int} {c : CS} {i : Nat} (h : i < kn c) : (wLs G sd (midS c 1 i) jj (kn c)).Perm (wSD G (sd i) (kS c i) (jj i) ++ wLo G sd (midS c 1 i) jj (kn c) i) := by
  have h1 := wLs_get (G := G) (sd := sd) (S := midS c 1 i) (sj := jj) h
  rw [midS_at] at h1
  exact h1
theorem wLs_midp {G : Nat → ClassId} {sd : AD} {jj : Nat → Int} {c : CS} {i : Nat} (h : i < kn c) (j : Int) : (wLs G sd (midS c 1 (i + 1)) (updI jj i j) (kn c)).Perm (wSD G (sd i) (day1 (kd c) (km c) (kS c i)) j ++ wLo G sd (midS c 1 i) jj (kn c) i) := by
  have h1 := wLs_put (G := G) (sd := sd) (S := midS c 1 i) (sj := jj) h (dayN (km c) (kd c) 1 (kS c i)) j
  rw [midS_up h, dayN_1] at h1
  exact h1
theorem countV_47 {c : CS} {w : Int} (h : 4 ≤ w ∧ w ≤ 7) : countV c w = sm (fun e => tally w (kS c e)) (kn c) := by
  unfold countV
  rw [if_neg (by omega), if_neg (by omega), if_neg (by omega), if_neg (by omega), if_pos (by omega)]
theorem cntU9 {s : DS} (h : okD s) : cnt (fun j => decide (dU s j = 9)) 2 = cntU 9 s := by
  unfold cntU cnt
  refine sm_congr fun j hj => ?_
  have h1 := okD_U h j hj
  show b2i (decide (dU s j = 9)) = b2i (decide (9 ≤ dU s j))
  by_cases q : dU s j = 9
  · rw [decide_eq_true q, decide_eq_true (by omega : 9 ≤ dU s j)]
  · rw [decide_eq_false q, decide_eq_false (by omega : ¬ 9 ≤ dU s j)]
theorem jt3_cases (s : DS) (j : Nat) : (dW s j = 100 ∧ jtold s j 3 = 1) ∨ (¬ dW s j = 100 ∧ jtold s j 3 = 0) := by
  rw [jt_3]
  by_cases h : dW s j = 100
  · exact Or.inl ⟨h, if_pos h⟩
  · exact Or.inr ⟨h, if_neg h⟩
def zF (z : Nat → Nat) : Nat → Option Nat := fun j => if j < 6 then some (z j) else none
theorem zF_at {z : Nat → Nat} {i : Nat} (h : i < 6) : va_rf (zF z i) = Value.ref (z i) := congrArg va_rf (if_pos h)
-- WHAT THE LAW'S ACTS DO: the calls' values, where they don't throw
theorem op_make {c : CS} (h : ¬ kn c = 8) : opMake c = (0, (kn c : Int), (updS (kS c) (kn c) dNew, kP c, kT c, kn c + 1, kp c, kd c, km c)) := if_neg h
theorem op_pose {c : CS} {p : Nat → Int} (hp : okP p) (h : ¬ kp c = 8) : opPose c (p 0) (p 1) (p 2) (p 3) (p 4) (p 5) = (0, (kp c : Int), (kS c, fun q => if q = kp c then pf6 (p 0) (p 1) (p 2) (p 3) (p 4) (p 5) else kP c q, kT c, kn c, kp c + 1, kd c, km c)) := by
  unfold opPose
  have h0 := hp 0 (by omega)
  have h1 := hp 1 (by omega)
  have h2 := hp 2 (by omega)
  have h3 := hp 3 (by omega)
  have h4 := hp 4 (by omega)
  have h5 := hp 5 (by omega)
  rw [if_neg (fun q => q ⟨h0, h1, h2, h3, h4, h5⟩), if_neg h]
theorem pf6_at (p : Nat → Int) {j : Nat} (h : j < 6) : pf6 (p 0) (p 1) (p 2) (p 3) (p 4) (p 5) j = p j := by
  rcases (show j = 0 ∨ j = 1 ∨ j = 2 ∨ j = 3 ∨ j = 4 ∨ j = 5 by omega) with rfl | rfl | rfl | rfl | rfl | rfl <;> rfl
theorem op_moths {c : CS} {x : Int} (h : 0 ≤ x ∧ x ≤ 3) : opMoths c x = (0, km c, (kS c, kP c, kT c, kn c, kp c, kd c, x)) := if_neg (fun q => q h)
theorem op_blink {c : CS} {d e : Nat} (hd : d < kn c) (he : e < 2) (h9 : ¬ dU (kS c d) e = 9) : opBlink c (d : Int) (e : Int) = (0, 1 - dO (kS c d) e, wS c (updS (kS c) d (flipO (kS c d) e))) := by
  unfold opBlink
  simp only [Int.toNat_natCast]
  rw [if_neg (by simp only [isD]; omega), if_neg h9]
theorem op_dress {c : CS} {d : Nat} {w q : Int} (hd : d < kn c) (hw : 1 ≤ w ∧ w ≤ 9) (hq : w ≤ q ∧ q ≤ 12) (ht : q ≤ kT c 2) : opDress c (d : Int) w q = (0, min 99 (kT c 2 - q + dn (kS c d)), wT (wS c (updS (kS c) d (dsetR (kS c d) (dg (kS c d)) w q))) (updI (kT c) 2 (min 99 (kT c 2 - q + dn (kS c d))))) := by
  unfold opDress
  simp only [Int.toNat_natCast]
  rw [if_neg (by simp only [isD]; omega), if_neg (by omega), if_neg (by omega)]
theorem op_bring {c : CS} {k : Nat} {m : Int} (hk : k < 5) (hm : 1 ≤ m ∧ m ≤ 99) : opBring c (k : Int) m = (0, min 99 (kT c k + m), wT c (updI (kT c) k (min 99 (kT c k + m)))) := by
  unfold opBring
  simp only [Int.toNat_natCast]
  rw [if_neg (by omega)]
theorem op_mend {c : CS} {d k j : Nat} (hd : d < kn c) (hk : k < 5) (hj : j < 6) (h : ¬ (kT c k = 0 ∨ (k = 2 ∧ (dv (kS c d) = 0 ∨ dn (kS c d) = 12)))) : opMend c (d : Int) (k : Int) (j : Int) = (0, kT c k - 1, wT (wS c (updS (kS c) d (mendD (kS c d) (k : Int) j))) (updI (kT c) k (kT c k - 1))) := by
  unfold opMend
  simp only [Int.toNat_natCast]
  rw [if_neg (by simp only [isD]; omega), if_neg (by omega), if_neg (by omega)]
theorem op_take {c : CS} {d q : Nat} (hd : d < kn c) (hq : q < kp c) (h : canT (kP c q) (kS c d) = true) : opTake c (d : Int) (q : Int) = (0, cntW 100 (turnN (kP c q) 6 (kS c d)) - cntW 100 (kS c d), wS c (updS (kS c) d (addT (turnN (kP c q) 6 (kS c d))))) := by
  unfold opTake
  simp only [Int.toNat_natCast]
  rw [if_neg (by simp only [isD, isP]; omega), if_neg (by rw [h]; decide)]
/-- where the call's number is 0 nothing is thrown -/
theorem PX_no {o : OP} {c : CS} {es : List (String × Int)} {E : String} (h : o.1 = 0) (hz : ∀ q ∈ es, ¬ q.2 = 0) : ¬ PX o c es E := by
  rintro ⟨q, hq, -, h1, -⟩
  exact hz q hq (h1.symm.trans h)
/-- a citadel, and the law's own beside it -/
def PA (G : Nat → ClassId) (a ar az : Nat → Nat) (z : Nat) (k : Int) (u : va_W) : Prop := ∃ (ad ap sd sp : AD) (ts : DS) (jj : Nat → Int) (b : Nat → Nat) (c : CS), b 0 = z ∧ okC c ∧ kd c = k ∧ 1 ≤ kn c ∧ u = wC G a ar az ad ap ts c ++ wSim G b sd sp jj c
theorem aF_step (ad : AD) (i : Nat) : va_up (aF ad i) i (some (ad i 0)) = aF ad (i + 1) := by
  funext d
  unfold va_up aF
  by_cases q : d = i
  · subst q
    rw [if_pos rfl, if_pos (Nat.lt_succ_self d)]
  · rw [if_neg q]
    by_cases q2 : d < i
    · rw [if_pos q2, if_pos (by omega)]
    · rw [if_neg q2, if_neg (by omega)]
theorem aF_0 (ad : AD) : (fun _ => none : Nat → Option Nat) = aF ad 0 := funext fun d => (if_neg (Nat.not_lt_zero d)).symm
theorem aF_upA {ad : AD} {d n : Nat} {x : Nat → Nat} (h : x 0 = ad d 0) : aF (upA ad d x) n = aF ad n := by
  funext e
  unfold aF upA
  by_cases q : e = d
  · subst q
    rw [if_pos rfl, h]
  · rw [if_neg q]
theorem wLs_putA {G : Nat → ClassId} {sd : AD} {S : Nat → DS} {sj : Nat → Int} {n d : Nat} (h : d < n) (x : Nat → Nat) (s : DS) (j : Int) : (wLs G (upA sd d x) (updS S d s) (updI sj d j) n).Perm (wSD G x s j ++ wLo G sd S sj n d) := by
  have h1 := fm_pull (f := fun e => wSD G (upA sd d x e) (updS S d s e) (updI sj d j e)) (g := fun e => if e = d then [] else wSD G (sd e) (S e) (sj e)) (if_pos rfl) (fun e he => by rw [if_neg he, updS_n _ _ he, updI_n _ _ he, show upA sd d x e = sd e from if_neg he]) h
  rw [updS_s, updI_s, upA_s] at h1
  exact h1
theorem wJs_ad {G : Nat → ClassId} {x a : Nat → Nat} {s : DS} (h : ∀ i, x (4 + i) = a (4 + i)) : wJs G x s = wJs G a s := fm_congr (fun i _ => by unfold wjt; rw [h i])
theorem jF_ad {x a : Nat → Nat} (h : ∀ i, x (4 + i) = a (4 + i)) : jF x = jF a := funext fun i => by unfold jF; rw [h i]
theorem limv_of {s t : DS} {e : Nat} (h0 : dA s e = dA t e) (h1 : dW s e = dW t e) (h2 : dQ s e = dQ t e) (k : Nat) : limv s k e = limv t k e := by
  unfold limv
  by_cases q0 : k = 0
  · rw [if_pos q0, if_pos q0]
    exact h0
  · rw [if_neg q0, if_neg q0]
    by_cases q1 : k = 1
    · rw [if_pos q1, if_pos q1]
      exact h1
    · rw [if_neg q1, if_neg q1]
      exact h2
theorem limv_mend {s : DS} {k : Int} {j e : Nat} (h : e ≠ j) (w : Nat) : limv (mendD s k j) w e = limv s w e := by
  unfold mendD
  split
  · refine limv_of ?_ ?_ ?_ w
    · rfl
    · exact updI_n _ _ h
    · exact updI_n _ _ h
  · split
    · refine limv_of ?_ ?_ ?_ w
      · rfl
      · rfl
      · exact updI_n _ _ h
    · split
      · rfl
      · split
        · rfl
        · rfl
theorem turn1_lim {P : Nat → Int} {i : Nat} {s : DS} (h : ¬ (dA s i = P i ∨ 100 ≤ dW s i)) : limv (turn1 P i s) 0 i = P i ∧ limv (turn1 P i s) 1 i = wearBT (dW s i) (dQ s i) (max (P i - dA s i) (-(P i - dA s i))) ∧ limv (turn1 P i s) 2 i = max 0 (dQ s i - 1) := by
  rw [← turn1_f h]
  exact ⟨updI_s _ _ _, updI_s _ _ _, updI_s _ _ _⟩
theorem turn1_lim0 {P : Nat → Int} {i : Nat} {s : DS} (h : dA s i = P i) : limv (turn1 P i s) 0 i = dA s i ∧ limv (turn1 P i s) 1 i = dW s i ∧ limv (turn1 P i s) 2 i = dQ s i := by
  rw [← turn1_t (P := P) (i := i) (s := s) (Or.inl h)]
  exact ⟨rfl, rfl, rfl⟩
theorem dX_lim {d : Int} (h : d % 3 = 0) (i : Nat) (s : DS) : limv (dX d (i + 1) s) 0 i = dA (dX d i s) i ∧ limv (dX d (i + 1) s) 1 i = dW (dX d i s) i ∧ limv (dX d (i + 1) s) 2 i = max 0 (dQ (dX d i s) i - 1) := by
  rw [dX_yes h]
  exact ⟨updI_s _ _ _, updI_s _ _ _, updI_s _ _ _⟩
theorem mend_lim0 (s : DS) (j : Nat) : limv (mendD s 0 j) 0 j = dA s j ∧ limv (mendD s 0 j) 1 j = 0 ∧ limv (mendD s 0 j) 2 j = 0 := ⟨rfl, updI_s _ _ _, updI_s _ _ _⟩
theorem mend_lim1 (s : DS) (j : Nat) : limv (mendD s 1 j) 0 j = dA s j ∧ limv (mendD s 1 j) 1 j = dW s j ∧ limv (mendD s 1 j) 2 j = 20 := ⟨rfl, rfl, updI_s _ _ _⟩
def aD (h q1 q2 q3 : Nat) (r : Nat → Nat) : Nat → Nat := fun k => if k = 0 then h else if k = 1 then q1 else if k = 2 then q2 else if k = 3 then q3 else r (k - 4)
theorem aD_4 {h q1 q2 q3 : Nat} {r : Nat → Nat} (i : Nat) : aD h q1 q2 q3 r (4 + i) = r i := by
  unfold aD
  rw [if_neg (show ¬ 4 + i = 0 by omega), if_neg (show ¬ 4 + i = 1 by omega), if_neg (show ¬ 4 + i = 2 by omega), if_neg (show ¬ 4 + i = 3 by omega), show 4 + i - 4 = i by omega]
theorem limv_new (k i : Nat) : limv dNew k i = zz k := by
  unfold limv
  split
  · rfl
  · split
    · rfl
    · rfl
