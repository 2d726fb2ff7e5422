-- WORLDS UP TO ORDER, BY COUNTING
noncomputable def cn (q : Nat × va_E) : va_W → Nat
  | [] => 0
  | x :: w => @ite Nat (x = q) (Classical.propDecidable _) 1 0 + cn q w
theorem cn_nil (q : Nat × va_E) : cn q [] = 0 := rfl
theorem cn_two (q x y : Nat × va_E) (w : va_W) : cn q (x :: y :: w) = cn q [x] + cn q (y :: w) := rfl
theorem cn_one (q x : Nat × va_E) (w : va_W) : cn q (x :: w) = cn q [x] + cn q w := rfl
theorem cn_app (q : Nat × va_E) : ∀ (a b : va_W), cn q (a ++ b) = cn q a + cn q b
  | [], b => by rw [List.nil_append, cn_nil, Nat.zero_add]
  | x :: a, b => by
    rw [List.cons_append, cn_one q x (a ++ b), cn_app q a b, cn_one q x a]
    omega
theorem cn_perm {X Y : va_W} (h : X.Perm Y) (q : Nat × va_E) : cn q X = cn q Y := by
  induction h with
  | nil => rfl
  | cons x _ ih => exact congrArg (fun n => @ite Nat (x = q) (Classical.propDecidable _) 1 0 + n) ih
  | swap x y l =>
    rw [cn_one q y (x :: l), cn_one q x l, cn_one q x (y :: l), cn_one q y l]
    omega
  | trans _ _ h1 h2 => exact h1.trans h2
theorem cn_pos (q : Nat × va_E) : ∀ {Y : va_W}, 0 < cn q Y → q ∈ Y
  | [], h => absurd h (Nat.lt_irrefl 0)
  | x :: Y, h => by
    by_cases e : x = q
    · subst e
      exact List.mem_cons_self
    · have h2 : cn q (x :: Y) = 0 + cn q Y := congrArg (fun n => n + cn q Y) (if_neg e)
      rw [h2, Nat.zero_add] at h
      exact List.mem_cons_of_mem _ (cn_pos q h)
theorem cn_self (x : Nat × va_E) : cn x [x] = 1 := congrArg (fun n => n + 0) (if_pos rfl)
theorem wperm : ∀ {X Y : va_W}, (∀ q, cn q X = cn q Y) → X.Perm Y
  | [], [], _ => List.Perm.refl _
  | [], y :: Y, h => by
    have h1 := h y
    rw [cn_one y y Y, cn_self] at h1
    have h2 : cn y [] = 0 := rfl
    omega
  | x :: X, Y, h => by
    have h1 := h x
    rw [cn_one x x X, cn_self] at h1
    obtain ⟨s, t, rfl⟩ := List.append_of_mem (cn_pos x (Y := Y) (by omega))
    have h2 : X.Perm (s ++ t) := wperm fun q => by
      have h3 := h q
      rw [cn_one q x X, cn_app, cn_one q x t] at h3
      rw [cn_app]
      omega
    exact (h2.cons x).trans List.perm_middle.symm
-- THE LAW'S DOLLS
def jF (a : Nat → Nat) : Nat → Option Nat := fun i => if i < 6 then some (a (4 + i)) else none
theorem jF_at {a : Nat → Nat} {i : Nat} (h : i < 6) : va_rf (jF a i) = Value.ref (a (4 + i)) := congrArg va_rf (if_pos h)
def wjt (G : Nat → ClassId) (a : Nat → Nat) (s : DS) (i : Nat) : va_W := [(a (4 + i), .inl (G 0, 3, .inl (fun k => iv (limv s k i))))]
def wJs (G : Nat → ClassId) (a : Nat → Nat) (s : DS) : va_W := (List.range 6).flatMap (fun i => wjt G a s i)
def wJo (G : Nat → ClassId) (a : Nat → Nat) (s : DS) (d : Nat) : va_W := (List.range 6).flatMap (fun i => if i = d then [] else wjt G a s i)
theorem wJ_eq {G : Nat → ClassId} {a : Nat → Nat} {s t : DS} {i : Nat} (h : ∀ k, limv s k i = limv t k i) : wjt G a s i = wjt G a t i := by
  unfold wjt
  rw [show (fun k => iv (limv s k i)) = (fun k => iv (limv t k i)) from funext fun k => by rw [h k]]
theorem wJs_pull {G : Nat → ClassId} {a : Nat → Nat} {s t : DS} {d : Nat} (h : d < 6) (ho : ∀ e, e ≠ d → ∀ k, limv s k e = limv t k e) : (wJs G a s).Perm (wjt G a s d ++ wJo G a t d) :=
  fm_pull (f := fun i => wjt G a s i) (g := fun i => if i = d then [] else wjt G a t i) (if_pos rfl) (fun e he => by rw [if_neg he]; exact wJ_eq (ho e he)) h
theorem wJs_get {G : Nat → ClassId} {a : Nat → Nat} (s : DS) {d : Nat} (h : d < 6) : (wJs G a s).Perm (wjt G a s d ++ wJo G a s d) := wJs_pull h (fun _ _ _ => rfl)
theorem limv_dset {s : DS} {i e : Nat} {a w q : Int} (h : e ≠ i) (k : Nat) : limv (dset s i a w q) k e = limv s k e := by
  unfold limv
  by_cases h0 : k = 0
  · rw [if_pos h0, if_pos h0]
    exact updI_n _ _ h
  · rw [if_neg h0, if_neg h0]
    by_cases h1 : k = 1
    · rw [if_pos h1, if_pos h1]
      exact updI_n _ _ h
    · rw [if_neg h1, if_neg h1]
      exact updI_n _ _ h
theorem limv_turn1 {P : Nat → Int} {i : Nat} {s : DS} {e : Nat} (h : e ≠ i) (k : Nat) : limv (turn1 P i s) k e = limv s k e := by
  unfold turn1
  split
  · rfl
  · exact limv_dset h k
def hJ (s : DS) : Int := if dg s = -1 then 0 else 1
def xJ (s : DS) (j : Int) : Int := if dg s = -1 then j else dg s
def wS0 (a : Nat → Nat) (s : DS) (j : Int) : Nat × va_E := (a 0, .inr (3, [.ref (a 1), .ref (a 2), .ref (a 3), .int (iv (hJ s)), .int (iv (xJ s j)), .int (iv (dv s)), .int (iv (dn s)), .int (iv (dt s))]))
def wSD (G : Nat → ClassId) (a : Nat → Nat) (s : DS) (j : Int) : va_W := [wS0 a s j, (a 1, .inl (G 4, 6, .inr (.inr (.inr (.inr (jF a)))))), (a 2, .inl (G 1, 2, .inl (fun i => iv (dO s i)))), (a 3, .inl (G 0, 2, .inl (fun i => iv (dU s i))))] ++ wJs G a s
-- THE LAW'S CITADEL
def wLs (G : Nat → ClassId) (sd : AD) (S : Nat → DS) (sj : Nat → Int) (n : Nat) : va_W := (List.range n).flatMap (fun e => wSD G (sd e) (S e) (sj e))
def wLo (G : Nat → ClassId) (sd : AD) (S : Nat → DS) (sj : Nat → Int) (n d : Nat) : va_W := (List.range n).flatMap (fun e => if e = d then [] else wSD G (sd e) (S e) (sj e))
def wR (G : Nat → ClassId) (sp : AD) (P : Nat → Nat → Int) (q : Nat) : va_W := [(sp q 0, .inl (G 0, 6, .inl (fun j => iv (P q j))))]
def wRs (G : Nat → ClassId) (sp : AD) (P : Nat → Nat → Int) (n : Nat) : va_W := (List.range n).flatMap (fun q => wR G sp P q)
def wRo (G : Nat → ClassId) (sp : AD) (P : Nat → Nat → Int) (n d : Nat) : va_W := (List.range n).flatMap (fun q => if q = d then [] else wR G sp P q)
theorem wLs_get {G : Nat → ClassId} {sd : AD} {S : Nat → DS} {sj : Nat → Int} {n d : Nat} (h : d < n) : (wLs G sd S sj n).Perm (wSD G (sd d) (S d) (sj d) ++ wLo G sd S sj n d) :=
  fm_pull (f := fun e => wSD G (sd e) (S e) (sj e)) (g := fun e => if e = d then [] else wSD G (sd e) (S e) (sj e)) (if_pos rfl) (fun e he => by rw [if_neg he]) h
theorem wLs_put {G : Nat → ClassId} {sd : AD} {S : Nat → DS} {sj : Nat → Int} {n d : Nat} (h : d < n) (s : DS) (j : Int) : (wLs G sd (updS S d s) (updI sj d j) n).Perm (wSD G (sd d) s j ++ wLo G sd S sj n d) := by
  have h1 := fm_pull (f := fun e => wSD G (sd e) (updS S d s e) (updI sj d j e)) (g := fun e => if e = d then [] else wSD G (sd e) (S e) (sj e)) (if_pos rfl) (fun e he => by rw [if_neg he, updS_n _ _ he, updI_n _ _ he]) h
  rw [updS_s, updI_s] at h1
  exact h1
theorem wRs_get {G : Nat → ClassId} {sp : AD} {P : Nat → Nat → Int} {n d : Nat} (h : d < n) : (wRs G sp P n).Perm (wR G sp P d ++ wRo G sp P n d) :=
  fm_pull (f := fun q => wR G sp P q) (g := fun q => if q = d then [] else wR G sp P q) (if_pos rfl) (fun e he => by rw [if_neg he]) h
theorem wLs_new {G : Nat → ClassId} {sd : AD} {S : Nat → DS} {sj : Nat → Int} {n : Nat} (x : Nat → Nat) (s : DS) (j : Int) : wLs G (upA sd n x) (updS S n s) (updI sj n j) (n + 1) = wLs G sd S sj n ++ wSD G x s j := by
  unfold wLs
  rw [fm_snoc, upA_s, updS_s, updI_s, fm_congr (g := fun e => wSD G (sd e) (S e) (sj e))]
  intro e he
  have q : e ≠ n := Nat.ne_of_lt (List.mem_range.mp he)
  rw [updS_n _ _ q, updI_n _ _ q, show upA sd n x e = sd e from if_neg q]
theorem wRs_new {G : Nat → ClassId} {sp : AD} {P : Nat → Nat → Int} {n : Nat} (x : Nat → Nat) (p : Nat → Int) : wRs G (upA sp n x) (fun q => if q = n then p else P q) (n + 1) = wRs G sp P n ++ [(x 0, .inl (G 0, 6, .inl (fun j => iv (p j))))] := by
  unfold wRs
  rw [fm_snoc, show wR G (upA sp n x) (fun q => if q = n then p else P q) n = [(x 0, .inl (G 0, 6, .inl (fun j => iv (p j))))] by unfold wR; show [((upA sp n x) n 0, _)] = _; rw [upA_s, show (fun j => iv ((if n = n then p else P n) j)) = (fun j => iv (p j)) from funext fun j => by rw [if_pos rfl]], fm_congr (g := fun q => wR G sp P q)]
  intro e he
  have q : e ≠ n := Nat.ne_of_lt (List.mem_range.mp he)
  unfold wR
  rw [show upA sp n x e = sp e from if_neg q, show (fun q => if q = n then p else P q) e = P e from if_neg q]
def wSm (G : Nat → ClassId) (b : Nat → Nat) (sd sp : AD) (c : CS) : va_W := [(b 0, .inr (4, [.ref (b 1), .ref (b 2), .ref (b 3), .int (iv (km c)), .int (iv (kd c))])), (b 1, .inl (G 5, kn c, .inr (.inr (.inr (.inr (aF sd (kn c))))))), (b 2, .inl (G 4, kp c, .inr (.inr (.inr (.inr (aF sp (kp c))))))), (b 3, .inl (G 0, 5, .inl (fun j => iv (kT c j))))]
def wSim (G : Nat → ClassId) (b : Nat → Nat) (sd sp : AD) (sj : Nat → Int) (c : CS) : va_W := wSm G b sd sp c ++ (wLs G sd (kS c) sj (kn c) ++ wRs G sp (kP c) (kp c))
-- what throws never throws here
theorem MxG.noX {l : Launch} {y : MethodName} {ws : List Cond} {f lc mc ms : Nat} {D : va_G} {tys : List (ClassId × FieldType)} {av : List Value} {w : va_W} {qc : QcT} {px : String → Prop} (h : MxG l y ws f lc mc ms D tys av w qc px) (hn : ∀ E, ¬ px E) : MtX l y ws f lc mc ms D tys av w qc := by
  intro sz
  have h1 := h sz
  unfold vx_Met at h1
  intro p e ha hc hk s m args below hf happ hpre htrue
  obtain ⟨k, o, h2, h3, h4, h5⟩ := h1 p e ha hc hk s m args below hf happ hpre htrue
  refine ⟨k, o, h2, h3, h4, ?_⟩
  rcases h5 with h5 | ⟨q, -, E, ce, L, ⟨u, -, ⟨hpx, -⟩, -⟩, -⟩
  · exact h5
  · exact absurd hpx (hn E)
