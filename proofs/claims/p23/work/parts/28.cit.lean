-- THE CITADEL ITSELF: its world, and pulling one doll or pose to the front
abbrev AD : Type := Nat → Nat → Nat
def wDs (G : Nat → ClassId) (ad : AD) (S : Nat → DS) (n : Nat) : va_W := (List.range n).flatMap (fun e => wDoll G (ad e) (S e))
def wDo (G : Nat → ClassId) (ad : AD) (S : Nat → DS) (n d : Nat) : va_W := (List.range n).flatMap (fun e => if e = d then [] else wDoll G (ad e) (S e))
def wPs (G : Nat → ClassId) (ap : AD) (P : Nat → Nat → Int) (n : Nat) : va_W := (List.range n).flatMap (fun e => wPose G (ap e) (P e))
def wPo (G : Nat → ClassId) (ap : AD) (P : Nat → Nat → Int) (n d : Nat) : va_W := (List.range n).flatMap (fun e => if e = d then [] else wPose G (ap e) (P e))
theorem fm_congr {α β : Type} {f g : α → List β} : ∀ {xs : List α}, (∀ x ∈ xs, f x = g x) → xs.flatMap f = xs.flatMap g
  | [], _ => rfl
  | x :: xs, h => by
    rw [List.flatMap_cons, List.flatMap_cons, h x List.mem_cons_self, fm_congr (fun y hy => h y (List.mem_cons_of_mem _ hy))]
theorem fm_snoc {β : Type} (f : Nat → List β) (n : Nat) : (List.range (n + 1)).flatMap f = (List.range n).flatMap f ++ f n := by
  rw [List.range_succ, List.flatMap_append, List.flatMap_cons, List.flatMap_nil, List.append_nil]
theorem fm_pull {β : Type} {f g : Nat → List β} {d : Nat} (hg : g d = []) (ho : ∀ e, e ≠ d → f e = g e) : ∀ {n : Nat}, d < n → ((List.range n).flatMap f).Perm (f d ++ (List.range n).flatMap g)
  | 0, h => absurd h (Nat.not_lt_zero d)
  | n + 1, h => by
    rw [fm_snoc, fm_snoc]
    by_cases q : n = d
    · subst q
      rw [hg, List.append_nil, fm_congr (g := g) (fun x hx => ho x (Nat.ne_of_lt (List.mem_range.mp hx)))]
      exact List.perm_append_comm
    · rw [← ho n q, ← List.append_assoc]
      exact (fm_pull hg ho (by omega)).append_right _
theorem wDs_pull {G : Nat → ClassId} {ad : AD} {S T : Nat → DS} {n d : Nat} {s : DS} (h : d < n) (hs : S d = s) (ho : ∀ e, e ≠ d → S e = T e) : (wDs G ad S n).Perm (wDoll G (ad d) s ++ wDo G ad T n d) := by
  subst hs
  exact fm_pull (f := fun e => wDoll G (ad e) (S e)) (g := fun e => if e = d then [] else wDoll G (ad e) (T e)) (if_pos rfl) (fun e he => by rw [if_neg he, ho e he]) h
theorem wPs_pull {G : Nat → ClassId} {ap : AD} {P : Nat → Nat → Int} {n d : Nat} (h : d < n) : (wPs G ap P n).Perm (wPose G (ap d) (P d) ++ wPo G ap P n d) :=
  fm_pull (f := fun e => wPose G (ap e) (P e)) (g := fun e => if e = d then [] else wPose G (ap e) (P e)) (if_pos rfl) (fun e he => by rw [if_neg he]) h
theorem pD {G : Nat → ClassId} {ad : AD} {S T : Nat → DS} {n d : Nat} {s : DS} (E Y : va_W) (h : d < n) (hs : S d = s) (ho : ∀ e, e ≠ d → S e = T e) : (E ++ (wDs G ad S n ++ Y)).Perm ((E ++ wDoll G (ad d) s) ++ (wDo G ad T n d ++ Y)) := by
  rw [List.append_assoc, ← List.append_assoc (wDoll G (ad d) s)]
  exact List.Perm.append_left E ((wDs_pull h hs ho).append_right Y)
theorem pP {G : Nat → ClassId} {ap : AD} {P : Nat → Nat → Int} {n d : Nat} (E X : va_W) (h : d < n) : (E ++ (X ++ wPs G ap P n)).Perm ((E ++ wPose G (ap d) (P d)) ++ (X ++ wPo G ap P n d)) := by
  rw [List.append_assoc]
  refine List.Perm.append_left E ?_
  refine ((wPs_pull h).append_left X).trans ?_
  rw [← List.append_assoc, ← List.append_assoc]
  exact List.perm_append_comm.append_right _
/-- the arrays' elements -/
def aF (ad : AD) (n : Nat) : Nat → Option Nat := fun d => if d < n then some (ad d 0) else none
theorem aF_yes {ad : AD} {n d : Nat} (h : d < n) : aF ad n d = some (ad d 0) := if_pos h
theorem aF_no {ad : AD} {n d : Nat} (h : ¬ d < n) : aF ad n d = none := if_neg h
def upA (ad : AD) (n : Nat) (x : Nat → Nat) : AD := fun e => if e = n then x else ad e
theorem upA_s (ad : AD) (n : Nat) (x : Nat → Nat) : upA ad n x n = x := if_pos rfl
theorem aF_up (ad : AD) (n : Nat) (x : Nat → Nat) : va_up (aF ad n) n (some (x 0)) = aF (upA ad n x) (n + 1) := by
  funext d
  unfold va_up aF upA
  by_cases q : d = n
  · rw [if_pos q, if_pos (by omega), if_pos q]
  · rw [if_neg q]
    by_cases q2 : d < n
    · rw [if_pos q2, if_pos (by omega), if_neg q]
    · rw [if_neg q2, if_neg (by omega)]
theorem wDs_new {G : Nat → ClassId} {ad : AD} {S : Nat → DS} {n : Nat} (x : Nat → Nat) (s : DS) : wDs G (upA ad n x) (updS S n s) (n + 1) = wDs G ad S n ++ wDoll G x s := by
  unfold wDs
  rw [fm_snoc, upA_s, updS_s, fm_congr (g := fun e => wDoll G (ad e) (S e))]
  intro e he
  have q : e ≠ n := Nat.ne_of_lt (List.mem_range.mp he)
  rw [updS_n _ _ q, show upA ad n x e = ad e from if_neg q]
theorem wPs_new {G : Nat → ClassId} {ap : AD} {P : Nat → Nat → Int} {n : Nat} (x : Nat → Nat) (p : Nat → Int) : wPs G (upA ap n x) (fun q => if q = n then p else P q) (n + 1) = wPs G ap P n ++ wPose G x p := by
  unfold wPs
  rw [fm_snoc, upA_s, show (fun q => if q = n then p else P q) n = p from if_pos rfl, fm_congr (g := fun e => wPose G (ap e) (P e))]
  intro e he
  have q : e ≠ n := Nat.ne_of_lt (List.mem_range.mp he)
  rw [show (fun q => if q = n then p else P q) e = P e from if_neg q, show upA ap n x e = ap e from if_neg q]
def wC0 (a ar az : Nat → Nat) (n p d m : Int) : Nat × va_E := (a 0, .inr (2, [.ref (a 1), .ref (a 2), .ref (a 3), .ref (ar 0), .ref (az 0), .int (iv n), .int (iv p), .int (iv d), .int (iv m)]))
def wCa (G : Nat → ClassId) (i t : Nat) (a : Nat → Nat) (F : Nat → Option Nat) : Nat × va_E := (a i, .inl (G t, 8, .inr (.inr (.inr (.inr F)))))
def wC (G : Nat → ClassId) (a ar az : Nat → Nat) (ad ap : AD) (ts : DS) (c : CS) : va_W := (([wC0 a ar az (kn c : Int) (kp c : Int) (kd c) (km c), wCa G 1 2 a (aF ad (kn c)), wCa G 2 3 a (aF ap (kp c)), (a 3, .inl (G 0, 5, .inl (fun j => iv (kT c j))))] ++ wPose G ar zz) ++ wDoll G az ts) ++ (wDs G ad (kS c) (kn c) ++ wPs G ap (kP c) (kp c))
/-- what an exception tells -/
def PX (o : OP) (c : CS) (es : List (String × Int)) (E : String) : Prop := ∃ q ∈ es, q.1 = E ∧ o.1 = q.2 ∧ o.2.2 = c
/-- what a value tells -/
def PV (G : Nat → ClassId) (a ar az : Nat → Nat) (o : OP) (r : Int32) (u : va_W) : Prop := o.1 = 0 ∧ r = iv o.2.1 ∧ ∃ (ad ap : AD) (ts : DS), u = wC G a ar az ad ap ts o.2.2
section KX
variable {p : Program} {l : Launch} {e : Env} {R : Room} {s : State} {m : MethodId} {args : Array Value} {below : List Frame} {meth : Method} {c : Code} {H H0 : Heap} {locs : List Loc} {cells slots mc ms : Nat} {cc : ByteArray} {pc : Nat} {ls : Array Slot} {D : va_G} {A : Nat → Prop} {Q : State → Prop} {ws wc wr : va_W} {st0 rest : List Value} {px : String → Prop}
theorem kx_int {post : Int32 → va_W → Prop} {a : Array Value} (hr : vx_Run p l e R s m args below meth c H locs cells slots mc ms (F0 m pc ls st0) rest (qI D post (va_A wc H.size) a) (qX D wc px (va_A wc H.size)) (va_A wc H.size)) (hP : va_P D vwCl ws H) (hD : va_D A ws) (hS : va_S A H0 H locs) (hA : ∀ q, H0.size ≤ q → A q) (hp : ws.Perm (wc ++ wr))
    (kx : ∀ (E : String) (ce : Cell) (q9 : Addr) (H1 : Heap) (locs1 : List Loc), px E → va_P D vwCl ws H1 → va_D A ws → va_S A H0 H1 locs1 → H1[q9]? = some ce → ce.vm = .none → s.vm.findClass E = some ce.cls → vx_W p l e R s m args below meth c H1 locs1 (cells + mc) (slots + ms) Q (F0 m pc ls rest) q9)
    (kk : ∀ (v : Int32) (u : va_W) (H1 : Heap) (locs1 : List Loc), post v u → va_P D vwCl (u ++ wr) H1 → va_D A (u ++ wr) → va_S A H0 H1 locs1 → W p l e R s m args below meth c H1 locs1 (cells + mc) (slots + ms) Q (F0 m (pc + 3) ls (.int v :: rest))) : W p l e R s m args below meth c H locs cells slots Q (F0 m pc ls st0) := by
  have hF := wF hD hS hA hp
  refine vx_calli hr hS (fun q _ h => hF q h) hF (fun q _ h => hF q h) (fun E ce q9 u t H1 locs1 ht _ _ hw _ hk hS1 h1 h2 h3 => ?_) (fun v u t H1 locs1 ht _ hw hB _ hk hS1 => ?_)
  · obtain ⟨hpx, hP1, hD1⟩ := hw
    rw [ht] at hP1
    obtain ⟨g1, g2⟩ := wJ hP hD hp hk hF hP1 hD1
    exact kx E ce q9 H1 locs1 hpx (wP_perm g1 hp.symm) (wD_perm g2 hp.symm) hS1 h1 h2 h3
  · obtain ⟨hP1, hD1⟩ := hB
    rw [ht] at hP1
    obtain ⟨g1, g2⟩ := wJ hP hD hp hk hF hP1 hD1
    exact kk v u H1 locs1 hw g1 g2 hS1
theorem kx_ref {post : Nat → va_W → Prop} {a : Array Value} (hr : vx_Run p l e R s m args below meth c H locs cells slots mc ms (F0 m pc ls st0) rest (qR D post (va_A wc H.size) a) (qX D wc px (va_A wc H.size)) (va_A wc H.size)) (hP : va_P D vwCl ws H) (hD : va_D A ws) (hS : va_S A H0 H locs) (hA : ∀ q, H0.size ≤ q → A q) (hp : ws.Perm (wc ++ wr))
    (kx : ∀ (E : String) (ce : Cell) (q9 : Addr) (H1 : Heap) (locs1 : List Loc), px E → va_P D vwCl ws H1 → va_D A ws → va_S A H0 H1 locs1 → H1[q9]? = some ce → ce.vm = .none → s.vm.findClass E = some ce.cls → vx_W p l e R s m args below meth c H1 locs1 (cells + mc) (slots + ms) Q (F0 m pc ls rest) q9)
    (kk : ∀ (v : Nat) (u : va_W) (H1 : Heap) (locs1 : List Loc), post v u → va_P D vwCl (u ++ wr) H1 → va_D A (u ++ wr) → va_S A H0 H1 locs1 → W p l e R s m args below meth c H1 locs1 (cells + mc) (slots + ms) Q (F0 m (pc + 3) ls (.ref v :: rest))) : W p l e R s m args below meth c H locs cells slots Q (F0 m pc ls st0) := by
  have hF := wF hD hS hA hp
  intro T hT X
  rcases hr T hT X with ⟨v, st₀, t, T', L, h0, X', hL, e1, e2, ⟨⟨u, r, hv, -, hw, hP1, hD1⟩, hF1⟩, st⟩ | ⟨q, st₀, t, T', L, E, ce, h0, X', hL, e1, e2, ⟨u, -, ⟨hpx, hP1, hD1⟩, hF1⟩, hce, hcv, hcl, st⟩
  · cases hv
    obtain ⟨-, k2, k3⟩ := vx_keep h0 e1 hS (fun q _ h => hF q h) hF hL hF1
    rw [← e1] at hP1
    obtain ⟨g1, g2⟩ := wJ hP hD hp k2 hF hP1 hD1
    obtain ⟨t2, a1, b1⟩ := kk r u T'.heap (locs ++ L) hw g1 g2 k3 T' rfl X'
    exact ⟨t2, st t2 a1, b1⟩
  · obtain ⟨-, k2, k3⟩ := vx_keep h0 e1 hS (fun q _ h => hF q h) hF hL hF1
    rw [← e1] at hP1
    obtain ⟨g1, g2⟩ := wJ hP hD hp k2 hF hP1 hD1
    obtain ⟨t2, a1, b1⟩ := kx E ce q T'.heap (locs ++ L) hpx (wP_perm g1 hp.symm) (wD_perm g2 hp.symm) k3 (by rw [e1]; exact hce) hcv hcl T' rfl X'
    exact ⟨t2, st.trans a1, b1⟩
/-- new C[8] -/
theorem r_newO {G : Nat → ClassId} {H0 : Heap} {own C : String} {index : Nat} (hx : p.tables.exec = Jvm.exec) (hb : c.code = cc) (hown : s.vm.findClass own = some m.cls) (hlink : (Cond.classLink own index C).before args s = true) (ho : va_AO C s) (hK : va_K D vwCl (TY G) s) (hP : va_P D vwCl ws H) (hD : va_D A ws) (hS : va_S A H0 H locs) (hA : ∀ q, H0.size ≤ q → A q) (t0 : Nat) (ht : (TY G)[t0]? = some (G t0, .object C)) (N : Nat) {z : Int} (hz : z = (N : Int)) (hN : N < 1000) (hcells : cells + 1 ≤ R.cells) (hslots : slots + N ≤ R.slots) (d : decode cc pc = .ok (.anewarray index, 3))
    (kk : ∀ (q : Nat) (H : Heap), va_P D vwCl (ws ++ [(q, .inl (G t0, N, .inr (.inr (.inr (.inr (fun _ => none))))))]) H → va_D A (ws ++ [(q, .inl (G t0, N, .inr (.inr (.inr (.inr (fun _ => none))))))]) → va_S A H0 H locs → W p l e R s m args below meth c H locs (cells + 1) (slots + N) Q (F0 m (pc + 3) ls (.ref q :: rest))) : W p l e R s m args below meth c H locs cells slots Q (F0 m pc ls (.int (iv z) :: rest)) := by
  subst hz
  have h2 : (iv (N : Int)).toNatClampNeg = N := (iv_ix rfl (Nat.lt_succ_self N) (by omega)).2
  have h3 : ¬ iv (N : Int) < 0 := fun q => by have := (iv_lt (a := (N : Int)) (b := 0) (by omega) (by decide)).mp q; omega
  refine va_newq hx hb hown hlink ho hK hP hD hS hA h3 h2 (by omega) hcells hslots d (fun q cA H1 hK1 hP1 hD1 hS1 => ?_)
  have e1 : cA = G t0 := by
    obtain ⟨-, -, -, -, -, h9⟩ := (hK1.2 7 (cA, .object C) rfl).2
    obtain ⟨-, -, -, -, -, h8⟩ := (hK.2 t0 (G t0, .object C) ht).2
    exact Option.some.inj (h9.symm.trans h8)
  subst e1
  exact kk q H1 hP1 hD1 hS1
/-- arr[k] = v, a reference -/
theorem r_astO {tys : List (ClassId × FieldType)} {H0 : Heap} {a v : Nat} (hx : p.tables.exec = Jvm.exec) (hb : c.code = cc) (hK : va_K D vwCl tys s) (hP : va_P D vwCl ws H) (hD : va_D A ws) (hS : va_S A H0 H locs) (q0 t0 qk ci : Nat) {cA : ClassId} {r : vw_C} {n : Nat} {vs : List Value} {F : Nat → Option Nat} (ha : ws[q0]? = some (a, .inl (cA, n, .inr (.inr (.inr (.inr F)))))) (ht : tys[t0]? = some (cA, .object r.1)) (hv : ws[qk]? = some (v, .inr (ci, vs))) (hc : vwCl[ci]? = some r) {z : Int} (k : Nat) (hz : z = (k : Int)) (hk : k < n) (hn : n < 2147483648) (d : decode cc pc = .ok (.aastore, 1))
    (kk : ∀ (H1 : Heap) (locs1 : List Loc), va_P D vwCl (ws.set q0 (a, .inl (cA, n, .inr (.inr (.inr (.inr (va_up F k (some v)))))))) H1 → va_D A (ws.set q0 (a, .inl (cA, n, .inr (.inr (.inr (.inr (va_up F k (some v)))))))) → va_S A H0 H1 locs1 → W p l e R s m args below meth c H1 locs1 cells slots Q (F0 m (pc + 1) ls rest)) : W p l e R s m args below meth c H locs cells slots Q (F0 m pc ls (.ref v :: .int (iv z) :: .ref a :: rest)) := by
  obtain ⟨h1, h2⟩ := iv_ix hz hk hn
  refine va_astq hx hb hK hP hD hS q0 t0 qk ci ha ht hv hc h1 d ?_
  rw [h2]
  exact kk
end KX
-- sums over eight places of which n are full
theorem m8_yes {f : Nat → Int} {n y : Nat} {x z : Int} (h : y < n) (ex : x = sm f (min y n)) (e : z = x + f y) : z = sm f (min (y + 1) n) := by
  rw [Nat.min_eq_left (by omega)] at ex ⊢
  rw [e, ex]
  rfl
theorem m8_no {f : Nat → Int} {n y : Nat} {x : Int} (h : ¬ y < n) (ex : x = sm f (min y n)) : x = sm f (min (y + 1) n) := by
  rw [Nat.min_eq_right (by omega)] at ex ⊢
  exact ex
theorem m8_end {f : Nat → Int} {n : Nat} {x : Int} (h : n ≤ 8) (ex : x = sm f (min 8 n)) : x = sm f n := by
  rw [Nat.min_eq_right h] at ex
  exact ex
