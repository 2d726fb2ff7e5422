-- BASE: whole numbers on the machine
def iv (z : Int) : Int32 := Int32.ofInt z
theorem iv_toInt {z : Int} (h : -2147483648 ≤ z ∧ z < 2147483648) : (iv z).toInt = z := by
  unfold iv
  exact Int32.toInt_ofInt_of_le (by omega) (by omega)
theorem iv_of (x : Int32) : iv x.toInt = x := by
  unfold iv
  exact Int32.ofInt_toInt x
theorem iv_rng (x : Int32) : -2147483648 ≤ x.toInt ∧ x.toInt < 2147483648 := by
  have h1 := Int32.le_toInt x
  have h2 := Int32.toInt_lt x
  omega
theorem iv_add (a b : Int) : iv a + iv b = iv (a + b) := by
  unfold iv
  exact (Int32.ofInt_add a b).symm
theorem iv_sub (a b : Int) : iv a - iv b = iv (a - b) := by
  unfold iv
  exact (Int32.ofInt_sub a b).symm
theorem iv_mul (a b : Int) : iv a * iv b = iv (a * b) := by
  unfold iv
  exact (Int32.ofInt_mul a b).symm
theorem iv_le {a b : Int} (ha : -2147483648 ≤ a ∧ a < 2147483648) (hb : -2147483648 ≤ b ∧ b < 2147483648) : iv a ≤ iv b ↔ a ≤ b := by
  rw [Int32.le_iff_toInt_le, iv_toInt ha, iv_toInt hb]
theorem iv_lt {a b : Int} (ha : -2147483648 ≤ a ∧ a < 2147483648) (hb : -2147483648 ≤ b ∧ b < 2147483648) : iv a < iv b ↔ a < b := by
  rw [Int32.lt_iff_toInt_lt, iv_toInt ha, iv_toInt hb]
theorem iv_eq {a b : Int} (ha : -2147483648 ≤ a ∧ a < 2147483648) (hb : -2147483648 ≤ b ∧ b < 2147483648) : iv a = iv b ↔ a = b := by
  rw [← Int32.toInt_inj, iv_toInt ha, iv_toInt hb]
theorem iv_zero : (0 : Int32) = iv 0 := rfl
theorem iv_nI (n : Nat) : nI n = iv (n : Int) := by
  unfold nI iv
  exact (Int32.ofInt_eq_ofNat).symm
theorem iv_div {a b : Int} (ha : 0 ≤ a ∧ a < 2147483648) (hb : 0 < b ∧ b < 2147483648) : iv a / iv b = iv (a / b) := by
  obtain ⟨x, rfl⟩ := Int.eq_ofNat_of_zero_le ha.1
  obtain ⟨y, rfl⟩ := Int.eq_ofNat_of_zero_le (Int.le_of_lt hb.1)
  rw [← iv_nI, ← iv_nI, pk_div (by omega) (by omega) (by omega), iv_nI]
  rfl
theorem iv_rem {a b : Int} (ha : 0 ≤ a ∧ a < 2147483648) (hb : 0 < b ∧ b < 2147483648) : iv a - iv a / iv b * iv b = iv (a % b) := by
  obtain ⟨x, rfl⟩ := Int.eq_ofNat_of_zero_le ha.1
  obtain ⟨y, rfl⟩ := Int.eq_ofNat_of_zero_le (Int.le_of_lt hb.1)
  rw [← iv_nI, ← iv_nI, pk_rem (by omega) (by omega) (by omega), iv_nI]
  rfl
theorem iv_ix {z : Int} {n k : Nat} (hk : z = (k : Int)) (hlt : k < n) (hn : n < 2147483648) : vp_in (iv z) n ∧ (iv z).toNatClampNeg = k := by
  subst hk
  rw [← iv_nI]
  exact ⟨vp_in_nI hlt (by omega), nI_clamp (by omega)⟩
theorem iv_max {a b : Int} (ha : -2147483648 ≤ a ∧ a < 2147483648) (hb : -2147483648 ≤ b ∧ b < 2147483648) : (if iv a < iv b then iv b else iv a) = iv (max a b) := by
  by_cases h : a < b
  · rw [if_pos ((iv_lt ha hb).mpr h), show max a b = b by omega]
  · rw [if_neg (fun q => h ((iv_lt ha hb).mp q)), show max a b = a by omega]
theorem iv_inj {a b : Int} (ha : -2147483648 ≤ a ∧ a < 2147483648) (hb : -2147483648 ≤ b ∧ b < 2147483648) (h : iv a = iv b) : a = b := (iv_eq ha hb).mp h
def updI (F : Nat → Int) (k : Nat) (x : Int) : Nat → Int := fun j => if j = k then x else F j
theorem updI_s (F : Nat → Int) (k : Nat) (x : Int) : updI F k x k = x := by simp [updI]
theorem updI_n (F : Nat → Int) {k j : Nat} (x : Int) (h : j ≠ k) : updI F k x j = F j := by simp [updI, h]
theorem iv_upd (F : Nat → Int) (k : Nat) (x : Int) : upd (fun j => iv (F j)) k (iv x) = fun j => iv (updI F k x j) := by
  funext j
  unfold upd updI
  by_cases h : j = k
  · simp [h]
  · simp [h]
-- truth as a number
def b2i (b : Bool) : Int := if b then 1 else 0
theorem b2i_rng (b : Bool) : 0 ≤ b2i b ∧ b2i b ≤ 1 := by cases b <;> simp [b2i]
-- worlds by membership
theorem wP_iff {D : va_G} {ws : va_W} {H : Heap} : va_P D vwCl ws H ↔ ∀ q ∈ ws, va_at D vwCl q H := by
  constructor
  · intro h q hq
    obtain ⟨k, hk⟩ := List.getElem?_of_mem hq
    exact h k q hk
  · intro h k q hk
    exact h q (List.mem_of_getElem? hk)
theorem wD_iff {A : Nat → Prop} {ws : va_W} : va_D A ws ↔ (ws.map (fun q => q.1)).Nodup ∧ ∀ q ∈ ws, A q.1 := by
  constructor
  · intro h
    refine ⟨?_, ?_⟩
    · unfold List.Nodup
      rw [List.pairwise_iff_getElem]
      intro i j hi hj hij he
      rw [List.length_map] at hi hj
      rw [List.getElem_map, List.getElem_map] at he
      have := h.1 i j _ _ (List.getElem?_eq_getElem hi) (List.getElem?_eq_getElem hj) he
      omega
    · intro q hq
      obtain ⟨k, hk⟩ := List.getElem?_of_mem hq
      exact h.2 k q hk
  · intro h
    refine ⟨?_, fun k q hk => h.2 q (List.mem_of_getElem? hk)⟩
    intro i j p q hi hj hpq
    have hn := h.1
    unfold List.Nodup at hn
    rw [List.pairwise_iff_getElem] at hn
    obtain ⟨li, ei⟩ := List.getElem?_eq_some_iff.mp hi
    obtain ⟨lj, ej⟩ := List.getElem?_eq_some_iff.mp hj
    rcases Nat.lt_trichotomy i j with hl | hl | hl
    · have := hn i j (by rw [List.length_map]; exact li) (by rw [List.length_map]; exact lj) hl
      rw [List.getElem_map, List.getElem_map, ei, ej] at this
      exact absurd hpq this
    · exact hl
    · have := hn j i (by rw [List.length_map]; exact lj) (by rw [List.length_map]; exact li) hl
      rw [List.getElem_map, List.getElem_map, ei, ej] at this
      exact absurd hpq.symm this
theorem wP_perm {D : va_G} {ws ws' : va_W} {H : Heap} (h : va_P D vwCl ws H) (hp : ws.Perm ws') : va_P D vwCl ws' H := wP_iff.mpr fun q hq => wP_iff.mp h q (hp.mem_iff.mpr hq)
theorem wD_perm {A : Nat → Prop} {ws ws' : va_W} (h : va_D A ws) (hp : ws.Perm ws') : va_D A ws' := by
  obtain ⟨h1, h2⟩ := wD_iff.mp h
  exact wD_iff.mpr ⟨(hp.map _).nodup_iff.mp h1, fun q hq => h2 q (hp.mem_iff.mpr hq)⟩
theorem wP_app {D : va_G} {w1 w2 : va_W} {H : Heap} : va_P D vwCl (w1 ++ w2) H ↔ va_P D vwCl w1 H ∧ va_P D vwCl w2 H := by
  constructor
  · intro h
    exact ⟨wP_iff.mpr fun q hq => wP_iff.mp h q (List.mem_append_left _ hq), wP_iff.mpr fun q hq => wP_iff.mp h q (List.mem_append_right _ hq)⟩
  · intro h
    exact va_P.app h.1 h.2
theorem wD_app1 {A : Nat → Prop} {w1 w2 : va_W} (h : va_D A (w1 ++ w2)) : va_D A w1 := by
  obtain ⟨h1, h2⟩ := wD_iff.mp h
  rw [List.map_append] at h1
  exact wD_iff.mpr ⟨(List.nodup_append.mp h1).1, fun q hq => h2 q (List.mem_append_left _ hq)⟩
/-- which addresses a world takes -/
theorem wA_mem {ws : va_W} {sz : Nat} {q : Nat} : va_A ws sz q ↔ (∃ e, (q, e) ∈ ws) ∨ sz ≤ q := by
  constructor
  · rintro (⟨k, e, h⟩ | h)
    · exact Or.inl ⟨e, List.mem_of_getElem? h⟩
    · exact Or.inr h
  · rintro (⟨e, h⟩ | h)
    · obtain ⟨k, hk⟩ := List.getElem?_of_mem h
      exact Or.inl ⟨k, e, hk⟩
    · exact Or.inr h
/-- a part of the world, handed to a callee: what it may write lies in ours -/
theorem wF {A : Nat → Prop} {ws wc wr : va_W} {H0 H : Heap} {locs : List Loc} (hD : va_D A ws) (hS : va_S A H0 H locs) (hA : ∀ q, H0.size ≤ q → A q) (hp : ws.Perm (wc ++ wr)) : ∀ q, va_A wc H.size q → A q := by
  intro q h
  rcases wA_mem.mp h with ⟨e, h⟩ | h
  · exact (wD_iff.mp hD).2 (q, e) (hp.mem_iff.mpr (List.mem_append_left _ h))
  · exact hA q (Nat.le_trans hS.1 h)
/-- and what comes back, beside the rest -/
theorem wJ {A : Nat → Prop} {D : va_G} {ws wc wr u : va_W} {H H1 : Heap} (hP : va_P D vwCl ws H) (hD : va_D A ws) (hp : ws.Perm (wc ++ wr)) (hk : ∀ q : Nat, q < H.size → ¬ va_A wc H.size q → H1[q]? = H[q]?) (hF : ∀ q, va_A wc H.size q → A q) (hP1 : va_P D vwCl u H1) (hD1 : va_D (va_A wc H.size) u) : va_P D vwCl (u ++ wr) H1 ∧ va_D A (u ++ wr) := by
  have hP' := wP_perm hP hp
  have hD' := wD_perm hD hp
  obtain ⟨n1, n2⟩ := wD_iff.mp hD'
  rw [List.map_append] at n1
  obtain ⟨-, m2, m3⟩ := List.nodup_append.mp n1
  obtain ⟨o1, o2⟩ := wD_iff.mp hD1
  have apart : ∀ q ∈ wr, q.1 < H.size ∧ ¬ va_A wc H.size q.1 := by
    intro q hq
    have hl := (wP_iff.mp hP' q (List.mem_append_right _ hq)).lt
    refine ⟨hl, fun h => ?_⟩
    rcases wA_mem.mp h with ⟨e, h⟩ | h
    · exact m3 q.1 (List.mem_map.mpr ⟨(q.1, e), h, rfl⟩) q.1 (List.mem_map.mpr ⟨q, hq, rfl⟩) rfl
    · omega
  refine ⟨wP_app.mpr ⟨hP1, wP_iff.mpr fun q hq => ?_⟩, wD_iff.mpr ⟨?_, ?_⟩⟩
  · exact (wP_iff.mp hP' q (List.mem_append_right _ hq)).kept (hk q.1 (apart q hq).1 (apart q hq).2)
  · rw [List.map_append, List.nodup_append]
    refine ⟨o1, m2, ?_⟩
    intro a ha b hb hab
    obtain ⟨q1, hq1, rfl⟩ := List.mem_map.mp ha
    obtain ⟨q2, hq2, rfl⟩ := List.mem_map.mp hb
    exact (apart q2 hq2).2 (hab ▸ o2 q1 hq1)
  · intro q hq
    rcases List.mem_append.mp hq with h | h
    · exact hF _ (o2 q h)
    · exact n2 q (List.mem_append_right _ h)
/-- an explicit head of a world, in another order -/
def wpick (E : va_W) (is : List Nat) : va_W := is.filterMap (fun i => E[i]?)
theorem wpick_all : ∀ (E : va_W), wpick E (List.range E.length) = E := by
  intro E
  induction E with
  | nil => rfl
  | cons a E ih =>
    unfold wpick at ih ⊢
    rw [List.length_cons, List.range_succ_eq_map, List.filterMap_cons]
    show a :: List.filterMap (fun i => (a :: E)[i]?) (List.map Nat.succ (List.range E.length)) = a :: E
    rw [List.filterMap_map]
    exact congrArg (fun l => a :: l) ih
theorem wpick_perm (E : va_W) {is : List Nat} (h : is.Perm (List.range E.length)) : (wpick E is).Perm E := by
  have h1 : (wpick E is).Perm (wpick E (List.range E.length)) := h.filterMap _
  rw [wpick_all] at h1
  exact h1
theorem wsplit (E rest : va_W) {is js : List Nat} {wc wr : va_W} (h : (is ++ js).Perm (List.range E.length)) (hc : wpick E is = wc) (hr : wpick E js = wr) : (E ++ rest).Perm (wc ++ (wr ++ rest)) := by
  subst hc
  subst hr
  have h1 := wpick_perm E h
  have h2 : wpick E (is ++ js) = wpick E is ++ wpick E js := List.filterMap_append
  rw [h2] at h1
  rw [← List.append_assoc]
  exact (h1.symm).append_right rest
