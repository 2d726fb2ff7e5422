-- WHAT EACH CALL LEAVES IS GOOD
theorem okC_S {c : CS} (h : okC c) {d : Nat} {s : DS} (hs : okD s) : okC (wS c (updS (kS c) d s)) := by
  obtain ⟨h1, h2, h3, h4, h5, h6, h7⟩ := h
  refine ⟨h1, h2, fun e he => ?_, h4, h5, h6, h7⟩
  show okD (updS (kS c) d s e)
  unfold updS
  split
  · exact hs
  · exact h3 e he
theorem okC_W {c : CS} (h : okC c) {T : Nat → Int} (hT : ∀ j, j < 5 → 0 ≤ T j ∧ T j ≤ 99) : okC (wT c T) := ⟨h.1, h.2.1, h.2.2.1, h.2.2.2.1, hT, h.2.2.2.2.2⟩
theorem updT_ok {T : Nat → Int} {k : Nat} {x : Int} (hT : ∀ j, j < 5 → 0 ≤ T j ∧ T j ≤ 99) (hx : 0 ≤ x ∧ x ≤ 99) : ∀ j, j < 5 → 0 ≤ updI T k x j ∧ updI T k x j ≤ 99 := by
  intro j hj
  unfold updI
  split
  · exact hx
  · exact hT j hj
/-- good, and at most sixty days on -/
def gOP (o : OP) (c : CS) : Prop := okC o.2.2 ∧ kd o.2.2 ≤ kd c + 60
theorem gOP_c {c : CS} (h : okC c) (k v : Int) : gOP (k, v, c) c := ⟨h, by show kd c ≤ kd c + 60; omega⟩
theorem gOP_s {c : CS} {k v : Int} {c2 : CS} (h : okC c2) (hd : kd c2 = kd c) : gOP (k, v, c2) c := ⟨h, by show kd c2 ≤ kd c + 60; omega⟩
theorem g_make {c : CS} (h : okC c) : gOP (opMake c) c := by
  unfold opMake
  split
  · exact gOP_c h _ _
  · refine gOP_s ?_ rfl
    obtain ⟨h1, h2, h3, h4, h5, h6, h7⟩ := h
    refine ⟨?_, h2, fun e he => ?_, h4, h5, h6, h7⟩
    · show kn c + 1 ≤ 8
      omega
    · show okD (updS (kS c) (kn c) dNew e)
      unfold updS
      split
      · exact dNew_ok
      · refine h3 e ?_
        have : e < kn c + 1 := he
        omega
theorem g_pose {c : CS} (h : okC c) (x0 x1 x2 x3 x4 x5 : Int) : gOP (opPose c x0 x1 x2 x3 x4 x5) c := by
  unfold opPose
  split
  · exact gOP_c h _ _
  · split
    · exact gOP_c h _ _
    · rename_i q1 q2
      refine gOP_s ?_ rfl
      have q := Decidable.not_not.mp q1
      obtain ⟨h1, h2, h3, h4, h5, h6, h7⟩ := h
      refine ⟨h1, ?_, h3, fun e he => ?_, h5, h6, h7⟩
      · show kp c + 1 ≤ 8
        omega
      · show okP (if e = kp c then pf6 x0 x1 x2 x3 x4 x5 else kP c e)
        split
        · exact fun j hj => pf6_one q hj
        · refine h4 e ?_
          have : e < kp c + 1 := he
          omega
theorem g_take {c : CS} (h : okC c) (d q : Int) : gOP (opTake c d q) c := by
  unfold opTake
  split
  · exact gOP_c h _ _
  · split
    · exact gOP_c h _ _
    · rename_i q1 _
      have q2 := Decidable.not_not.mp q1
      exact gOP_s (okC_S h (okD_add (turnN_ok (okC_P h (by simp only [isD, isP] at q2; omega)) (okC_D h (by simp only [isD, isP] at q2; omega)) 6 (by omega)))) rfl
theorem okD_flip {s : DS} (h : okD s) (e : Nat) (he : e < 2) : okD (flipO s e) := by
  obtain ⟨h1, h2, h3⟩ := h
  refine ⟨h1, fun j hj => ⟨?_, (h2 j hj).2⟩, h3⟩
  show 0 ≤ updI (dO s) e (1 - dO s e) j ∧ updI (dO s) e (1 - dO s e) j ≤ 1
  have h4 := (h2 e he).1
  have h5 := (h2 j hj).1
  unfold updI
  split <;> omega
theorem g_blink {c : CS} (h : okC c) (d e : Int) : gOP (opBlink c d e) c := by
  unfold opBlink
  split
  · exact gOP_c h _ _
  · split
    · exact gOP_c h _ _
    · rename_i q1 _
      have q2 := Decidable.not_not.mp q1
      exact gOP_s (okC_S h (okD_flip (okC_D h (by simp only [isD] at q2; omega)) _ (by omega))) rfl
theorem v_blink {c : CS} (h : okC c) (d e : Int) : (opBlink c d e).2.1 = 0 ∨ (opBlink c d e).2.1 = 1 := by
  unfold opBlink
  split
  · exact Or.inl rfl
  · split
    · exact Or.inl rfl
    · rename_i q1 _
      have q2 := Decidable.not_not.mp q1
      have h4 := okD_O (okC_D h (show d.toNat < kn c by simp only [isD] at q2; omega)) e.toNat (by omega)
      show 1 - dO (kS c d.toNat) e.toNat = 0 ∨ 1 - dO (kS c d.toNat) e.toNat = 1
      omega
theorem g_dress {c : CS} (h : okC c) (d w q : Int) : gOP (opDress c d w q) c := by
  unfold opDress
  split
  · exact gOP_c h _ _
  · split
    · exact gOP_c h _ _
    · split
      · exact gOP_c h _ _
      · rename_i q1 q2 q3
        have p1 := Decidable.not_not.mp q1
        have p2 := Decidable.not_not.mp q2
        have hd : d.toNat < kn c := by simp only [isD] at p1; omega
        have ok := okC_D h hd
        have t2 := okC_T h 2 (by omega)
        obtain ⟨k1, k2, k3, k4, k5, k6, k7⟩ := ok
        have o2 : okD (dsetR (kS c d.toNat) (dg (kS c d.toNat)) w q) := by
          refine ⟨k1, k2, k3, ?_, ?_, ?_, ?_⟩
          · show 0 ≤ w ∧ w ≤ 9
            omega
          · show 0 ≤ q ∧ q ≤ 12
            omega
          · show w = 0 → q = 0
            omega
          · show w ≤ q
            omega
        exact gOP_s (okC_W (okC_S h o2) (updT_ok (okC_T h) (by omega))) rfl
theorem okD_m0 {s : DS} (h : okD s) (j : Nat) : okD (setL (setL s 1 j 0) 2 j 0) := by
  obtain ⟨h1, h2⟩ := h
  refine ⟨fun i hi => ?_, h2⟩
  obtain ⟨a1, a2, a3⟩ := h1 i hi
  refine ⟨a1, ?_, ?_⟩
  · show 0 ≤ updI (dW s) j 0 i ∧ updI (dW s) j 0 i ≤ 100
    unfold updI
    split <;> omega
  · show 0 ≤ updI (dQ s) j 0 i ∧ updI (dQ s) j 0 i ≤ 20
    unfold updI
    split <;> omega
theorem okD_m1 {s : DS} (h : okD s) (j : Nat) : okD (setL s 2 j 20) := by
  obtain ⟨h1, h2⟩ := h
  refine ⟨fun i hi => ?_, h2⟩
  obtain ⟨a1, a2, a3⟩ := h1 i hi
  refine ⟨a1, a2, ?_⟩
  show 0 ≤ updI (dQ s) j 20 i ∧ updI (dQ s) j 20 i ≤ 20
  unfold updI
  split <;> omega
theorem g_mend {c : CS} (h : okC c) (d k j : Int) : gOP (opMend c d k j) c := by
  unfold opMend
  split
  · exact gOP_c h _ _
  · split
    · exact gOP_c h _ _
    · split
      · exact gOP_c h _ _
      · rename_i q1 q2 q3
        have p1 := Decidable.not_not.mp q1
        have p2 := Decidable.not_not.mp q2
        have hd : d.toNat < kn c := by simp only [isD] at p1; omega
        have ok := okC_D h hd
        have tk := okC_T h k.toNat (by omega)
        refine gOP_s (okC_W (okC_S h ?_) (updT_ok (okC_T h) (by omega))) rfl
        unfold mendD
        split
        · exact okD_m0 ok _
        · split
          · exact okD_m1 ok _
          · split
            · obtain ⟨k1, k2, k3, k4, k5, k6, k7⟩ := ok
              refine ⟨k1, k2, k3, k4, ?_, ?_, ?_⟩
              · show 0 ≤ dn (kS c d.toNat) + 1 ∧ dn (kS c d.toNat) + 1 ≤ 12
                omega
              · show dv (kS c d.toNat) = 0 → dn (kS c d.toNat) + 1 = 0
                omega
              · show dv (kS c d.toNat) ≤ dn (kS c d.toNat) + 1
                omega
            · split
              · exact ⟨ok.1, fun i hi => ⟨(ok.2.1 i hi).1, ⟨Int.le_refl 0, by show (0 : Int) ≤ 9; decide⟩⟩, ok.2.2⟩
              · exact ⟨ok.1, ok.2.1, ⟨by show (-1 : Int) ≤ 0; decide, by show (0 : Int) ≤ 9; decide⟩, ok.2.2.2⟩
theorem g_bring {c : CS} (h : okC c) (k m : Int) : gOP (opBring c k m) c := by
  unfold opBring
  split
  · exact gOP_c h _ _
  · rename_i q1
    have p1 := Decidable.not_not.mp q1
    have tk := okC_T h k.toNat (by omega)
    exact gOP_s (okC_W h (updT_ok (okC_T h) (by omega))) rfl
theorem g_moths {c : CS} (h : okC c) (x : Int) : gOP (opMoths c x) c := by
  unfold opMoths
  split
  · exact gOP_c h _ _
  · rename_i q1
    obtain ⟨h1, h2, h3, h4, h5, h6, h7⟩ := h
    exact gOP_s ⟨h1, h2, h3, h4, h5, h6, Decidable.not_not.mp q1⟩ rfl
theorem g_pass {c : CS} (h : okC c) (hd : kd c ≤ 1000000) (k : Int) : gOP (opPass c k) c := by
  unfold opPass
  split
  · refine ⟨afterC_ok (by omega) hd h, ?_⟩
    show kd c + ((k.toNat : Nat) : Int) ≤ kd c + 60
    omega
  · exact gOP_c h _ _
theorem g_joint {c : CS} (h : okC c) (d j w : Int) : gOP (opJoint c d j w) c := by unfold opJoint; split <;> exact gOP_c h _ _
theorem g_doll {c : CS} (h : okC c) (d w : Int) : gOP (opDoll c d w) c := by unfold opDoll; split <;> exact gOP_c h _ _
theorem g_count {c : CS} (h : okC c) (w : Int) : gOP (opCount c w) c := by unfold opCount; split <;> exact gOP_c h _ _
theorem g_costs {c : CS} (h : okC c) (d q : Int) : gOP (opCosts c d q) c := by
  unfold opCosts
  split
  · exact gOP_c h _ _
  · split <;> exact gOP_c h _ _
theorem g_often {c : CS} (h : okC c) (d q : Int) : gOP (opOften c d q) c := by unfold opOften; split <;> exact gOP_c h _ _
theorem g_foresee {c : CS} (h : okC c) (k w : Int) : gOP (opForesee c k w) c := by
  unfold opForesee
  split
  · exact gOP_c h _ _
  · split <;> exact gOP_c h _ _
