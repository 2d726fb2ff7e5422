-- THE START: what the Statement gives
theorem str_of {own tx : String} {k : Nat} {A : Array Value} {U : State} (h1 : (Cond.stringRef own k tx).before A U = true) (h2 : (Cond.exactly (.string own k) "java/lang/String").before A U = true) : ∃ a, vk_R own k tx a U := by
  cases hv : (Term.string own k).eval A U none [] U with
  | none => simp [Cond.before, Cond.holds, Cond.value, hv] at h2
  | some v =>
    cases v with
    | ref a => exact ⟨a, vk_R.of h1 hv⟩
    | _ => (cases hc : U.vm.findClass "java/lang/String" <;> simp [Cond.before, Cond.holds, Cond.value, hv, hc] at h2)
theorem arr_of {s : State} {cA comp : ClassId} {kA : Class} {ty : FieldType} (h1 : s.vm.classes[cA]? = some kA) (h2 : kA.kind = .array comp ty) : ArrOfT s cA ty := fun _ _ => ⟨(fun _ h => by cases h), kA, h1, comp, h2⟩
theorem aoi_of {A : Array Value} {U : State} (h : (Cond.arrayOver (.array .int)).before A U = true) : AOI U := h
theorem aoj_of {A : Array Value} {U : State} (h : (Cond.arrayOver (.array (.array .int))).before A U = true) : AOJ U := h
theorem str_mem : ∀ q ∈ strTab, Cond.stringRef RX2 q.1 q.2 ∈ lw_tbl := by decide +kernel
theorem str_mem2 : ∀ q ∈ strTab, Cond.exactly (.string RX2 q.1) "java/lang/String" ∈ flatC (Jvm.Cond.and given_1 narrow_1) := by decide +kernel
theorem cast_mem : ∀ q ∈ castTab, Cond.castable q.1 q.2 ∈ lw_tbl := by decide +kernel
theorem decl_mem : ∀ q ∈ declTab, Cond.declares q ∈ lw_tbl := by decide +kernel
theorem us0_mem : ∀ w ∈ u_ws RX0 TX0 9, w ∈ lw_tbl := by decide +kernel
theorem us1_mem : ∀ w ∈ u_ws RX1 TX1 1, w ∈ lw_tbl := by decide +kernel
theorem us2_mem : ∀ w ∈ u_ws RX2 TX2 9, w ∈ lw_tbl := by decide +kernel
theorem us3_mem : ∀ w ∈ u_ws RX3 TX3 8, w ∈ lw_tbl := by decide +kernel
theorem us4_mem : ∀ w ∈ u_ws RX4 TX4 5, w ∈ lw_tbl := by decide +kernel
set_option maxHeartbeats 4000000 in
theorem law_facts {p : Program} {l : Launch} {s : State} {m : MethodId} {meth : Method} {c : Code} {b L : Nat} {xs : Nat → Int32} (hL : L ≤ 260) (hl0 : l.stackTraces = false) (C0 : lw_At p s m meth c b L xs) : ∃ (D : va_G) (G : Nat → ClassId), LBx p l s m meth c D G b L xs (fun q => s.heap.size ≤ q) := by
  obtain ⟨hx, hb, hr, hml, hown, hts, hX, hbl, hlocks, hgv⟩ := C0
  have hs := flat_of_before _ hgv
  obtain ⟨k0, i0, hK0⟩ := u_known (C := RX0) (T := TX0) (N := 9) (n := 9) hts us0_mem (hts (.instantiable RX0 9) (by decide +kernel))
  obtain ⟨k1, i1, hK1⟩ := u_known (C := RX1) (T := TX1) (N := 1) (n := 1) hts us1_mem (hts (.instantiable RX1 1) (by decide +kernel))
  obtain ⟨k2, i2, hK2⟩ := u_known (C := RX2) (T := TX2) (N := 9) (n := 9) hts us2_mem (hts (.instantiable RX2 9) (by decide +kernel))
  obtain ⟨k3, i3, hK3⟩ := u_known (C := RX3) (T := TX3) (N := 8) (n := 8) hts us3_mem (hts (.instantiable RX3 8) (by decide +kernel))
  obtain ⟨k4, i4, hK4⟩ := u_known (C := RX4) (T := TX4) (N := 5) (n := 5) hts us4_mem (hts (.instantiable RX4 5) (by decide +kernel))
  obtain ⟨a0, c0, p0, f0, g0, h0⟩ := Cond.arrayClass_spec (hts (.arrayClass .int) (by decide +kernel))
  obtain ⟨a1, c1, p1, f1, g1, h1⟩ := Cond.arrayClass_spec (hts (.arrayClass .boolean) (by decide +kernel))
  obtain ⟨p2, a2, c2, e2, -, f2, g2, h2⟩ := Cond.arrayOver_spec (hts (.arrayOver (.object RX0)) (by decide +kernel))
  obtain ⟨p3, a3, c3, e3, -, f3, g3, h3⟩ := Cond.arrayOver_spec (hts (.arrayOver (.object RX1)) (by decide +kernel))
  obtain ⟨p5, a5, c5, e5, -, f5, g5, h5⟩ := Cond.arrayOver_spec (hts (.arrayOver (.object RX3)) (by decide +kernel))
  obtain ⟨p4, a4, c4, e4, f4, g4, h4⟩ := Cond.arrayOver_specA (hts (.arrayOver (.array .int)) (by decide +kernel))
  obtain ⟨p6, a6, c6, e6, f6, g6, h6⟩ := Cond.arrayOver_specA (hts (.arrayOver (.array (.array .int))) (by decide +kernel))
  have hA0 : ∀ a : Nat, a < s.heap.size → ¬ (s.heap.size ≤ a) := fun a h => Nat.not_le.mpr h
  refine ⟨(fun k => if k = 0 then k0 else if k = 1 then k1 else if k = 2 then k2 else if k = 3 then k3 else k4, fun k => if k = 0 then i0 else if k = 1 then i1 else if k = 2 then i2 else if k = 3 then i3 else i4), fun k => if k = 0 then a0 else if k = 1 then a1 else if k = 2 then a2 else if k = 3 then a3 else if k = 4 then a4 else if k = 5 then a5 else a6, hx, hb, hml, hown, fun w h => hts w (wsL_law_in w h), ⟨?_, ?_⟩, ⟨?_, ?_, ?_⟩, fun q h => h, ⟨hX, hbl, Nat.not_le.mpr hbl⟩, hL, hl0, hts (.classLink RL 128 "[[[I") (by decide +kernel)⟩
  · intro k q hq
    match k, hq with
    | 0, hq => cases hq; exact hK0
    | 1, hq => cases hq; exact hK1
    | 2, hq => cases hq; exact hK2
    | 3, hq => cases hq; exact hK3
    | 4, hq => cases hq; exact hK4
    | k + 5, hq => simp [vwCl] at hq
  · intro k q hq
    match k, hq with
    | 0, hq => cases hq; exact ⟨arr_of g0 h0, f0⟩
    | 1, hq => cases hq; exact ⟨arr_of g1 h1, f1⟩
    | 2, hq => cases hq; exact ⟨arr_of f2 g2, c2, p2, f2, g2, e2, h2⟩
    | 3, hq => cases hq; exact ⟨arr_of f3 g3, c3, p3, f3, g3, e3, h3⟩
    | 4, hq => cases hq; exact ⟨arr_of f4 g4, h4⟩
    | 5, hq => cases hq; exact ⟨arr_of f5 g5, c5, p5, f5, g5, e5, h5⟩
    | 6, hq => cases hq; exact ⟨arr_of f6 g6, h6⟩
    | k + 7, hq => simp at hq
  · exact vx_Zqof (hts (.laysStatic Bundle.tN "UNASSIGNED_STACK" Bundle.steD) (by decide +kernel)) (hts (.initialized Bundle.tN) (by decide +kernel)) (hs (.isRef (.static Bundle.tN "UNASSIGNED_STACK" Bundle.steD)) (by decide +kernel)) hA0
  · exact vx_Zqof (hts (.laysStatic Bundle.tN "SUPPRESSED_SENTINEL" Bundle.listD) (by decide +kernel)) (hts (.initialized Bundle.tN) (by decide +kernel)) (hs (.isRef (.static Bundle.tN "SUPPRESSED_SENTINEL" Bundle.listD)) (by decide +kernel)) hA0
  · exact ⟨fun q hq => str_of (hts _ (str_mem q hq)) (hs _ (str_mem2 q hq)), fun q hq => va_Nw.of rfl (hts _ (cast_mem q hq)), fun q hq => va_Nw.of rfl (hts _ (decl_mem q hq)), va_AO.of (hts (.arrayOver (.object RX0)) (by decide +kernel)), va_AO.of (hts (.arrayOver (.object RX1)) (by decide +kernel)), ⟨aoi_of (hts (.arrayOver (.array .int)) (by decide +kernel)), va_AO.of (hts (.arrayOver (.object RX3)) (by decide +kernel)), aoj_of (hts (.arrayOver (.array (.array .int))) (by decide +kernel)), va_Nw.of rfl (hts (.methodLinkNest RL 27 yX3_init RL) (by decide +kernel)), va_Nw.of rfl (hts (.methodLinkNest RL 110 yX4_init RL) (by decide +kernel))⟩, va_Nw.of rfl (hts (.methodLinkNest RX2 25 yX1_init RX2) (by decide +kernel))⟩
