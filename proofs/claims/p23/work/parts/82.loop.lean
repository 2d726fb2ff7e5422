-- THE LAW'S LOOP, and its start
set_option maxHeartbeats 4000000 in
set_option maxRecDepth 100000 in
theorem law_loop {p : Program} {l : Launch} {e : Env} {s : State} {m : MethodId} {below : List Frame} {meth : Method} {c : Code} {D : va_G} {G : Nat → ClassId} {b L : Nat} {xs : Nat → Int32} (hr : meth.sig.returnType = ret) (hlocks : meth.locks = false) (hB : LBx p l s m meth c D G b L xs (fun q => s.heap.size ≤ q)) {a ar az : Nat → Nat} {z : Nat} : ∀ (fu t : Nat) (ad ap : AD) (ts : DS) (bb : Nat → Nat) (sd sp : AD) (jj : Nat → Int) (cs : CS), t ≤ 34 → 34 < t + fu → bb 0 = z → okC cs → kd cs = (t : Int) → 1 ≤ kn cs → ∀ (H : Heap) (locs : List Loc), va_P D vwCl (([] : va_W) ++ ((wC G a ar az ad ap ts cs) ++ (wSim G bb sd sp jj cs))) H → va_D (fun q => s.heap.size ≤ q) (([] : va_W) ++ ((wC G a ar az ad ap ts cs) ++ (wSim G bb sd sp jj cs))) → va_S (fun q => s.heap.size ≤ q) s.heap H locs → ∀ (ls : Array Slot), lv_has ls 21 [(0, .ref b), (1, .ref (a 0)), (2, .ref z), (3, .int (iv (t : Int)))] → W p l e room_1 s m #[Value.ref b] below meth c H locs (2000 + 800 * t) (9000 + 5000 * t) (lw_Z below #[Value.ref b] s) (F0 m 22 ls []) := by
  intro fu
  induction fu with
  | zero => intro t ad ap ts bb sd sp jj cs h1 h2; exact absurd h2 (by omega)
  | succ fu ih =>
    intro t ad ap ts bb sd sp jj cs h1 h2 hz hok hkd hn1 H locs hP hD hS ls hl
    obtain ⟨hx, hb, hml, hown, hts, hK, hT, hA, hX, hL, hl0, h128⟩ := id hB
    refine lv_iload_n hx hb dL_law_22 rfl (lv_at hl 3 rfl) ?_
    refine lv_bipush (v := iv 34) hx hb dL_law_23 (by decide) ?_
    refine r_icmp_ge hx hb 1067 dL_law_25 (by decide) (by omega) (by omega) (fun c_25 => ?_) (fun c_25 => ?_)
    · refine lv_aload_n hx hb dL_law_1067 rfl (lv_at hl 2 rfl) ?_
      refine lv_aload_n hx hb dL_law_1068 rfl (lv_at hl 1 rfl) ?_
      have hp : List.Perm (α := Nat × va_E) (([] : va_W) ++ ((wC G a ar az ad ap ts cs) ++ (wSim G bb sd sp jj cs))) ((wSim G bb sd sp jj cs ++ wC G a ar az ad ap ts cs) ++ ([] : va_W)) := wperm (fun q9 => by
        simp only [cn_app, cn_nil] <;> omega)
      replace hP := wP_perm hP hp
      replace hD := wD_perm hD hp
      have hp : List.Perm (α := Nat × va_E) ((wSim G bb sd sp jj cs ++ wC G a ar az ad ap ts cs) ++ ([] : va_W)) ((wSim G bb sd sp jj cs ++ wC G a ar az ad ap ts cs) ++ ([] : va_W)) := List.Perm.refl _
      refine k_int (g_V (As := [.ref (a 0)]) (rest := []) (q0 := 0) (ci := 4) (fs := [.ref (bb 1), .ref (bb 2), .ref (bb 3), .int (iv (km cs)), .int (iv (kd cs))]) ⟨hx, hb, hml, hown, hts⟩ (c_X4_isSamez l D G bb sd sp jj cs hok a ar az ad ap ts z hz) (cwV 1 hts gL_law_X4_isSame rfl rfl rfl (by decide +kernel) ⟨Nat.le_of_ble_eq_true rfl, Nat.le_of_ble_eq_true rfl⟩) hK hP hD hp (by rw [← hz]; rfl) rfl rfl rfl hl.1 rfl (Nat.le_of_ble_eq_true rfl) dL_law_1069 ⟨by show _ ≤ (741649 : Nat); omega, by show _ ≤ (6876824 : Nat); omega⟩) hP hD hS hA hp (fun v u H locs hw hP hD hS => ?_)
      obtain ⟨rfl, rfl⟩ := hw
      refine va_forget (fun q hq => hS.2.2 q hq) ?_
      refine W.widen (k := 741649) (n := 6876824) (by omega) (by omega) ?_
      exact lw_ret (d0 := s.drawn) (Drawn.sameBut.refl s.drawn lw_cs) hx hb hr hlocks dL_law_1072
    · have ht : t < 34 := by omega
      refine k_lw_A hB hz hok hkd hn1 ht (by omega) (by omega) hP hD hS hl (fun ad ap ts bb sd sp jj cs H locs hP hD hS ls hl hz hok hkd hn1 => ?_)
      refine k_lw_B1 hB hok (by omega) (by omega) hP hD hS hl (fun wa ja jz w y H locs hP hD hS ls hl => ?_)
      refine k_lw_B2 hB hok ht (by omega) (by omega) hP hD hS hl (fun ad ap ts F J H locs hP hD hS ls hl hF hJ => ?_)
      refine k_lw_C hB hz hok (by omega) (by omega) (by omega) hP hD hS hl (fun ad ap ts jj Nx St nx st H locs hP hD hS ls hl hN hSt => ?_)
      have hk0 : 0 ≤ kd cs ∧ kd cs ≤ 1000 := by omega
      have hk2 : kd (afterC cs 1) = kd cs + 1 := rfl
      have hok2 : okC (afterC cs 1) := afterC_ok (by omega) (by omega) hok
      have hmo : 0 ≤ km cs ∧ km cs ≤ 3 := hok.2.2.2.2.2.2
      refine k_lw_D (cs := afterC cs 1) (d0 := kd cs) (mo := km cs) (wg := countV cs 5) (dr := countV cs 6) (lo := lossN (kS cs) (afterS cs 1) (kn cs)) hB hok2 hN hSt hk2 hk0 (loss_57 cs) (countV_r hok (by omega)) (countV_r hok (by omega)) (by omega) (by omega) hP hD hS hl (fun H locs hP hD hS ls hl => ?_)
      refine k_lw_E (cs := afterC cs 1) (S0 := kS cs) (d0 := kd cs) (mo := km cs) hB hok2 (fun e9 h9 => ⟨okC_D hok h9, after_1 h9⟩) hF hJ hk0 hmo (by omega) (by omega) hP hD hS hl (fun H locs hP hD hS ls hl => ?_)
      refine r_iinc (k := 3) (lv' := [(3, .int (iv ((t : Int) + 1))), (0, .ref b), (1, .ref (a 0)), (2, .ref z)]) hx hb dL_law_1061 hl rfl (by decide) rfl (fun ls hl => ?_)
      refine r_goto hx hb 22 dL_law_1064 (by decide) ?_
      rw [show (t : Int) + 1 = ((t + 1 : Nat) : Int) by omega] at hl
      refine W.widen (k := 2000 + 800 * (t + 1)) (n := 9000 + 5000 * (t + 1)) (by omega) (by omega) ?_
      exact ih (t + 1) ad ap ts bb sd sp jj (afterC cs 1) (by omega) (by omega) hz hok2 (by rw [hk2]; omega) hn1 _ _ hP hD hS _ (lv_sub hl [1, 2, 3, 0] rfl)
set_option maxHeartbeats 4000000 in
set_option maxRecDepth 100000 in
theorem whole_start {p : Program} {e : Env} {s : State} {m : MethodId} {below : List Frame} {meth : Method} {c : Code} (l : Launch) (hflags : l.flags = flags0) {b L : Nat} {xs : Nat → Int32} (hL : L ≤ 260) (C0 : lw_At p s m meth c b L xs) : W p l e room_1 s m #[Value.ref b] below meth c s.heap [] 0 0 (lw_Z below #[Value.ref b] s) (entryFrame m ([Value.ref b] : List Value).toArray 21) := by
  have hl0 : l.stackTraces = false := by unfold Launch.stackTraces; rw [hflags]; decide +kernel
  obtain ⟨D, G, hB⟩ := law_facts hL hl0 C0
  obtain ⟨hx, hb, hml, hown, hts, hK, hT, hA, hX, -, -, -⟩ := id hB
  have hr := C0.2.2.1
  have hlk := C0.2.2.2.2.2.2.2.2.1
  generalize hAe : (fun q => s.heap.size ≤ q : Nat → Prop) = A at hT hA hX
  have hS : va_S A s.heap s.heap [] := va_S.rf
  have hP : va_P D vwCl [] s.heap := fun k q h => by simp at h
  have hD : va_D A [] := ⟨fun i j p q h => by simp at h, fun k q h => by simp at h⟩
  have hl := lv_entry ([.ref b]) (n := 21) (Nat.le_of_ble_eq_true rfl)
  rw [lg_entry_eq]
  generalize (lg_sl ([.ref b]) ++ List.replicate (21 - (lg_sl ([.ref b])).length) Slot.unset).toArray = ls at hl ⊢
  have hl : lv_has ls 21 [(0, .ref b)] := hl
  refine va_new (fs := [.null, .null, .null, .null, .null, .int (iv 0), .int (iv 0), .int (iv 0), .int (iv 0)]) (T := TX2) (ci := 2) hx hb hts (by decide +kernel : ∀ w ∈ u_ws RX2 TX2 9, w ∈ wsL_law) tyX2 tyX2_ok hown (hts (.classLink RL 29 RX2) (by decide +kernel)) (hts (.instantiable RX2 9) (by decide +kernel)) (hts (.initialized RX2) (by decide +kernel)) hK hP hD hS hA rfl (by decide +kernel) (by decide) (by decide) dL_law_0 (fun q1 H hP hD hS => ?_)
  have hP : va_P D vwCl [(q1, .inr (2, [.null, .null, .null, .null, .null, .int (iv 0), .int (iv 0), .int (iv 0), .int (iv 0)]))] H := hP
  have hD : va_D A [(q1, .inr (2, [.null, .null, .null, .null, .null, .int (iv 0), .int (iv 0), .int (iv 0), .int (iv 0)]))] := hD
  refine lv_dup hx hb dL_law_3 rfl ?_
  have hp : List.Perm [(q1, (.inr (2, [.null, .null, .null, .null, .null, .int (iv 0), .int (iv 0), .int (iv 0), .int (iv 0)]) : va_E))] ([(q1, .inr (2, [.null, .null, .null, .null, .null, .int (iv 0), .int (iv 0), .int (iv 0), .int (iv 0)]))] ++ []) := List.Perm.refl _
  refine k_void (g_IX (As := []) (rest := [.ref q1]) ⟨hx, hb, hml, hown, hts⟩ (c_X2_init l D G q1) (cwI 0 hts gL_law_X2_init rfl rfl rfl (hts (.initialized RX2) (by decide +kernel)) (hts (.methodLink RL 119 yX2_init) (by decide +kernel)) (hts (.instanceMethod yX2_init) (by decide +kernel)) rfl (by decide +kernel) ⟨Nat.le_of_ble_eq_true rfl, Nat.le_of_ble_eq_true rfl⟩) hK hT hA hP hD hS hp rfl hl.1 rfl (Nat.le_of_ble_eq_true rfl) dL_law_4 ⟨by decide, by decide⟩) hP hD hS hA hp (fun u H locs hw hP hD hS => ?_)
  obtain ⟨a, ar, az, ad, ap, ts, rfl, rfl⟩ := hw
  refine lv_astore_n (lv' := [(1, .ref (a 0)), (0, .ref b)]) hx hb dL_law_7 rfl hl (by decide) rfl (fun ls hl => ?_)
  refine lv_aload_n hx hb dL_law_8 rfl (lv_at hl 0 rfl) ?_
  refine lv_aload_n hx hb dL_law_9 rfl (lv_at hl 1 rfl) ?_
  refine k_ref (g_SS (As := [.ref (a 0), .ref b]) (rest := []) ⟨hx, hb, hml, hown, hts⟩ (c_L_build l D G hl0 a ar az ad ap ts b L xs hL) (va_cwS 2 hts gL_law_L_build rfl rfl rfl (by decide +kernel) ⟨Nat.le_of_ble_eq_true rfl, Nat.le_of_ble_eq_true rfl⟩) hK hT hX hA hP hD hS (List.Perm.refl _) rfl hl.1 rfl (Nat.le_of_ble_eq_true rfl) dL_law_10 ⟨by show _ ≤ (741649 : Nat); omega, by show _ ≤ (6876824 : Nat); omega⟩) hP hD hS hA (List.Perm.refl _) (fun z u H locs hw hP hD hS => ?_)
  obtain ⟨ad, ap, sd, sp, ts, jj, bb, cs, hz, hok, hkd, hn1, rfl⟩ := hw
  refine lv_astore_n (lv' := [(2, .ref z), (1, .ref (a 0)), (0, .ref b)]) hx hb dL_law_13 rfl hl (by decide) rfl (fun ls hl => ?_)
  refine lv_aload_n hx hb dL_law_14 rfl (lv_at hl 0 rfl) ?_
  refine lv_ifnonnull (tgt := 20) hx hb dL_law_15 (by decide) ?_
  refine r_const hx hb dL_law_20 ?_
  refine lv_istore_n (lv' := [(3, .int (iv 0)), (2, .ref z), (1, .ref (a 0)), (0, .ref b)]) hx hb dL_law_21 rfl hl (by decide) rfl (fun ls hl => ?_)
  have hq : List.Perm (α := Nat × va_E) ((wC G a ar az ad ap ts cs ++ wSim G bb sd sp jj cs) ++ ([] : va_W)) (([] : va_W) ++ ((wC G a ar az ad ap ts cs) ++ (wSim G bb sd sp jj cs))) := wperm (fun q9 => by
    simp only [cn_app, cn_nil] <;> omega)
  replace hP := wP_perm hP hq
  replace hD := wD_perm hD hq
  subst hAe
  refine W.widen (k := 2000 + 800 * 0) (n := 9000 + 5000 * 0) (by omega) (by omega) ?_
  exact law_loop hr hlk hB 35 0 ad ap ts bb sd sp jj cs (by omega) (by omega) hz hok (by rw [hkd]; rfl) hn1 _ _ hP hD hS ls (lv_sub hl [3, 2, 1, 0] rfl)
