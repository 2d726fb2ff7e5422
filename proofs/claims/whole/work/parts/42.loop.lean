-- THE LAW'S LOOP
theorem and31 (x : Int32) : ∃ k : Nat, k < 32 ∧ x &&& iv 31 = iv (k : Int) := by
  have h : ∀ y : UInt32, (y &&& 31) < 32 := fun y => by
    rw [UInt32.lt_iff_toNat_lt, UInt32.toNat_and]
    exact Nat.lt_of_le_of_lt Nat.and_le_right (by decide)
  have h2 := h x.toUInt32
  refine ⟨(x.toUInt32 &&& 31).toNat, UInt32.lt_iff_toNat_lt.mp h2, ?_⟩
  have e1 : x &&& iv 31 = (x.toUInt32 &&& 31).toInt32 := rfl
  rw [e1]
  generalize x.toUInt32 &&& 31 = y at h2 ⊢
  have h3 : y.toNat < 32 := UInt32.lt_iff_toNat_lt.mp h2
  have h4 : ∀ k : Nat, k < 32 → (UInt32.ofNat k).toInt32 = iv (k : Int) := by decide +kernel
  have h5 := h4 y.toNat h3
  rw [UInt32.ofNat_toNat] at h5
  exact h5
set_option maxHeartbeats 4000000 in
set_option maxRecDepth 100000 in
theorem law_loop {p : Program} {l : Launch} {e : Env} {s : State} {m : MethodId} {below : List Frame} {meth : Method} {c : Code} {D : va_G} {G : Nat → ClassId} {b L : Nat} {xs : Nat → Int32} (hr : meth.sig.returnType = ret) (hlocks : meth.locks = false) (hB : LB p l s m meth c D G b L xs (fun q => s.heap.size ≤ q)) {a ar az mb : Nat → Nat} {w : Nat} : ∀ (fu i : Nat) (th : Int) (cs : CS) (ad ap : AD) (ts : DS) (F : Nat → Int64), i ≤ 512 → 513 ≤ i + fu → okC cs → kd cs ≤ 60 * (i : Int) → ∀ (H : Heap) (locs : List Loc), va_P D vwCl (wOut G w F ++ (wMod G mb th cs ++ wC G a ar az ad ap ts cs)) H → va_D (fun q => s.heap.size ≤ q) (wOut G w F ++ (wMod G mb th cs ++ wC G a ar az ad ap ts cs)) → va_S (fun q => s.heap.size ≤ q) s.heap H locs → ∀ (ls : Array Slot), lv_has ls 9 [(0, .ref b), (1, .ref (a 0)), (2, .ref (mb 0)), (3, .ref w), (4, .int (iv ((7 * i : Nat) : Int)))] → W p l e room_1 s m #[Value.ref b] below meth c H locs (100 + 10 * i) (1000 + 250 * i) (lw_Z below #[Value.ref b] s) (F0 m 23 ls []) := by
  intro fu
  induction fu with
  | zero => intro i th cs ad ap ts F h1 h2; exact absurd h2 (by omega)
  | succ fu ih =>
    intro i th cs ad ap ts F h1 h2 hok hkd H locs hP hD hS ls hl
    obtain ⟨hx, hb, hml, hown, hts, hK, hT, hN, hA, hX, hbl, hbA, hL, hl0⟩ := id hB
    refine lv_iload hx hb dL_law_23 (lv_at hl 4 rfl) ?_
    refine lv_aload_n hx hb dL_law_25 rfl (lv_at hl 0 rfl) ?_
    refine va_slen hx hb hX hbl hbA hS dL_law_26 ?_
    rw [show Int32.ofNat L = iv (L : Int) from rfl]
    refine lv_bipush (v := iv 7) hx hb dL_law_27 (by decide) ?_
    refine r_sub hx hb dL_law_29 ?_
    refine r_icmp_gt hx hb 1387 dL_law_30 (by decide) (by omega) (by omega) (fun c_30 => ?_) (fun c_30 => ?_)
    · refine r_const hx hb dL_law_1387 ?_
      refine va_forget (fun q hq => hS.2.2 q hq) ?_
      refine W.widen (k := 601024) (n := 7293034) (by omega) (by omega) ?_
      exact lw_ret (d0 := s.drawn) (Drawn.sameBut.refl s.drawn lw_cs) hx hb hr hlocks dL_law_1388
    · have hi : 7 * i + 7 ≤ L := by omega
      have hdl : kd cs ≤ 1000000 := by omega
      have hc1 : 100 + 10 * i + 10 ≤ room_1.cells := by show _ ≤ 601024; omega
      have hc2 : 1000 + 250 * i + 250 ≤ room_1.slots := by show _ ≤ 7293034; omega
      have back : ∀ (th : Int) (cs2 : CS) (ad ap : AD) (ts : DS) (F : Nat → Int64) (H : Heap) (locs : List Loc), va_P D vwCl (wOut G w F ++ (wMod G mb th cs2 ++ wC G a ar az ad ap ts cs2)) H → va_D (fun q => s.heap.size ≤ q) (wOut G w F ++ (wMod G mb th cs2 ++ wC G a ar az ad ap ts cs2)) → va_S (fun q => s.heap.size ≤ q) s.heap H locs → ∀ (ls : Array Slot), lv_has ls 9 [(0, .ref b), (1, .ref (a 0)), (2, .ref (mb 0)), (3, .ref w), (4, .int (iv ((7 * i : Nat) : Int)))] → okC cs2 → kd cs2 ≤ kd cs + 60 → W p l e room_1 s m #[Value.ref b] below meth c H locs (100 + 10 * i + 10) (1000 + 250 * i + 250) (lw_Z below #[Value.ref b] s) (F0 m 1381 ls []) := by
        intro th cs2 ad ap ts F H locs hP hD hS ls hl hok hkd
        refine r_iinc (k := 4) (lv' := [(4, .int (iv (((7 * i : Nat) : Int) + 7))), (0, .ref b), (1, .ref (a 0)), (2, .ref (mb 0)), (3, .ref w)]) hx hb dL_law_1381 hl rfl (by decide) rfl (fun ls hl => ?_)
        refine r_goto hx hb 23 dL_law_1384 (by decide) ?_
        rw [show ((7 * i : Nat) : Int) + 7 = ((7 * (i + 1) : Nat) : Int) by omega] at hl
        rw [show 100 + 10 * i + 10 = 100 + 10 * (i + 1) by omega, show 1000 + 250 * i + 250 = 1000 + 250 * (i + 1) by omega]
        exact ih (i + 1) th cs2 ad ap ts F (by omega) (by omega) hok (by omega) H locs hP hD hS ls (lv_sub hl [1, 2, 3, 4, 0] rfl)
      refine lv_aload_n hx hb dL_law_33 rfl (lv_at hl 0 rfl) ?_
      refine lv_iload hx hb dL_law_34 (lv_at hl 4 rfl) ?_
      refine r_sld hx hb hX hbl hbA hS (7 * i) (by omega) (by omega) hL dL_law_36 ?_
      refine lv_bipush (v := iv 31) hx hb dL_law_37 (by decide) ?_
      refine lv_iand hx hb dL_law_39 ?_
      obtain ⟨kx, hkx, ekx⟩ := and31 (iv (xs (7 * i)).toInt)
      rw [ekx]
      rcases (show kx = 0 ∨ kx = 1 ∨ kx = 2 ∨ kx = 3 ∨ kx = 4 ∨ kx = 5 ∨ kx = 6 ∨ kx = 7 ∨ kx = 8 ∨ kx = 9 ∨ kx = 10 ∨ kx = 11 ∨ kx = 12 ∨ kx = 13 ∨ kx = 14 ∨ kx = 15 ∨ kx = 16 ∨ kx = 17 ∨ kx = 18 ∨ kx = 19 ∨ 20 ≤ kx by omega) with rfl | rfl | rfl | rfl | rfl | rfl | rfl | rfl | rfl | rfl | rfl | rfl | rfl | rfl | rfl | rfl | rfl | rfl | rfl | rfl | hbig
      · exact lv_tableIn (off := 96) (tgt := 136) hx hb dL_law_40 (by decide) (by decide) (by decide) (by decide) (k_law_make hB hi hok hdl hc1 hc2 hP hD hS hl back)
      · exact lv_tableIn (off := 140) (tgt := 180) hx hb dL_law_40 (by decide) (by decide) (by decide) (by decide) (k_law_pose hB hi hok hdl hc1 hc2 hP hD hS hl back)
      · exact lv_tableIn (off := 258) (tgt := 298) hx hb dL_law_40 (by decide) (by decide) (by decide) (by decide) (k_law_take hB hi hok hdl hc1 hc2 hP hD hS hl back)
      · exact lv_tableIn (off := 326) (tgt := 366) hx hb dL_law_40 (by decide) (by decide) (by decide) (by decide) (k_law_blink hB hi hok hdl hc1 hc2 hP hD hS hl back)
      · exact lv_tableIn (off := 401) (tgt := 441) hx hb dL_law_40 (by decide) (by decide) (by decide) (by decide) (k_law_dress hB hi hok hdl hc1 hc2 hP hD hS hl back)
      · exact lv_tableIn (off := 481) (tgt := 521) hx hb dL_law_40 (by decide) (by decide) (by decide) (by decide) (k_law_bring hB hi hok hdl hc1 hc2 hP hD hS hl back)
      · exact lv_tableIn (off := 549) (tgt := 589) hx hb dL_law_40 (by decide) (by decide) (by decide) (by decide) (k_law_setMoths hB hi hok hdl hc1 hc2 hP hD hS hl back)
      · exact lv_tableIn (off := 605) (tgt := 645) hx hb dL_law_40 (by decide) (by decide) (by decide) (by decide) (k_law_mend hB hi hok hdl hc1 hc2 hP hD hS hl back)
      · exact lv_tableIn (off := 685) (tgt := 725) hx hb dL_law_40 (by decide) (by decide) (by decide) (by decide) (k_law_joint hB hi hok hdl hc1 hc2 hP hD hS hl back)
      · exact lv_tableIn (off := 765) (tgt := 805) hx hb dL_law_40 (by decide) (by decide) (by decide) (by decide) (k_law_doll hB hi hok hdl hc1 hc2 hP hD hS hl back)
      · exact lv_tableIn (off := 833) (tgt := 873) hx hb dL_law_40 (by decide) (by decide) (by decide) (by decide) (k_law_count hB hi hok hdl hc1 hc2 hP hD hS hl back)
      · exact lv_tableIn (off := 889) (tgt := 929) hx hb dL_law_40 (by decide) (by decide) (by decide) (by decide) (k_law_costs hB hi hok hdl hc1 hc2 hP hD hS hl back)
      · exact lv_tableIn (off := 957) (tgt := 997) hx hb dL_law_40 (by decide) (by decide) (by decide) (by decide) (k_law_often hB hi hok hdl hc1 hc2 hP hD hS hl back)
      · exact lv_tableIn (off := 1025) (tgt := 1065) hx hb dL_law_40 (by decide) (by decide) (by decide) (by decide) (k_law_needs hB hi hok hdl hc1 hc2 hP hD hS hl back)
      · exact lv_tableIn (off := 1093) (tgt := 1133) hx hb dL_law_40 (by decide) (by decide) (by decide) (by decide) (k_law_lacks hB hi hok hdl hc1 hc2 hP hD hS hl back)
      · exact lv_tableIn (off := 1149) (tgt := 1189) hx hb dL_law_40 (by decide) (by decide) (by decide) (by decide) (k_law_worst hB hi hok hdl hc1 hc2 hP hD hS hl back)
      · exact lv_tableIn (off := 1162) (tgt := 1202) hx hb dL_law_40 (by decide) (by decide) (by decide) (by decide) (k_law_foresee hB hi hok hdl hc1 hc2 hP hD hS hl back)
      · exact lv_tableIn (off := 1230) (tgt := 1270) hx hb dL_law_40 (by decide) (by decide) (by decide) (by decide) (k_law_pass hB hi hok hdl hc1 hc2 hP hD hS hl back)
      · exact lv_tableIn (off := 1286) (tgt := 1326) hx hb dL_law_40 (by decide) (by decide) (by decide) (by decide) (k_law_mean hB hi hok hdl hc1 hc2 hP hD hS hl back)
      · exact lv_tableIn (off := 1327) (tgt := 1367) hx hb dL_law_40 (by decide) (by decide) (by decide) (by decide) (k_law_digest hB hi hok hdl hc1 hc2 hP hD hS hl back)
      · refine lv_tableOut (tgt := 1381) hx hb dL_law_40 (Or.inr (by rw [iv_toInt (by omega)]; omega)) (by decide) ?_
        exact W.widen (by omega) (by omega) (back th cs ad ap ts F H locs hP hD hS ls hl hok (by omega))
set_option maxHeartbeats 4000000 in
set_option maxRecDepth 100000 in
theorem whole_start {p : Program} {e : Env} {s : State} {m : MethodId} {below : List Frame} {meth : Method} {c : Code} (l : Launch) (hflags : l.flags = flags0) {b L : Nat} {xs : Nat → Int32} (hL : L ≤ 3584) (C0 : lw_At p s m meth c b L xs) : W p l e room_1 s m #[Value.ref b] below meth c s.heap [] 0 0 (lw_Z below #[Value.ref b] s) (entryFrame m ([Value.ref b] : List Value).toArray 9) := by
  have hl0 : l.stackTraces = false := by unfold Launch.stackTraces; rw [hflags]; decide +kernel
  obtain ⟨D, G, hB⟩ := law_facts hL hl0 C0
  obtain ⟨hx, hb, hml, hown, hts, hK, hT, hN, hA, hX, hbl, hbA, -, -⟩ := id hB
  have hr := C0.2.2.1
  have hlk := C0.2.2.2.2.2.2.2.2.1
  generalize hAe : (fun q => s.heap.size ≤ q : Nat → Prop) = A at hT hA hbA
  have hS : va_S A s.heap s.heap [] := va_S.rf
  have hP : va_P D vwCl [] s.heap := fun k q h => by simp at h
  have hD : va_D A [] := ⟨fun i j p q h => by simp at h, fun k q h => by simp at h⟩
  have hl := lv_entry ([.ref b]) (n := 9) (Nat.le_of_ble_eq_true rfl)
  rw [lg_entry_eq]
  generalize (lg_sl ([.ref b]) ++ List.replicate (9 - (lg_sl ([.ref b])).length) Slot.unset).toArray = ls at hl ⊢
  have hl : lv_has ls 9 [(0, .ref b)] := hl
  refine va_new (fs := [.null, .null, .null, .null, .null, .int (iv 0), .int (iv 0), .int (iv 0), .int (iv 0)]) (T := TX2) (ci := 2) hx hb hts (by decide +kernel : ∀ w ∈ u_ws RX2 TX2 9, w ∈ wsL_law) tyX2 tyX2_ok hown (hts (.classLink RL 8 RX2) (by decide +kernel)) (hts (.instantiable RX2 9) (by decide +kernel)) (hts (.initialized RX2) (by decide +kernel)) hK hP hD hS hA rfl (by decide +kernel) (by decide) (by decide) dL_law_0 (fun q1 H hP hD hS => ?_)
  have hP : va_P D vwCl [(q1, .inr (2, [.null, .null, .null, .null, .null, .int (iv 0), .int (iv 0), .int (iv 0), .int (iv 0)]))] H := hP
  have hD : va_D A [(q1, .inr (2, [.null, .null, .null, .null, .null, .int (iv 0), .int (iv 0), .int (iv 0), .int (iv 0)]))] := hD
  refine lv_dup hx hb dL_law_3 rfl ?_
  have hp : List.Perm [(q1, (.inr (2, [.null, .null, .null, .null, .null, .int (iv 0), .int (iv 0), .int (iv 0), .int (iv 0)]) : va_E))] ([(q1, .inr (2, [.null, .null, .null, .null, .null, .int (iv 0), .int (iv 0), .int (iv 0), .int (iv 0)]))] ++ []) := List.Perm.refl _
  refine k_void (g_IT (As := []) (rest := [.ref q1]) ⟨hx, hb, hml, hown, hts⟩ (c_X2_init l D G q1) (cwI 0 hts gL_law_X2_init rfl rfl rfl (hts (.initialized RX2) (by decide +kernel)) (hts (.methodLink RL 72 yX2_init) (by decide +kernel)) (hts (.instanceMethod yX2_init) (by decide +kernel)) rfl (by decide +kernel) ⟨Nat.le_of_ble_eq_true rfl, Nat.le_of_ble_eq_true rfl⟩) hK hT hA hP hD hS hp rfl hl.1 rfl (Nat.le_of_ble_eq_true rfl) dL_law_4 ⟨by decide, by decide⟩) hP hD hS hA hp (fun u H locs hw hP hD hS => ?_)
  obtain ⟨a, ar, az, ad, ap, ts, rfl, rfl⟩ := hw
  rw [List.append_nil] at hP hD
  refine lv_astore_n (lv' := [(1, .ref (a 0)), (0, .ref b)]) hx hb dL_law_7 rfl hl (by decide) rfl (fun ls hl => ?_)
  refine va_new (fs := [.int (iv 0), .int (iv 0), .int (iv 0), .int (iv 0), .null, .null, .null, .null, .null]) (T := TX3) (ci := 3) hx hb hts (by decide +kernel : ∀ w ∈ u_ws RX3 TX3 9, w ∈ wsL_law) tyX3 tyX3_ok hown (hts (.classLink RL 73 RX3) (by decide +kernel)) (hts (.instantiable RX3 9) (by decide +kernel)) (hts (.initialized RX3) (by decide +kernel)) hK hP hD hS hA rfl (by decide +kernel) (by decide) (by decide) dL_law_8 (fun q2 H hP hD hS => ?_)
  refine lv_dup hx hb dL_law_11 rfl ?_
  have hp : List.Perm (wC G a ar az ad ap ts c0 ++ [(q2, (.inr (3, [.int (iv 0), .int (iv 0), .int (iv 0), .int (iv 0), .null, .null, .null, .null, .null]) : va_E))]) ([(q2, .inr (3, [.int (iv 0), .int (iv 0), .int (iv 0), .int (iv 0), .null, .null, .null, .null, .null]))] ++ wC G a ar az ad ap ts c0) := List.perm_append_comm
  refine k_void (g_I (As := []) (rest := [.ref q2]) ⟨hx, hb, hml, hown, hts⟩ (c_X3_init l D G q2) (cwI 0 hts gL_law_X3_init rfl rfl rfl (hts (.initialized RX3) (by decide +kernel)) (hts (.methodLink RL 75 yX3_init) (by decide +kernel)) (hts (.instanceMethod yX3_init) (by decide +kernel)) rfl (by decide +kernel) ⟨Nat.le_of_ble_eq_true rfl, Nat.le_of_ble_eq_true rfl⟩) hK hP hD hp rfl hl.1 rfl (Nat.le_of_ble_eq_true rfl) dL_law_12 ⟨by decide, by decide⟩) hP hD hS hA hp (fun u H locs hw hP hD hS => ?_)
  obtain ⟨mb, rfl, rfl⟩ := hw
  refine lv_astore_n (lv' := [(2, .ref (mb 0)), (1, .ref (a 0)), (0, .ref b)]) hx hb dL_law_15 rfl hl (by decide) rfl (fun ls hl => ?_)
  refine r_const hx hb dL_law_16 ?_
  refine r_newJ hx hb (hts (.arrayClass .long) (by decide +kernel)) hK hP hD hS hA 1 (by omega) (by omega) (by decide) (by decide) dL_law_17 (fun w H hP hD hS => ?_)
  refine lv_astore_n (lv' := [(3, .ref w), (2, .ref (mb 0)), (1, .ref (a 0)), (0, .ref b)]) hx hb dL_law_19 rfl hl (by decide) rfl (fun ls hl => ?_)
  refine r_const hx hb dL_law_20 ?_
  refine lv_istore (lv' := [(4, .int (iv 0)), (3, .ref w), (2, .ref (mb 0)), (1, .ref (a 0)), (0, .ref b)]) hx hb dL_law_21 hl (by decide) rfl (fun ls hl => ?_)
  replace hP := wP_perm hP List.perm_append_comm
  replace hD := wD_perm hD List.perm_append_comm
  subst hAe
  refine W.widen (k := 100 + 10 * 0) (n := 1000 + 250 * 0) (by decide) (by decide) ?_
  exact law_loop hr hlk hB 513 0 0 c0 ad ap ts _ (by omega) (by omega) c0_ok (by decide) _ _ hP hD hS ls (lv_sub hl [4, 3, 2, 1, 0] rfl)
