set_option maxHeartbeats 4000000 in
set_option maxRecDepth 100000 in
theorem c_X3_mean (l : Launch) (D : va_G) (G : Nat → ClassId) (b : Nat → Nat) (th : Int) (cs : CS) (hok : okC cs)  : MtG l yX3_mean wsX3_mean 3 125 0 0 D (TY G) [.ref (b 0)] (wMod G b th cs) (qD D (fun r u => r = meanV cs ∧ u = wMod G b 0 cs)) := by
  refine MtG.mk (cc := cX3_mean) (maxL := 3) (ret := some .double) (by decide) rfl (Nat.le_of_ble_eq_true rfl) ?_
  intro p e s m below meth c A ls hx hb hr hlk hml hown hin hts hK hA hP hD hS hl
  replace hown : s.vm.findClass RX3 = some m.cls := hown
  have hl : lv_has ls 3 [(0, .ref (b 0))] := hl
  skip
  have hP : va_P D vwCl ([(b 0, .inr (3, [.int (iv th), .int (iv (kn cs : Int)), .int (iv (kp cs : Int)), .int (iv (km cs)), .ref (b 1), .ref (b 2), .ref (b 3), .ref (b 4), .ref (b 5)])), (b 1, .inl (G 0, 144, .inl (fun y9 => iv (LL (kS cs) y9)))), (b 2, .inl (G 0, 64, .inl (fun y9 => iv (RR (kS cs) y9)))), (b 3, .inl (G 0, 48, .inl (fun y9 => iv (PP (kP cs) y9)))), (b 4, .inl (G 0, 5, .inl (fun y9 => iv (kT cs y9)))), (b 5, .inl (G 0, 1, .inl (fun y9 => iv (kk (kd cs) y9))))]) s.heap := hP
  have hD : va_D A ([(b 0, .inr (3, [.int (iv th), .int (iv (kn cs : Int)), .int (iv (kp cs : Int)), .int (iv (km cs)), .ref (b 1), .ref (b 2), .ref (b 3), .ref (b 4), .ref (b 5)])), (b 1, .inl (G 0, 144, .inl (fun y9 => iv (LL (kS cs) y9)))), (b 2, .inl (G 0, 64, .inl (fun y9 => iv (RR (kS cs) y9)))), (b 3, .inl (G 0, 48, .inl (fun y9 => iv (PP (kP cs) y9)))), (b 4, .inl (G 0, 5, .inl (fun y9 => iv (kT cs y9)))), (b 5, .inl (G 0, 1, .inl (fun y9 => iv (kk (kd cs) y9))))]) := hD
  have lk29 := hts (.fieldLink RX3 29 "DollCitadelModel" "thrown" "I") (by decide +kernel)
  have in_X3 : ∀ w ∈ u_ws RX3 TX3 9, w ∈ wsX3_mean := by decide +kernel
  have lk32 := hts (.fieldLink RX3 32 "DollCitadelModel" "dolls" "I") (by decide +kernel)
  obtain ⟨on8, op8, -, -, -, oday, omo⟩ := id hok
  refine lv_aload_n hx hb dX3_mean_0 rfl (lv_at hl 0 rfl) ?_
  refine r_const hx hb dX3_mean_1 ?_
  refine va_put (D := D) (ci := 3) (v := .int (iv 0)) (ty := .int) (C := RX3) (T := TX3) (N := 9) hx hb hts in_X3 tyX3 tyX3_ok nmX3 hown hK hP hD hS 0 rfl rfl 0 (by decide) lk29 (fun _ h9 => h9) rfl (by decide +kernel) rfl rfl (Nat.le_of_ble_eq_true rfl) dX3_mean_2 (fun H locs hP hD hS => ?_)
  have hP : va_P D vwCl ([(b 0, .inr (3, [.int (iv 0), .int (iv (kn cs : Int)), .int (iv (kp cs : Int)), .int (iv (km cs)), .ref (b 1), .ref (b 2), .ref (b 3), .ref (b 4), .ref (b 5)])), (b 1, .inl (G 0, 144, .inl (fun y9 => iv (LL (kS cs) y9)))), (b 2, .inl (G 0, 64, .inl (fun y9 => iv (RR (kS cs) y9)))), (b 3, .inl (G 0, 48, .inl (fun y9 => iv (PP (kP cs) y9)))), (b 4, .inl (G 0, 5, .inl (fun y9 => iv (kT cs y9)))), (b 5, .inl (G 0, 1, .inl (fun y9 => iv (kk (kd cs) y9))))]) H := hP
  have hD : va_D A ([(b 0, .inr (3, [.int (iv 0), .int (iv (kn cs : Int)), .int (iv (kp cs : Int)), .int (iv (km cs)), .ref (b 1), .ref (b 2), .ref (b 3), .ref (b 4), .ref (b 5)])), (b 1, .inl (G 0, 144, .inl (fun y9 => iv (LL (kS cs) y9)))), (b 2, .inl (G 0, 64, .inl (fun y9 => iv (RR (kS cs) y9)))), (b 3, .inl (G 0, 48, .inl (fun y9 => iv (PP (kP cs) y9)))), (b 4, .inl (G 0, 5, .inl (fun y9 => iv (kT cs y9)))), (b 5, .inl (G 0, 1, .inl (fun y9 => iv (kk (kd cs) y9))))]) := hD
  refine r_const hx hb dX3_mean_5 ?_
  refine lv_istore_n (lv' := [(1, .int (iv 0)), (0, .ref (b 0))]) hx hb dX3_mean_6 rfl hl (by decide) rfl (fun ls hl => ?_)
  refine r_const hx hb dX3_mean_7 ?_
  refine lv_istore_n (lv' := [(2, .int (iv 0)), (1, .int (iv 0)), (0, .ref (b 0))]) hx hb dX3_mean_8 rfl hl (by decide) rfl (fun ls hl => ?_)
  have K9 : ∀ (fu y : Nat) (x : Int), y ≤ (kn cs) → (kn cs) < y + fu → x = sm (fun e9 => sm (dW (kS cs e9)) 6) y → ∀ (H : Heap) (locs : List Loc), va_P D vwCl ([(b 0, .inr (3, [.int (iv 0), .int (iv (kn cs : Int)), .int (iv (kp cs : Int)), .int (iv (km cs)), .ref (b 1), .ref (b 2), .ref (b 3), .ref (b 4), .ref (b 5)])), (b 1, .inl (G 0, 144, .inl (fun y9 => iv (LL (kS cs) y9)))), (b 2, .inl (G 0, 64, .inl (fun y9 => iv (RR (kS cs) y9)))), (b 3, .inl (G 0, 48, .inl (fun y9 => iv (PP (kP cs) y9)))), (b 4, .inl (G 0, 5, .inl (fun y9 => iv (kT cs y9)))), (b 5, .inl (G 0, 1, .inl (fun y9 => iv (kk (kd cs) y9))))]) H → va_D A ([(b 0, .inr (3, [.int (iv 0), .int (iv (kn cs : Int)), .int (iv (kp cs : Int)), .int (iv (km cs)), .ref (b 1), .ref (b 2), .ref (b 3), .ref (b 4), .ref (b 5)])), (b 1, .inl (G 0, 144, .inl (fun y9 => iv (LL (kS cs) y9)))), (b 2, .inl (G 0, 64, .inl (fun y9 => iv (RR (kS cs) y9)))), (b 3, .inl (G 0, 48, .inl (fun y9 => iv (PP (kP cs) y9)))), (b 4, .inl (G 0, 5, .inl (fun y9 => iv (kT cs y9)))), (b 5, .inl (G 0, 1, .inl (fun y9 => iv (kk (kd cs) y9))))]) → va_S A s.heap H locs → ∀ (ls : Array Slot), lv_has ls 3 [(0, .ref (b 0)), (1, .int (iv x)), (2, .int (iv (y : Int)))] → W p l e (rmOf 3 125 0 0) s m ([.ref (b 0)] : List Value).toArray below meth c H locs 0 0 (MQ below (qD D (fun r u => r = meanV cs ∧ u = wMod G b 0 cs) A) ([.ref (b 0)] : List Value).toArray s 0 0 A) (F0 m 9 ls []) := by
    intro fu
    induction fu with
    | zero => intro y x h1 h2; exact absurd h2 (by omega)
    | succ fu ih9 =>
      intro y x hi_9 hn_9 ex H locs hP hD hS ls hl
      refine lv_iload_n hx hb dX3_mean_9 rfl (lv_at hl 2 rfl) ?_
      refine lv_aload_n hx hb dX3_mean_10 rfl (lv_at hl 0 rfl) ?_
      refine va_get (D := D) (ci := 3) (v := .int (iv (kn cs : Int))) (C := RX3) (T := TX3) (N := 9) hx hb hts in_X3 hown hK hP 0 rfl rfl 1 (by decide) lk32 (fun _ h9 => h9) rfl dX3_mean_11 ?_
      refine r_icmp_ge hx hb 31 dX3_mean_14 (by decide) (by omega) (by omega) (fun c_14 => ?_) (fun c_14 => ?_)
      · skip
        have ey : y = kn cs := by omega
        subst ey
        replace ex : x = wearAll cs := ex
        subst ex
        have rw9 := wearAll_rng hok
        refine lv_aload_n hx hb dX3_mean_31 rfl (lv_at hl 0 rfl) ?_
        refine va_get (D := D) (ci := 3) (v := .int (iv (kn cs : Int))) (C := RX3) (T := TX3) (N := 9) hx hb hts in_X3 hown hK hP 0 rfl rfl 1 (by decide) lk32 (fun _ h9 => h9) rfl dX3_mean_32 ?_
        refine r_if_ne hx hb 42 dX3_mean_35 (by decide) (by omega) (fun c_35 => ?_) (fun c_35 => ?_)
        · skip
          refine lv_iload_n hx hb dX3_mean_42 rfl (lv_at hl 1 rfl) ?_
          refine lv_i2d hx hb dX3_mean_43 ?_
          refine lv_bipush (v := iv 6) hx hb dX3_mean_44 (by decide) ?_
          refine lv_aload_n hx hb dX3_mean_46 rfl (lv_at hl 0 rfl) ?_
          refine va_get (D := D) (ci := 3) (v := .int (iv (kn cs : Int))) (C := RX3) (T := TX3) (N := 9) hx hb hts in_X3 hown hK hP 0 rfl rfl 1 (by decide) lk32 (fun _ h9 => h9) rfl dX3_mean_47 ?_
          refine r_mul hx hb dX3_mean_50 ?_
          refine lv_i2d hx hb dX3_mean_51 ?_
          refine lv_ddiv hx hb dX3_mean_52 ((qd_ok (by omega) on8 rw9).1) ?_
          exact e_dbl hx hb hr hlk dX3_mean_53 hS hP hD (by decide) (by decide) (⟨by unfold meanV; rw [if_neg (by omega)], rfl⟩)
        · skip
          refine lv_dconst0 hx hb dX3_mean_38 ?_
          refine r_goto hx hb 53 dX3_mean_39 (by decide) ?_
          exact e_dbl hx hb hr hlk dX3_mean_53 hS hP hD (by decide) (by decide) (⟨by unfold meanV; rw [if_pos (by omega)], rfl⟩)
      · skip
        refine lv_iload_n hx hb dX3_mean_17 rfl (lv_at hl 1 rfl) ?_
        refine lv_aload_n hx hb dX3_mean_18 rfl (lv_at hl 0 rfl) ?_
        refine lv_iload_n hx hb dX3_mean_19 rfl (lv_at hl 2 rfl) ?_
        have hp := wsp ([(b 0, .inr (3, [.int (iv 0), .int (iv (kn cs : Int)), .int (iv (kp cs : Int)), .int (iv (km cs)), .ref (b 1), .ref (b 2), .ref (b 3), .ref (b 4), .ref (b 5)])), (b 1, .inl (G 0, 144, .inl (fun y9 => iv (LL (kS cs) y9)))), (b 2, .inl (G 0, 64, .inl (fun y9 => iv (RR (kS cs) y9)))), (b 3, .inl (G 0, 48, .inl (fun y9 => iv (PP (kP cs) y9)))), (b 4, .inl (G 0, 5, .inl (fun y9 => iv (kT cs y9)))), (b 5, .inl (G 0, 1, .inl (fun y9 => iv (kk (kd cs) y9))))]) ([]) 6 (is := [0, 1]) (js := [2, 3, 4, 5]) (wc := [wM0 b 0 (kn cs : Int) (kp cs : Int) (km cs), wMl G b (LL (kS cs))]) (wr := [(b 2, .inl (G 0, 64, .inl (fun y9 => iv (RR (kS cs) y9)))), (b 3, .inl (G 0, 48, .inl (fun y9 => iv (PP (kP cs) y9)))), (b 4, .inl (G 0, 5, .inl (fun y9 => iv (kT cs y9)))), (b 5, .inl (G 0, 1, .inl (fun y9 => iv (kk (kd cs) y9))))]) (by decide) rfl rfl rfl
        skip
        refine k_int (g_V (As := [.int (iv (y : Int))]) (rest := [.int (iv x)]) (q0 := 0) (ci := 3) ⟨hx, hb, hml, hown, hts⟩ (c_X3_wearOf l D G b 0 (kn cs : Int) (kp cs : Int) (km cs) (kS cs) y (by omega) (kS cs y) rfl (okC_D hok (by omega))) (cwV 1 hts gX3_mean_X3_wearOf rfl rfl rfl (by decide +kernel) ⟨Nat.le_of_ble_eq_true rfl, Nat.le_of_ble_eq_true rfl⟩) hK hP hD hp rfl rfl rfl rfl hl.1 rfl (Nat.le_of_ble_eq_true rfl) dX3_mean_20 ⟨by decide, by decide⟩) hP hD hS hA hp (fun v u H locs hw hP hD hS => ?_)
        obtain ⟨hv, hu⟩ := hw
        replace hv : v = (iv (sm (dW (kS cs y)) 6)) := hv
        subst hv
        subst hu
        have hP : va_P D vwCl ([(b 0, .inr (3, [.int (iv 0), .int (iv (kn cs : Int)), .int (iv (kp cs : Int)), .int (iv (km cs)), .ref (b 1), .ref (b 2), .ref (b 3), .ref (b 4), .ref (b 5)])), (b 1, .inl (G 0, 144, .inl (fun y9 => iv (LL (kS cs) y9)))), (b 2, .inl (G 0, 64, .inl (fun y9 => iv (RR (kS cs) y9)))), (b 3, .inl (G 0, 48, .inl (fun y9 => iv (PP (kP cs) y9)))), (b 4, .inl (G 0, 5, .inl (fun y9 => iv (kT cs y9)))), (b 5, .inl (G 0, 1, .inl (fun y9 => iv (kk (kd cs) y9))))]) H := hP
        have hD : va_D A ([(b 0, .inr (3, [.int (iv 0), .int (iv (kn cs : Int)), .int (iv (kp cs : Int)), .int (iv (km cs)), .ref (b 1), .ref (b 2), .ref (b 3), .ref (b 4), .ref (b 5)])), (b 1, .inl (G 0, 144, .inl (fun y9 => iv (LL (kS cs) y9)))), (b 2, .inl (G 0, 64, .inl (fun y9 => iv (RR (kS cs) y9)))), (b 3, .inl (G 0, 48, .inl (fun y9 => iv (PP (kP cs) y9)))), (b 4, .inl (G 0, 5, .inl (fun y9 => iv (kT cs y9)))), (b 5, .inl (G 0, 1, .inl (fun y9 => iv (kk (kd cs) y9))))]) := hD
        refine r_add hx hb dX3_mean_23 ?_
        refine lv_istore_n (lv' := [(1, .int (iv (x + (sm (dW (kS cs y)) 6)))), (0, .ref (b 0)), (2, .int (iv (y : Int)))]) hx hb dX3_mean_24 rfl hl (by decide) rfl (fun ls hl => ?_)
        refine r_iinc (k := 2) (lv' := [(2, .int (iv ((y : Int) + 1))), (1, .int (iv (x + (sm (dW (kS cs y)) 6)))), (0, .ref (b 0))]) hx hb dX3_mean_25 hl rfl (by decide) rfl (fun ls hl => ?_)
        refine r_goto hx hb 9 dX3_mean_28 (by decide) ?_
        exact ih9 (y + 1) (x + (sm (dW (kS cs y)) 6)) (by omega) (by omega) (sm_s ex rfl) _ _ hP hD hS _ (lv_sub hl [2, 1, 0] rfl)
  exact K9 (kn cs + 1) 0 0 (by omega) (by omega) rfl _ _ hP hD hS _ (lv_sub hl [2, 1, 0] rfl)
