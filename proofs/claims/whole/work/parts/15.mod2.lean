set_option maxHeartbeats 4000000 in
set_option maxRecDepth 100000 in
theorem c_X3_turn (l : Launch) (D : va_G) (G : Nat → ClassId) (b : Nat → Nat) (th n np mo : Int) (S : Nat → DS) (d : Nat) (hd : d < 8) (ds : DS) (hSd : S d = ds) (hok : okD ds) (j : Nat) (hj : j < 6) (t : Int) (ht : 0 ≤ t ∧ t ≤ 90) (hnb : dW ds j < 100 ∨ dA ds j = t)  : MtG l yX3_turn wsX3_turn 3 125 0 0 D (TY G) [.ref (b 0), .int (iv (d : Int)), .int (iv (j : Int)), .int (iv t)] ([wM0 b th n np mo, wMl G b (LL S)]) (qI D (fun r u => r = iv (b2i (brk ds j t)) ∧ u = [wM0 b th n np mo, wMl G b (LL (updS S d (turn1 (fun _ => t) j ds)))])) := by
  refine MtG.mk (cc := cX3_turn) (maxL := 6) (ret := some .boolean) (by decide) rfl (Nat.le_of_ble_eq_true rfl) ?_
  intro p e s m below meth c A ls hx hb hr hlk hml hown hin hts hK hA hP hD hS hl
  replace hown : s.vm.findClass RX3 = some m.cls := hown
  have hl : lv_has ls 6 [(0, .ref (b 0)), (1, .int (iv (d : Int))), (2, .int (iv (j : Int))), (3, .int (iv t))] := hl
  skip
  have hP : va_P D vwCl ([(b 0, .inr (3, [.int (iv th), .int (iv n), .int (iv np), .int (iv mo), .ref (b 1), .ref (b 2), .ref (b 3), .ref (b 4), .ref (b 5)])), (b 1, .inl (G 0, 144, .inl (fun y9 => iv (LL S y9))))]) s.heap := hP
  have hD : va_D A ([(b 0, .inr (3, [.int (iv th), .int (iv n), .int (iv np), .int (iv mo), .ref (b 1), .ref (b 2), .ref (b 3), .ref (b 4), .ref (b 5)])), (b 1, .inl (G 0, 144, .inl (fun y9 => iv (LL S y9))))]) := hD
  have lk13 := hts (.fieldLink RX3 13 "DollCitadelModel" "limbs" "[I") (by decide +kernel)
  have in_X3 : ∀ w ∈ u_ws RX3 TX3 9, w ∈ wsX3_turn := by decide +kernel
  have rA := okD_A hok j hj
  have rW := okD_W hok j hj
  have rQ := okD_Q hok j hj
  refine lv_aload_n hx hb dX3_turn_0 rfl (lv_at hl 0 rfl) ?_
  refine lv_iload_n hx hb dX3_turn_1 rfl (lv_at hl 1 rfl) ?_
  refine lv_iload_n hx hb dX3_turn_2 rfl (lv_at hl 2 rfl) ?_
  refine r_const hx hb dX3_turn_3 ?_
  have hp := wsp ([(b 0, .inr (3, [.int (iv th), .int (iv n), .int (iv np), .int (iv mo), .ref (b 1), .ref (b 2), .ref (b 3), .ref (b 4), .ref (b 5)])), (b 1, .inl (G 0, 144, .inl (fun y9 => iv (LL S y9))))]) ([]) 2 (is := [0, 1]) (js := []) (wc := [wM0 b th n np mo, wMl G b (LL S)]) (wr := []) (by decide) rfl rfl rfl
  skip
  refine k_int (g_V (As := [.int (iv (d : Int)), .int (iv (j : Int)), .int (iv 0)]) (rest := []) (q0 := 0) (ci := 3) ⟨hx, hb, hml, hown, hts⟩ (c_X3_li l D G b th n np mo (LL S) d j 0 (by omega) (by omega) (by omega) (dA ds j) (by rw [LL_at S (by omega) (by omega), hSd]; rfl)) (cwV 3 hts gX3_turn_X3_li rfl rfl rfl (by decide +kernel) ⟨Nat.le_of_ble_eq_true rfl, Nat.le_of_ble_eq_true rfl⟩) hK hP hD hp rfl rfl rfl rfl hl.1 rfl (Nat.le_of_ble_eq_true rfl) dX3_turn_4 ⟨by decide, by decide⟩) hP hD hS hA hp (fun v u H locs hw hP hD hS => ?_)
  obtain ⟨hv, hu⟩ := hw
  replace hv : v = (iv (dA ds j)) := hv
  subst hv
  subst hu
  have hP : va_P D vwCl ([(b 0, .inr (3, [.int (iv th), .int (iv n), .int (iv np), .int (iv mo), .ref (b 1), .ref (b 2), .ref (b 3), .ref (b 4), .ref (b 5)])), (b 1, .inl (G 0, 144, .inl (fun y9 => iv (LL S y9))))]) H := hP
  have hD : va_D A ([(b 0, .inr (3, [.int (iv th), .int (iv n), .int (iv np), .int (iv mo), .ref (b 1), .ref (b 2), .ref (b 3), .ref (b 4), .ref (b 5)])), (b 1, .inl (G 0, 144, .inl (fun y9 => iv (LL S y9))))]) := hD
  refine lv_iload_n hx hb dX3_turn_7 rfl (lv_at hl 3 rfl) ?_
  refine r_sub hx hb dX3_turn_8 ?_
  refine r_abs hx hb (hml.trans hl.1.symm) hown (hts (.methodLink RX3 59 Lib.Math.abs.name) (by decide +kernel)) (hts (.static Lib.Math.abs.name) (by decide +kernel)) (hts (.initialized "java/lang/Math") (by decide +kernel)) (hts (.code Lib.Math.abs.name Lib.Math.abs.code 1 (some .int)) (by decide +kernel)) (Nat.le_of_ble_eq_true rfl) (Nat.le_of_ble_eq_true rfl) (Nat.le_of_ble_eq_true rfl) (Nat.le_of_ble_eq_true rfl) (by omega) dX3_turn_9 ?_
  refine lv_istore (lv' := [(4, .int (iv (max ((dA ds j) - t) (-((dA ds j) - t))))), (0, .ref (b 0)), (1, .int (iv (d : Int))), (2, .int (iv (j : Int))), (3, .int (iv t))]) hx hb dX3_turn_12 hl (by decide) rfl (fun ls hl => ?_)
  refine lv_iload hx hb dX3_turn_14 (lv_at hl 0 rfl) ?_
  refine r_if_ne hx hb 21 dX3_turn_16 (by decide) (by omega) (fun c_16 => ?_) (fun c_16 => ?_)
  · skip
    refine lv_aload_n hx hb dX3_turn_21 rfl (lv_at hl 1 rfl) ?_
    refine lv_iload_n hx hb dX3_turn_22 rfl (lv_at hl 2 rfl) ?_
    refine lv_iload_n hx hb dX3_turn_23 rfl (lv_at hl 3 rfl) ?_
    refine r_const hx hb dX3_turn_24 ?_
    have hp := wsp ([(b 0, .inr (3, [.int (iv th), .int (iv n), .int (iv np), .int (iv mo), .ref (b 1), .ref (b 2), .ref (b 3), .ref (b 4), .ref (b 5)])), (b 1, .inl (G 0, 144, .inl (fun y9 => iv (LL S y9))))]) ([]) 2 (is := [0, 1]) (js := []) (wc := [wM0 b th n np mo, wMl G b (LL S)]) (wr := []) (by decide) rfl rfl rfl
    skip
    refine k_int (g_V (As := [.int (iv (d : Int)), .int (iv (j : Int)), .int (iv 2)]) (rest := []) (q0 := 0) (ci := 3) ⟨hx, hb, hml, hown, hts⟩ (c_X3_li l D G b th n np mo (LL S) d j 2 (by omega) (by omega) (by omega) (dQ ds j) (by rw [LL_at S (by omega) (by omega), hSd]; rfl)) (cwV 3 hts gX3_turn_X3_li rfl rfl rfl (by decide +kernel) ⟨Nat.le_of_ble_eq_true rfl, Nat.le_of_ble_eq_true rfl⟩) hK hP hD hp rfl rfl rfl rfl hl.1 rfl (Nat.le_of_ble_eq_true rfl) dX3_turn_25 ⟨by decide, by decide⟩) hP hD hS hA hp (fun v u H locs hw hP hD hS => ?_)
    obtain ⟨hv, hu⟩ := hw
    replace hv : v = (iv (dQ ds j)) := hv
    subst hv
    subst hu
    have hP : va_P D vwCl ([(b 0, .inr (3, [.int (iv th), .int (iv n), .int (iv np), .int (iv mo), .ref (b 1), .ref (b 2), .ref (b 3), .ref (b 4), .ref (b 5)])), (b 1, .inl (G 0, 144, .inl (fun y9 => iv (LL S y9))))]) H := hP
    have hD : va_D A ([(b 0, .inr (3, [.int (iv th), .int (iv n), .int (iv np), .int (iv mo), .ref (b 1), .ref (b 2), .ref (b 3), .ref (b 4), .ref (b 5)])), (b 1, .inl (G 0, 144, .inl (fun y9 => iv (LL S y9))))]) := hD
    refine r_if_le hx hb 35 dX3_turn_28 (by decide) (by omega) (fun c_28 => ?_) (fun c_28 => ?_)
    · skip
      refine r_const hx hb dX3_turn_35 ?_
      refine lv_istore (lv' := [(5, .int (iv 0)), (4, .int (iv (max ((dA ds j) - t) (-((dA ds j) - t))))), (0, .ref (b 0)), (1, .int (iv (d : Int))), (2, .int (iv (j : Int))), (3, .int (iv t))]) hx hb dX3_turn_36 hl (by decide) rfl (fun ls hl => ?_)
      refine lv_aload_n hx hb dX3_turn_38 rfl (lv_at hl 2 rfl) ?_
      refine va_get (D := D) (ci := 3) (v := .ref (b 1)) (C := RX3) (T := TX3) (N := 9) hx hb hts in_X3 hown hK hP 0 rfl rfl 4 (by decide) lk13 (fun _ h9 => h9) rfl dX3_turn_39 ?_
      refine lv_iload_n hx hb dX3_turn_42 rfl (lv_at hl 3 rfl) ?_
      refine lv_iload_n hx hb dX3_turn_43 rfl (lv_at hl 4 rfl) ?_
      refine r_const hx hb dX3_turn_44 ?_
      have hp := wsp ([(b 0, .inr (3, [.int (iv th), .int (iv n), .int (iv np), .int (iv mo), .ref (b 1), .ref (b 2), .ref (b 3), .ref (b 4), .ref (b 5)])), (b 1, .inl (G 0, 144, .inl (fun y9 => iv (LL S y9))))]) ([]) 2 (is := []) (js := [0, 1]) (wc := []) (wr := [(b 0, .inr (3, [.int (iv th), .int (iv n), .int (iv np), .int (iv mo), .ref (b 1), .ref (b 2), .ref (b 3), .ref (b 4), .ref (b 5)])), (b 1, .inl (G 0, 144, .inl (fun y9 => iv (LL S y9))))]) (by decide) rfl rfl rfl
      skip
      refine k_int (g_S (As := [.int (iv (d : Int)), .int (iv (j : Int)), .int (iv 0)]) (rest := [.ref (b 1)]) ⟨hx, hb, hml, hown, hts⟩ (c_X3_at l D G d j 0) (va_cwS 3 hts gX3_turn_X3_at rfl rfl rfl (by decide +kernel) ⟨Nat.le_of_ble_eq_true rfl, Nat.le_of_ble_eq_true rfl⟩) hK hP hD hp rfl hl.1 rfl (Nat.le_of_ble_eq_true rfl) dX3_turn_45 ⟨by decide, by decide⟩) hP hD hS hA hp (fun v u H locs hw hP hD hS => ?_)
      obtain ⟨hv, hu⟩ := hw
      replace hv : v = (iv ((3 * (6 * d + j) + 0 : Nat) : Int)) := hv
      subst hv
      subst hu
      have hP : va_P D vwCl ([(b 0, .inr (3, [.int (iv th), .int (iv n), .int (iv np), .int (iv mo), .ref (b 1), .ref (b 2), .ref (b 3), .ref (b 4), .ref (b 5)])), (b 1, .inl (G 0, 144, .inl (fun y9 => iv (LL S y9))))]) H := hP
      have hD : va_D A ([(b 0, .inr (3, [.int (iv th), .int (iv n), .int (iv np), .int (iv mo), .ref (b 1), .ref (b 2), .ref (b 3), .ref (b 4), .ref (b 5)])), (b 1, .inl (G 0, 144, .inl (fun y9 => iv (LL S y9))))]) := hD
      refine lv_iload_n hx hb dX3_turn_48 rfl (lv_at hl 5 rfl) ?_
      refine r_iast (F := LL S) hx hb hK hP hD hS 1 0 rfl rfl (3 * (6 * d + j) + 0) (by omega) (by omega) (by decide) dX3_turn_49 (fun H locs hP hD hS => ?_)
      have hP : va_P D vwCl ([(b 0, .inr (3, [.int (iv th), .int (iv n), .int (iv np), .int (iv mo), .ref (b 1), .ref (b 2), .ref (b 3), .ref (b 4), .ref (b 5)])), (b 1, .inl (G 0, 144, .inl (fun y9 => iv (updI (LL S) (3 * (6 * d + j) + 0) t y9))))]) H := hP
      have hD : va_D A ([(b 0, .inr (3, [.int (iv th), .int (iv n), .int (iv np), .int (iv mo), .ref (b 1), .ref (b 2), .ref (b 3), .ref (b 4), .ref (b 5)])), (b 1, .inl (G 0, 144, .inl (fun y9 => iv (updI (LL S) (3 * (6 * d + j) + 0) t y9))))]) := hD
      refine lv_aload_n hx hb dX3_turn_50 rfl (lv_at hl 2 rfl) ?_
      refine va_get (D := D) (ci := 3) (v := .ref (b 1)) (C := RX3) (T := TX3) (N := 9) hx hb hts in_X3 hown hK hP 0 rfl rfl 4 (by decide) lk13 (fun _ h9 => h9) rfl dX3_turn_51 ?_
      refine lv_iload_n hx hb dX3_turn_54 rfl (lv_at hl 3 rfl) ?_
      refine lv_iload_n hx hb dX3_turn_55 rfl (lv_at hl 4 rfl) ?_
      refine r_const hx hb dX3_turn_56 ?_
      have hp := wsp ([(b 0, .inr (3, [.int (iv th), .int (iv n), .int (iv np), .int (iv mo), .ref (b 1), .ref (b 2), .ref (b 3), .ref (b 4), .ref (b 5)])), (b 1, .inl (G 0, 144, .inl (fun y9 => iv (updI (LL S) (3 * (6 * d + j) + 0) t y9))))]) ([]) 2 (is := []) (js := [0, 1]) (wc := []) (wr := [(b 0, .inr (3, [.int (iv th), .int (iv n), .int (iv np), .int (iv mo), .ref (b 1), .ref (b 2), .ref (b 3), .ref (b 4), .ref (b 5)])), (b 1, .inl (G 0, 144, .inl (fun y9 => iv (updI (LL S) (3 * (6 * d + j) + 0) t y9))))]) (by decide) rfl rfl rfl
      skip
      refine k_int (g_S (As := [.int (iv (d : Int)), .int (iv (j : Int)), .int (iv 1)]) (rest := [.ref (b 1)]) ⟨hx, hb, hml, hown, hts⟩ (c_X3_at l D G d j 1) (va_cwS 3 hts gX3_turn_X3_at rfl rfl rfl (by decide +kernel) ⟨Nat.le_of_ble_eq_true rfl, Nat.le_of_ble_eq_true rfl⟩) hK hP hD hp rfl hl.1 rfl (Nat.le_of_ble_eq_true rfl) dX3_turn_57 ⟨by decide, by decide⟩) hP hD hS hA hp (fun v u H locs hw hP hD hS => ?_)
      obtain ⟨hv, hu⟩ := hw
      replace hv : v = (iv ((3 * (6 * d + j) + 1 : Nat) : Int)) := hv
      subst hv
      subst hu
      have hP : va_P D vwCl ([(b 0, .inr (3, [.int (iv th), .int (iv n), .int (iv np), .int (iv mo), .ref (b 1), .ref (b 2), .ref (b 3), .ref (b 4), .ref (b 5)])), (b 1, .inl (G 0, 144, .inl (fun y9 => iv (updI (LL S) (3 * (6 * d + j) + 0) t y9))))]) H := hP
      have hD : va_D A ([(b 0, .inr (3, [.int (iv th), .int (iv n), .int (iv np), .int (iv mo), .ref (b 1), .ref (b 2), .ref (b 3), .ref (b 4), .ref (b 5)])), (b 1, .inl (G 0, 144, .inl (fun y9 => iv (updI (LL S) (3 * (6 * d + j) + 0) t y9))))]) := hD
      refine lv_bipush (v := iv 100) hx hb dX3_turn_60 (by decide) ?_
      refine lv_aload_n hx hb dX3_turn_62 rfl (lv_at hl 2 rfl) ?_
      refine lv_iload_n hx hb dX3_turn_63 rfl (lv_at hl 3 rfl) ?_
      refine lv_iload_n hx hb dX3_turn_64 rfl (lv_at hl 4 rfl) ?_
      refine r_const hx hb dX3_turn_65 ?_
      have hp := wsp ([(b 0, .inr (3, [.int (iv th), .int (iv n), .int (iv np), .int (iv mo), .ref (b 1), .ref (b 2), .ref (b 3), .ref (b 4), .ref (b 5)])), (b 1, .inl (G 0, 144, .inl (fun y9 => iv (updI (LL S) (3 * (6 * d + j) + 0) t y9))))]) ([]) 2 (is := [0, 1]) (js := []) (wc := [wM0 b th n np mo, wMl G b (updI (LL S) (3 * (6 * d + j) + 0) t)]) (wr := []) (by decide) rfl rfl rfl
      skip
      refine k_int (g_V (As := [.int (iv (d : Int)), .int (iv (j : Int)), .int (iv 1)]) (rest := [.int (iv 100), .int (iv ((3 * (6 * d + j) + 1 : Nat) : Int)), .ref (b 1)]) (q0 := 0) (ci := 3) ⟨hx, hb, hml, hown, hts⟩ (c_X3_li l D G b th n np mo (updI (LL S) (3 * (6 * d + j) + 0) t) d j 1 (by omega) (by omega) (by omega) (dW ds j) (by rw [updI_n _ _ (by omega), LL_at S (by omega) (by omega), hSd]; rfl)) (cwV 3 hts gX3_turn_X3_li rfl rfl rfl (by decide +kernel) ⟨Nat.le_of_ble_eq_true rfl, Nat.le_of_ble_eq_true rfl⟩) hK hP hD hp rfl rfl rfl rfl hl.1 rfl (Nat.le_of_ble_eq_true rfl) dX3_turn_66 ⟨by decide, by decide⟩) hP hD hS hA hp (fun v u H locs hw hP hD hS => ?_)
      obtain ⟨hv, hu⟩ := hw
      replace hv : v = (iv (dW ds j)) := hv
      subst hv
      subst hu
      have hP : va_P D vwCl ([(b 0, .inr (3, [.int (iv th), .int (iv n), .int (iv np), .int (iv mo), .ref (b 1), .ref (b 2), .ref (b 3), .ref (b 4), .ref (b 5)])), (b 1, .inl (G 0, 144, .inl (fun y9 => iv (updI (LL S) (3 * (6 * d + j) + 0) t y9))))]) H := hP
      have hD : va_D A ([(b 0, .inr (3, [.int (iv th), .int (iv n), .int (iv np), .int (iv mo), .ref (b 1), .ref (b 2), .ref (b 3), .ref (b 4), .ref (b 5)])), (b 1, .inl (G 0, 144, .inl (fun y9 => iv (updI (LL S) (3 * (6 * d + j) + 0) t y9))))]) := hD
      refine lv_iload hx hb dX3_turn_69 (lv_at hl 0 rfl) ?_
      refine r_if_eq hx hb 82 dX3_turn_71 (by decide) (by omega) (fun c_71 => ?_) (fun c_71 => ?_)
      · skip
        refine lv_iload hx hb dX3_turn_82 (lv_at hl 1 rfl) ?_
        refine lv_bipush (v := iv 10) hx hb dX3_turn_84 (by decide) ?_
        refine r_div hx hb dX3_turn_86 (by omega) (by omega) ?_
        refine r_const hx hb dX3_turn_87 ?_
        refine r_add hx hb dX3_turn_88 ?_
        refine r_add hx hb dX3_turn_89 ?_
        refine r_min hx hb (hml.trans hl.1.symm) hown (hts (.methodLink RX3 64 Lib.Math.min.name) (by decide +kernel)) (hts (.static Lib.Math.min.name) (by decide +kernel)) (hts (.initialized "java/lang/Math") (by decide +kernel)) (hts (.code Lib.Math.min.name Lib.Math.min.code 2 (some .int)) (by decide +kernel)) (Nat.le_of_ble_eq_true rfl) (Nat.le_of_ble_eq_true rfl) (Nat.le_of_ble_eq_true rfl) (Nat.le_of_ble_eq_true rfl) (by omega) (by omega) dX3_turn_90 ?_
        refine r_iast (F := updI (LL S) (3 * (6 * d + j) + 0) t) hx hb hK hP hD hS 1 0 rfl rfl (3 * (6 * d + j) + 1) (by omega) (by omega) (by decide) dX3_turn_93 (fun H locs hP hD hS => ?_)
        have hP : va_P D vwCl ([(b 0, .inr (3, [.int (iv th), .int (iv n), .int (iv np), .int (iv mo), .ref (b 1), .ref (b 2), .ref (b 3), .ref (b 4), .ref (b 5)])), (b 1, .inl (G 0, 144, .inl (fun y9 => iv (updI (updI (LL S) (3 * (6 * d + j) + 0) t) (3 * (6 * d + j) + 1) (min 100 ((dW ds j) + (((max ((dA ds j) - t) (-((dA ds j) - t))) / 10) + 1))) y9))))]) H := hP
        have hD : va_D A ([(b 0, .inr (3, [.int (iv th), .int (iv n), .int (iv np), .int (iv mo), .ref (b 1), .ref (b 2), .ref (b 3), .ref (b 4), .ref (b 5)])), (b 1, .inl (G 0, 144, .inl (fun y9 => iv (updI (updI (LL S) (3 * (6 * d + j) + 0) t) (3 * (6 * d + j) + 1) (min 100 ((dW ds j) + (((max ((dA ds j) - t) (-((dA ds j) - t))) / 10) + 1))) y9))))]) := hD
        refine lv_iload hx hb dX3_turn_94 (lv_at hl 0 rfl) ?_
        refine r_if_eq hx hb 114 dX3_turn_96 (by decide) (by omega) (fun c_96 => ?_) (fun c_96 => ?_)
        · skip
          refine lv_aload_n hx hb dX3_turn_114 rfl (lv_at hl 2 rfl) ?_
          refine lv_iload_n hx hb dX3_turn_115 rfl (lv_at hl 3 rfl) ?_
          refine lv_iload_n hx hb dX3_turn_116 rfl (lv_at hl 4 rfl) ?_
          have hp := wsp ([(b 0, .inr (3, [.int (iv th), .int (iv n), .int (iv np), .int (iv mo), .ref (b 1), .ref (b 2), .ref (b 3), .ref (b 4), .ref (b 5)])), (b 1, .inl (G 0, 144, .inl (fun y9 => iv (updI (updI (LL S) (3 * (6 * d + j) + 0) t) (3 * (6 * d + j) + 1) (min 100 ((dW ds j) + (((max ((dA ds j) - t) (-((dA ds j) - t))) / 10) + 1))) y9))))]) ([]) 2 (is := [0, 1]) (js := []) (wc := [wM0 b th n np mo, wMl G b (updI (updI (LL S) (3 * (6 * d + j) + 0) t) (3 * (6 * d + j) + 1) (min 100 ((dW ds j) + (((max ((dA ds j) - t) (-((dA ds j) - t))) / 10) + 1))))]) (wr := []) (by decide) rfl rfl rfl
          skip
          refine k_int (g_V (As := [.int (iv (d : Int)), .int (iv (j : Int))]) (rest := []) (q0 := 0) (ci := 3) ⟨hx, hb, hml, hown, hts⟩ (c_X3_isBroken l D G b th n np mo (updI (updI (LL S) (3 * (6 * d + j) + 0) t) (3 * (6 * d + j) + 1) (min 100 ((dW ds j) + (((max ((dA ds j) - t) (-((dA ds j) - t))) / 10) + 1)))) d j (by omega) (by omega) (min 100 ((dW ds j) + (((max ((dA ds j) - t) (-((dA ds j) - t))) / 10) + 1))) (by rw [updI_s]) (by omega)) (cwV 2 hts gX3_turn_X3_isBroken rfl rfl rfl (by decide +kernel) ⟨Nat.le_of_ble_eq_true rfl, Nat.le_of_ble_eq_true rfl⟩) hK hP hD hp rfl rfl rfl rfl hl.1 rfl (Nat.le_of_ble_eq_true rfl) dX3_turn_117 ⟨by decide, by decide⟩) hP hD hS hA hp (fun v u H locs hw hP hD hS => ?_)
          obtain ⟨hv, hu⟩ := hw
          replace hv : v = (iv (b2i (decide ((min 100 ((dW ds j) + (((max ((dA ds j) - t) (-((dA ds j) - t))) / 10) + 1))) = 100)))) := hv
          subst hv
          subst hu
          have hP : va_P D vwCl ([(b 0, .inr (3, [.int (iv th), .int (iv n), .int (iv np), .int (iv mo), .ref (b 1), .ref (b 2), .ref (b 3), .ref (b 4), .ref (b 5)])), (b 1, .inl (G 0, 144, .inl (fun y9 => iv (updI (updI (LL S) (3 * (6 * d + j) + 0) t) (3 * (6 * d + j) + 1) (min 100 ((dW ds j) + (((max ((dA ds j) - t) (-((dA ds j) - t))) / 10) + 1))) y9))))]) H := hP
          have hD : va_D A ([(b 0, .inr (3, [.int (iv th), .int (iv n), .int (iv np), .int (iv mo), .ref (b 1), .ref (b 2), .ref (b 3), .ref (b 4), .ref (b 5)])), (b 1, .inl (G 0, 144, .inl (fun y9 => iv (updI (updI (LL S) (3 * (6 * d + j) + 0) t) (3 * (6 * d + j) + 1) (min 100 ((dW ds j) + (((max ((dA ds j) - t) (-((dA ds j) - t))) / 10) + 1))) y9))))]) := hD
          have e1 : (min 100 ((dW ds j) + (((max ((dA ds j) - t) (-((dA ds j) - t))) / 10) + 1))) = wearBT (dW ds j) (dQ ds j) (max (t - dA ds j) (-(t - dA ds j))) := by unfold wearBT wearMore; rw [if_neg (by omega)]; omega
          rw [turn_sayB hSd hj (by omega) e1 (by omega)] at hP hD
          exact e_bool hx hb hr hlk dX3_turn_120 hS hP hD (by decide) (by decide) (⟨by rw [e1]; congr 2; unfold brk; exact decide_eq_decide.mpr ⟨fun z => ⟨by omega, z⟩, fun z => z.2⟩, rfl⟩)
        · exact absurd c_96 (by decide)
      · exact absurd c_71 (by decide)
    · skip
      refine r_const hx hb dX3_turn_31 ?_
      refine r_goto hx hb 36 dX3_turn_32 (by decide) ?_
      refine lv_istore (lv' := [(5, .int (iv 1)), (4, .int (iv (max ((dA ds j) - t) (-((dA ds j) - t))))), (0, .ref (b 0)), (1, .int (iv (d : Int))), (2, .int (iv (j : Int))), (3, .int (iv t))]) hx hb dX3_turn_36 hl (by decide) rfl (fun ls hl => ?_)
      refine lv_aload_n hx hb dX3_turn_38 rfl (lv_at hl 2 rfl) ?_
      refine va_get (D := D) (ci := 3) (v := .ref (b 1)) (C := RX3) (T := TX3) (N := 9) hx hb hts in_X3 hown hK hP 0 rfl rfl 4 (by decide) lk13 (fun _ h9 => h9) rfl dX3_turn_39 ?_
      refine lv_iload_n hx hb dX3_turn_42 rfl (lv_at hl 3 rfl) ?_
      refine lv_iload_n hx hb dX3_turn_43 rfl (lv_at hl 4 rfl) ?_
      refine r_const hx hb dX3_turn_44 ?_
      have hp := wsp ([(b 0, .inr (3, [.int (iv th), .int (iv n), .int (iv np), .int (iv mo), .ref (b 1), .ref (b 2), .ref (b 3), .ref (b 4), .ref (b 5)])), (b 1, .inl (G 0, 144, .inl (fun y9 => iv (LL S y9))))]) ([]) 2 (is := []) (js := [0, 1]) (wc := []) (wr := [(b 0, .inr (3, [.int (iv th), .int (iv n), .int (iv np), .int (iv mo), .ref (b 1), .ref (b 2), .ref (b 3), .ref (b 4), .ref (b 5)])), (b 1, .inl (G 0, 144, .inl (fun y9 => iv (LL S y9))))]) (by decide) rfl rfl rfl
      skip
      refine k_int (g_S (As := [.int (iv (d : Int)), .int (iv (j : Int)), .int (iv 0)]) (rest := [.ref (b 1)]) ⟨hx, hb, hml, hown, hts⟩ (c_X3_at l D G d j 0) (va_cwS 3 hts gX3_turn_X3_at rfl rfl rfl (by decide +kernel) ⟨Nat.le_of_ble_eq_true rfl, Nat.le_of_ble_eq_true rfl⟩) hK hP hD hp rfl hl.1 rfl (Nat.le_of_ble_eq_true rfl) dX3_turn_45 ⟨by decide, by decide⟩) hP hD hS hA hp (fun v u H locs hw hP hD hS => ?_)
      obtain ⟨hv, hu⟩ := hw
      replace hv : v = (iv ((3 * (6 * d + j) + 0 : Nat) : Int)) := hv
      subst hv
      subst hu
      have hP : va_P D vwCl ([(b 0, .inr (3, [.int (iv th), .int (iv n), .int (iv np), .int (iv mo), .ref (b 1), .ref (b 2), .ref (b 3), .ref (b 4), .ref (b 5)])), (b 1, .inl (G 0, 144, .inl (fun y9 => iv (LL S y9))))]) H := hP
      have hD : va_D A ([(b 0, .inr (3, [.int (iv th), .int (iv n), .int (iv np), .int (iv mo), .ref (b 1), .ref (b 2), .ref (b 3), .ref (b 4), .ref (b 5)])), (b 1, .inl (G 0, 144, .inl (fun y9 => iv (LL S y9))))]) := hD
      refine lv_iload_n hx hb dX3_turn_48 rfl (lv_at hl 5 rfl) ?_
      refine r_iast (F := LL S) hx hb hK hP hD hS 1 0 rfl rfl (3 * (6 * d + j) + 0) (by omega) (by omega) (by decide) dX3_turn_49 (fun H locs hP hD hS => ?_)
      have hP : va_P D vwCl ([(b 0, .inr (3, [.int (iv th), .int (iv n), .int (iv np), .int (iv mo), .ref (b 1), .ref (b 2), .ref (b 3), .ref (b 4), .ref (b 5)])), (b 1, .inl (G 0, 144, .inl (fun y9 => iv (updI (LL S) (3 * (6 * d + j) + 0) t y9))))]) H := hP
      have hD : va_D A ([(b 0, .inr (3, [.int (iv th), .int (iv n), .int (iv np), .int (iv mo), .ref (b 1), .ref (b 2), .ref (b 3), .ref (b 4), .ref (b 5)])), (b 1, .inl (G 0, 144, .inl (fun y9 => iv (updI (LL S) (3 * (6 * d + j) + 0) t y9))))]) := hD
      refine lv_aload_n hx hb dX3_turn_50 rfl (lv_at hl 2 rfl) ?_
      refine va_get (D := D) (ci := 3) (v := .ref (b 1)) (C := RX3) (T := TX3) (N := 9) hx hb hts in_X3 hown hK hP 0 rfl rfl 4 (by decide) lk13 (fun _ h9 => h9) rfl dX3_turn_51 ?_
      refine lv_iload_n hx hb dX3_turn_54 rfl (lv_at hl 3 rfl) ?_
      refine lv_iload_n hx hb dX3_turn_55 rfl (lv_at hl 4 rfl) ?_
      refine r_const hx hb dX3_turn_56 ?_
      have hp := wsp ([(b 0, .inr (3, [.int (iv th), .int (iv n), .int (iv np), .int (iv mo), .ref (b 1), .ref (b 2), .ref (b 3), .ref (b 4), .ref (b 5)])), (b 1, .inl (G 0, 144, .inl (fun y9 => iv (updI (LL S) (3 * (6 * d + j) + 0) t y9))))]) ([]) 2 (is := []) (js := [0, 1]) (wc := []) (wr := [(b 0, .inr (3, [.int (iv th), .int (iv n), .int (iv np), .int (iv mo), .ref (b 1), .ref (b 2), .ref (b 3), .ref (b 4), .ref (b 5)])), (b 1, .inl (G 0, 144, .inl (fun y9 => iv (updI (LL S) (3 * (6 * d + j) + 0) t y9))))]) (by decide) rfl rfl rfl
      skip
      refine k_int (g_S (As := [.int (iv (d : Int)), .int (iv (j : Int)), .int (iv 1)]) (rest := [.ref (b 1)]) ⟨hx, hb, hml, hown, hts⟩ (c_X3_at l D G d j 1) (va_cwS 3 hts gX3_turn_X3_at rfl rfl rfl (by decide +kernel) ⟨Nat.le_of_ble_eq_true rfl, Nat.le_of_ble_eq_true rfl⟩) hK hP hD hp rfl hl.1 rfl (Nat.le_of_ble_eq_true rfl) dX3_turn_57 ⟨by decide, by decide⟩) hP hD hS hA hp (fun v u H locs hw hP hD hS => ?_)
      obtain ⟨hv, hu⟩ := hw
      replace hv : v = (iv ((3 * (6 * d + j) + 1 : Nat) : Int)) := hv
      subst hv
      subst hu
      have hP : va_P D vwCl ([(b 0, .inr (3, [.int (iv th), .int (iv n), .int (iv np), .int (iv mo), .ref (b 1), .ref (b 2), .ref (b 3), .ref (b 4), .ref (b 5)])), (b 1, .inl (G 0, 144, .inl (fun y9 => iv (updI (LL S) (3 * (6 * d + j) + 0) t y9))))]) H := hP
      have hD : va_D A ([(b 0, .inr (3, [.int (iv th), .int (iv n), .int (iv np), .int (iv mo), .ref (b 1), .ref (b 2), .ref (b 3), .ref (b 4), .ref (b 5)])), (b 1, .inl (G 0, 144, .inl (fun y9 => iv (updI (LL S) (3 * (6 * d + j) + 0) t y9))))]) := hD
      refine lv_bipush (v := iv 100) hx hb dX3_turn_60 (by decide) ?_
      refine lv_aload_n hx hb dX3_turn_62 rfl (lv_at hl 2 rfl) ?_
      refine lv_iload_n hx hb dX3_turn_63 rfl (lv_at hl 3 rfl) ?_
      refine lv_iload_n hx hb dX3_turn_64 rfl (lv_at hl 4 rfl) ?_
      refine r_const hx hb dX3_turn_65 ?_
      have hp := wsp ([(b 0, .inr (3, [.int (iv th), .int (iv n), .int (iv np), .int (iv mo), .ref (b 1), .ref (b 2), .ref (b 3), .ref (b 4), .ref (b 5)])), (b 1, .inl (G 0, 144, .inl (fun y9 => iv (updI (LL S) (3 * (6 * d + j) + 0) t y9))))]) ([]) 2 (is := [0, 1]) (js := []) (wc := [wM0 b th n np mo, wMl G b (updI (LL S) (3 * (6 * d + j) + 0) t)]) (wr := []) (by decide) rfl rfl rfl
      skip
      refine k_int (g_V (As := [.int (iv (d : Int)), .int (iv (j : Int)), .int (iv 1)]) (rest := [.int (iv 100), .int (iv ((3 * (6 * d + j) + 1 : Nat) : Int)), .ref (b 1)]) (q0 := 0) (ci := 3) ⟨hx, hb, hml, hown, hts⟩ (c_X3_li l D G b th n np mo (updI (LL S) (3 * (6 * d + j) + 0) t) d j 1 (by omega) (by omega) (by omega) (dW ds j) (by rw [updI_n _ _ (by omega), LL_at S (by omega) (by omega), hSd]; rfl)) (cwV 3 hts gX3_turn_X3_li rfl rfl rfl (by decide +kernel) ⟨Nat.le_of_ble_eq_true rfl, Nat.le_of_ble_eq_true rfl⟩) hK hP hD hp rfl rfl rfl rfl hl.1 rfl (Nat.le_of_ble_eq_true rfl) dX3_turn_66 ⟨by decide, by decide⟩) hP hD hS hA hp (fun v u H locs hw hP hD hS => ?_)
      obtain ⟨hv, hu⟩ := hw
      replace hv : v = (iv (dW ds j)) := hv
      subst hv
      subst hu
      have hP : va_P D vwCl ([(b 0, .inr (3, [.int (iv th), .int (iv n), .int (iv np), .int (iv mo), .ref (b 1), .ref (b 2), .ref (b 3), .ref (b 4), .ref (b 5)])), (b 1, .inl (G 0, 144, .inl (fun y9 => iv (updI (LL S) (3 * (6 * d + j) + 0) t y9))))]) H := hP
      have hD : va_D A ([(b 0, .inr (3, [.int (iv th), .int (iv n), .int (iv np), .int (iv mo), .ref (b 1), .ref (b 2), .ref (b 3), .ref (b 4), .ref (b 5)])), (b 1, .inl (G 0, 144, .inl (fun y9 => iv (updI (LL S) (3 * (6 * d + j) + 0) t y9))))]) := hD
      refine lv_iload hx hb dX3_turn_69 (lv_at hl 0 rfl) ?_
      refine r_if_eq hx hb 82 dX3_turn_71 (by decide) (by omega) (fun c_71 => ?_) (fun c_71 => ?_)
      · exact absurd c_71 (by decide)
      · skip
        refine lv_iload hx hb dX3_turn_74 (lv_at hl 1 rfl) ?_
        refine lv_bipush (v := iv 20) hx hb dX3_turn_76 (by decide) ?_
        refine r_div hx hb dX3_turn_78 (by omega) (by omega) ?_
        refine r_goto hx hb 89 dX3_turn_79 (by decide) ?_
        refine r_add hx hb dX3_turn_89 ?_
        refine r_min hx hb (hml.trans hl.1.symm) hown (hts (.methodLink RX3 64 Lib.Math.min.name) (by decide +kernel)) (hts (.static Lib.Math.min.name) (by decide +kernel)) (hts (.initialized "java/lang/Math") (by decide +kernel)) (hts (.code Lib.Math.min.name Lib.Math.min.code 2 (some .int)) (by decide +kernel)) (Nat.le_of_ble_eq_true rfl) (Nat.le_of_ble_eq_true rfl) (Nat.le_of_ble_eq_true rfl) (Nat.le_of_ble_eq_true rfl) (by omega) (by omega) dX3_turn_90 ?_
        refine r_iast (F := updI (LL S) (3 * (6 * d + j) + 0) t) hx hb hK hP hD hS 1 0 rfl rfl (3 * (6 * d + j) + 1) (by omega) (by omega) (by decide) dX3_turn_93 (fun H locs hP hD hS => ?_)
        have hP : va_P D vwCl ([(b 0, .inr (3, [.int (iv th), .int (iv n), .int (iv np), .int (iv mo), .ref (b 1), .ref (b 2), .ref (b 3), .ref (b 4), .ref (b 5)])), (b 1, .inl (G 0, 144, .inl (fun y9 => iv (updI (updI (LL S) (3 * (6 * d + j) + 0) t) (3 * (6 * d + j) + 1) (min 100 ((dW ds j) + ((max ((dA ds j) - t) (-((dA ds j) - t))) / 20))) y9))))]) H := hP
        have hD : va_D A ([(b 0, .inr (3, [.int (iv th), .int (iv n), .int (iv np), .int (iv mo), .ref (b 1), .ref (b 2), .ref (b 3), .ref (b 4), .ref (b 5)])), (b 1, .inl (G 0, 144, .inl (fun y9 => iv (updI (updI (LL S) (3 * (6 * d + j) + 0) t) (3 * (6 * d + j) + 1) (min 100 ((dW ds j) + ((max ((dA ds j) - t) (-((dA ds j) - t))) / 20))) y9))))]) := hD
        refine lv_iload hx hb dX3_turn_94 (lv_at hl 0 rfl) ?_
        refine r_if_eq hx hb 114 dX3_turn_96 (by decide) (by omega) (fun c_96 => ?_) (fun c_96 => ?_)
        · exact absurd c_96 (by decide)
        · skip
          refine lv_aload_n hx hb dX3_turn_99 rfl (lv_at hl 2 rfl) ?_
          refine va_get (D := D) (ci := 3) (v := .ref (b 1)) (C := RX3) (T := TX3) (N := 9) hx hb hts in_X3 hown hK hP 0 rfl rfl 4 (by decide) lk13 (fun _ h9 => h9) rfl dX3_turn_100 ?_
          refine lv_iload_n hx hb dX3_turn_103 rfl (lv_at hl 3 rfl) ?_
          refine lv_iload_n hx hb dX3_turn_104 rfl (lv_at hl 4 rfl) ?_
          refine r_const hx hb dX3_turn_105 ?_
          have hp := wsp ([(b 0, .inr (3, [.int (iv th), .int (iv n), .int (iv np), .int (iv mo), .ref (b 1), .ref (b 2), .ref (b 3), .ref (b 4), .ref (b 5)])), (b 1, .inl (G 0, 144, .inl (fun y9 => iv (updI (updI (LL S) (3 * (6 * d + j) + 0) t) (3 * (6 * d + j) + 1) (min 100 ((dW ds j) + ((max ((dA ds j) - t) (-((dA ds j) - t))) / 20))) y9))))]) ([]) 2 (is := []) (js := [0, 1]) (wc := []) (wr := [(b 0, .inr (3, [.int (iv th), .int (iv n), .int (iv np), .int (iv mo), .ref (b 1), .ref (b 2), .ref (b 3), .ref (b 4), .ref (b 5)])), (b 1, .inl (G 0, 144, .inl (fun y9 => iv (updI (updI (LL S) (3 * (6 * d + j) + 0) t) (3 * (6 * d + j) + 1) (min 100 ((dW ds j) + ((max ((dA ds j) - t) (-((dA ds j) - t))) / 20))) y9))))]) (by decide) rfl rfl rfl
          skip
          refine k_int (g_S (As := [.int (iv (d : Int)), .int (iv (j : Int)), .int (iv 2)]) (rest := [.ref (b 1)]) ⟨hx, hb, hml, hown, hts⟩ (c_X3_at l D G d j 2) (va_cwS 3 hts gX3_turn_X3_at rfl rfl rfl (by decide +kernel) ⟨Nat.le_of_ble_eq_true rfl, Nat.le_of_ble_eq_true rfl⟩) hK hP hD hp rfl hl.1 rfl (Nat.le_of_ble_eq_true rfl) dX3_turn_106 ⟨by decide, by decide⟩) hP hD hS hA hp (fun v u H locs hw hP hD hS => ?_)
          obtain ⟨hv, hu⟩ := hw
          replace hv : v = (iv ((3 * (6 * d + j) + 2 : Nat) : Int)) := hv
          subst hv
          subst hu
          have hP : va_P D vwCl ([(b 0, .inr (3, [.int (iv th), .int (iv n), .int (iv np), .int (iv mo), .ref (b 1), .ref (b 2), .ref (b 3), .ref (b 4), .ref (b 5)])), (b 1, .inl (G 0, 144, .inl (fun y9 => iv (updI (updI (LL S) (3 * (6 * d + j) + 0) t) (3 * (6 * d + j) + 1) (min 100 ((dW ds j) + ((max ((dA ds j) - t) (-((dA ds j) - t))) / 20))) y9))))]) H := hP
          have hD : va_D A ([(b 0, .inr (3, [.int (iv th), .int (iv n), .int (iv np), .int (iv mo), .ref (b 1), .ref (b 2), .ref (b 3), .ref (b 4), .ref (b 5)])), (b 1, .inl (G 0, 144, .inl (fun y9 => iv (updI (updI (LL S) (3 * (6 * d + j) + 0) t) (3 * (6 * d + j) + 1) (min 100 ((dW ds j) + ((max ((dA ds j) - t) (-((dA ds j) - t))) / 20))) y9))))]) := hD
          refine lv_dup2_11 hx hb dX3_turn_109 rfl rfl ?_
          refine r_iald (F := updI (updI (LL S) (3 * (6 * d + j) + 0) t) (3 * (6 * d + j) + 1) (min 100 ((dW ds j) + ((max ((dA ds j) - t) (-((dA ds j) - t))) / 20)))) hx hb hK hP 1 0 rfl rfl (3 * (6 * d + j) + 2) (by omega) (by omega) (by decide) dX3_turn_110 ?_
          rw [show (updI (updI (LL S) (3 * (6 * d + j) + 0) t) (3 * (6 * d + j) + 1) (min 100 ((dW ds j) + ((max ((dA ds j) - t) (-((dA ds j) - t))) / 20)))) (3 * (6 * d + j) + 2) = dQ ds j from by rw [updI_n _ _ (by omega), updI_n _ _ (by omega), LL_at S (by omega) (by omega), hSd]; rfl]
          refine r_const hx hb dX3_turn_111 ?_
          refine r_sub hx hb dX3_turn_112 ?_
          refine r_iast (F := updI (updI (LL S) (3 * (6 * d + j) + 0) t) (3 * (6 * d + j) + 1) (min 100 ((dW ds j) + ((max ((dA ds j) - t) (-((dA ds j) - t))) / 20)))) hx hb hK hP hD hS 1 0 rfl rfl (3 * (6 * d + j) + 2) (by omega) (by omega) (by decide) dX3_turn_113 (fun H locs hP hD hS => ?_)
          have hP : va_P D vwCl ([(b 0, .inr (3, [.int (iv th), .int (iv n), .int (iv np), .int (iv mo), .ref (b 1), .ref (b 2), .ref (b 3), .ref (b 4), .ref (b 5)])), (b 1, .inl (G 0, 144, .inl (fun y9 => iv (updI (updI (updI (LL S) (3 * (6 * d + j) + 0) t) (3 * (6 * d + j) + 1) (min 100 ((dW ds j) + ((max ((dA ds j) - t) (-((dA ds j) - t))) / 20)))) (3 * (6 * d + j) + 2) ((dQ ds j) - 1) y9))))]) H := hP
          have hD : va_D A ([(b 0, .inr (3, [.int (iv th), .int (iv n), .int (iv np), .int (iv mo), .ref (b 1), .ref (b 2), .ref (b 3), .ref (b 4), .ref (b 5)])), (b 1, .inl (G 0, 144, .inl (fun y9 => iv (updI (updI (updI (LL S) (3 * (6 * d + j) + 0) t) (3 * (6 * d + j) + 1) (min 100 ((dW ds j) + ((max ((dA ds j) - t) (-((dA ds j) - t))) / 20)))) (3 * (6 * d + j) + 2) ((dQ ds j) - 1) y9))))]) := hD
          refine lv_aload_n hx hb dX3_turn_114 rfl (lv_at hl 2 rfl) ?_
          refine lv_iload_n hx hb dX3_turn_115 rfl (lv_at hl 3 rfl) ?_
          refine lv_iload_n hx hb dX3_turn_116 rfl (lv_at hl 4 rfl) ?_
          have hp := wsp ([(b 0, .inr (3, [.int (iv th), .int (iv n), .int (iv np), .int (iv mo), .ref (b 1), .ref (b 2), .ref (b 3), .ref (b 4), .ref (b 5)])), (b 1, .inl (G 0, 144, .inl (fun y9 => iv (updI (updI (updI (LL S) (3 * (6 * d + j) + 0) t) (3 * (6 * d + j) + 1) (min 100 ((dW ds j) + ((max ((dA ds j) - t) (-((dA ds j) - t))) / 20)))) (3 * (6 * d + j) + 2) ((dQ ds j) - 1) y9))))]) ([]) 2 (is := [0, 1]) (js := []) (wc := [wM0 b th n np mo, wMl G b (updI (updI (updI (LL S) (3 * (6 * d + j) + 0) t) (3 * (6 * d + j) + 1) (min 100 ((dW ds j) + ((max ((dA ds j) - t) (-((dA ds j) - t))) / 20)))) (3 * (6 * d + j) + 2) ((dQ ds j) - 1))]) (wr := []) (by decide) rfl rfl rfl
          skip
          refine k_int (g_V (As := [.int (iv (d : Int)), .int (iv (j : Int))]) (rest := []) (q0 := 0) (ci := 3) ⟨hx, hb, hml, hown, hts⟩ (c_X3_isBroken l D G b th n np mo (updI (updI (updI (LL S) (3 * (6 * d + j) + 0) t) (3 * (6 * d + j) + 1) (min 100 ((dW ds j) + ((max ((dA ds j) - t) (-((dA ds j) - t))) / 20)))) (3 * (6 * d + j) + 2) ((dQ ds j) - 1)) d j (by omega) (by omega) (min 100 ((dW ds j) + ((max ((dA ds j) - t) (-((dA ds j) - t))) / 20))) (by rw [updI_n _ _ (by omega), updI_s]) (by omega)) (cwV 2 hts gX3_turn_X3_isBroken rfl rfl rfl (by decide +kernel) ⟨Nat.le_of_ble_eq_true rfl, Nat.le_of_ble_eq_true rfl⟩) hK hP hD hp rfl rfl rfl rfl hl.1 rfl (Nat.le_of_ble_eq_true rfl) dX3_turn_117 ⟨by decide, by decide⟩) hP hD hS hA hp (fun v u H locs hw hP hD hS => ?_)
          obtain ⟨hv, hu⟩ := hw
          replace hv : v = (iv (b2i (decide ((min 100 ((dW ds j) + ((max ((dA ds j) - t) (-((dA ds j) - t))) / 20))) = 100)))) := hv
          subst hv
          subst hu
          have hP : va_P D vwCl ([(b 0, .inr (3, [.int (iv th), .int (iv n), .int (iv np), .int (iv mo), .ref (b 1), .ref (b 2), .ref (b 3), .ref (b 4), .ref (b 5)])), (b 1, .inl (G 0, 144, .inl (fun y9 => iv (updI (updI (updI (LL S) (3 * (6 * d + j) + 0) t) (3 * (6 * d + j) + 1) (min 100 ((dW ds j) + ((max ((dA ds j) - t) (-((dA ds j) - t))) / 20)))) (3 * (6 * d + j) + 2) ((dQ ds j) - 1) y9))))]) H := hP
          have hD : va_D A ([(b 0, .inr (3, [.int (iv th), .int (iv n), .int (iv np), .int (iv mo), .ref (b 1), .ref (b 2), .ref (b 3), .ref (b 4), .ref (b 5)])), (b 1, .inl (G 0, 144, .inl (fun y9 => iv (updI (updI (updI (LL S) (3 * (6 * d + j) + 0) t) (3 * (6 * d + j) + 1) (min 100 ((dW ds j) + ((max ((dA ds j) - t) (-((dA ds j) - t))) / 20)))) (3 * (6 * d + j) + 2) ((dQ ds j) - 1) y9))))]) := hD
          have e1 : (min 100 ((dW ds j) + ((max ((dA ds j) - t) (-((dA ds j) - t))) / 20))) = wearBT (dW ds j) (dQ ds j) (max (t - dA ds j) (-(t - dA ds j))) := by unfold wearBT wearMore; rw [if_pos (by omega)]; omega
          rw [turn_sayA hSd hj (by omega) e1 (by omega)] at hP hD
          exact e_bool hx hb hr hlk dX3_turn_120 hS hP hD (by decide) (by decide) (⟨by rw [e1]; congr 2; unfold brk; exact decide_eq_decide.mpr ⟨fun z => ⟨by omega, z⟩, fun z => z.2⟩, rfl⟩)
  · skip
    refine r_const hx hb dX3_turn_19 ?_
    rw [turn_say0 hSd (show dA ds j = t by omega)] at hP hD
    exact e_b01 hx hb hr (by omega) hlk dX3_turn_20 hS hP hD (by decide) (by decide) (⟨by rw [show brk ds j t = false from decide_eq_false (fun z => z.1 (by omega))]; rfl, rfl⟩)
set_option maxHeartbeats 4000000 in
set_option maxRecDepth 100000 in
theorem c_X3_can (l : Launch) (D : va_G) (G : Nat → ClassId) (b : Nat → Nat) (th n np mo : Int) (S : Nat → DS) (d : Nat) (hd : d < 8) (ds : DS) (hSd : S d = ds) (hok : okD ds) (P : Nat → Nat → Int) (pn : Nat) (hpn : pn < 8) (hP0 : okP (P pn))  : MtG l yX3_can wsX3_can 3 125 0 0 D (TY G) [.ref (b 0), .int (iv (d : Int)), .int (iv (pn : Int))] ([wM0 b th n np mo, wMl G b (LL S), wMt G b (PP P)]) (qI D (fun r u => r = iv (b2i (canT (P pn) ds)) ∧ u = [wM0 b th n np mo, wMl G b (LL S), wMt G b (PP P)])) := by
  refine MtG.mk (cc := cX3_can) (maxL := 4) (ret := some .boolean) (by decide) rfl (Nat.le_of_ble_eq_true rfl) ?_
  intro p e s m below meth c A ls hx hb hr hlk hml hown hin hts hK hA hP hD hS hl
  replace hown : s.vm.findClass RX3 = some m.cls := hown
  have hl : lv_has ls 4 [(0, .ref (b 0)), (1, .int (iv (d : Int))), (2, .int (iv (pn : Int)))] := hl
  skip
  have hP : va_P D vwCl ([(b 0, .inr (3, [.int (iv th), .int (iv n), .int (iv np), .int (iv mo), .ref (b 1), .ref (b 2), .ref (b 3), .ref (b 4), .ref (b 5)])), (b 1, .inl (G 0, 144, .inl (fun y9 => iv (LL S y9)))), (b 3, .inl (G 0, 48, .inl (fun y9 => iv (PP P y9))))]) s.heap := hP
  have hD : va_D A ([(b 0, .inr (3, [.int (iv th), .int (iv n), .int (iv np), .int (iv mo), .ref (b 1), .ref (b 2), .ref (b 3), .ref (b 4), .ref (b 5)])), (b 1, .inl (G 0, 144, .inl (fun y9 => iv (LL S y9)))), (b 3, .inl (G 0, 48, .inl (fun y9 => iv (PP P y9))))]) := hD
  have lk20 := hts (.fieldLink RX3 20 "DollCitadelModel" "told" "[I") (by decide +kernel)
  have in_X3 : ∀ w ∈ u_ws RX3 TX3 9, w ∈ wsX3_can := by decide +kernel
  refine r_const hx hb dX3_can_0 ?_
  refine lv_istore_n (lv' := [(3, .int (iv 0)), (0, .ref (b 0)), (1, .int (iv (d : Int))), (2, .int (iv (pn : Int)))]) hx hb dX3_can_1 rfl hl (by decide) rfl (fun ls hl => ?_)
  have K2 : ∀ (fu i : Nat), i ≤ 6 → 6 < i + fu → (∀ k, k < i → dW ds k < 100 ∨ dA ds k = P pn k) → ∀ (H : Heap) (locs : List Loc), va_P D vwCl ([(b 0, .inr (3, [.int (iv th), .int (iv n), .int (iv np), .int (iv mo), .ref (b 1), .ref (b 2), .ref (b 3), .ref (b 4), .ref (b 5)])), (b 1, .inl (G 0, 144, .inl (fun y9 => iv (LL S y9)))), (b 3, .inl (G 0, 48, .inl (fun y9 => iv (PP P y9))))]) H → va_D A ([(b 0, .inr (3, [.int (iv th), .int (iv n), .int (iv np), .int (iv mo), .ref (b 1), .ref (b 2), .ref (b 3), .ref (b 4), .ref (b 5)])), (b 1, .inl (G 0, 144, .inl (fun y9 => iv (LL S y9)))), (b 3, .inl (G 0, 48, .inl (fun y9 => iv (PP P y9))))]) → va_S A s.heap H locs → ∀ (ls : Array Slot), lv_has ls 4 [(0, .ref (b 0)), (1, .int (iv (d : Int))), (2, .int (iv (pn : Int))), (3, .int (iv (i : Int)))] → W p l e (rmOf 3 125 0 0) s m ([.ref (b 0), .int (iv (d : Int)), .int (iv (pn : Int))] : List Value).toArray below meth c H locs 0 0 (MQ below (qI D (fun r u => r = iv (b2i (canT (P pn) ds)) ∧ u = [wM0 b th n np mo, wMl G b (LL S), wMt G b (PP P)]) A) ([.ref (b 0), .int (iv (d : Int)), .int (iv (pn : Int))] : List Value).toArray s 0 0 A) (F0 m 2 ls []) := by
    intro fu
    induction fu with
    | zero => intro i h1 h2; exact absurd h2 (by omega)
    | succ fu ih2 =>
      intro i hi_2 hn_2 hc H locs hP hD hS ls hl
      refine lv_iload_n hx hb dX3_can_2 rfl (lv_at hl 3 rfl) ?_
      refine lv_bipush (v := iv 6) hx hb dX3_can_3 (by decide) ?_
      refine r_icmp_ge hx hb 46 dX3_can_5 (by decide) (by omega) (by omega) (fun c_5 => ?_) (fun c_5 => ?_)
      · skip
        refine r_const hx hb dX3_can_46 ?_
        exact e_b01 hx hb hr (by omega) hlk dX3_can_47 hS hP hD (by decide) (by decide) (⟨by rw [← canT_yes (fun k hk => hc k (by omega))]; rfl, rfl⟩)
      · skip
        have rA := okD_A hok i (by omega)
        have rW := okD_W hok i (by omega)
        have rP := hP0 i (by omega)
        refine lv_aload_n hx hb dX3_can_8 rfl (lv_at hl 0 rfl) ?_
        refine lv_iload_n hx hb dX3_can_9 rfl (lv_at hl 1 rfl) ?_
        refine lv_iload_n hx hb dX3_can_10 rfl (lv_at hl 3 rfl) ?_
        have hp := wsp ([(b 0, .inr (3, [.int (iv th), .int (iv n), .int (iv np), .int (iv mo), .ref (b 1), .ref (b 2), .ref (b 3), .ref (b 4), .ref (b 5)])), (b 1, .inl (G 0, 144, .inl (fun y9 => iv (LL S y9)))), (b 3, .inl (G 0, 48, .inl (fun y9 => iv (PP P y9))))]) ([]) 3 (is := [0, 1]) (js := [2]) (wc := [wM0 b th n np mo, wMl G b (LL S)]) (wr := [(b 3, .inl (G 0, 48, .inl (fun y9 => iv (PP P y9))))]) (by decide) rfl rfl rfl
        skip
        refine k_int (g_V (As := [.int (iv (d : Int)), .int (iv (i : Int))]) (rest := []) (q0 := 0) (ci := 3) ⟨hx, hb, hml, hown, hts⟩ (c_X3_isBroken l D G b th n np mo (LL S) d i (by omega) (by omega) (dW ds i) (by rw [LL_at S (by omega) (by omega), hSd]; rfl) (by omega)) (cwV 2 hts gX3_can_X3_isBroken rfl rfl rfl (by decide +kernel) ⟨Nat.le_of_ble_eq_true rfl, Nat.le_of_ble_eq_true rfl⟩) hK hP hD hp rfl rfl rfl rfl hl.1 rfl (Nat.le_of_ble_eq_true rfl) dX3_can_11 ⟨by decide, by decide⟩) hP hD hS hA hp (fun v u H locs hw hP hD hS => ?_)
        obtain ⟨hv, hu⟩ := hw
        replace hv : v = (iv (b2i (decide (dW ds i = 100)))) := hv
        subst hv
        subst hu
        have hP : va_P D vwCl ([(b 0, .inr (3, [.int (iv th), .int (iv n), .int (iv np), .int (iv mo), .ref (b 1), .ref (b 2), .ref (b 3), .ref (b 4), .ref (b 5)])), (b 1, .inl (G 0, 144, .inl (fun y9 => iv (LL S y9)))), (b 3, .inl (G 0, 48, .inl (fun y9 => iv (PP P y9))))]) H := hP
        have hD : va_D A ([(b 0, .inr (3, [.int (iv th), .int (iv n), .int (iv np), .int (iv mo), .ref (b 1), .ref (b 2), .ref (b 3), .ref (b 4), .ref (b 5)])), (b 1, .inl (G 0, 144, .inl (fun y9 => iv (LL S y9)))), (b 3, .inl (G 0, 48, .inl (fun y9 => iv (PP P y9))))]) := hD
        refine r_bool_eq hx hb 40 dX3_can_14 (by decide) (fun c_14 => ?_) (fun c_14 => ?_)
        · skip
          refine r_iinc (k := 3) (lv' := [(3, .int (iv ((i : Int) + 1))), (0, .ref (b 0)), (1, .int (iv (d : Int))), (2, .int (iv (pn : Int)))]) hx hb dX3_can_40 hl rfl (by decide) rfl (fun ls hl => ?_)
          refine r_goto hx hb 2 dX3_can_43 (by decide) ?_
          exact ih2 (i + 1) (by omega) (by omega) (lt_s hc (by simp only [decide_eq_true_eq, decide_eq_false_iff_not] at c_14; omega)) _ _ hP hD hS _ (lv_sub hl [1, 2, 3, 0] rfl)
        · skip
          refine lv_aload_n hx hb dX3_can_17 rfl (lv_at hl 0 rfl) ?_
          refine lv_iload_n hx hb dX3_can_18 rfl (lv_at hl 1 rfl) ?_
          refine lv_iload_n hx hb dX3_can_19 rfl (lv_at hl 3 rfl) ?_
          refine r_const hx hb dX3_can_20 ?_
          have hp := wsp ([(b 0, .inr (3, [.int (iv th), .int (iv n), .int (iv np), .int (iv mo), .ref (b 1), .ref (b 2), .ref (b 3), .ref (b 4), .ref (b 5)])), (b 1, .inl (G 0, 144, .inl (fun y9 => iv (LL S y9)))), (b 3, .inl (G 0, 48, .inl (fun y9 => iv (PP P y9))))]) ([]) 3 (is := [0, 1]) (js := [2]) (wc := [wM0 b th n np mo, wMl G b (LL S)]) (wr := [(b 3, .inl (G 0, 48, .inl (fun y9 => iv (PP P y9))))]) (by decide) rfl rfl rfl
          skip
          refine k_int (g_V (As := [.int (iv (d : Int)), .int (iv (i : Int)), .int (iv 0)]) (rest := []) (q0 := 0) (ci := 3) ⟨hx, hb, hml, hown, hts⟩ (c_X3_li l D G b th n np mo (LL S) d i 0 (by omega) (by omega) (by omega) (dA ds i) (by rw [LL_at _ (by omega) (by omega), hSd]; rfl)) (cwV 3 hts gX3_can_X3_li rfl rfl rfl (by decide +kernel) ⟨Nat.le_of_ble_eq_true rfl, Nat.le_of_ble_eq_true rfl⟩) hK hP hD hp rfl rfl rfl rfl hl.1 rfl (Nat.le_of_ble_eq_true rfl) dX3_can_21 ⟨by decide, by decide⟩) hP hD hS hA hp (fun v u H locs hw hP hD hS => ?_)
          obtain ⟨hv, hu⟩ := hw
          replace hv : v = (iv (dA ds i)) := hv
          subst hv
          subst hu
          have hP : va_P D vwCl ([(b 0, .inr (3, [.int (iv th), .int (iv n), .int (iv np), .int (iv mo), .ref (b 1), .ref (b 2), .ref (b 3), .ref (b 4), .ref (b 5)])), (b 1, .inl (G 0, 144, .inl (fun y9 => iv (LL S y9)))), (b 3, .inl (G 0, 48, .inl (fun y9 => iv (PP P y9))))]) H := hP
          have hD : va_D A ([(b 0, .inr (3, [.int (iv th), .int (iv n), .int (iv np), .int (iv mo), .ref (b 1), .ref (b 2), .ref (b 3), .ref (b 4), .ref (b 5)])), (b 1, .inl (G 0, 144, .inl (fun y9 => iv (LL S y9)))), (b 3, .inl (G 0, 48, .inl (fun y9 => iv (PP P y9))))]) := hD
          refine lv_aload_n hx hb dX3_can_24 rfl (lv_at hl 0 rfl) ?_
          refine va_get (D := D) (ci := 3) (v := .ref (b 3)) (C := RX3) (T := TX3) (N := 9) hx hb hts in_X3 hown hK hP 0 rfl rfl 6 (by decide) lk20 (fun _ h9 => h9) rfl dX3_can_25 ?_
          refine lv_bipush (v := iv 6) hx hb dX3_can_28 (by decide) ?_
          refine lv_iload_n hx hb dX3_can_30 rfl (lv_at hl 2 rfl) ?_
          refine r_mul hx hb dX3_can_31 ?_
          refine lv_iload_n hx hb dX3_can_32 rfl (lv_at hl 3 rfl) ?_
          refine r_add hx hb dX3_can_33 ?_
          refine r_iald (F := PP P) hx hb hK hP 2 0 rfl rfl ((6 * pn) + i) (by omega) (by omega) (by decide) dX3_can_34 ?_
          rw [show (PP P) ((6 * pn) + i) = P pn i from PP_at P (by omega)]
          refine r_icmp_eq hx hb 40 dX3_can_35 (by decide) (by omega) (by omega) (fun c_35 => ?_) (fun c_35 => ?_)
          · skip
            refine r_iinc (k := 3) (lv' := [(3, .int (iv ((i : Int) + 1))), (0, .ref (b 0)), (1, .int (iv (d : Int))), (2, .int (iv (pn : Int)))]) hx hb dX3_can_40 hl rfl (by decide) rfl (fun ls hl => ?_)
            refine r_goto hx hb 2 dX3_can_43 (by decide) ?_
            exact ih2 (i + 1) (by omega) (by omega) (lt_s hc (by simp only [decide_eq_true_eq, decide_eq_false_iff_not] at c_14; omega)) _ _ hP hD hS _ (lv_sub hl [1, 2, 3, 0] rfl)
          · skip
            refine r_const hx hb dX3_can_38 ?_
            simp only [decide_eq_true_eq] at c_14
            exact e_b01 hx hb hr (by omega) hlk dX3_can_39 hS hP hD (by decide) (by decide) (⟨by rw [← canT_no (j := i) (by omega) (by omega) (by omega)]; rfl, rfl⟩)
  exact K2 7 0 (by omega) (by omega) lt_0 _ _ hP hD hS _ (lv_sub hl [1, 2, 3, 0] rfl)
set_option maxHeartbeats 4000000 in
set_option maxRecDepth 100000 in
theorem c_X3_turnAll (l : Launch) (D : va_G) (G : Nat → ClassId) (b : Nat → Nat) (th n np mo : Int) (S : Nat → DS) (d : Nat) (hd : d < 8) (ds : DS) (hSd : S d = ds) (hok : okD ds) (P : Nat → Nat → Int) (pn : Nat) (hpn : pn < 8) (hP0 : okP (P pn)) (hcan : canT (P pn) ds = true)  : MtG l yX3_turnAll wsX3_turnAll 4 170 0 0 D (TY G) [.ref (b 0), .int (iv (d : Int)), .int (iv (pn : Int))] ([wM0 b th n np mo, wMl G b (LL S), wMt G b (PP P)]) (qI D (fun r u => r = iv (cntW 100 (turnN (P pn) 6 ds) - cntW 100 ds) ∧ u = [wM0 b th n np mo, wMl G b (LL (updS S d (turnN (P pn) 6 ds))), wMt G b (PP P)])) := by
  refine MtG.mk (cc := cX3_turnAll) (maxL := 5) (ret := some .int) (by decide) rfl (Nat.le_of_ble_eq_true rfl) ?_
  intro p e s m below meth c A ls hx hb hr hlk hml hown hin hts hK hA hP hD hS hl
  replace hown : s.vm.findClass RX3 = some m.cls := hown
  have hl : lv_has ls 5 [(0, .ref (b 0)), (1, .int (iv (d : Int))), (2, .int (iv (pn : Int)))] := hl
  skip
  have hP : va_P D vwCl ([(b 0, .inr (3, [.int (iv th), .int (iv n), .int (iv np), .int (iv mo), .ref (b 1), .ref (b 2), .ref (b 3), .ref (b 4), .ref (b 5)])), (b 1, .inl (G 0, 144, .inl (fun y9 => iv (LL S y9)))), (b 3, .inl (G 0, 48, .inl (fun y9 => iv (PP P y9))))]) s.heap := hP
  have hD : va_D A ([(b 0, .inr (3, [.int (iv th), .int (iv n), .int (iv np), .int (iv mo), .ref (b 1), .ref (b 2), .ref (b 3), .ref (b 4), .ref (b 5)])), (b 1, .inl (G 0, 144, .inl (fun y9 => iv (LL S y9)))), (b 3, .inl (G 0, 48, .inl (fun y9 => iv (PP P y9))))]) := hD
  have lk20 := hts (.fieldLink RX3 20 "DollCitadelModel" "told" "[I") (by decide +kernel)
  have in_X3 : ∀ w ∈ u_ws RX3 TX3 9, w ∈ wsX3_turnAll := by decide +kernel
  rw [show LL S = LL (updS S d ds) by rw [updS_id S d hSd]] at hP hD
  refine r_const hx hb dX3_turnAll_0 ?_
  refine lv_istore_n (lv' := [(3, .int (iv 0)), (0, .ref (b 0)), (1, .int (iv (d : Int))), (2, .int (iv (pn : Int)))]) hx hb dX3_turnAll_1 rfl hl (by decide) rfl (fun ls hl => ?_)
  refine r_const hx hb dX3_turnAll_2 ?_
  refine lv_istore (lv' := [(4, .int (iv 0)), (3, .int (iv 0)), (0, .ref (b 0)), (1, .int (iv (d : Int))), (2, .int (iv (pn : Int)))]) hx hb dX3_turnAll_3 hl (by decide) rfl (fun ls hl => ?_)
  have K5 : ∀ (fu i : Nat) (x : Int) (st : DS), i ≤ 6 → 6 < i + fu → st = turnN (P pn) i ds → x = cntW 100 st - cntW 100 ds → ∀ (H : Heap) (locs : List Loc), va_P D vwCl ([(b 0, .inr (3, [.int (iv th), .int (iv n), .int (iv np), .int (iv mo), .ref (b 1), .ref (b 2), .ref (b 3), .ref (b 4), .ref (b 5)])), (b 1, .inl (G 0, 144, .inl (fun y9 => iv (LL (updS S d st) y9)))), (b 3, .inl (G 0, 48, .inl (fun y9 => iv (PP P y9))))]) H → va_D A ([(b 0, .inr (3, [.int (iv th), .int (iv n), .int (iv np), .int (iv mo), .ref (b 1), .ref (b 2), .ref (b 3), .ref (b 4), .ref (b 5)])), (b 1, .inl (G 0, 144, .inl (fun y9 => iv (LL (updS S d st) y9)))), (b 3, .inl (G 0, 48, .inl (fun y9 => iv (PP P y9))))]) → va_S A s.heap H locs → ∀ (ls : Array Slot), lv_has ls 5 [(0, .ref (b 0)), (1, .int (iv (d : Int))), (2, .int (iv (pn : Int))), (3, .int (iv x)), (4, .int (iv (i : Int)))] → W p l e (rmOf 4 170 0 0) s m ([.ref (b 0), .int (iv (d : Int)), .int (iv (pn : Int))] : List Value).toArray below meth c H locs 0 0 (MQ below (qI D (fun r u => r = iv (cntW 100 (turnN (P pn) 6 ds) - cntW 100 ds) ∧ u = [wM0 b th n np mo, wMl G b (LL (updS S d (turnN (P pn) 6 ds))), wMt G b (PP P)]) A) ([.ref (b 0), .int (iv (d : Int)), .int (iv (pn : Int))] : List Value).toArray s 0 0 A) (F0 m 5 ls []) := by
    intro fu
    induction fu with
    | zero => intro i x st h1 h2; exact absurd h2 (by omega)
    | succ fu ih5 =>
      intro i x st hi_5 hn_5 es ex H locs hP hD hS ls hl
      have oks : okD st := by rw [es]; exact turnN_ok hP0 hok i (by omega)
      refine lv_iload hx hb dX3_turnAll_5 (lv_at hl 4 rfl) ?_
      refine lv_bipush (v := iv 6) hx hb dX3_turnAll_7 (by decide) ?_
      refine r_icmp_ge hx hb 48 dX3_turnAll_9 (by decide) (by omega) (by omega) (fun c_9 => ?_) (fun c_9 => ?_)
      · skip
        refine lv_iload_n hx hb dX3_turnAll_48 rfl (lv_at hl 3 rfl) ?_
        obtain rfl : i = 6 := by omega
        subst es
        exact e_int hx hb hr hlk dX3_turnAll_49 hS hP hD (by decide) (by decide) (⟨by rw [ex], rfl⟩)
      · skip
        have rP := hP0 i (by omega)
        have hnb : dW st i < 100 ∨ dA st i = P pn i := by have k9 := turnN_keep (P pn) ds i i (Nat.le_refl i); have c9 := canT_at hcan (j := i) (by omega); rw [es, k9.1, k9.2.1]; exact c9
        refine lv_iload_n hx hb dX3_turnAll_12 rfl (lv_at hl 3 rfl) ?_
        refine lv_aload_n hx hb dX3_turnAll_13 rfl (lv_at hl 0 rfl) ?_
        refine lv_iload_n hx hb dX3_turnAll_14 rfl (lv_at hl 1 rfl) ?_
        refine lv_iload hx hb dX3_turnAll_15 (lv_at hl 4 rfl) ?_
        refine lv_aload_n hx hb dX3_turnAll_17 rfl (lv_at hl 0 rfl) ?_
        refine va_get (D := D) (ci := 3) (v := .ref (b 3)) (C := RX3) (T := TX3) (N := 9) hx hb hts in_X3 hown hK hP 0 rfl rfl 6 (by decide) lk20 (fun _ h9 => h9) rfl dX3_turnAll_18 ?_
        refine lv_bipush (v := iv 6) hx hb dX3_turnAll_21 (by decide) ?_
        refine lv_iload_n hx hb dX3_turnAll_23 rfl (lv_at hl 2 rfl) ?_
        refine r_mul hx hb dX3_turnAll_24 ?_
        refine lv_iload hx hb dX3_turnAll_25 (lv_at hl 4 rfl) ?_
        refine r_add hx hb dX3_turnAll_27 ?_
        refine r_iald (F := PP P) hx hb hK hP 2 0 rfl rfl ((6 * pn) + i) (by omega) (by omega) (by decide) dX3_turnAll_28 ?_
        rw [show (PP P) ((6 * pn) + i) = P pn i from PP_at P (by omega)]
        have hp := wsp ([(b 0, .inr (3, [.int (iv th), .int (iv n), .int (iv np), .int (iv mo), .ref (b 1), .ref (b 2), .ref (b 3), .ref (b 4), .ref (b 5)])), (b 1, .inl (G 0, 144, .inl (fun y9 => iv (LL (updS S d st) y9)))), (b 3, .inl (G 0, 48, .inl (fun y9 => iv (PP P y9))))]) ([]) 3 (is := [0, 1]) (js := [2]) (wc := [wM0 b th n np mo, wMl G b (LL (updS S d st))]) (wr := [(b 3, .inl (G 0, 48, .inl (fun y9 => iv (PP P y9))))]) (by decide) rfl rfl rfl
        skip
        refine k_int (g_V (As := [.int (iv (d : Int)), .int (iv (i : Int)), .int (iv (P pn i))]) (rest := [.int (iv x)]) (q0 := 0) (ci := 3) ⟨hx, hb, hml, hown, hts⟩ (c_X3_turn l D G b th n np mo (updS S d st) d (by omega) st (updS_s S d st) oks i (by omega) (P pn i) (by omega) hnb) (cwV 3 hts gX3_turnAll_X3_turn rfl rfl rfl (by decide +kernel) ⟨Nat.le_of_ble_eq_true rfl, Nat.le_of_ble_eq_true rfl⟩) hK hP hD hp rfl rfl rfl rfl hl.1 rfl (Nat.le_of_ble_eq_true rfl) dX3_turnAll_29 ⟨by decide, by decide⟩) hP hD hS hA hp (fun v u H locs hw hP hD hS => ?_)
        obtain ⟨hv, hu⟩ := hw
        replace hv : v = (iv (b2i (brk st i (P pn i)))) := hv
        subst hv
        subst hu
        rw [updS_u] at hP hD
        have hP : va_P D vwCl ([(b 0, .inr (3, [.int (iv th), .int (iv n), .int (iv np), .int (iv mo), .ref (b 1), .ref (b 2), .ref (b 3), .ref (b 4), .ref (b 5)])), (b 1, .inl (G 0, 144, .inl (fun y9 => iv (LL (updS S d (turn1 (fun _ => P pn i) i st)) y9)))), (b 3, .inl (G 0, 48, .inl (fun y9 => iv (PP P y9))))]) H := hP
        have hD : va_D A ([(b 0, .inr (3, [.int (iv th), .int (iv n), .int (iv np), .int (iv mo), .ref (b 1), .ref (b 2), .ref (b 3), .ref (b 4), .ref (b 5)])), (b 1, .inl (G 0, 144, .inl (fun y9 => iv (LL (updS S d (turn1 (fun _ => P pn i) i st)) y9)))), (b 3, .inl (G 0, 48, .inl (fun y9 => iv (PP P y9))))]) := hD
        refine r_bool_eq hx hb 39 dX3_turnAll_32 (by decide) (fun c_32 => ?_) (fun c_32 => ?_)
        · skip
          refine r_const hx hb dX3_turnAll_39 ?_
          refine r_add hx hb dX3_turnAll_40 ?_
          refine lv_istore_n (lv' := [(3, .int (iv (x + 0))), (0, .ref (b 0)), (1, .int (iv (d : Int))), (2, .int (iv (pn : Int))), (4, .int (iv (i : Int)))]) hx hb dX3_turnAll_41 rfl hl (by decide) rfl (fun ls hl => ?_)
          refine r_iinc (k := 4) (lv' := [(4, .int (iv ((i : Int) + 1))), (3, .int (iv (x + 0))), (0, .ref (b 0)), (1, .int (iv (d : Int))), (2, .int (iv (pn : Int)))]) hx hb dX3_turnAll_42 hl rfl (by decide) rfl (fun ls hl => ?_)
          refine r_goto hx hb 5 dX3_turnAll_45 (by decide) ?_
          exact ih5 (i + 1) (x + 0) (turn1 (P pn) i st) (by omega) (by omega) (by rw [es]; rfl) (by have h9 := cntW_turn1 (P := P pn) (j := i) (st := st) (by omega) hnb; rw [c_32] at h9; simp only [b2i] at h9; rw [h9, ex]; simp only [if_true, if_false, Bool.false_eq_true]; omega) _ _ hP hD hS _ (lv_sub hl [2, 3, 4, 1, 0] rfl)
        · skip
          refine r_const hx hb dX3_turnAll_35 ?_
          refine r_goto hx hb 40 dX3_turnAll_36 (by decide) ?_
          refine r_add hx hb dX3_turnAll_40 ?_
          refine lv_istore_n (lv' := [(3, .int (iv (x + 1))), (0, .ref (b 0)), (1, .int (iv (d : Int))), (2, .int (iv (pn : Int))), (4, .int (iv (i : Int)))]) hx hb dX3_turnAll_41 rfl hl (by decide) rfl (fun ls hl => ?_)
          refine r_iinc (k := 4) (lv' := [(4, .int (iv ((i : Int) + 1))), (3, .int (iv (x + 1))), (0, .ref (b 0)), (1, .int (iv (d : Int))), (2, .int (iv (pn : Int)))]) hx hb dX3_turnAll_42 hl rfl (by decide) rfl (fun ls hl => ?_)
          refine r_goto hx hb 5 dX3_turnAll_45 (by decide) ?_
          exact ih5 (i + 1) (x + 1) (turn1 (P pn) i st) (by omega) (by omega) (by rw [es]; rfl) (by have h9 := cntW_turn1 (P := P pn) (j := i) (st := st) (by omega) hnb; rw [c_32] at h9; simp only [b2i] at h9; rw [h9, ex]; simp only [if_true, if_false, Bool.false_eq_true]; omega) _ _ hP hD hS _ (lv_sub hl [2, 3, 4, 1, 0] rfl)
  exact K5 7 0 0 ds (by omega) (by omega) rfl (by omega) _ _ hP hD hS _ (lv_sub hl [2, 3, 4, 1, 0] rfl)
set_option maxHeartbeats 4000000 in
set_option maxRecDepth 100000 in
theorem c_X3_wearOf (l : Launch) (D : va_G) (G : Nat → ClassId) (b : Nat → Nat) (th n np mo : Int) (S : Nat → DS) (d : Nat) (hd : d < 8) (ds : DS) (hSd : S d = ds) (hok : okD ds)  : MtG l yX3_wearOf wsX3_wearOf 2 80 0 0 D (TY G) [.ref (b 0), .int (iv (d : Int))] ([wM0 b th n np mo, wMl G b (LL S)]) (qI D (fun r u => r = iv (sm (dW ds) 6) ∧ u = [wM0 b th n np mo, wMl G b (LL S)])) := by
  refine MtG.mk (cc := cX3_wearOf) (maxL := 4) (ret := some .int) (by decide) rfl (Nat.le_of_ble_eq_true rfl) ?_
  intro p e s m below meth c A ls hx hb hr hlk hml hown hin hts hK hA hP hD hS hl
  replace hown : s.vm.findClass RX3 = some m.cls := hown
  have hl : lv_has ls 4 [(0, .ref (b 0)), (1, .int (iv (d : Int)))] := hl
  skip
  have hP : va_P D vwCl ([(b 0, .inr (3, [.int (iv th), .int (iv n), .int (iv np), .int (iv mo), .ref (b 1), .ref (b 2), .ref (b 3), .ref (b 4), .ref (b 5)])), (b 1, .inl (G 0, 144, .inl (fun y9 => iv (LL S y9))))]) s.heap := hP
  have hD : va_D A ([(b 0, .inr (3, [.int (iv th), .int (iv n), .int (iv np), .int (iv mo), .ref (b 1), .ref (b 2), .ref (b 3), .ref (b 4), .ref (b 5)])), (b 1, .inl (G 0, 144, .inl (fun y9 => iv (LL S y9))))]) := hD
  refine r_const hx hb dX3_wearOf_0 ?_
  refine lv_istore_n (lv' := [(2, .int (iv 0)), (0, .ref (b 0)), (1, .int (iv (d : Int)))]) hx hb dX3_wearOf_1 rfl hl (by decide) rfl (fun ls hl => ?_)
  refine r_const hx hb dX3_wearOf_2 ?_
  refine lv_istore_n (lv' := [(3, .int (iv 0)), (2, .int (iv 0)), (0, .ref (b 0)), (1, .int (iv (d : Int)))]) hx hb dX3_wearOf_3 rfl hl (by decide) rfl (fun ls hl => ?_)
  have K4 : ∀ (fu i : Nat) (x : Int), i ≤ 6 → 6 < i + fu → x = sm (dW ds) i → ∀ (H : Heap) (locs : List Loc), va_P D vwCl ([(b 0, .inr (3, [.int (iv th), .int (iv n), .int (iv np), .int (iv mo), .ref (b 1), .ref (b 2), .ref (b 3), .ref (b 4), .ref (b 5)])), (b 1, .inl (G 0, 144, .inl (fun y9 => iv (LL S y9))))]) H → va_D A ([(b 0, .inr (3, [.int (iv th), .int (iv n), .int (iv np), .int (iv mo), .ref (b 1), .ref (b 2), .ref (b 3), .ref (b 4), .ref (b 5)])), (b 1, .inl (G 0, 144, .inl (fun y9 => iv (LL S y9))))]) → va_S A s.heap H locs → ∀ (ls : Array Slot), lv_has ls 4 [(0, .ref (b 0)), (1, .int (iv (d : Int))), (2, .int (iv x)), (3, .int (iv (i : Int)))] → W p l e (rmOf 2 80 0 0) s m ([.ref (b 0), .int (iv (d : Int))] : List Value).toArray below meth c H locs 0 0 (MQ below (qI D (fun r u => r = iv (sm (dW ds) 6) ∧ u = [wM0 b th n np mo, wMl G b (LL S)]) A) ([.ref (b 0), .int (iv (d : Int))] : List Value).toArray s 0 0 A) (F0 m 4 ls []) := by
    intro fu
    induction fu with
    | zero => intro i x h1 h2; exact absurd h2 (by omega)
    | succ fu ih4 =>
      intro i x hi_4 hn_4 ex H locs hP hD hS ls hl
      refine lv_iload_n hx hb dX3_wearOf_4 rfl (lv_at hl 3 rfl) ?_
      refine lv_bipush (v := iv 6) hx hb dX3_wearOf_5 (by decide) ?_
      refine r_icmp_ge hx hb 26 dX3_wearOf_7 (by decide) (by omega) (by omega) (fun c_7 => ?_) (fun c_7 => ?_)
      · skip
        refine lv_iload_n hx hb dX3_wearOf_26 rfl (lv_at hl 2 rfl) ?_
        exact e_int hx hb hr hlk dX3_wearOf_27 hS hP hD (by decide) (by decide) (⟨by rw [ex, show i = 6 by omega], rfl⟩)
      · skip
        refine lv_iload_n hx hb dX3_wearOf_10 rfl (lv_at hl 2 rfl) ?_
        refine lv_aload_n hx hb dX3_wearOf_11 rfl (lv_at hl 0 rfl) ?_
        refine lv_iload_n hx hb dX3_wearOf_12 rfl (lv_at hl 1 rfl) ?_
        refine lv_iload_n hx hb dX3_wearOf_13 rfl (lv_at hl 3 rfl) ?_
        refine r_const hx hb dX3_wearOf_14 ?_
        have hp := wsp ([(b 0, .inr (3, [.int (iv th), .int (iv n), .int (iv np), .int (iv mo), .ref (b 1), .ref (b 2), .ref (b 3), .ref (b 4), .ref (b 5)])), (b 1, .inl (G 0, 144, .inl (fun y9 => iv (LL S y9))))]) ([]) 2 (is := [0, 1]) (js := []) (wc := [wM0 b th n np mo, wMl G b (LL S)]) (wr := []) (by decide) rfl rfl rfl
        skip
        refine k_int (g_V (As := [.int (iv (d : Int)), .int (iv (i : Int)), .int (iv 1)]) (rest := [.int (iv x)]) (q0 := 0) (ci := 3) ⟨hx, hb, hml, hown, hts⟩ (c_X3_li l D G b th n np mo (LL S) d i 1 (by omega) (by omega) (by omega) (dW ds i) (by rw [LL_at _ (by omega) (by omega), hSd]; rfl)) (cwV 3 hts gX3_wearOf_X3_li rfl rfl rfl (by decide +kernel) ⟨Nat.le_of_ble_eq_true rfl, Nat.le_of_ble_eq_true rfl⟩) hK hP hD hp rfl rfl rfl rfl hl.1 rfl (Nat.le_of_ble_eq_true rfl) dX3_wearOf_15 ⟨by decide, by decide⟩) hP hD hS hA hp (fun v u H locs hw hP hD hS => ?_)
        obtain ⟨hv, hu⟩ := hw
        replace hv : v = (iv (dW ds i)) := hv
        subst hv
        subst hu
        have hP : va_P D vwCl ([(b 0, .inr (3, [.int (iv th), .int (iv n), .int (iv np), .int (iv mo), .ref (b 1), .ref (b 2), .ref (b 3), .ref (b 4), .ref (b 5)])), (b 1, .inl (G 0, 144, .inl (fun y9 => iv (LL S y9))))]) H := hP
        have hD : va_D A ([(b 0, .inr (3, [.int (iv th), .int (iv n), .int (iv np), .int (iv mo), .ref (b 1), .ref (b 2), .ref (b 3), .ref (b 4), .ref (b 5)])), (b 1, .inl (G 0, 144, .inl (fun y9 => iv (LL S y9))))]) := hD
        refine r_add hx hb dX3_wearOf_18 ?_
        refine lv_istore_n (lv' := [(2, .int (iv (x + (dW ds i)))), (0, .ref (b 0)), (1, .int (iv (d : Int))), (3, .int (iv (i : Int)))]) hx hb dX3_wearOf_19 rfl hl (by decide) rfl (fun ls hl => ?_)
        refine r_iinc (k := 3) (lv' := [(3, .int (iv ((i : Int) + 1))), (2, .int (iv (x + (dW ds i)))), (0, .ref (b 0)), (1, .int (iv (d : Int)))]) hx hb dX3_wearOf_20 hl rfl (by decide) rfl (fun ls hl => ?_)
        refine r_goto hx hb 4 dX3_wearOf_23 (by decide) ?_
        exact ih4 (i + 1) (x + dW ds i) (by omega) (by omega) (sm_s ex rfl) _ _ hP hD hS _ (lv_sub hl [2, 3, 1, 0] rfl)
  exact K4 7 0 0 (by omega) (by omega) rfl _ _ hP hD hS _ (lv_sub hl [2, 3, 1, 0] rfl)
set_option maxHeartbeats 4000000 in
set_option maxRecDepth 100000 in
theorem c_X3_jointTold (l : Launch) (D : va_G) (G : Nat → ClassId) (b : Nat → Nat) (th n np mo : Int) (S : Nat → DS) (d : Nat) (hd : d < 8) (ds : DS) (hSd : S d = ds) (hok : okD ds) (j w : Nat) (hj : j < 6) (hw4 : w < 4)  : MtG l yX3_jointTold wsX3_jointTold 3 125 0 0 D (TY G) [.ref (b 0), .int (iv (d : Int)), .int (iv (j : Int)), .int (iv (w : Int))] ([wM0 b th n np mo, wMl G b (LL S)]) (qI D (fun r u => r = iv (jtold ds j w) ∧ u = [wM0 b th n np mo, wMl G b (LL S)])) := by
  refine MtG.mk (cc := cX3_jointTold) (maxL := 4) (ret := some .int) (by decide) rfl (Nat.le_of_ble_eq_true rfl) ?_
  intro p e s m below meth c A ls hx hb hr hlk hml hown hin hts hK hA hP hD hS hl
  replace hown : s.vm.findClass RX3 = some m.cls := hown
  have hl : lv_has ls 4 [(0, .ref (b 0)), (1, .int (iv (d : Int))), (2, .int (iv (j : Int))), (3, .int (iv (w : Int)))] := hl
  skip
  have hP : va_P D vwCl ([(b 0, .inr (3, [.int (iv th), .int (iv n), .int (iv np), .int (iv mo), .ref (b 1), .ref (b 2), .ref (b 3), .ref (b 4), .ref (b 5)])), (b 1, .inl (G 0, 144, .inl (fun y9 => iv (LL S y9))))]) s.heap := hP
  have hD : va_D A ([(b 0, .inr (3, [.int (iv th), .int (iv n), .int (iv np), .int (iv mo), .ref (b 1), .ref (b 2), .ref (b 3), .ref (b 4), .ref (b 5)])), (b 1, .inl (G 0, 144, .inl (fun y9 => iv (LL S y9))))]) := hD
  have rW := okD_W hok j hj
  refine lv_iload_n hx hb dX3_jointTold_0 rfl (lv_at hl 3 rfl) ?_
  refine r_const hx hb dX3_jointTold_1 ?_
  refine r_icmp_ge hx hb 15 dX3_jointTold_2 (by decide) (by omega) (by omega) (fun c_2 => ?_) (fun c_2 => ?_)
  · skip
    refine lv_aload_n hx hb dX3_jointTold_15 rfl (lv_at hl 0 rfl) ?_
    refine lv_iload_n hx hb dX3_jointTold_16 rfl (lv_at hl 1 rfl) ?_
    refine lv_iload_n hx hb dX3_jointTold_17 rfl (lv_at hl 2 rfl) ?_
    have hp := wsp ([(b 0, .inr (3, [.int (iv th), .int (iv n), .int (iv np), .int (iv mo), .ref (b 1), .ref (b 2), .ref (b 3), .ref (b 4), .ref (b 5)])), (b 1, .inl (G 0, 144, .inl (fun y9 => iv (LL S y9))))]) ([]) 2 (is := [0, 1]) (js := []) (wc := [wM0 b th n np mo, wMl G b (LL S)]) (wr := []) (by decide) rfl rfl rfl
    skip
    refine k_int (g_V (As := [.int (iv (d : Int)), .int (iv (j : Int))]) (rest := []) (q0 := 0) (ci := 3) ⟨hx, hb, hml, hown, hts⟩ (c_X3_isBroken l D G b th n np mo (LL S) d j (by omega) (by omega) (dW ds j) (by rw [LL_at S (by omega) (by omega), hSd]; rfl) (by omega)) (cwV 2 hts gX3_jointTold_X3_isBroken rfl rfl rfl (by decide +kernel) ⟨Nat.le_of_ble_eq_true rfl, Nat.le_of_ble_eq_true rfl⟩) hK hP hD hp rfl rfl rfl rfl hl.1 rfl (Nat.le_of_ble_eq_true rfl) dX3_jointTold_18 ⟨by decide, by decide⟩) hP hD hS hA hp (fun v u H locs hw hP hD hS => ?_)
    obtain ⟨hv, hu⟩ := hw
    replace hv : v = (iv (b2i (decide (dW ds j = 100)))) := hv
    subst hv
    subst hu
    have hP : va_P D vwCl ([(b 0, .inr (3, [.int (iv th), .int (iv n), .int (iv np), .int (iv mo), .ref (b 1), .ref (b 2), .ref (b 3), .ref (b 4), .ref (b 5)])), (b 1, .inl (G 0, 144, .inl (fun y9 => iv (LL S y9))))]) H := hP
    have hD : va_D A ([(b 0, .inr (3, [.int (iv th), .int (iv n), .int (iv np), .int (iv mo), .ref (b 1), .ref (b 2), .ref (b 3), .ref (b 4), .ref (b 5)])), (b 1, .inl (G 0, 144, .inl (fun y9 => iv (LL S y9))))]) := hD
    refine r_bool_eq hx hb 28 dX3_jointTold_21 (by decide) (fun c_21 => ?_) (fun c_21 => ?_)
    · skip
      refine r_const hx hb dX3_jointTold_28 ?_
      simp only [decide_eq_true_eq, decide_eq_false_iff_not] at c_21
      exact e_int hx hb hr hlk dX3_jointTold_29 hS hP hD (by decide) (by decide) (⟨by unfold jtold; rw [if_neg (by omega), if_neg (by omega)], rfl⟩)
    · skip
      refine r_const hx hb dX3_jointTold_24 ?_
      refine r_goto hx hb 29 dX3_jointTold_25 (by decide) ?_
      simp only [decide_eq_true_eq, decide_eq_false_iff_not] at c_21
      exact e_int hx hb hr hlk dX3_jointTold_29 hS hP hD (by decide) (by decide) (⟨by unfold jtold; rw [if_neg (by omega), if_pos (by omega)], rfl⟩)
  · skip
    refine lv_aload_n hx hb dX3_jointTold_5 rfl (lv_at hl 0 rfl) ?_
    refine lv_iload_n hx hb dX3_jointTold_6 rfl (lv_at hl 1 rfl) ?_
    refine lv_iload_n hx hb dX3_jointTold_7 rfl (lv_at hl 2 rfl) ?_
    refine lv_iload_n hx hb dX3_jointTold_8 rfl (lv_at hl 3 rfl) ?_
    have hp := wsp ([(b 0, .inr (3, [.int (iv th), .int (iv n), .int (iv np), .int (iv mo), .ref (b 1), .ref (b 2), .ref (b 3), .ref (b 4), .ref (b 5)])), (b 1, .inl (G 0, 144, .inl (fun y9 => iv (LL S y9))))]) ([]) 2 (is := [0, 1]) (js := []) (wc := [wM0 b th n np mo, wMl G b (LL S)]) (wr := []) (by decide) rfl rfl rfl
    skip
    refine k_int (g_V (As := [.int (iv (d : Int)), .int (iv (j : Int)), .int (iv (w : Int))]) (rest := []) (q0 := 0) (ci := 3) ⟨hx, hb, hml, hown, hts⟩ (c_X3_li l D G b th n np mo (LL S) d j w (by omega) (by omega) (by omega) (limv ds w j) (by rw [LL_at S (by omega) (by omega), hSd])) (cwV 3 hts gX3_jointTold_X3_li rfl rfl rfl (by decide +kernel) ⟨Nat.le_of_ble_eq_true rfl, Nat.le_of_ble_eq_true rfl⟩) hK hP hD hp rfl rfl rfl rfl hl.1 rfl (Nat.le_of_ble_eq_true rfl) dX3_jointTold_9 ⟨by decide, by decide⟩) hP hD hS hA hp (fun v u H locs hw hP hD hS => ?_)
    obtain ⟨hv, hu⟩ := hw
    replace hv : v = (iv (limv ds w j)) := hv
    subst hv
    subst hu
    have hP : va_P D vwCl ([(b 0, .inr (3, [.int (iv th), .int (iv n), .int (iv np), .int (iv mo), .ref (b 1), .ref (b 2), .ref (b 3), .ref (b 4), .ref (b 5)])), (b 1, .inl (G 0, 144, .inl (fun y9 => iv (LL S y9))))]) H := hP
    have hD : va_D A ([(b 0, .inr (3, [.int (iv th), .int (iv n), .int (iv np), .int (iv mo), .ref (b 1), .ref (b 2), .ref (b 3), .ref (b 4), .ref (b 5)])), (b 1, .inl (G 0, 144, .inl (fun y9 => iv (LL S y9))))]) := hD
    refine r_goto hx hb 29 dX3_jointTold_12 (by decide) ?_
    exact e_int hx hb hr hlk dX3_jointTold_29 hS hP hD (by decide) (by decide) (⟨by unfold jtold; rw [if_pos (by omega)], rfl⟩)
set_option maxHeartbeats 4000000 in
set_option maxRecDepth 100000 in
theorem c_X3_needed (l : Launch) (D : va_G) (G : Nat → ClassId) (b : Nat → Nat) (th n np mo : Int) (S : Nat → DS) (d : Nat) (hd : d < 8) (ds : DS) (hSd : S d = ds) (hok : okD ds) (kind : Int) (hki : 0 ≤ kind ∧ kind ≤ 4)  : MtG l yX3_needed wsX3_needed 2 80 0 0 D (TY G) [.ref (b 0), .int (iv (d : Int)), .int (iv kind)] ([wM0 b th n np mo, wMl G b (LL S), wMr G b (RR S)]) (qI D (fun r u => r = iv (wants kind ds) ∧ u = [wM0 b th n np mo, wMl G b (LL S), wMr G b (RR S)])) := by
  refine MtG.mk (cc := cX3_needed) (maxL := 5) (ret := some .int) (by decide) rfl (Nat.le_of_ble_eq_true rfl) ?_
  intro p e s m below meth c A ls hx hb hr hlk hml hown hin hts hK hA hP hD hS hl
  replace hown : s.vm.findClass RX3 = some m.cls := hown
  have hl : lv_has ls 5 [(0, .ref (b 0)), (1, .int (iv (d : Int))), (2, .int (iv kind))] := hl
  skip
  have hP : va_P D vwCl ([(b 0, .inr (3, [.int (iv th), .int (iv n), .int (iv np), .int (iv mo), .ref (b 1), .ref (b 2), .ref (b 3), .ref (b 4), .ref (b 5)])), (b 1, .inl (G 0, 144, .inl (fun y9 => iv (LL S y9)))), (b 2, .inl (G 0, 64, .inl (fun y9 => iv (RR S y9))))]) s.heap := hP
  have hD : va_D A ([(b 0, .inr (3, [.int (iv th), .int (iv n), .int (iv np), .int (iv mo), .ref (b 1), .ref (b 2), .ref (b 3), .ref (b 4), .ref (b 5)])), (b 1, .inl (G 0, 144, .inl (fun y9 => iv (LL S y9)))), (b 2, .inl (G 0, 64, .inl (fun y9 => iv (RR S y9))))]) := hD
  obtain ⟨-, -, og, ov, on, ovn, ovn2⟩ := id hok
  have u0 := okD_U hok 0 (by omega)
  have u1 := okD_U hok 1 (by omega)
  refine r_const hx hb dX3_needed_0 ?_
  refine lv_istore_n (lv' := [(3, .int (iv 0)), (0, .ref (b 0)), (1, .int (iv (d : Int))), (2, .int (iv kind))]) hx hb dX3_needed_1 rfl hl (by decide) rfl (fun ls hl => ?_)
  refine lv_iload_n hx hb dX3_needed_2 rfl (lv_at hl 3 rfl) ?_
  rcases (show kind = 0 ∨ kind = 1 ∨ kind = 2 ∨ kind = 3 ∨ kind = 4 by omega) with rfl | rfl | rfl | rfl | rfl
  · skip
    refine lv_tableIn (off := 29) (tgt := 32) hx hb dX3_needed_3 (by decide) (by decide) (by decide) (by decide) ?_
    refine r_const hx hb dX3_needed_32 ?_
    refine lv_istore (lv' := [(4, .int (iv 0)), (3, .int (iv 0)), (0, .ref (b 0)), (1, .int (iv (d : Int))), (2, .int (iv 0))]) hx hb dX3_needed_33 hl (by decide) rfl (fun ls hl => ?_)
    have K35 : ∀ (fu i : Nat) (x : Int), i ≤ 6 → 6 < i + fu → x = cnt (fun k => decide (50 ≤ dW ds k)) i → ∀ (H : Heap) (locs : List Loc), va_P D vwCl ([(b 0, .inr (3, [.int (iv th), .int (iv n), .int (iv np), .int (iv mo), .ref (b 1), .ref (b 2), .ref (b 3), .ref (b 4), .ref (b 5)])), (b 1, .inl (G 0, 144, .inl (fun y9 => iv (LL S y9)))), (b 2, .inl (G 0, 64, .inl (fun y9 => iv (RR S y9))))]) H → va_D A ([(b 0, .inr (3, [.int (iv th), .int (iv n), .int (iv np), .int (iv mo), .ref (b 1), .ref (b 2), .ref (b 3), .ref (b 4), .ref (b 5)])), (b 1, .inl (G 0, 144, .inl (fun y9 => iv (LL S y9)))), (b 2, .inl (G 0, 64, .inl (fun y9 => iv (RR S y9))))]) → va_S A s.heap H locs → ∀ (ls : Array Slot), lv_has ls 5 [(0, .ref (b 0)), (1, .int (iv (d : Int))), (3, .int (iv x)), (4, .int (iv (i : Int)))] → W p l e (rmOf 2 80 0 0) s m ([.ref (b 0), .int (iv (d : Int)), .int (iv 0)] : List Value).toArray below meth c H locs 0 0 (MQ below (qI D (fun r u => r = iv (wants 0 ds) ∧ u = [wM0 b th n np mo, wMl G b (LL S), wMr G b (RR S)]) A) ([.ref (b 0), .int (iv (d : Int)), .int (iv 0)] : List Value).toArray s 0 0 A) (F0 m 35 ls []) := by
      intro fu
      induction fu with
      | zero => intro i x h1 h2; exact absurd h2 (by omega)
      | succ fu ih35 =>
        intro i x hi_35 hn_35 ex H locs hP hD hS ls hl
        refine lv_iload hx hb dX3_needed_35 (lv_at hl 3 rfl) ?_
        refine lv_bipush (v := iv 6) hx hb dX3_needed_37 (by decide) ?_
        refine r_icmp_ge hx hb 69 dX3_needed_39 (by decide) (by omega) (by omega) (fun c_39 => ?_) (fun c_39 => ?_)
        · skip
          refine lv_iload_n hx hb dX3_needed_69 rfl (lv_at hl 2 rfl) ?_
          obtain rfl : i = 6 := by omega
          exact e_int hx hb hr hlk dX3_needed_70 hS hP hD (by decide) (by decide) (⟨by rw [ex]; rfl, rfl⟩)
        · skip
          have rW := okD_W hok i (by omega)
          refine lv_iload_n hx hb dX3_needed_42 rfl (lv_at hl 2 rfl) ?_
          refine lv_aload_n hx hb dX3_needed_43 rfl (lv_at hl 0 rfl) ?_
          refine lv_iload_n hx hb dX3_needed_44 rfl (lv_at hl 1 rfl) ?_
          refine lv_iload hx hb dX3_needed_45 (lv_at hl 3 rfl) ?_
          refine r_const hx hb dX3_needed_47 ?_
          have hp := wsp ([(b 0, .inr (3, [.int (iv th), .int (iv n), .int (iv np), .int (iv mo), .ref (b 1), .ref (b 2), .ref (b 3), .ref (b 4), .ref (b 5)])), (b 1, .inl (G 0, 144, .inl (fun y9 => iv (LL S y9)))), (b 2, .inl (G 0, 64, .inl (fun y9 => iv (RR S y9))))]) ([]) 3 (is := [0, 1]) (js := [2]) (wc := [wM0 b th n np mo, wMl G b (LL S)]) (wr := [(b 2, .inl (G 0, 64, .inl (fun y9 => iv (RR S y9))))]) (by decide) rfl rfl rfl
          skip
          refine k_int (g_V (As := [.int (iv (d : Int)), .int (iv (i : Int)), .int (iv 1)]) (rest := [.int (iv x)]) (q0 := 0) (ci := 3) ⟨hx, hb, hml, hown, hts⟩ (c_X3_li l D G b th n np mo (LL S) d i 1 (by omega) (by omega) (by omega) (dW ds i) (by rw [LL_at _ (by omega) (by omega), hSd]; rfl)) (cwV 3 hts gX3_needed_X3_li rfl rfl rfl (by decide +kernel) ⟨Nat.le_of_ble_eq_true rfl, Nat.le_of_ble_eq_true rfl⟩) hK hP hD hp rfl rfl rfl rfl hl.1 rfl (Nat.le_of_ble_eq_true rfl) dX3_needed_48 ⟨by decide, by decide⟩) hP hD hS hA hp (fun v u H locs hw hP hD hS => ?_)
          obtain ⟨hv, hu⟩ := hw
          replace hv : v = (iv (dW ds i)) := hv
          subst hv
          subst hu
          have hP : va_P D vwCl ([(b 0, .inr (3, [.int (iv th), .int (iv n), .int (iv np), .int (iv mo), .ref (b 1), .ref (b 2), .ref (b 3), .ref (b 4), .ref (b 5)])), (b 1, .inl (G 0, 144, .inl (fun y9 => iv (LL S y9)))), (b 2, .inl (G 0, 64, .inl (fun y9 => iv (RR S y9))))]) H := hP
          have hD : va_D A ([(b 0, .inr (3, [.int (iv th), .int (iv n), .int (iv np), .int (iv mo), .ref (b 1), .ref (b 2), .ref (b 3), .ref (b 4), .ref (b 5)])), (b 1, .inl (G 0, 144, .inl (fun y9 => iv (LL S y9)))), (b 2, .inl (G 0, 64, .inl (fun y9 => iv (RR S y9))))]) := hD
          refine lv_bipush (v := iv 50) hx hb dX3_needed_51 (by decide) ?_
          refine r_icmp_lt hx hb 60 dX3_needed_53 (by decide) (by omega) (by omega) (fun c_53 => ?_) (fun c_53 => ?_)
          · skip
            refine r_const hx hb dX3_needed_60 ?_
            refine r_add hx hb dX3_needed_61 ?_
            refine lv_istore_n (lv' := [(3, .int (iv (x + 0))), (0, .ref (b 0)), (1, .int (iv (d : Int))), (4, .int (iv (i : Int)))]) hx hb dX3_needed_62 rfl hl (by decide) rfl (fun ls hl => ?_)
            refine r_iinc (k := 3) (lv' := [(4, .int (iv ((i : Int) + 1))), (3, .int (iv (x + 0))), (0, .ref (b 0)), (1, .int (iv (d : Int)))]) hx hb dX3_needed_63 hl rfl (by decide) rfl (fun ls hl => ?_)
            refine r_goto hx hb 35 dX3_needed_66 (by decide) ?_
            exact ih35 (i + 1) (x + 0) (by omega) (by omega) (by rw [ex, Int.add_zero]; exact cnt_no (decide_eq_false (by omega))) _ _ hP hD hS _ (lv_sub hl [2, 3, 1, 0] rfl)
          · skip
            refine r_const hx hb dX3_needed_56 ?_
            refine r_goto hx hb 61 dX3_needed_57 (by decide) ?_
            refine r_add hx hb dX3_needed_61 ?_
            refine lv_istore_n (lv' := [(3, .int (iv (x + 1))), (0, .ref (b 0)), (1, .int (iv (d : Int))), (4, .int (iv (i : Int)))]) hx hb dX3_needed_62 rfl hl (by decide) rfl (fun ls hl => ?_)
            refine r_iinc (k := 3) (lv' := [(4, .int (iv ((i : Int) + 1))), (3, .int (iv (x + 1))), (0, .ref (b 0)), (1, .int (iv (d : Int)))]) hx hb dX3_needed_63 hl rfl (by decide) rfl (fun ls hl => ?_)
            refine r_goto hx hb 35 dX3_needed_66 (by decide) ?_
            exact ih35 (i + 1) (x + 1) (by omega) (by omega) (ex ▸ cnt_yes (decide_eq_true (by omega))) _ _ hP hD hS _ (lv_sub hl [2, 3, 1, 0] rfl)
    exact K35 7 0 0 (by omega) (by omega) rfl _ _ hP hD hS _ (lv_sub hl [2, 3, 1, 0] rfl)
  · skip
    refine lv_tableIn (off := 68) (tgt := 71) hx hb dX3_needed_3 (by decide) (by decide) (by decide) (by decide) ?_
    refine r_const hx hb dX3_needed_71 ?_
    refine lv_istore (lv' := [(4, .int (iv 0)), (3, .int (iv 0)), (0, .ref (b 0)), (1, .int (iv (d : Int))), (2, .int (iv 1))]) hx hb dX3_needed_72 hl (by decide) rfl (fun ls hl => ?_)
    have K74 : ∀ (fu i : Nat) (x : Int), i ≤ 6 → 6 < i + fu → x = cnt (fun k => decide (dQ ds k = 0)) i → ∀ (H : Heap) (locs : List Loc), va_P D vwCl ([(b 0, .inr (3, [.int (iv th), .int (iv n), .int (iv np), .int (iv mo), .ref (b 1), .ref (b 2), .ref (b 3), .ref (b 4), .ref (b 5)])), (b 1, .inl (G 0, 144, .inl (fun y9 => iv (LL S y9)))), (b 2, .inl (G 0, 64, .inl (fun y9 => iv (RR S y9))))]) H → va_D A ([(b 0, .inr (3, [.int (iv th), .int (iv n), .int (iv np), .int (iv mo), .ref (b 1), .ref (b 2), .ref (b 3), .ref (b 4), .ref (b 5)])), (b 1, .inl (G 0, 144, .inl (fun y9 => iv (LL S y9)))), (b 2, .inl (G 0, 64, .inl (fun y9 => iv (RR S y9))))]) → va_S A s.heap H locs → ∀ (ls : Array Slot), lv_has ls 5 [(0, .ref (b 0)), (1, .int (iv (d : Int))), (3, .int (iv x)), (4, .int (iv (i : Int)))] → W p l e (rmOf 2 80 0 0) s m ([.ref (b 0), .int (iv (d : Int)), .int (iv 1)] : List Value).toArray below meth c H locs 0 0 (MQ below (qI D (fun r u => r = iv (wants 1 ds) ∧ u = [wM0 b th n np mo, wMl G b (LL S), wMr G b (RR S)]) A) ([.ref (b 0), .int (iv (d : Int)), .int (iv 1)] : List Value).toArray s 0 0 A) (F0 m 74 ls []) := by
      intro fu
      induction fu with
      | zero => intro i x h1 h2; exact absurd h2 (by omega)
      | succ fu ih74 =>
        intro i x hi_74 hn_74 ex H locs hP hD hS ls hl
        refine lv_iload hx hb dX3_needed_74 (lv_at hl 3 rfl) ?_
        refine lv_bipush (v := iv 6) hx hb dX3_needed_76 (by decide) ?_
        refine r_icmp_ge hx hb 106 dX3_needed_78 (by decide) (by omega) (by omega) (fun c_78 => ?_) (fun c_78 => ?_)
        · skip
          refine lv_iload_n hx hb dX3_needed_106 rfl (lv_at hl 2 rfl) ?_
          obtain rfl : i = 6 := by omega
          exact e_int hx hb hr hlk dX3_needed_107 hS hP hD (by decide) (by decide) (⟨by rw [ex]; rfl, rfl⟩)
        · skip
          have rQ := okD_Q hok i (by omega)
          refine lv_iload_n hx hb dX3_needed_81 rfl (lv_at hl 2 rfl) ?_
          refine lv_aload_n hx hb dX3_needed_82 rfl (lv_at hl 0 rfl) ?_
          refine lv_iload_n hx hb dX3_needed_83 rfl (lv_at hl 1 rfl) ?_
          refine lv_iload hx hb dX3_needed_84 (lv_at hl 3 rfl) ?_
          refine r_const hx hb dX3_needed_86 ?_
          have hp := wsp ([(b 0, .inr (3, [.int (iv th), .int (iv n), .int (iv np), .int (iv mo), .ref (b 1), .ref (b 2), .ref (b 3), .ref (b 4), .ref (b 5)])), (b 1, .inl (G 0, 144, .inl (fun y9 => iv (LL S y9)))), (b 2, .inl (G 0, 64, .inl (fun y9 => iv (RR S y9))))]) ([]) 3 (is := [0, 1]) (js := [2]) (wc := [wM0 b th n np mo, wMl G b (LL S)]) (wr := [(b 2, .inl (G 0, 64, .inl (fun y9 => iv (RR S y9))))]) (by decide) rfl rfl rfl
          skip
          refine k_int (g_V (As := [.int (iv (d : Int)), .int (iv (i : Int)), .int (iv 2)]) (rest := [.int (iv x)]) (q0 := 0) (ci := 3) ⟨hx, hb, hml, hown, hts⟩ (c_X3_li l D G b th n np mo (LL S) d i 2 (by omega) (by omega) (by omega) (dQ ds i) (by rw [LL_at _ (by omega) (by omega), hSd]; rfl)) (cwV 3 hts gX3_needed_X3_li rfl rfl rfl (by decide +kernel) ⟨Nat.le_of_ble_eq_true rfl, Nat.le_of_ble_eq_true rfl⟩) hK hP hD hp rfl rfl rfl rfl hl.1 rfl (Nat.le_of_ble_eq_true rfl) dX3_needed_87 ⟨by decide, by decide⟩) hP hD hS hA hp (fun v u H locs hw hP hD hS => ?_)
          obtain ⟨hv, hu⟩ := hw
          replace hv : v = (iv (dQ ds i)) := hv
          subst hv
          subst hu
          have hP : va_P D vwCl ([(b 0, .inr (3, [.int (iv th), .int (iv n), .int (iv np), .int (iv mo), .ref (b 1), .ref (b 2), .ref (b 3), .ref (b 4), .ref (b 5)])), (b 1, .inl (G 0, 144, .inl (fun y9 => iv (LL S y9)))), (b 2, .inl (G 0, 64, .inl (fun y9 => iv (RR S y9))))]) H := hP
          have hD : va_D A ([(b 0, .inr (3, [.int (iv th), .int (iv n), .int (iv np), .int (iv mo), .ref (b 1), .ref (b 2), .ref (b 3), .ref (b 4), .ref (b 5)])), (b 1, .inl (G 0, 144, .inl (fun y9 => iv (LL S y9)))), (b 2, .inl (G 0, 64, .inl (fun y9 => iv (RR S y9))))]) := hD
          refine r_if_ne hx hb 97 dX3_needed_90 (by decide) (by omega) (fun c_90 => ?_) (fun c_90 => ?_)
          · skip
            refine r_const hx hb dX3_needed_97 ?_
            refine r_add hx hb dX3_needed_98 ?_
            refine lv_istore_n (lv' := [(3, .int (iv (x + 0))), (0, .ref (b 0)), (1, .int (iv (d : Int))), (4, .int (iv (i : Int)))]) hx hb dX3_needed_99 rfl hl (by decide) rfl (fun ls hl => ?_)
            refine r_iinc (k := 3) (lv' := [(4, .int (iv ((i : Int) + 1))), (3, .int (iv (x + 0))), (0, .ref (b 0)), (1, .int (iv (d : Int)))]) hx hb dX3_needed_100 hl rfl (by decide) rfl (fun ls hl => ?_)
            refine r_goto hx hb 74 dX3_needed_103 (by decide) ?_
            exact ih74 (i + 1) (x + 0) (by omega) (by omega) (by rw [ex, Int.add_zero]; exact cnt_no (decide_eq_false (by omega))) _ _ hP hD hS _ (lv_sub hl [2, 3, 1, 0] rfl)
          · skip
            refine r_const hx hb dX3_needed_93 ?_
            refine r_goto hx hb 98 dX3_needed_94 (by decide) ?_
            refine r_add hx hb dX3_needed_98 ?_
            refine lv_istore_n (lv' := [(3, .int (iv (x + 1))), (0, .ref (b 0)), (1, .int (iv (d : Int))), (4, .int (iv (i : Int)))]) hx hb dX3_needed_99 rfl hl (by decide) rfl (fun ls hl => ?_)
            refine r_iinc (k := 3) (lv' := [(4, .int (iv ((i : Int) + 1))), (3, .int (iv (x + 1))), (0, .ref (b 0)), (1, .int (iv (d : Int)))]) hx hb dX3_needed_100 hl rfl (by decide) rfl (fun ls hl => ?_)
            refine r_goto hx hb 74 dX3_needed_103 (by decide) ?_
            exact ih74 (i + 1) (x + 1) (by omega) (by omega) (ex ▸ cnt_yes (decide_eq_true (by omega))) _ _ hP hD hS _ (lv_sub hl [2, 3, 1, 0] rfl)
    exact K74 7 0 0 (by omega) (by omega) rfl _ _ hP hD hS _ (lv_sub hl [2, 3, 1, 0] rfl)
  · skip
    refine lv_tableIn (off := 105) (tgt := 108) hx hb dX3_needed_3 (by decide) (by decide) (by decide) (by decide) ?_
    refine lv_aload_n hx hb dX3_needed_108 rfl (lv_at hl 1 rfl) ?_
    refine lv_iload_n hx hb dX3_needed_109 rfl (lv_at hl 2 rfl) ?_
    refine r_const hx hb dX3_needed_110 ?_
    have hp := wsp ([(b 0, .inr (3, [.int (iv th), .int (iv n), .int (iv np), .int (iv mo), .ref (b 1), .ref (b 2), .ref (b 3), .ref (b 4), .ref (b 5)])), (b 1, .inl (G 0, 144, .inl (fun y9 => iv (LL S y9)))), (b 2, .inl (G 0, 64, .inl (fun y9 => iv (RR S y9))))]) ([]) 3 (is := [0, 2]) (js := [1]) (wc := [wM0 b th n np mo, wMr G b (RR S)]) (wr := [(b 1, .inl (G 0, 144, .inl (fun y9 => iv (LL S y9))))]) (by decide) rfl rfl rfl
    skip
    refine k_int (g_V (As := [.int (iv (d : Int)), .int (iv 5)]) (rest := []) (q0 := 0) (ci := 3) ⟨hx, hb, hml, hown, hts⟩ (c_X3_ro l D G b th n np mo (RR S) d 5 (by omega) (by omega) (dv ds) (by rw [RR_at _ (by omega), hSd]; rfl)) (cwV 2 hts gX3_needed_X3_ro rfl rfl rfl (by decide +kernel) ⟨Nat.le_of_ble_eq_true rfl, Nat.le_of_ble_eq_true rfl⟩) hK hP hD hp rfl rfl rfl rfl hl.1 rfl (Nat.le_of_ble_eq_true rfl) dX3_needed_111 ⟨by decide, by decide⟩) hP hD hS hA hp (fun v u H locs hw hP hD hS => ?_)
    obtain ⟨hv, hu⟩ := hw
    replace hv : v = (iv (dv ds)) := hv
    subst hv
    subst hu
    have hP : va_P D vwCl ([(b 0, .inr (3, [.int (iv th), .int (iv n), .int (iv np), .int (iv mo), .ref (b 1), .ref (b 2), .ref (b 3), .ref (b 4), .ref (b 5)])), (b 2, .inl (G 0, 64, .inl (fun y9 => iv (RR S y9)))), (b 1, .inl (G 0, 144, .inl (fun y9 => iv (LL S y9))))]) H := hP
    have hD : va_D A ([(b 0, .inr (3, [.int (iv th), .int (iv n), .int (iv np), .int (iv mo), .ref (b 1), .ref (b 2), .ref (b 3), .ref (b 4), .ref (b 5)])), (b 2, .inl (G 0, 64, .inl (fun y9 => iv (RR S y9)))), (b 1, .inl (G 0, 144, .inl (fun y9 => iv (LL S y9))))]) := hD
    refine r_if_ne hx hb 121 dX3_needed_114 (by decide) (by omega) (fun c_114 => ?_) (fun c_114 => ?_)
    · skip
      refine lv_bipush (v := iv 12) hx hb dX3_needed_121 (by decide) ?_
      refine lv_aload_n hx hb dX3_needed_123 rfl (lv_at hl 1 rfl) ?_
      refine lv_iload_n hx hb dX3_needed_124 rfl (lv_at hl 2 rfl) ?_
      refine lv_bipush (v := iv 6) hx hb dX3_needed_125 (by decide) ?_
      have hp := wsp ([(b 0, .inr (3, [.int (iv th), .int (iv n), .int (iv np), .int (iv mo), .ref (b 1), .ref (b 2), .ref (b 3), .ref (b 4), .ref (b 5)])), (b 2, .inl (G 0, 64, .inl (fun y9 => iv (RR S y9)))), (b 1, .inl (G 0, 144, .inl (fun y9 => iv (LL S y9))))]) ([]) 3 (is := [0, 1]) (js := [2]) (wc := [wM0 b th n np mo, wMr G b (RR S)]) (wr := [(b 1, .inl (G 0, 144, .inl (fun y9 => iv (LL S y9))))]) (by decide) rfl rfl rfl
      skip
      refine k_int (g_V (As := [.int (iv (d : Int)), .int (iv 6)]) (rest := [.int (iv 12)]) (q0 := 0) (ci := 3) ⟨hx, hb, hml, hown, hts⟩ (c_X3_ro l D G b th n np mo (RR S) d 6 (by omega) (by omega) (dn ds) (by rw [RR_at _ (by omega), hSd]; rfl)) (cwV 2 hts gX3_needed_X3_ro rfl rfl rfl (by decide +kernel) ⟨Nat.le_of_ble_eq_true rfl, Nat.le_of_ble_eq_true rfl⟩) hK hP hD hp rfl rfl rfl rfl hl.1 rfl (Nat.le_of_ble_eq_true rfl) dX3_needed_127 ⟨by decide, by decide⟩) hP hD hS hA hp (fun v u H locs hw hP hD hS => ?_)
      obtain ⟨hv, hu⟩ := hw
      replace hv : v = (iv (dn ds)) := hv
      subst hv
      subst hu
      have hP : va_P D vwCl ([(b 0, .inr (3, [.int (iv th), .int (iv n), .int (iv np), .int (iv mo), .ref (b 1), .ref (b 2), .ref (b 3), .ref (b 4), .ref (b 5)])), (b 2, .inl (G 0, 64, .inl (fun y9 => iv (RR S y9)))), (b 1, .inl (G 0, 144, .inl (fun y9 => iv (LL S y9))))]) H := hP
      have hD : va_D A ([(b 0, .inr (3, [.int (iv th), .int (iv n), .int (iv np), .int (iv mo), .ref (b 1), .ref (b 2), .ref (b 3), .ref (b 4), .ref (b 5)])), (b 2, .inl (G 0, 64, .inl (fun y9 => iv (RR S y9)))), (b 1, .inl (G 0, 144, .inl (fun y9 => iv (LL S y9))))]) := hD
      refine r_sub hx hb dX3_needed_130 ?_
      have hq := wsp ([(b 0, .inr (3, [.int (iv th), .int (iv n), .int (iv np), .int (iv mo), .ref (b 1), .ref (b 2), .ref (b 3), .ref (b 4), .ref (b 5)])), (b 2, .inl (G 0, 64, .inl (fun y9 => iv (RR S y9)))), (b 1, .inl (G 0, 144, .inl (fun y9 => iv (LL S y9))))]) ([]) 3 (is := [0, 2, 1]) (js := []) (wc := [(b 0, .inr (3, [.int (iv th), .int (iv n), .int (iv np), .int (iv mo), .ref (b 1), .ref (b 2), .ref (b 3), .ref (b 4), .ref (b 5)])), (b 1, .inl (G 0, 144, .inl (fun y9 => iv (LL S y9)))), (b 2, .inl (G 0, 64, .inl (fun y9 => iv (RR S y9))))]) (wr := []) (by decide) rfl rfl rfl
      have hP := wP_perm hP hq
      have hD := wD_perm hD hq
      have hP : va_P D vwCl ([(b 0, .inr (3, [.int (iv th), .int (iv n), .int (iv np), .int (iv mo), .ref (b 1), .ref (b 2), .ref (b 3), .ref (b 4), .ref (b 5)])), (b 1, .inl (G 0, 144, .inl (fun y9 => iv (LL S y9)))), (b 2, .inl (G 0, 64, .inl (fun y9 => iv (RR S y9))))]) H := hP
      have hD : va_D A ([(b 0, .inr (3, [.int (iv th), .int (iv n), .int (iv np), .int (iv mo), .ref (b 1), .ref (b 2), .ref (b 3), .ref (b 4), .ref (b 5)])), (b 1, .inl (G 0, 144, .inl (fun y9 => iv (LL S y9)))), (b 2, .inl (G 0, 64, .inl (fun y9 => iv (RR S y9))))]) := hD
      exact e_int hx hb hr hlk dX3_needed_131 hS hP hD (by decide) (by decide) (⟨by unfold wants; simp only [show ¬ (1 : Int) = 0 by decide, show ¬ (2 : Int) = 0 by decide, show ¬ (2 : Int) = 1 by decide, show ¬ (3 : Int) = 0 by decide, show ¬ (3 : Int) = 1 by decide, show ¬ (3 : Int) = 2 by decide, show ¬ (4 : Int) = 0 by decide, show ¬ (4 : Int) = 1 by decide, show ¬ (4 : Int) = 2 by decide, show ¬ (4 : Int) = 3 by decide, if_true, if_false]; try first | rfl | (rw [if_pos (by omega)]) | (rw [if_neg (by omega)]), rfl⟩)
    · skip
      refine r_const hx hb dX3_needed_117 ?_
      refine r_goto hx hb 131 dX3_needed_118 (by decide) ?_
      have hq := wsp ([(b 0, .inr (3, [.int (iv th), .int (iv n), .int (iv np), .int (iv mo), .ref (b 1), .ref (b 2), .ref (b 3), .ref (b 4), .ref (b 5)])), (b 2, .inl (G 0, 64, .inl (fun y9 => iv (RR S y9)))), (b 1, .inl (G 0, 144, .inl (fun y9 => iv (LL S y9))))]) ([]) 3 (is := [0, 2, 1]) (js := []) (wc := [(b 0, .inr (3, [.int (iv th), .int (iv n), .int (iv np), .int (iv mo), .ref (b 1), .ref (b 2), .ref (b 3), .ref (b 4), .ref (b 5)])), (b 1, .inl (G 0, 144, .inl (fun y9 => iv (LL S y9)))), (b 2, .inl (G 0, 64, .inl (fun y9 => iv (RR S y9))))]) (wr := []) (by decide) rfl rfl rfl
      have hP := wP_perm hP hq
      have hD := wD_perm hD hq
      have hP : va_P D vwCl ([(b 0, .inr (3, [.int (iv th), .int (iv n), .int (iv np), .int (iv mo), .ref (b 1), .ref (b 2), .ref (b 3), .ref (b 4), .ref (b 5)])), (b 1, .inl (G 0, 144, .inl (fun y9 => iv (LL S y9)))), (b 2, .inl (G 0, 64, .inl (fun y9 => iv (RR S y9))))]) H := hP
      have hD : va_D A ([(b 0, .inr (3, [.int (iv th), .int (iv n), .int (iv np), .int (iv mo), .ref (b 1), .ref (b 2), .ref (b 3), .ref (b 4), .ref (b 5)])), (b 1, .inl (G 0, 144, .inl (fun y9 => iv (LL S y9)))), (b 2, .inl (G 0, 64, .inl (fun y9 => iv (RR S y9))))]) := hD
      exact e_int hx hb hr hlk dX3_needed_131 hS hP hD (by decide) (by decide) (⟨by unfold wants; simp only [show ¬ (1 : Int) = 0 by decide, show ¬ (2 : Int) = 0 by decide, show ¬ (2 : Int) = 1 by decide, show ¬ (3 : Int) = 0 by decide, show ¬ (3 : Int) = 1 by decide, show ¬ (3 : Int) = 2 by decide, show ¬ (4 : Int) = 0 by decide, show ¬ (4 : Int) = 1 by decide, show ¬ (4 : Int) = 2 by decide, show ¬ (4 : Int) = 3 by decide, if_true, if_false]; try first | rfl | (rw [if_pos (by omega)]) | (rw [if_neg (by omega)]), rfl⟩)
  · skip
    refine lv_tableIn (off := 129) (tgt := 132) hx hb dX3_needed_3 (by decide) (by decide) (by decide) (by decide) ?_
    refine lv_aload_n hx hb dX3_needed_132 rfl (lv_at hl 1 rfl) ?_
    refine lv_iload_n hx hb dX3_needed_133 rfl (lv_at hl 2 rfl) ?_
    refine r_const hx hb dX3_needed_134 ?_
    have hp := wsp ([(b 0, .inr (3, [.int (iv th), .int (iv n), .int (iv np), .int (iv mo), .ref (b 1), .ref (b 2), .ref (b 3), .ref (b 4), .ref (b 5)])), (b 1, .inl (G 0, 144, .inl (fun y9 => iv (LL S y9)))), (b 2, .inl (G 0, 64, .inl (fun y9 => iv (RR S y9))))]) ([]) 3 (is := [0, 2]) (js := [1]) (wc := [wM0 b th n np mo, wMr G b (RR S)]) (wr := [(b 1, .inl (G 0, 144, .inl (fun y9 => iv (LL S y9))))]) (by decide) rfl rfl rfl
    skip
    refine k_int (g_V (As := [.int (iv (d : Int)), .int (iv 2)]) (rest := []) (q0 := 0) (ci := 3) ⟨hx, hb, hml, hown, hts⟩ (c_X3_ro l D G b th n np mo (RR S) d 2 (by omega) (by omega) (dU ds 0) (by rw [RR_at _ (by omega), hSd]; rfl)) (cwV 2 hts gX3_needed_X3_ro rfl rfl rfl (by decide +kernel) ⟨Nat.le_of_ble_eq_true rfl, Nat.le_of_ble_eq_true rfl⟩) hK hP hD hp rfl rfl rfl rfl hl.1 rfl (Nat.le_of_ble_eq_true rfl) dX3_needed_135 ⟨by decide, by decide⟩) hP hD hS hA hp (fun v u H locs hw hP hD hS => ?_)
    obtain ⟨hv, hu⟩ := hw
    replace hv : v = (iv (dU ds 0)) := hv
    subst hv
    subst hu
    have hP : va_P D vwCl ([(b 0, .inr (3, [.int (iv th), .int (iv n), .int (iv np), .int (iv mo), .ref (b 1), .ref (b 2), .ref (b 3), .ref (b 4), .ref (b 5)])), (b 2, .inl (G 0, 64, .inl (fun y9 => iv (RR S y9)))), (b 1, .inl (G 0, 144, .inl (fun y9 => iv (LL S y9))))]) H := hP
    have hD : va_D A ([(b 0, .inr (3, [.int (iv th), .int (iv n), .int (iv np), .int (iv mo), .ref (b 1), .ref (b 2), .ref (b 3), .ref (b 4), .ref (b 5)])), (b 2, .inl (G 0, 64, .inl (fun y9 => iv (RR S y9)))), (b 1, .inl (G 0, 144, .inl (fun y9 => iv (LL S y9))))]) := hD
    refine r_const hx hb dX3_needed_138 ?_
    refine r_icmp_ge hx hb 152 dX3_needed_139 (by decide) (by omega) (by omega) (fun c_139 => ?_) (fun c_139 => ?_)
    · skip
      refine r_const hx hb dX3_needed_152 ?_
      refine r_goto hx hb 157 dX3_needed_153 (by decide) ?_
      have hq := wsp ([(b 0, .inr (3, [.int (iv th), .int (iv n), .int (iv np), .int (iv mo), .ref (b 1), .ref (b 2), .ref (b 3), .ref (b 4), .ref (b 5)])), (b 2, .inl (G 0, 64, .inl (fun y9 => iv (RR S y9)))), (b 1, .inl (G 0, 144, .inl (fun y9 => iv (LL S y9))))]) ([]) 3 (is := [0, 2, 1]) (js := []) (wc := [(b 0, .inr (3, [.int (iv th), .int (iv n), .int (iv np), .int (iv mo), .ref (b 1), .ref (b 2), .ref (b 3), .ref (b 4), .ref (b 5)])), (b 1, .inl (G 0, 144, .inl (fun y9 => iv (LL S y9)))), (b 2, .inl (G 0, 64, .inl (fun y9 => iv (RR S y9))))]) (wr := []) (by decide) rfl rfl rfl
      have hP := wP_perm hP hq
      have hD := wD_perm hD hq
      have hP : va_P D vwCl ([(b 0, .inr (3, [.int (iv th), .int (iv n), .int (iv np), .int (iv mo), .ref (b 1), .ref (b 2), .ref (b 3), .ref (b 4), .ref (b 5)])), (b 1, .inl (G 0, 144, .inl (fun y9 => iv (LL S y9)))), (b 2, .inl (G 0, 64, .inl (fun y9 => iv (RR S y9))))]) H := hP
      have hD : va_D A ([(b 0, .inr (3, [.int (iv th), .int (iv n), .int (iv np), .int (iv mo), .ref (b 1), .ref (b 2), .ref (b 3), .ref (b 4), .ref (b 5)])), (b 1, .inl (G 0, 144, .inl (fun y9 => iv (LL S y9)))), (b 2, .inl (G 0, 64, .inl (fun y9 => iv (RR S y9))))]) := hD
      exact e_int hx hb hr hlk dX3_needed_157 hS hP hD (by decide) (by decide) (⟨by unfold wants; simp only [show ¬ (1 : Int) = 0 by decide, show ¬ (2 : Int) = 0 by decide, show ¬ (2 : Int) = 1 by decide, show ¬ (3 : Int) = 0 by decide, show ¬ (3 : Int) = 1 by decide, show ¬ (3 : Int) = 2 by decide, show ¬ (4 : Int) = 0 by decide, show ¬ (4 : Int) = 1 by decide, show ¬ (4 : Int) = 2 by decide, show ¬ (4 : Int) = 3 by decide, if_true, if_false]; rw [if_pos (cntU_pos (by omega))], rfl⟩)
    · skip
      refine lv_aload_n hx hb dX3_needed_142 rfl (lv_at hl 1 rfl) ?_
      refine lv_iload_n hx hb dX3_needed_143 rfl (lv_at hl 2 rfl) ?_
      refine r_const hx hb dX3_needed_144 ?_
      have hp := wsp ([(b 0, .inr (3, [.int (iv th), .int (iv n), .int (iv np), .int (iv mo), .ref (b 1), .ref (b 2), .ref (b 3), .ref (b 4), .ref (b 5)])), (b 2, .inl (G 0, 64, .inl (fun y9 => iv (RR S y9)))), (b 1, .inl (G 0, 144, .inl (fun y9 => iv (LL S y9))))]) ([]) 3 (is := [0, 1]) (js := [2]) (wc := [wM0 b th n np mo, wMr G b (RR S)]) (wr := [(b 1, .inl (G 0, 144, .inl (fun y9 => iv (LL S y9))))]) (by decide) rfl rfl rfl
      skip
      refine k_int (g_V (As := [.int (iv (d : Int)), .int (iv 3)]) (rest := []) (q0 := 0) (ci := 3) ⟨hx, hb, hml, hown, hts⟩ (c_X3_ro l D G b th n np mo (RR S) d 3 (by omega) (by omega) (dU ds 1) (by rw [RR_at _ (by omega), hSd]; rfl)) (cwV 2 hts gX3_needed_X3_ro rfl rfl rfl (by decide +kernel) ⟨Nat.le_of_ble_eq_true rfl, Nat.le_of_ble_eq_true rfl⟩) hK hP hD hp rfl rfl rfl rfl hl.1 rfl (Nat.le_of_ble_eq_true rfl) dX3_needed_145 ⟨by decide, by decide⟩) hP hD hS hA hp (fun v u H locs hw hP hD hS => ?_)
      obtain ⟨hv, hu⟩ := hw
      replace hv : v = (iv (dU ds 1)) := hv
      subst hv
      subst hu
      have hP : va_P D vwCl ([(b 0, .inr (3, [.int (iv th), .int (iv n), .int (iv np), .int (iv mo), .ref (b 1), .ref (b 2), .ref (b 3), .ref (b 4), .ref (b 5)])), (b 2, .inl (G 0, 64, .inl (fun y9 => iv (RR S y9)))), (b 1, .inl (G 0, 144, .inl (fun y9 => iv (LL S y9))))]) H := hP
      have hD : va_D A ([(b 0, .inr (3, [.int (iv th), .int (iv n), .int (iv np), .int (iv mo), .ref (b 1), .ref (b 2), .ref (b 3), .ref (b 4), .ref (b 5)])), (b 2, .inl (G 0, 64, .inl (fun y9 => iv (RR S y9)))), (b 1, .inl (G 0, 144, .inl (fun y9 => iv (LL S y9))))]) := hD
      refine r_const hx hb dX3_needed_148 ?_
      refine r_icmp_lt hx hb 156 dX3_needed_149 (by decide) (by omega) (by omega) (fun c_149 => ?_) (fun c_149 => ?_)
      · skip
        refine r_const hx hb dX3_needed_156 ?_
        have hq := wsp ([(b 0, .inr (3, [.int (iv th), .int (iv n), .int (iv np), .int (iv mo), .ref (b 1), .ref (b 2), .ref (b 3), .ref (b 4), .ref (b 5)])), (b 2, .inl (G 0, 64, .inl (fun y9 => iv (RR S y9)))), (b 1, .inl (G 0, 144, .inl (fun y9 => iv (LL S y9))))]) ([]) 3 (is := [0, 2, 1]) (js := []) (wc := [(b 0, .inr (3, [.int (iv th), .int (iv n), .int (iv np), .int (iv mo), .ref (b 1), .ref (b 2), .ref (b 3), .ref (b 4), .ref (b 5)])), (b 1, .inl (G 0, 144, .inl (fun y9 => iv (LL S y9)))), (b 2, .inl (G 0, 64, .inl (fun y9 => iv (RR S y9))))]) (wr := []) (by decide) rfl rfl rfl
        have hP := wP_perm hP hq
        have hD := wD_perm hD hq
        have hP : va_P D vwCl ([(b 0, .inr (3, [.int (iv th), .int (iv n), .int (iv np), .int (iv mo), .ref (b 1), .ref (b 2), .ref (b 3), .ref (b 4), .ref (b 5)])), (b 1, .inl (G 0, 144, .inl (fun y9 => iv (LL S y9)))), (b 2, .inl (G 0, 64, .inl (fun y9 => iv (RR S y9))))]) H := hP
        have hD : va_D A ([(b 0, .inr (3, [.int (iv th), .int (iv n), .int (iv np), .int (iv mo), .ref (b 1), .ref (b 2), .ref (b 3), .ref (b 4), .ref (b 5)])), (b 1, .inl (G 0, 144, .inl (fun y9 => iv (LL S y9)))), (b 2, .inl (G 0, 64, .inl (fun y9 => iv (RR S y9))))]) := hD
        exact e_int hx hb hr hlk dX3_needed_157 hS hP hD (by decide) (by decide) (⟨by unfold wants; simp only [show ¬ (1 : Int) = 0 by decide, show ¬ (2 : Int) = 0 by decide, show ¬ (2 : Int) = 1 by decide, show ¬ (3 : Int) = 0 by decide, show ¬ (3 : Int) = 1 by decide, show ¬ (3 : Int) = 2 by decide, show ¬ (4 : Int) = 0 by decide, show ¬ (4 : Int) = 1 by decide, show ¬ (4 : Int) = 2 by decide, show ¬ (4 : Int) = 3 by decide, if_true, if_false]; rw [if_neg (cntU_neg (by omega) (by omega))], rfl⟩)
      · skip
        refine r_const hx hb dX3_needed_152 ?_
        refine r_goto hx hb 157 dX3_needed_153 (by decide) ?_
        have hq := wsp ([(b 0, .inr (3, [.int (iv th), .int (iv n), .int (iv np), .int (iv mo), .ref (b 1), .ref (b 2), .ref (b 3), .ref (b 4), .ref (b 5)])), (b 2, .inl (G 0, 64, .inl (fun y9 => iv (RR S y9)))), (b 1, .inl (G 0, 144, .inl (fun y9 => iv (LL S y9))))]) ([]) 3 (is := [0, 2, 1]) (js := []) (wc := [(b 0, .inr (3, [.int (iv th), .int (iv n), .int (iv np), .int (iv mo), .ref (b 1), .ref (b 2), .ref (b 3), .ref (b 4), .ref (b 5)])), (b 1, .inl (G 0, 144, .inl (fun y9 => iv (LL S y9)))), (b 2, .inl (G 0, 64, .inl (fun y9 => iv (RR S y9))))]) (wr := []) (by decide) rfl rfl rfl
        have hP := wP_perm hP hq
        have hD := wD_perm hD hq
        have hP : va_P D vwCl ([(b 0, .inr (3, [.int (iv th), .int (iv n), .int (iv np), .int (iv mo), .ref (b 1), .ref (b 2), .ref (b 3), .ref (b 4), .ref (b 5)])), (b 1, .inl (G 0, 144, .inl (fun y9 => iv (LL S y9)))), (b 2, .inl (G 0, 64, .inl (fun y9 => iv (RR S y9))))]) H := hP
        have hD : va_D A ([(b 0, .inr (3, [.int (iv th), .int (iv n), .int (iv np), .int (iv mo), .ref (b 1), .ref (b 2), .ref (b 3), .ref (b 4), .ref (b 5)])), (b 1, .inl (G 0, 144, .inl (fun y9 => iv (LL S y9)))), (b 2, .inl (G 0, 64, .inl (fun y9 => iv (RR S y9))))]) := hD
        exact e_int hx hb hr hlk dX3_needed_157 hS hP hD (by decide) (by decide) (⟨by unfold wants; simp only [show ¬ (1 : Int) = 0 by decide, show ¬ (2 : Int) = 0 by decide, show ¬ (2 : Int) = 1 by decide, show ¬ (3 : Int) = 0 by decide, show ¬ (3 : Int) = 1 by decide, show ¬ (3 : Int) = 2 by decide, show ¬ (4 : Int) = 0 by decide, show ¬ (4 : Int) = 1 by decide, show ¬ (4 : Int) = 2 by decide, show ¬ (4 : Int) = 3 by decide, if_true, if_false]; rw [if_pos (cntU_pos (by omega))], rfl⟩)
  · skip
    refine lv_tableOut (tgt := 158) hx hb dX3_needed_3 (by decide) (by decide) ?_
    refine lv_aload_n hx hb dX3_needed_158 rfl (lv_at hl 1 rfl) ?_
    refine lv_iload_n hx hb dX3_needed_159 rfl (lv_at hl 2 rfl) ?_
    refine r_const hx hb dX3_needed_160 ?_
    have hp := wsp ([(b 0, .inr (3, [.int (iv th), .int (iv n), .int (iv np), .int (iv mo), .ref (b 1), .ref (b 2), .ref (b 3), .ref (b 4), .ref (b 5)])), (b 1, .inl (G 0, 144, .inl (fun y9 => iv (LL S y9)))), (b 2, .inl (G 0, 64, .inl (fun y9 => iv (RR S y9))))]) ([]) 3 (is := [0, 2]) (js := [1]) (wc := [wM0 b th n np mo, wMr G b (RR S)]) (wr := [(b 1, .inl (G 0, 144, .inl (fun y9 => iv (LL S y9))))]) (by decide) rfl rfl rfl
    skip
    refine k_int (g_V (As := [.int (iv (d : Int)), .int (iv 4)]) (rest := []) (q0 := 0) (ci := 3) ⟨hx, hb, hml, hown, hts⟩ (c_X3_ro l D G b th n np mo (RR S) d 4 (by omega) (by omega) (dg ds) (by rw [RR_at _ (by omega), hSd]; rfl)) (cwV 2 hts gX3_needed_X3_ro rfl rfl rfl (by decide +kernel) ⟨Nat.le_of_ble_eq_true rfl, Nat.le_of_ble_eq_true rfl⟩) hK hP hD hp rfl rfl rfl rfl hl.1 rfl (Nat.le_of_ble_eq_true rfl) dX3_needed_161 ⟨by decide, by decide⟩) hP hD hS hA hp (fun v u H locs hw hP hD hS => ?_)
    obtain ⟨hv, hu⟩ := hw
    replace hv : v = (iv (dg ds)) := hv
    subst hv
    subst hu
    have hP : va_P D vwCl ([(b 0, .inr (3, [.int (iv th), .int (iv n), .int (iv np), .int (iv mo), .ref (b 1), .ref (b 2), .ref (b 3), .ref (b 4), .ref (b 5)])), (b 2, .inl (G 0, 64, .inl (fun y9 => iv (RR S y9)))), (b 1, .inl (G 0, 144, .inl (fun y9 => iv (LL S y9))))]) H := hP
    have hD : va_D A ([(b 0, .inr (3, [.int (iv th), .int (iv n), .int (iv np), .int (iv mo), .ref (b 1), .ref (b 2), .ref (b 3), .ref (b 4), .ref (b 5)])), (b 2, .inl (G 0, 64, .inl (fun y9 => iv (RR S y9)))), (b 1, .inl (G 0, 144, .inl (fun y9 => iv (LL S y9))))]) := hD
    refine r_const hx hb dX3_needed_164 ?_
    refine r_icmp_eq hx hb 178 dX3_needed_165 (by decide) (by omega) (by omega) (fun c_165 => ?_) (fun c_165 => ?_)
    · skip
      refine r_const hx hb dX3_needed_178 ?_
      refine r_goto hx hb 183 dX3_needed_179 (by decide) ?_
      have hq := wsp ([(b 0, .inr (3, [.int (iv th), .int (iv n), .int (iv np), .int (iv mo), .ref (b 1), .ref (b 2), .ref (b 3), .ref (b 4), .ref (b 5)])), (b 2, .inl (G 0, 64, .inl (fun y9 => iv (RR S y9)))), (b 1, .inl (G 0, 144, .inl (fun y9 => iv (LL S y9))))]) ([]) 3 (is := [0, 2, 1]) (js := []) (wc := [(b 0, .inr (3, [.int (iv th), .int (iv n), .int (iv np), .int (iv mo), .ref (b 1), .ref (b 2), .ref (b 3), .ref (b 4), .ref (b 5)])), (b 1, .inl (G 0, 144, .inl (fun y9 => iv (LL S y9)))), (b 2, .inl (G 0, 64, .inl (fun y9 => iv (RR S y9))))]) (wr := []) (by decide) rfl rfl rfl
      have hP := wP_perm hP hq
      have hD := wD_perm hD hq
      have hP : va_P D vwCl ([(b 0, .inr (3, [.int (iv th), .int (iv n), .int (iv np), .int (iv mo), .ref (b 1), .ref (b 2), .ref (b 3), .ref (b 4), .ref (b 5)])), (b 1, .inl (G 0, 144, .inl (fun y9 => iv (LL S y9)))), (b 2, .inl (G 0, 64, .inl (fun y9 => iv (RR S y9))))]) H := hP
      have hD : va_D A ([(b 0, .inr (3, [.int (iv th), .int (iv n), .int (iv np), .int (iv mo), .ref (b 1), .ref (b 2), .ref (b 3), .ref (b 4), .ref (b 5)])), (b 1, .inl (G 0, 144, .inl (fun y9 => iv (LL S y9)))), (b 2, .inl (G 0, 64, .inl (fun y9 => iv (RR S y9))))]) := hD
      exact e_int hx hb hr hlk dX3_needed_183 hS hP hD (by decide) (by decide) (⟨by unfold wants; simp only [show ¬ (1 : Int) = 0 by decide, show ¬ (2 : Int) = 0 by decide, show ¬ (2 : Int) = 1 by decide, show ¬ (3 : Int) = 0 by decide, show ¬ (3 : Int) = 1 by decide, show ¬ (3 : Int) = 2 by decide, show ¬ (4 : Int) = 0 by decide, show ¬ (4 : Int) = 1 by decide, show ¬ (4 : Int) = 2 by decide, show ¬ (4 : Int) = 3 by decide, if_true, if_false]; try first | rfl | (rw [if_pos (by omega)]) | (rw [if_neg (by omega)]), rfl⟩)
    · skip
      refine lv_aload_n hx hb dX3_needed_168 rfl (lv_at hl 1 rfl) ?_
      refine lv_iload_n hx hb dX3_needed_169 rfl (lv_at hl 2 rfl) ?_
      refine r_const hx hb dX3_needed_170 ?_
      have hp := wsp ([(b 0, .inr (3, [.int (iv th), .int (iv n), .int (iv np), .int (iv mo), .ref (b 1), .ref (b 2), .ref (b 3), .ref (b 4), .ref (b 5)])), (b 2, .inl (G 0, 64, .inl (fun y9 => iv (RR S y9)))), (b 1, .inl (G 0, 144, .inl (fun y9 => iv (LL S y9))))]) ([]) 3 (is := [0, 1]) (js := [2]) (wc := [wM0 b th n np mo, wMr G b (RR S)]) (wr := [(b 1, .inl (G 0, 144, .inl (fun y9 => iv (LL S y9))))]) (by decide) rfl rfl rfl
      skip
      refine k_int (g_V (As := [.int (iv (d : Int)), .int (iv 4)]) (rest := []) (q0 := 0) (ci := 3) ⟨hx, hb, hml, hown, hts⟩ (c_X3_ro l D G b th n np mo (RR S) d 4 (by omega) (by omega) (dg ds) (by rw [RR_at _ (by omega), hSd]; rfl)) (cwV 2 hts gX3_needed_X3_ro rfl rfl rfl (by decide +kernel) ⟨Nat.le_of_ble_eq_true rfl, Nat.le_of_ble_eq_true rfl⟩) hK hP hD hp rfl rfl rfl rfl hl.1 rfl (Nat.le_of_ble_eq_true rfl) dX3_needed_171 ⟨by decide, by decide⟩) hP hD hS hA hp (fun v u H locs hw hP hD hS => ?_)
      obtain ⟨hv, hu⟩ := hw
      replace hv : v = (iv (dg ds)) := hv
      subst hv
      subst hu
      have hP : va_P D vwCl ([(b 0, .inr (3, [.int (iv th), .int (iv n), .int (iv np), .int (iv mo), .ref (b 1), .ref (b 2), .ref (b 3), .ref (b 4), .ref (b 5)])), (b 2, .inl (G 0, 64, .inl (fun y9 => iv (RR S y9)))), (b 1, .inl (G 0, 144, .inl (fun y9 => iv (LL S y9))))]) H := hP
      have hD : va_D A ([(b 0, .inr (3, [.int (iv th), .int (iv n), .int (iv np), .int (iv mo), .ref (b 1), .ref (b 2), .ref (b 3), .ref (b 4), .ref (b 5)])), (b 2, .inl (G 0, 64, .inl (fun y9 => iv (RR S y9)))), (b 1, .inl (G 0, 144, .inl (fun y9 => iv (LL S y9))))]) := hD
      refine r_const hx hb dX3_needed_174 ?_
      refine r_icmp_lt hx hb 182 dX3_needed_175 (by decide) (by omega) (by omega) (fun c_175 => ?_) (fun c_175 => ?_)
      · skip
        refine r_const hx hb dX3_needed_182 ?_
        have hq := wsp ([(b 0, .inr (3, [.int (iv th), .int (iv n), .int (iv np), .int (iv mo), .ref (b 1), .ref (b 2), .ref (b 3), .ref (b 4), .ref (b 5)])), (b 2, .inl (G 0, 64, .inl (fun y9 => iv (RR S y9)))), (b 1, .inl (G 0, 144, .inl (fun y9 => iv (LL S y9))))]) ([]) 3 (is := [0, 2, 1]) (js := []) (wc := [(b 0, .inr (3, [.int (iv th), .int (iv n), .int (iv np), .int (iv mo), .ref (b 1), .ref (b 2), .ref (b 3), .ref (b 4), .ref (b 5)])), (b 1, .inl (G 0, 144, .inl (fun y9 => iv (LL S y9)))), (b 2, .inl (G 0, 64, .inl (fun y9 => iv (RR S y9))))]) (wr := []) (by decide) rfl rfl rfl
        have hP := wP_perm hP hq
        have hD := wD_perm hD hq
        have hP : va_P D vwCl ([(b 0, .inr (3, [.int (iv th), .int (iv n), .int (iv np), .int (iv mo), .ref (b 1), .ref (b 2), .ref (b 3), .ref (b 4), .ref (b 5)])), (b 1, .inl (G 0, 144, .inl (fun y9 => iv (LL S y9)))), (b 2, .inl (G 0, 64, .inl (fun y9 => iv (RR S y9))))]) H := hP
        have hD : va_D A ([(b 0, .inr (3, [.int (iv th), .int (iv n), .int (iv np), .int (iv mo), .ref (b 1), .ref (b 2), .ref (b 3), .ref (b 4), .ref (b 5)])), (b 1, .inl (G 0, 144, .inl (fun y9 => iv (LL S y9)))), (b 2, .inl (G 0, 64, .inl (fun y9 => iv (RR S y9))))]) := hD
        exact e_int hx hb hr hlk dX3_needed_183 hS hP hD (by decide) (by decide) (⟨by unfold wants; simp only [show ¬ (1 : Int) = 0 by decide, show ¬ (2 : Int) = 0 by decide, show ¬ (2 : Int) = 1 by decide, show ¬ (3 : Int) = 0 by decide, show ¬ (3 : Int) = 1 by decide, show ¬ (3 : Int) = 2 by decide, show ¬ (4 : Int) = 0 by decide, show ¬ (4 : Int) = 1 by decide, show ¬ (4 : Int) = 2 by decide, show ¬ (4 : Int) = 3 by decide, if_true, if_false]; try first | rfl | (rw [if_pos (by omega)]) | (rw [if_neg (by omega)]), rfl⟩)
      · skip
        refine r_const hx hb dX3_needed_178 ?_
        refine r_goto hx hb 183 dX3_needed_179 (by decide) ?_
        have hq := wsp ([(b 0, .inr (3, [.int (iv th), .int (iv n), .int (iv np), .int (iv mo), .ref (b 1), .ref (b 2), .ref (b 3), .ref (b 4), .ref (b 5)])), (b 2, .inl (G 0, 64, .inl (fun y9 => iv (RR S y9)))), (b 1, .inl (G 0, 144, .inl (fun y9 => iv (LL S y9))))]) ([]) 3 (is := [0, 2, 1]) (js := []) (wc := [(b 0, .inr (3, [.int (iv th), .int (iv n), .int (iv np), .int (iv mo), .ref (b 1), .ref (b 2), .ref (b 3), .ref (b 4), .ref (b 5)])), (b 1, .inl (G 0, 144, .inl (fun y9 => iv (LL S y9)))), (b 2, .inl (G 0, 64, .inl (fun y9 => iv (RR S y9))))]) (wr := []) (by decide) rfl rfl rfl
        have hP := wP_perm hP hq
        have hD := wD_perm hD hq
        have hP : va_P D vwCl ([(b 0, .inr (3, [.int (iv th), .int (iv n), .int (iv np), .int (iv mo), .ref (b 1), .ref (b 2), .ref (b 3), .ref (b 4), .ref (b 5)])), (b 1, .inl (G 0, 144, .inl (fun y9 => iv (LL S y9)))), (b 2, .inl (G 0, 64, .inl (fun y9 => iv (RR S y9))))]) H := hP
        have hD : va_D A ([(b 0, .inr (3, [.int (iv th), .int (iv n), .int (iv np), .int (iv mo), .ref (b 1), .ref (b 2), .ref (b 3), .ref (b 4), .ref (b 5)])), (b 1, .inl (G 0, 144, .inl (fun y9 => iv (LL S y9)))), (b 2, .inl (G 0, 64, .inl (fun y9 => iv (RR S y9))))]) := hD
        exact e_int hx hb hr hlk dX3_needed_183 hS hP hD (by decide) (by decide) (⟨by unfold wants; simp only [show ¬ (1 : Int) = 0 by decide, show ¬ (2 : Int) = 0 by decide, show ¬ (2 : Int) = 1 by decide, show ¬ (3 : Int) = 0 by decide, show ¬ (3 : Int) = 1 by decide, show ¬ (3 : Int) = 2 by decide, show ¬ (4 : Int) = 0 by decide, show ¬ (4 : Int) = 1 by decide, show ¬ (4 : Int) = 2 by decide, show ¬ (4 : Int) = 3 by decide, if_true, if_false]; try first | rfl | (rw [if_pos (by omega)]) | (rw [if_neg (by omega)]), rfl⟩)
