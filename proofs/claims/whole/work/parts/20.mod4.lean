set_option maxHeartbeats 4000000 in
set_option maxRecDepth 100000 in
theorem c_X3_daysOn (l : Launch) (D : va_G) (G : Nat → ClassId) (b : Nat → Nat) (th : Int) (cs : CS) (hok : okC cs) (k : Nat) (hk : k ≤ 60)  : MtG l yX3_daysOn wsX3_daysOn 3 130 0 0 D (TY G) [.ref (b 0), .int (iv (k : Int))] ([wM0 b th (kn cs : Int) (kp cs : Int) (km cs), wMl G b (LL (kS cs)), wMr G b (RR (kS cs)), wMd G b (kk (kd cs))]) (qI D (fun r u => r = iv (lossN (kS cs) (afterS cs k) (kn cs)) ∧ u = [wM0 b th (kn cs : Int) (kp cs : Int) (km cs), wMl G b (LL (afterS cs k)), wMr G b (RR (afterS cs k)), wMd G b (kk (kd cs + (k : Int)))])) := by
  refine MtG.mk (cc := cX3_daysOn) (maxL := 5) (ret := some .int) (by decide) rfl (Nat.le_of_ble_eq_true rfl) ?_
  intro p e s m below meth c A ls hx hb hr hlk hml hown hin hts hK hA hP hD hS hl
  replace hown : s.vm.findClass RX3 = some m.cls := hown
  have hl : lv_has ls 5 [(0, .ref (b 0)), (1, .int (iv (k : Int)))] := hl
  skip
  have hP : va_P D vwCl ([(b 0, .inr (3, [.int (iv th), .int (iv (kn cs : Int)), .int (iv (kp cs : Int)), .int (iv (km cs)), .ref (b 1), .ref (b 2), .ref (b 3), .ref (b 4), .ref (b 5)])), (b 1, .inl (G 0, 144, .inl (fun y9 => iv (LL (kS cs) y9)))), (b 2, .inl (G 0, 64, .inl (fun y9 => iv (RR (kS cs) y9)))), (b 5, .inl (G 0, 1, .inl (fun y9 => iv (kk (kd cs) y9))))]) s.heap := hP
  have hD : va_D A ([(b 0, .inr (3, [.int (iv th), .int (iv (kn cs : Int)), .int (iv (kp cs : Int)), .int (iv (km cs)), .ref (b 1), .ref (b 2), .ref (b 3), .ref (b 4), .ref (b 5)])), (b 1, .inl (G 0, 144, .inl (fun y9 => iv (LL (kS cs) y9)))), (b 2, .inl (G 0, 64, .inl (fun y9 => iv (RR (kS cs) y9)))), (b 5, .inl (G 0, 1, .inl (fun y9 => iv (kk (kd cs) y9))))]) := hD
  have lk32 := hts (.fieldLink RX3 32 "DollCitadelModel" "dolls" "I") (by decide +kernel)
  have in_X3 : ∀ w ∈ u_ws RX3 TX3 9, w ∈ wsX3_daysOn := by decide +kernel
  have lk26 := hts (.fieldLink RX3 26 "DollCitadelModel" "day" "[I") (by decide +kernel)
  obtain ⟨on8, op8, -, -, -, oday, omo⟩ := id hok
  have e0 : kS cs = dayS (km cs) (kd cs) (kn cs) (kS cs) 0 0 := (dayS_0 _ _ _ _).symm
  have ed : kk (kd cs) = kk (kd cs + ((0 : Nat) : Int)) := by congr 1; omega
  rw [show LL (kS cs) = LL (dayS (km cs) (kd cs) (kn cs) (kS cs) 0 0) from congrArg LL e0, show RR (kS cs) = RR (dayS (km cs) (kd cs) (kn cs) (kS cs) 0 0) from congrArg RR e0, ed] at hP hD
  refine r_const hx hb dX3_daysOn_0 ?_
  refine lv_istore_n (lv' := [(2, .int (iv 0)), (0, .ref (b 0)), (1, .int (iv (k : Int)))]) hx hb dX3_daysOn_1 rfl hl (by decide) rfl (fun ls hl => ?_)
  refine r_const hx hb dX3_daysOn_2 ?_
  refine lv_istore_n (lv' := [(3, .int (iv 0)), (2, .int (iv 0)), (0, .ref (b 0)), (1, .int (iv (k : Int)))]) hx hb dX3_daysOn_3 rfl hl (by decide) rfl (fun ls hl => ?_)
  have K4 : ∀ (fu i : Nat) (x : Int), i ≤ k → k < i + fu → x = lossN (kS cs) (dayS (km cs) (kd cs) (kn cs) (kS cs) i 0) (kn cs) → ∀ (H : Heap) (locs : List Loc), va_P D vwCl ([(b 0, .inr (3, [.int (iv th), .int (iv (kn cs : Int)), .int (iv (kp cs : Int)), .int (iv (km cs)), .ref (b 1), .ref (b 2), .ref (b 3), .ref (b 4), .ref (b 5)])), (b 1, .inl (G 0, 144, .inl (fun y9 => iv (LL (dayS (km cs) (kd cs) (kn cs) (kS cs) i 0) y9)))), (b 2, .inl (G 0, 64, .inl (fun y9 => iv (RR (dayS (km cs) (kd cs) (kn cs) (kS cs) i 0) y9)))), (b 5, .inl (G 0, 1, .inl (fun y9 => iv (kk (kd cs + (i : Int)) y9))))]) H → va_D A ([(b 0, .inr (3, [.int (iv th), .int (iv (kn cs : Int)), .int (iv (kp cs : Int)), .int (iv (km cs)), .ref (b 1), .ref (b 2), .ref (b 3), .ref (b 4), .ref (b 5)])), (b 1, .inl (G 0, 144, .inl (fun y9 => iv (LL (dayS (km cs) (kd cs) (kn cs) (kS cs) i 0) y9)))), (b 2, .inl (G 0, 64, .inl (fun y9 => iv (RR (dayS (km cs) (kd cs) (kn cs) (kS cs) i 0) y9)))), (b 5, .inl (G 0, 1, .inl (fun y9 => iv (kk (kd cs + (i : Int)) y9))))]) → va_S A s.heap H locs → ∀ (ls : Array Slot), lv_has ls 5 [(0, .ref (b 0)), (1, .int (iv (k : Int))), (2, .int (iv x)), (3, .int (iv (i : Int)))] → W p l e (rmOf 3 130 0 0) s m ([.ref (b 0), .int (iv (k : Int))] : List Value).toArray below meth c H locs 0 0 (MQ below (qI D (fun r u => r = iv (lossN (kS cs) (afterS cs k) (kn cs)) ∧ u = [wM0 b th (kn cs : Int) (kp cs : Int) (km cs), wMl G b (LL (afterS cs k)), wMr G b (RR (afterS cs k)), wMd G b (kk (kd cs + (k : Int)))]) A) ([.ref (b 0), .int (iv (k : Int))] : List Value).toArray s 0 0 A) (F0 m 4 ls []) := by
    intro fu
    induction fu with
    | zero => intro i x h1 h2; exact absurd h2 (by omega)
    | succ fu ih4 =>
      intro i x hi_4 hn_4 ex H locs hP hD hS ls hl
      refine lv_iload_n hx hb dX3_daysOn_4 rfl (lv_at hl 3 rfl) ?_
      refine lv_iload_n hx hb dX3_daysOn_5 rfl (lv_at hl 1 rfl) ?_
      refine r_icmp_ge hx hb 52 dX3_daysOn_6 (by decide) (by omega) (by omega) (fun c_6 => ?_) (fun c_6 => ?_)
      · skip
        refine lv_iload_n hx hb dX3_daysOn_52 rfl (lv_at hl 2 rfl) ?_
        have ei : i = k := by omega
        subst ei
        rw [after_eq] at hP hD
        exact e_int hx hb hr hlk dX3_daysOn_53 hS hP hD (by decide) (by decide) (⟨by rw [ex, after_eq], rfl⟩)
      · skip
        refine r_const hx hb dX3_daysOn_9 ?_
        refine lv_istore (lv' := [(4, .int (iv 0)), (0, .ref (b 0)), (1, .int (iv (k : Int))), (2, .int (iv x)), (3, .int (iv (i : Int)))]) hx hb dX3_daysOn_10 hl (by decide) rfl (fun ls hl => ?_)
        have K12 : ∀ (fu y : Nat) (x2 : Int), y ≤ (kn cs) → (kn cs) < y + fu → x2 = lossN (kS cs) (dayS (km cs) (kd cs) (kn cs) (kS cs) i y) (kn cs) → ∀ (H : Heap) (locs : List Loc), va_P D vwCl ([(b 0, .inr (3, [.int (iv th), .int (iv (kn cs : Int)), .int (iv (kp cs : Int)), .int (iv (km cs)), .ref (b 1), .ref (b 2), .ref (b 3), .ref (b 4), .ref (b 5)])), (b 1, .inl (G 0, 144, .inl (fun y9 => iv (LL (dayS (km cs) (kd cs) (kn cs) (kS cs) i y) y9)))), (b 2, .inl (G 0, 64, .inl (fun y9 => iv (RR (dayS (km cs) (kd cs) (kn cs) (kS cs) i y) y9)))), (b 5, .inl (G 0, 1, .inl (fun y9 => iv (kk (kd cs + (i : Int)) y9))))]) H → va_D A ([(b 0, .inr (3, [.int (iv th), .int (iv (kn cs : Int)), .int (iv (kp cs : Int)), .int (iv (km cs)), .ref (b 1), .ref (b 2), .ref (b 3), .ref (b 4), .ref (b 5)])), (b 1, .inl (G 0, 144, .inl (fun y9 => iv (LL (dayS (km cs) (kd cs) (kn cs) (kS cs) i y) y9)))), (b 2, .inl (G 0, 64, .inl (fun y9 => iv (RR (dayS (km cs) (kd cs) (kn cs) (kS cs) i y) y9)))), (b 5, .inl (G 0, 1, .inl (fun y9 => iv (kk (kd cs + (i : Int)) y9))))]) → va_S A s.heap H locs → ∀ (ls : Array Slot), lv_has ls 5 [(0, .ref (b 0)), (1, .int (iv (k : Int))), (2, .int (iv x2)), (3, .int (iv (i : Int))), (4, .int (iv (y : Int)))] → W p l e (rmOf 3 130 0 0) s m ([.ref (b 0), .int (iv (k : Int))] : List Value).toArray below meth c H locs 0 0 (MQ below (qI D (fun r u => r = iv (lossN (kS cs) (afterS cs k) (kn cs)) ∧ u = [wM0 b th (kn cs : Int) (kp cs : Int) (km cs), wMl G b (LL (afterS cs k)), wMr G b (RR (afterS cs k)), wMd G b (kk (kd cs + (k : Int)))]) A) ([.ref (b 0), .int (iv (k : Int))] : List Value).toArray s 0 0 A) (F0 m 12 ls []) := by
          intro fu
          induction fu with
          | zero => intro y x2 h1 h2; exact absurd h2 (by omega)
          | succ fu ih12 =>
            intro y x2 hi_12 hn_12 ex2 H locs hP hD hS ls hl
            refine lv_iload hx hb dX3_daysOn_12 (lv_at hl 4 rfl) ?_
            refine lv_aload_n hx hb dX3_daysOn_14 rfl (lv_at hl 0 rfl) ?_
            refine va_get (D := D) (ci := 3) (v := .int (iv (kn cs : Int))) (C := RX3) (T := TX3) (N := 9) hx hb hts in_X3 hown hK hP 0 rfl rfl 1 (by decide) lk32 (fun _ h9 => h9) rfl dX3_daysOn_15 ?_
            refine r_icmp_ge hx hb 36 dX3_daysOn_18 (by decide) (by omega) (by omega) (fun c_18 => ?_) (fun c_18 => ?_)
            · skip
              refine lv_aload_n hx hb dX3_daysOn_36 rfl (lv_at hl 0 rfl) ?_
              refine va_get (D := D) (ci := 3) (v := .ref (b 5)) (C := RX3) (T := TX3) (N := 9) hx hb hts in_X3 hown hK hP 0 rfl rfl 8 (by decide) lk26 (fun _ h9 => h9) rfl dX3_daysOn_37 ?_
              refine r_const hx hb dX3_daysOn_40 ?_
              refine lv_dup2_11 hx hb dX3_daysOn_41 rfl rfl ?_
              refine r_iald (F := kk (kd cs + (i : Int))) hx hb hK hP 3 0 rfl rfl 0 (by omega) (by omega) (by decide) dX3_daysOn_42 ?_
              rw [show (kk (kd cs + (i : Int))) 0 = (kd cs + (i : Int)) from rfl]
              refine r_const hx hb dX3_daysOn_43 ?_
              refine r_add hx hb dX3_daysOn_44 ?_
              refine r_iast (F := kk (kd cs + (i : Int))) hx hb hK hP hD hS 3 0 rfl rfl 0 (by omega) (by omega) (by decide) dX3_daysOn_45 (fun H locs hP hD hS => ?_)
              have hP : va_P D vwCl ([(b 0, .inr (3, [.int (iv th), .int (iv (kn cs : Int)), .int (iv (kp cs : Int)), .int (iv (km cs)), .ref (b 1), .ref (b 2), .ref (b 3), .ref (b 4), .ref (b 5)])), (b 1, .inl (G 0, 144, .inl (fun y9 => iv (LL (dayS (km cs) (kd cs) (kn cs) (kS cs) i y) y9)))), (b 2, .inl (G 0, 64, .inl (fun y9 => iv (RR (dayS (km cs) (kd cs) (kn cs) (kS cs) i y) y9)))), (b 5, .inl (G 0, 1, .inl (fun y9 => iv (updI (kk (kd cs + (i : Int))) 0 ((kd cs + (i : Int)) + 1) y9))))]) H := hP
              have hD : va_D A ([(b 0, .inr (3, [.int (iv th), .int (iv (kn cs : Int)), .int (iv (kp cs : Int)), .int (iv (km cs)), .ref (b 1), .ref (b 2), .ref (b 3), .ref (b 4), .ref (b 5)])), (b 1, .inl (G 0, 144, .inl (fun y9 => iv (LL (dayS (km cs) (kd cs) (kn cs) (kS cs) i y) y9)))), (b 2, .inl (G 0, 64, .inl (fun y9 => iv (RR (dayS (km cs) (kd cs) (kn cs) (kS cs) i y) y9)))), (b 5, .inl (G 0, 1, .inl (fun y9 => iv (updI (kk (kd cs + (i : Int))) 0 ((kd cs + (i : Int)) + 1) y9))))]) := hD
              refine r_iinc (k := 3) (lv' := [(3, .int (iv ((i : Int) + 1))), (0, .ref (b 0)), (1, .int (iv (k : Int))), (2, .int (iv x2)), (4, .int (iv (y : Int)))]) hx hb dX3_daysOn_46 hl rfl (by decide) rfl (fun ls hl => ?_)
              refine r_goto hx hb 4 dX3_daysOn_49 (by decide) ?_
              have ey : y = kn cs := by omega
              subst ey
              have hP := wP_say 3 (kk (kd cs + ((i + 1 : Nat) : Int))) hP rfl (fun j hj => by show updI (kk (kd cs + (i : Int))) 0 (kd cs + (i : Int) + 1) j = _; obtain rfl : j = 0 := (by omega); rw [updI_s]; show _ = kd cs + ((i + 1 : Nat) : Int); omega)
              have hD := wD_say 3 (.inl (G 0, 1, .inl (fun y9 => iv (kk (kd cs + ((i + 1 : Nat) : Int)) y9)))) hD rfl
              rw [dayS_n] at hP hD
              exact ih4 (i + 1) x2 (by omega) (by omega) (by rw [ex2, dayS_n]) _ _ hP hD hS _ (lv_sub hl [1, 2, 3, 0] rfl)
            · skip
              refine lv_iload_n hx hb dX3_daysOn_21 rfl (lv_at hl 2 rfl) ?_
              refine lv_aload_n hx hb dX3_daysOn_22 rfl (lv_at hl 0 rfl) ?_
              refine lv_iload hx hb dX3_daysOn_23 (lv_at hl 4 rfl) ?_
              have hp := wsp ([(b 0, .inr (3, [.int (iv th), .int (iv (kn cs : Int)), .int (iv (kp cs : Int)), .int (iv (km cs)), .ref (b 1), .ref (b 2), .ref (b 3), .ref (b 4), .ref (b 5)])), (b 1, .inl (G 0, 144, .inl (fun y9 => iv (LL (dayS (km cs) (kd cs) (kn cs) (kS cs) i y) y9)))), (b 2, .inl (G 0, 64, .inl (fun y9 => iv (RR (dayS (km cs) (kd cs) (kn cs) (kS cs) i y) y9)))), (b 5, .inl (G 0, 1, .inl (fun y9 => iv (kk (kd cs + (i : Int)) y9))))]) ([]) 4 (is := [0, 1, 2, 3]) (js := []) (wc := [wM0 b th (kn cs : Int) (kp cs : Int) (km cs), wMl G b (LL (dayS (km cs) (kd cs) (kn cs) (kS cs) i y)), wMr G b (RR (dayS (km cs) (kd cs) (kn cs) (kS cs) i y)), wMd G b (kk (kd cs + (i : Int)))]) (wr := []) (by decide) rfl rfl rfl
              skip
              refine k_int (g_V (As := [.int (iv (y : Int))]) (rest := [.int (iv x2)]) (q0 := 0) (ci := 3) ⟨hx, hb, hml, hown, hts⟩ (c_X3_dayOf l D G b th (kn cs : Int) (kp cs : Int) (km cs) (dayS (km cs) (kd cs) (kn cs) (kS cs) i y) y (by omega) (dayN (km cs) (kd cs) i (kS cs y)) (dayS_at (by omega)) (dayN_ok omo (okC_D hok (by omega)) i) (kd cs + (i : Int)) (by omega) omo) (cwV 1 hts gX3_daysOn_X3_dayOf rfl rfl rfl (by decide +kernel) ⟨Nat.le_of_ble_eq_true rfl, Nat.le_of_ble_eq_true rfl⟩) hK hP hD hp rfl rfl rfl rfl hl.1 rfl (Nat.le_of_ble_eq_true rfl) dX3_daysOn_25 ⟨by decide, by decide⟩) hP hD hS hA hp (fun v u H locs hw hP hD hS => ?_)
              obtain ⟨hv, hu⟩ := hw
              replace hv : v = (iv (has (dayN (km cs) (kd cs) i (kS cs y)) - has (day1 (kd cs + (i : Int)) (km cs) (dayN (km cs) (kd cs) i (kS cs y))))) := hv
              subst hv
              subst hu
              rw [dayS_step (by omega)] at hP hD
              have hP : va_P D vwCl ([(b 0, .inr (3, [.int (iv th), .int (iv (kn cs : Int)), .int (iv (kp cs : Int)), .int (iv (km cs)), .ref (b 1), .ref (b 2), .ref (b 3), .ref (b 4), .ref (b 5)])), (b 1, .inl (G 0, 144, .inl (fun y9 => iv (LL (dayS (km cs) (kd cs) (kn cs) (kS cs) i (y + 1)) y9)))), (b 2, .inl (G 0, 64, .inl (fun y9 => iv (RR (dayS (km cs) (kd cs) (kn cs) (kS cs) i (y + 1)) y9)))), (b 5, .inl (G 0, 1, .inl (fun y9 => iv (kk (kd cs + (i : Int)) y9))))]) H := hP
              have hD : va_D A ([(b 0, .inr (3, [.int (iv th), .int (iv (kn cs : Int)), .int (iv (kp cs : Int)), .int (iv (km cs)), .ref (b 1), .ref (b 2), .ref (b 3), .ref (b 4), .ref (b 5)])), (b 1, .inl (G 0, 144, .inl (fun y9 => iv (LL (dayS (km cs) (kd cs) (kn cs) (kS cs) i (y + 1)) y9)))), (b 2, .inl (G 0, 64, .inl (fun y9 => iv (RR (dayS (km cs) (kd cs) (kn cs) (kS cs) i (y + 1)) y9)))), (b 5, .inl (G 0, 1, .inl (fun y9 => iv (kk (kd cs + (i : Int)) y9))))]) := hD
              refine r_add hx hb dX3_daysOn_28 ?_
              refine lv_istore_n (lv' := [(2, .int (iv (x2 + (has (dayN (km cs) (kd cs) i (kS cs y)) - has (day1 (kd cs + (i : Int)) (km cs) (dayN (km cs) (kd cs) i (kS cs y))))))), (0, .ref (b 0)), (1, .int (iv (k : Int))), (3, .int (iv (i : Int))), (4, .int (iv (y : Int)))]) hx hb dX3_daysOn_29 rfl hl (by decide) rfl (fun ls hl => ?_)
              refine r_iinc (k := 4) (lv' := [(4, .int (iv ((y : Int) + 1))), (2, .int (iv (x2 + (has (dayN (km cs) (kd cs) i (kS cs y)) - has (day1 (kd cs + (i : Int)) (km cs) (dayN (km cs) (kd cs) i (kS cs y))))))), (0, .ref (b 0)), (1, .int (iv (k : Int))), (3, .int (iv (i : Int)))]) hx hb dX3_daysOn_30 hl rfl (by decide) rfl (fun ls hl => ?_)
              refine r_goto hx hb 12 dX3_daysOn_33 (by decide) ?_
              exact ih12 (y + 1) (x2 + (has (dayN (km cs) (kd cs) i (kS cs y)) - has (day1 (kd cs + (i : Int)) (km cs) (dayN (km cs) (kd cs) i (kS cs y))))) (by omega) (by omega) (by rw [← dayS_step (by omega), loss_upd (by omega), dayS_at (by omega), ex2]; omega) _ _ hP hD hS _ (lv_sub hl [2, 3, 1, 4, 0] rfl)
        exact K12 (kn cs + 1) 0 x (by omega) (by omega) ex _ _ hP hD hS _ (lv_sub hl [1, 2, 3, 4, 0] rfl)
  exact K4 (k + 1) 0 0 (by omega) (by omega) (by rw [dayS_0, loss_0]) _ _ hP hD hS _ (lv_sub hl [2, 3, 1, 0] rfl)
set_option maxHeartbeats 4000000 in
set_option maxRecDepth 100000 in
theorem c_X3_counted (l : Launch) (D : va_G) (G : Nat → ClassId) (b : Nat → Nat) (th : Int) (cs : CS) (hok : okC cs) (w : Int) (hw12 : 0 ≤ w ∧ w ≤ 12)  : MtG l yX3_counted wsX3_counted 4 170 0 0 D (TY G) [.ref (b 0), .int (iv w)] (wMod G b th cs) (qI D (fun r u => r = iv (countV cs w) ∧ u = wMod G b th cs)) := by
  refine MtG.mk (cc := cX3_counted) (maxL := 5) (ret := some .int) (by decide) rfl (Nat.le_of_ble_eq_true rfl) ?_
  intro p e s m below meth c A ls hx hb hr hlk hml hown hin hts hK hA hP hD hS hl
  replace hown : s.vm.findClass RX3 = some m.cls := hown
  have hl : lv_has ls 5 [(0, .ref (b 0)), (1, .int (iv w))] := hl
  skip
  have hP : va_P D vwCl ([(b 0, .inr (3, [.int (iv th), .int (iv (kn cs : Int)), .int (iv (kp cs : Int)), .int (iv (km cs)), .ref (b 1), .ref (b 2), .ref (b 3), .ref (b 4), .ref (b 5)])), (b 1, .inl (G 0, 144, .inl (fun y9 => iv (LL (kS cs) y9)))), (b 2, .inl (G 0, 64, .inl (fun y9 => iv (RR (kS cs) y9)))), (b 3, .inl (G 0, 48, .inl (fun y9 => iv (PP (kP cs) y9)))), (b 4, .inl (G 0, 5, .inl (fun y9 => iv (kT cs y9)))), (b 5, .inl (G 0, 1, .inl (fun y9 => iv (kk (kd cs) y9))))]) s.heap := hP
  have hD : va_D A ([(b 0, .inr (3, [.int (iv th), .int (iv (kn cs : Int)), .int (iv (kp cs : Int)), .int (iv (km cs)), .ref (b 1), .ref (b 2), .ref (b 3), .ref (b 4), .ref (b 5)])), (b 1, .inl (G 0, 144, .inl (fun y9 => iv (LL (kS cs) y9)))), (b 2, .inl (G 0, 64, .inl (fun y9 => iv (RR (kS cs) y9)))), (b 3, .inl (G 0, 48, .inl (fun y9 => iv (PP (kP cs) y9)))), (b 4, .inl (G 0, 5, .inl (fun y9 => iv (kT cs y9)))), (b 5, .inl (G 0, 1, .inl (fun y9 => iv (kk (kd cs) y9))))]) := hD
  have lk23 := hts (.fieldLink RX3 23 "DollCitadelModel" "store" "[I") (by decide +kernel)
  have in_X3 : ∀ w ∈ u_ws RX3 TX3 9, w ∈ wsX3_counted := by decide +kernel
  have lk26 := hts (.fieldLink RX3 26 "DollCitadelModel" "day" "[I") (by decide +kernel)
  have lk32 := hts (.fieldLink RX3 32 "DollCitadelModel" "dolls" "I") (by decide +kernel)
  have lk39 := hts (.fieldLink RX3 39 "DollCitadelModel" "poses" "I") (by decide +kernel)
  have lk7 := hts (.fieldLink RX3 7 "DollCitadelModel" "moths" "I") (by decide +kernel)
  obtain ⟨on8, op8, -, -, -, oday, omo⟩ := id hok
  refine r_const hx hb dX3_counted_0 ?_
  refine lv_istore_n (lv' := [(2, .int (iv 0)), (0, .ref (b 0)), (1, .int (iv w))]) hx hb dX3_counted_1 rfl hl (by decide) rfl (fun ls hl => ?_)
  refine lv_iload_n hx hb dX3_counted_2 rfl (lv_at hl 2 rfl) ?_
  refine lv_bipush (v := iv 7) hx hb dX3_counted_3 (by decide) ?_
  refine r_icmp_le hx hb 18 dX3_counted_5 (by decide) (by omega) (by omega) (fun c_5 => ?_) (fun c_5 => ?_)
  · skip
    refine lv_iload_n hx hb dX3_counted_18 rfl (lv_at hl 2 rfl) ?_
    refine r_const hx hb dX3_counted_19 ?_
    refine r_icmp_ge hx hb 65 dX3_counted_20 (by decide) (by omega) (by omega) (fun c_20 => ?_) (fun c_20 => ?_)
    · skip
      rcases (show w = 4 ∨ w = 5 ∨ w = 6 ∨ w = 7 by omega) with rfl | rfl | rfl | rfl
      · skip
        refine r_const hx hb dX3_counted_65 ?_
        refine lv_istore_n (lv' := [(3, .int (iv 0)), (2, .int (iv 0)), (0, .ref (b 0)), (1, .int (iv 4))]) hx hb dX3_counted_66 rfl hl (by decide) rfl (fun ls hl => ?_)
        have K67 : ∀ (fu y : Nat) (x : Int), y ≤ (kn cs) → (kn cs) < y + fu → x = sm (fun e9 => tally 4 (kS cs e9)) y → ∀ (H : Heap) (locs : List Loc), va_P D vwCl ([(b 0, .inr (3, [.int (iv th), .int (iv (kn cs : Int)), .int (iv (kp cs : Int)), .int (iv (km cs)), .ref (b 1), .ref (b 2), .ref (b 3), .ref (b 4), .ref (b 5)])), (b 1, .inl (G 0, 144, .inl (fun y9 => iv (LL (kS cs) y9)))), (b 2, .inl (G 0, 64, .inl (fun y9 => iv (RR (kS cs) y9)))), (b 3, .inl (G 0, 48, .inl (fun y9 => iv (PP (kP cs) y9)))), (b 4, .inl (G 0, 5, .inl (fun y9 => iv (kT cs y9)))), (b 5, .inl (G 0, 1, .inl (fun y9 => iv (kk (kd cs) y9))))]) H → va_D A ([(b 0, .inr (3, [.int (iv th), .int (iv (kn cs : Int)), .int (iv (kp cs : Int)), .int (iv (km cs)), .ref (b 1), .ref (b 2), .ref (b 3), .ref (b 4), .ref (b 5)])), (b 1, .inl (G 0, 144, .inl (fun y9 => iv (LL (kS cs) y9)))), (b 2, .inl (G 0, 64, .inl (fun y9 => iv (RR (kS cs) y9)))), (b 3, .inl (G 0, 48, .inl (fun y9 => iv (PP (kP cs) y9)))), (b 4, .inl (G 0, 5, .inl (fun y9 => iv (kT cs y9)))), (b 5, .inl (G 0, 1, .inl (fun y9 => iv (kk (kd cs) y9))))]) → va_S A s.heap H locs → ∀ (ls : Array Slot), lv_has ls 5 [(0, .ref (b 0)), (1, .int (iv 4)), (2, .int (iv x)), (3, .int (iv (y : Int)))] → W p l e (rmOf 4 170 0 0) s m ([.ref (b 0), .int (iv 4)] : List Value).toArray below meth c H locs 0 0 (MQ below (qI D (fun r u => r = iv (countV cs 4) ∧ u = wMod G b th cs) A) ([.ref (b 0), .int (iv 4)] : List Value).toArray s 0 0 A) (F0 m 67 ls []) := by
          intro fu
          induction fu with
          | zero => intro y x h1 h2; exact absurd h2 (by omega)
          | succ fu ih67 =>
            intro y x hi_67 hn_67 ex H locs hP hD hS ls hl
            refine lv_iload_n hx hb dX3_counted_67 rfl (lv_at hl 3 rfl) ?_
            refine lv_aload_n hx hb dX3_counted_68 rfl (lv_at hl 0 rfl) ?_
            refine va_get (D := D) (ci := 3) (v := .int (iv (kn cs : Int))) (C := RX3) (T := TX3) (N := 9) hx hb hts in_X3 hown hK hP 0 rfl rfl 1 (by decide) lk32 (fun _ h9 => h9) rfl dX3_counted_69 ?_
            refine r_icmp_ge hx hb 201 dX3_counted_72 (by decide) (by omega) (by omega) (fun c_72 => ?_) (fun c_72 => ?_)
            · skip
              refine lv_iload_n hx hb dX3_counted_201 rfl (lv_at hl 2 rfl) ?_
              have ey : y = kn cs := by omega
              subst ey
              exact e_int hx hb hr hlk dX3_counted_202 hS hP hD (by decide) (by decide) (⟨by unfold countV; rw [if_neg (by omega), if_neg (by omega), if_neg (by omega), if_neg (by omega), if_pos (by omega), ex], rfl⟩)
            · skip
              have okd : okD (kS cs y) := okC_D hok (by omega)
              obtain ⟨-, -, og, ov, on, ovn, ovn2⟩ := id okd
              have u0 := okD_U okd 0 (by omega)
              have u1 := okD_U okd 1 (by omega)
              refine r_const hx hb dX3_counted_75 ?_
              refine lv_istore (lv' := [(4, .int (iv 0)), (0, .ref (b 0)), (1, .int (iv 4)), (2, .int (iv x)), (3, .int (iv (y : Int)))]) hx hb dX3_counted_76 hl (by decide) rfl (fun ls hl => ?_)
              have K78 : ∀ (fu i : Nat) (x2 : Int), i ≤ 6 → 6 < i + fu → x2 = x + cnt (fun k9 => decide (100 ≤ dW (kS cs y) k9)) i → ∀ (H : Heap) (locs : List Loc), va_P D vwCl ([(b 0, .inr (3, [.int (iv th), .int (iv (kn cs : Int)), .int (iv (kp cs : Int)), .int (iv (km cs)), .ref (b 1), .ref (b 2), .ref (b 3), .ref (b 4), .ref (b 5)])), (b 1, .inl (G 0, 144, .inl (fun y9 => iv (LL (kS cs) y9)))), (b 2, .inl (G 0, 64, .inl (fun y9 => iv (RR (kS cs) y9)))), (b 3, .inl (G 0, 48, .inl (fun y9 => iv (PP (kP cs) y9)))), (b 4, .inl (G 0, 5, .inl (fun y9 => iv (kT cs y9)))), (b 5, .inl (G 0, 1, .inl (fun y9 => iv (kk (kd cs) y9))))]) H → va_D A ([(b 0, .inr (3, [.int (iv th), .int (iv (kn cs : Int)), .int (iv (kp cs : Int)), .int (iv (km cs)), .ref (b 1), .ref (b 2), .ref (b 3), .ref (b 4), .ref (b 5)])), (b 1, .inl (G 0, 144, .inl (fun y9 => iv (LL (kS cs) y9)))), (b 2, .inl (G 0, 64, .inl (fun y9 => iv (RR (kS cs) y9)))), (b 3, .inl (G 0, 48, .inl (fun y9 => iv (PP (kP cs) y9)))), (b 4, .inl (G 0, 5, .inl (fun y9 => iv (kT cs y9)))), (b 5, .inl (G 0, 1, .inl (fun y9 => iv (kk (kd cs) y9))))]) → va_S A s.heap H locs → ∀ (ls : Array Slot), lv_has ls 5 [(0, .ref (b 0)), (1, .int (iv 4)), (2, .int (iv x2)), (3, .int (iv (y : Int))), (4, .int (iv (i : Int)))] → W p l e (rmOf 4 170 0 0) s m ([.ref (b 0), .int (iv 4)] : List Value).toArray below meth c H locs 0 0 (MQ below (qI D (fun r u => r = iv (countV cs 4) ∧ u = wMod G b th cs) A) ([.ref (b 0), .int (iv 4)] : List Value).toArray s 0 0 A) (F0 m 78 ls []) := by
                intro fu
                induction fu with
                | zero => intro i x2 h1 h2; exact absurd h2 (by omega)
                | succ fu ih78 =>
                  intro i x2 hi_78 hn_78 e2 H locs hP hD hS ls hl
                  refine lv_iload hx hb dX3_counted_78 (lv_at hl 4 rfl) ?_
                  refine lv_bipush (v := iv 6) hx hb dX3_counted_80 (by decide) ?_
                  refine r_icmp_ge hx hb 107 dX3_counted_82 (by decide) (by omega) (by omega) (fun c_82 => ?_) (fun c_82 => ?_)
                  · skip
                    refine lv_iload_n hx hb dX3_counted_107 rfl (lv_at hl 1 rfl) ?_
                    refine r_const hx hb dX3_counted_108 ?_
                    refine r_icmp_ne hx hb 130 dX3_counted_109 (by decide) (by omega) (by omega) (fun c_109 => ?_) (fun c_109 => ?_)
                    · skip
                      refine lv_iload_n hx hb dX3_counted_130 rfl (lv_at hl 1 rfl) ?_
                      refine lv_bipush (v := iv 6) hx hb dX3_counted_131 (by decide) ?_
                      refine r_icmp_ne hx hb 153 dX3_counted_133 (by decide) (by omega) (by omega) (fun c_133 => ?_) (fun c_133 => ?_)
                      · skip
                        refine lv_iload_n hx hb dX3_counted_153 rfl (lv_at hl 1 rfl) ?_
                        refine lv_bipush (v := iv 7) hx hb dX3_counted_154 (by decide) ?_
                        refine r_icmp_ne hx hb 195 dX3_counted_156 (by decide) (by omega) (by omega) (fun c_156 => ?_) (fun c_156 => ?_)
                        · skip
                          refine r_iinc (k := 3) (lv' := [(3, .int (iv ((y : Int) + 1))), (0, .ref (b 0)), (1, .int (iv 4)), (2, .int (iv x2)), (4, .int (iv (i : Int)))]) hx hb dX3_counted_195 hl rfl (by decide) rfl (fun ls hl => ?_)
                          refine r_goto hx hb 67 dX3_counted_198 (by decide) ?_
                          exact ih67 (y + 1) x2 (by omega) (by omega) (by rw [e2, show i = 6 by omega]; exact sm_s ex rfl) _ _ hP hD hS _ (lv_sub hl [1, 2, 3, 0] rfl)
                        · exact absurd c_156 (by decide)
                      · exact absurd c_133 (by decide)
                    · exact absurd c_109 (by decide)
                  · skip
                    refine lv_iload_n hx hb dX3_counted_85 rfl (lv_at hl 1 rfl) ?_
                    refine r_const hx hb dX3_counted_86 ?_
                    refine r_icmp_ne hx hb 107 dX3_counted_87 (by decide) (by omega) (by omega) (fun c_87 => ?_) (fun c_87 => ?_)
                    · exact absurd c_87 (by decide)
                    · skip
                      have rW := okD_W okd i (by omega)
                      refine lv_iload_n hx hb dX3_counted_90 rfl (lv_at hl 2 rfl) ?_
                      refine lv_aload_n hx hb dX3_counted_91 rfl (lv_at hl 0 rfl) ?_
                      refine lv_iload_n hx hb dX3_counted_92 rfl (lv_at hl 3 rfl) ?_
                      refine lv_iload hx hb dX3_counted_93 (lv_at hl 4 rfl) ?_
                      refine r_const hx hb dX3_counted_95 ?_
                      have hp := wsp ([(b 0, .inr (3, [.int (iv th), .int (iv (kn cs : Int)), .int (iv (kp cs : Int)), .int (iv (km cs)), .ref (b 1), .ref (b 2), .ref (b 3), .ref (b 4), .ref (b 5)])), (b 1, .inl (G 0, 144, .inl (fun y9 => iv (LL (kS cs) y9)))), (b 2, .inl (G 0, 64, .inl (fun y9 => iv (RR (kS cs) y9)))), (b 3, .inl (G 0, 48, .inl (fun y9 => iv (PP (kP cs) y9)))), (b 4, .inl (G 0, 5, .inl (fun y9 => iv (kT cs y9)))), (b 5, .inl (G 0, 1, .inl (fun y9 => iv (kk (kd cs) y9))))]) ([]) 6 (is := [0, 1]) (js := [2, 3, 4, 5]) (wc := [wM0 b th (kn cs : Int) (kp cs : Int) (km cs), wMl G b (LL (kS cs))]) (wr := [(b 2, .inl (G 0, 64, .inl (fun y9 => iv (RR (kS cs) y9)))), (b 3, .inl (G 0, 48, .inl (fun y9 => iv (PP (kP cs) y9)))), (b 4, .inl (G 0, 5, .inl (fun y9 => iv (kT cs y9)))), (b 5, .inl (G 0, 1, .inl (fun y9 => iv (kk (kd cs) y9))))]) (by decide) rfl rfl rfl
                      skip
                      refine k_int (g_V (As := [.int (iv (y : Int)), .int (iv (i : Int)), .int (iv 3)]) (rest := [.int (iv x2)]) (q0 := 0) (ci := 3) ⟨hx, hb, hml, hown, hts⟩ (c_X3_jointTold l D G b th (kn cs : Int) (kp cs : Int) (km cs) (kS cs) y (by omega) (kS cs y) rfl okd i 3 (by omega) (by omega)) (cwV 3 hts gX3_counted_X3_jointTold rfl rfl rfl (by decide +kernel) ⟨Nat.le_of_ble_eq_true rfl, Nat.le_of_ble_eq_true rfl⟩) hK hP hD hp rfl rfl rfl rfl hl.1 rfl (Nat.le_of_ble_eq_true rfl) dX3_counted_96 ⟨by decide, by decide⟩) hP hD hS hA hp (fun v u H locs hw hP hD hS => ?_)
                      obtain ⟨hv, hu⟩ := hw
                      replace hv : v = (iv (jtold (kS cs y) i 3)) := hv
                      subst hv
                      subst hu
                      have hP : va_P D vwCl ([(b 0, .inr (3, [.int (iv th), .int (iv (kn cs : Int)), .int (iv (kp cs : Int)), .int (iv (km cs)), .ref (b 1), .ref (b 2), .ref (b 3), .ref (b 4), .ref (b 5)])), (b 1, .inl (G 0, 144, .inl (fun y9 => iv (LL (kS cs) y9)))), (b 2, .inl (G 0, 64, .inl (fun y9 => iv (RR (kS cs) y9)))), (b 3, .inl (G 0, 48, .inl (fun y9 => iv (PP (kP cs) y9)))), (b 4, .inl (G 0, 5, .inl (fun y9 => iv (kT cs y9)))), (b 5, .inl (G 0, 1, .inl (fun y9 => iv (kk (kd cs) y9))))]) H := hP
                      have hD : va_D A ([(b 0, .inr (3, [.int (iv th), .int (iv (kn cs : Int)), .int (iv (kp cs : Int)), .int (iv (km cs)), .ref (b 1), .ref (b 2), .ref (b 3), .ref (b 4), .ref (b 5)])), (b 1, .inl (G 0, 144, .inl (fun y9 => iv (LL (kS cs) y9)))), (b 2, .inl (G 0, 64, .inl (fun y9 => iv (RR (kS cs) y9)))), (b 3, .inl (G 0, 48, .inl (fun y9 => iv (PP (kP cs) y9)))), (b 4, .inl (G 0, 5, .inl (fun y9 => iv (kT cs y9)))), (b 5, .inl (G 0, 1, .inl (fun y9 => iv (kk (kd cs) y9))))]) := hD
                      refine r_add hx hb dX3_counted_99 ?_
                      refine lv_istore_n (lv' := [(2, .int (iv (x2 + (jtold (kS cs y) i 3)))), (0, .ref (b 0)), (1, .int (iv 4)), (3, .int (iv (y : Int))), (4, .int (iv (i : Int)))]) hx hb dX3_counted_100 rfl hl (by decide) rfl (fun ls hl => ?_)
                      refine r_iinc (k := 4) (lv' := [(4, .int (iv ((i : Int) + 1))), (2, .int (iv (x2 + (jtold (kS cs y) i 3)))), (0, .ref (b 0)), (1, .int (iv 4)), (3, .int (iv (y : Int)))]) hx hb dX3_counted_101 hl rfl (by decide) rfl (fun ls hl => ?_)
                      refine r_goto hx hb 78 dX3_counted_104 (by decide) ?_
                      exact ih78 (i + 1) (x2 + (jtold (kS cs y) i 3)) (by omega) (by omega) (by rw [e2, jt_3, Int.add_assoc]; congr 1; split; (exact cnt_yes (decide_eq_true (by omega))); (rw [Int.add_zero]; exact cnt_no (decide_eq_false (by omega)))) _ _ hP hD hS _ (lv_sub hl [2, 3, 1, 4, 0] rfl)
              exact K78 7 0 x (by omega) (by omega) (Int.add_zero x).symm _ _ hP hD hS _ (lv_sub hl [1, 2, 3, 4, 0] rfl)
        exact K67 (kn cs + 1) 0 0 (by omega) (by omega) rfl _ _ hP hD hS _ (lv_sub hl [2, 3, 1, 0] rfl)
      · skip
        refine r_const hx hb dX3_counted_65 ?_
        refine lv_istore_n (lv' := [(3, .int (iv 0)), (2, .int (iv 0)), (0, .ref (b 0)), (1, .int (iv 5))]) hx hb dX3_counted_66 rfl hl (by decide) rfl (fun ls hl => ?_)
        have K67 : ∀ (fu y : Nat) (x : Int), y ≤ (kn cs) → (kn cs) < y + fu → x = sm (fun e9 => tally 5 (kS cs e9)) y → ∀ (H : Heap) (locs : List Loc), va_P D vwCl ([(b 0, .inr (3, [.int (iv th), .int (iv (kn cs : Int)), .int (iv (kp cs : Int)), .int (iv (km cs)), .ref (b 1), .ref (b 2), .ref (b 3), .ref (b 4), .ref (b 5)])), (b 1, .inl (G 0, 144, .inl (fun y9 => iv (LL (kS cs) y9)))), (b 2, .inl (G 0, 64, .inl (fun y9 => iv (RR (kS cs) y9)))), (b 3, .inl (G 0, 48, .inl (fun y9 => iv (PP (kP cs) y9)))), (b 4, .inl (G 0, 5, .inl (fun y9 => iv (kT cs y9)))), (b 5, .inl (G 0, 1, .inl (fun y9 => iv (kk (kd cs) y9))))]) H → va_D A ([(b 0, .inr (3, [.int (iv th), .int (iv (kn cs : Int)), .int (iv (kp cs : Int)), .int (iv (km cs)), .ref (b 1), .ref (b 2), .ref (b 3), .ref (b 4), .ref (b 5)])), (b 1, .inl (G 0, 144, .inl (fun y9 => iv (LL (kS cs) y9)))), (b 2, .inl (G 0, 64, .inl (fun y9 => iv (RR (kS cs) y9)))), (b 3, .inl (G 0, 48, .inl (fun y9 => iv (PP (kP cs) y9)))), (b 4, .inl (G 0, 5, .inl (fun y9 => iv (kT cs y9)))), (b 5, .inl (G 0, 1, .inl (fun y9 => iv (kk (kd cs) y9))))]) → va_S A s.heap H locs → ∀ (ls : Array Slot), lv_has ls 5 [(0, .ref (b 0)), (1, .int (iv 5)), (2, .int (iv x)), (3, .int (iv (y : Int)))] → W p l e (rmOf 4 170 0 0) s m ([.ref (b 0), .int (iv 5)] : List Value).toArray below meth c H locs 0 0 (MQ below (qI D (fun r u => r = iv (countV cs 5) ∧ u = wMod G b th cs) A) ([.ref (b 0), .int (iv 5)] : List Value).toArray s 0 0 A) (F0 m 67 ls []) := by
          intro fu
          induction fu with
          | zero => intro y x h1 h2; exact absurd h2 (by omega)
          | succ fu ih67 =>
            intro y x hi_67 hn_67 ex H locs hP hD hS ls hl
            refine lv_iload_n hx hb dX3_counted_67 rfl (lv_at hl 3 rfl) ?_
            refine lv_aload_n hx hb dX3_counted_68 rfl (lv_at hl 0 rfl) ?_
            refine va_get (D := D) (ci := 3) (v := .int (iv (kn cs : Int))) (C := RX3) (T := TX3) (N := 9) hx hb hts in_X3 hown hK hP 0 rfl rfl 1 (by decide) lk32 (fun _ h9 => h9) rfl dX3_counted_69 ?_
            refine r_icmp_ge hx hb 201 dX3_counted_72 (by decide) (by omega) (by omega) (fun c_72 => ?_) (fun c_72 => ?_)
            · skip
              refine lv_iload_n hx hb dX3_counted_201 rfl (lv_at hl 2 rfl) ?_
              have ey : y = kn cs := by omega
              subst ey
              exact e_int hx hb hr hlk dX3_counted_202 hS hP hD (by decide) (by decide) (⟨by unfold countV; rw [if_neg (by omega), if_neg (by omega), if_neg (by omega), if_neg (by omega), if_pos (by omega), ex], rfl⟩)
            · skip
              have okd : okD (kS cs y) := okC_D hok (by omega)
              obtain ⟨-, -, og, ov, on, ovn, ovn2⟩ := id okd
              have u0 := okD_U okd 0 (by omega)
              have u1 := okD_U okd 1 (by omega)
              refine r_const hx hb dX3_counted_75 ?_
              refine lv_istore (lv' := [(4, .int (iv 0)), (0, .ref (b 0)), (1, .int (iv 5)), (2, .int (iv x)), (3, .int (iv (y : Int)))]) hx hb dX3_counted_76 hl (by decide) rfl (fun ls hl => ?_)
              have K78 : ∀ (fu i : Nat) (x2 : Int), i ≤ 6 → 6 < i + fu → x2 = x ∧ i = 0 → ∀ (H : Heap) (locs : List Loc), va_P D vwCl ([(b 0, .inr (3, [.int (iv th), .int (iv (kn cs : Int)), .int (iv (kp cs : Int)), .int (iv (km cs)), .ref (b 1), .ref (b 2), .ref (b 3), .ref (b 4), .ref (b 5)])), (b 1, .inl (G 0, 144, .inl (fun y9 => iv (LL (kS cs) y9)))), (b 2, .inl (G 0, 64, .inl (fun y9 => iv (RR (kS cs) y9)))), (b 3, .inl (G 0, 48, .inl (fun y9 => iv (PP (kP cs) y9)))), (b 4, .inl (G 0, 5, .inl (fun y9 => iv (kT cs y9)))), (b 5, .inl (G 0, 1, .inl (fun y9 => iv (kk (kd cs) y9))))]) H → va_D A ([(b 0, .inr (3, [.int (iv th), .int (iv (kn cs : Int)), .int (iv (kp cs : Int)), .int (iv (km cs)), .ref (b 1), .ref (b 2), .ref (b 3), .ref (b 4), .ref (b 5)])), (b 1, .inl (G 0, 144, .inl (fun y9 => iv (LL (kS cs) y9)))), (b 2, .inl (G 0, 64, .inl (fun y9 => iv (RR (kS cs) y9)))), (b 3, .inl (G 0, 48, .inl (fun y9 => iv (PP (kP cs) y9)))), (b 4, .inl (G 0, 5, .inl (fun y9 => iv (kT cs y9)))), (b 5, .inl (G 0, 1, .inl (fun y9 => iv (kk (kd cs) y9))))]) → va_S A s.heap H locs → ∀ (ls : Array Slot), lv_has ls 5 [(0, .ref (b 0)), (1, .int (iv 5)), (2, .int (iv x2)), (3, .int (iv (y : Int))), (4, .int (iv (i : Int)))] → W p l e (rmOf 4 170 0 0) s m ([.ref (b 0), .int (iv 5)] : List Value).toArray below meth c H locs 0 0 (MQ below (qI D (fun r u => r = iv (countV cs 5) ∧ u = wMod G b th cs) A) ([.ref (b 0), .int (iv 5)] : List Value).toArray s 0 0 A) (F0 m 78 ls []) := by
                intro fu
                induction fu with
                | zero => intro i x2 h1 h2; exact absurd h2 (by omega)
                | succ fu ih78 =>
                  intro i x2 hi_78 hn_78 e2 H locs hP hD hS ls hl
                  refine lv_iload hx hb dX3_counted_78 (lv_at hl 4 rfl) ?_
                  refine lv_bipush (v := iv 6) hx hb dX3_counted_80 (by decide) ?_
                  refine r_icmp_ge hx hb 107 dX3_counted_82 (by decide) (by omega) (by omega) (fun c_82 => ?_) (fun c_82 => ?_)
                  · skip
                    exact (by omega : False).elim
                  · skip
                    refine lv_iload_n hx hb dX3_counted_85 rfl (lv_at hl 1 rfl) ?_
                    refine r_const hx hb dX3_counted_86 ?_
                    refine r_icmp_ne hx hb 107 dX3_counted_87 (by decide) (by omega) (by omega) (fun c_87 => ?_) (fun c_87 => ?_)
                    · skip
                      refine lv_iload_n hx hb dX3_counted_107 rfl (lv_at hl 1 rfl) ?_
                      refine r_const hx hb dX3_counted_108 ?_
                      refine r_icmp_ne hx hb 130 dX3_counted_109 (by decide) (by omega) (by omega) (fun c_109 => ?_) (fun c_109 => ?_)
                      · exact absurd c_109 (by decide)
                      · skip
                        refine lv_iload_n hx hb dX3_counted_112 rfl (lv_at hl 2 rfl) ?_
                        refine lv_aload_n hx hb dX3_counted_113 rfl (lv_at hl 0 rfl) ?_
                        refine lv_iload_n hx hb dX3_counted_114 rfl (lv_at hl 3 rfl) ?_
                        refine r_const hx hb dX3_counted_115 ?_
                        have hp := wsp ([(b 0, .inr (3, [.int (iv th), .int (iv (kn cs : Int)), .int (iv (kp cs : Int)), .int (iv (km cs)), .ref (b 1), .ref (b 2), .ref (b 3), .ref (b 4), .ref (b 5)])), (b 1, .inl (G 0, 144, .inl (fun y9 => iv (LL (kS cs) y9)))), (b 2, .inl (G 0, 64, .inl (fun y9 => iv (RR (kS cs) y9)))), (b 3, .inl (G 0, 48, .inl (fun y9 => iv (PP (kP cs) y9)))), (b 4, .inl (G 0, 5, .inl (fun y9 => iv (kT cs y9)))), (b 5, .inl (G 0, 1, .inl (fun y9 => iv (kk (kd cs) y9))))]) ([]) 6 (is := [0, 2]) (js := [1, 3, 4, 5]) (wc := [wM0 b th (kn cs : Int) (kp cs : Int) (km cs), wMr G b (RR (kS cs))]) (wr := [(b 1, .inl (G 0, 144, .inl (fun y9 => iv (LL (kS cs) y9)))), (b 3, .inl (G 0, 48, .inl (fun y9 => iv (PP (kP cs) y9)))), (b 4, .inl (G 0, 5, .inl (fun y9 => iv (kT cs y9)))), (b 5, .inl (G 0, 1, .inl (fun y9 => iv (kk (kd cs) y9))))]) (by decide) rfl rfl rfl
                        skip
                        refine k_int (g_V (As := [.int (iv (y : Int)), .int (iv 4)]) (rest := [.int (iv x2)]) (q0 := 0) (ci := 3) ⟨hx, hb, hml, hown, hts⟩ (c_X3_ro l D G b th (kn cs : Int) (kp cs : Int) (km cs) (RR (kS cs)) y 4 (by omega) (by omega) (dg (kS cs y)) (by rw [RR_at _ (by omega)]; rfl)) (cwV 2 hts gX3_counted_X3_ro rfl rfl rfl (by decide +kernel) ⟨Nat.le_of_ble_eq_true rfl, Nat.le_of_ble_eq_true rfl⟩) hK hP hD hp rfl rfl rfl rfl hl.1 rfl (Nat.le_of_ble_eq_true rfl) dX3_counted_116 ⟨by decide, by decide⟩) hP hD hS hA hp (fun v u H locs hw hP hD hS => ?_)
                        obtain ⟨hv, hu⟩ := hw
                        replace hv : v = (iv (dg (kS cs y))) := hv
                        subst hv
                        subst hu
                        have hP : va_P D vwCl ([(b 0, .inr (3, [.int (iv th), .int (iv (kn cs : Int)), .int (iv (kp cs : Int)), .int (iv (km cs)), .ref (b 1), .ref (b 2), .ref (b 3), .ref (b 4), .ref (b 5)])), (b 2, .inl (G 0, 64, .inl (fun y9 => iv (RR (kS cs) y9)))), (b 1, .inl (G 0, 144, .inl (fun y9 => iv (LL (kS cs) y9)))), (b 3, .inl (G 0, 48, .inl (fun y9 => iv (PP (kP cs) y9)))), (b 4, .inl (G 0, 5, .inl (fun y9 => iv (kT cs y9)))), (b 5, .inl (G 0, 1, .inl (fun y9 => iv (kk (kd cs) y9))))]) H := hP
                        have hD : va_D A ([(b 0, .inr (3, [.int (iv th), .int (iv (kn cs : Int)), .int (iv (kp cs : Int)), .int (iv (km cs)), .ref (b 1), .ref (b 2), .ref (b 3), .ref (b 4), .ref (b 5)])), (b 2, .inl (G 0, 64, .inl (fun y9 => iv (RR (kS cs) y9)))), (b 1, .inl (G 0, 144, .inl (fun y9 => iv (LL (kS cs) y9)))), (b 3, .inl (G 0, 48, .inl (fun y9 => iv (PP (kP cs) y9)))), (b 4, .inl (G 0, 5, .inl (fun y9 => iv (kT cs y9)))), (b 5, .inl (G 0, 1, .inl (fun y9 => iv (kk (kd cs) y9))))]) := hD
                        refine r_const hx hb dX3_counted_119 ?_
                        refine r_icmp_ne hx hb 127 dX3_counted_120 (by decide) (by omega) (by omega) (fun c_120 => ?_) (fun c_120 => ?_)
                        · skip
                          refine r_const hx hb dX3_counted_127 ?_
                          refine r_add hx hb dX3_counted_128 ?_
                          refine lv_istore_n (lv' := [(2, .int (iv (x2 + 1))), (0, .ref (b 0)), (1, .int (iv 5)), (3, .int (iv (y : Int))), (4, .int (iv (i : Int)))]) hx hb dX3_counted_129 rfl hl (by decide) rfl (fun ls hl => ?_)
                          refine lv_iload_n hx hb dX3_counted_130 rfl (lv_at hl 2 rfl) ?_
                          refine lv_bipush (v := iv 6) hx hb dX3_counted_131 (by decide) ?_
                          refine r_icmp_ne hx hb 153 dX3_counted_133 (by decide) (by omega) (by omega) (fun c_133 => ?_) (fun c_133 => ?_)
                          · skip
                            refine lv_iload_n hx hb dX3_counted_153 rfl (lv_at hl 2 rfl) ?_
                            refine lv_bipush (v := iv 7) hx hb dX3_counted_154 (by decide) ?_
                            refine r_icmp_ne hx hb 195 dX3_counted_156 (by decide) (by omega) (by omega) (fun c_156 => ?_) (fun c_156 => ?_)
                            · skip
                              refine r_iinc (k := 3) (lv' := [(3, .int (iv ((y : Int) + 1))), (2, .int (iv (x2 + 1))), (0, .ref (b 0)), (1, .int (iv 5)), (4, .int (iv (i : Int)))]) hx hb dX3_counted_195 hl rfl (by decide) rfl (fun ls hl => ?_)
                              refine r_goto hx hb 67 dX3_counted_198 (by decide) ?_
                              have hq := wsp ([(b 0, .inr (3, [.int (iv th), .int (iv (kn cs : Int)), .int (iv (kp cs : Int)), .int (iv (km cs)), .ref (b 1), .ref (b 2), .ref (b 3), .ref (b 4), .ref (b 5)])), (b 2, .inl (G 0, 64, .inl (fun y9 => iv (RR (kS cs) y9)))), (b 1, .inl (G 0, 144, .inl (fun y9 => iv (LL (kS cs) y9)))), (b 3, .inl (G 0, 48, .inl (fun y9 => iv (PP (kP cs) y9)))), (b 4, .inl (G 0, 5, .inl (fun y9 => iv (kT cs y9)))), (b 5, .inl (G 0, 1, .inl (fun y9 => iv (kk (kd cs) y9))))]) ([]) 6 (is := [0, 2, 1, 3, 4, 5]) (js := []) (wc := [(b 0, .inr (3, [.int (iv th), .int (iv (kn cs : Int)), .int (iv (kp cs : Int)), .int (iv (km cs)), .ref (b 1), .ref (b 2), .ref (b 3), .ref (b 4), .ref (b 5)])), (b 1, .inl (G 0, 144, .inl (fun y9 => iv (LL (kS cs) y9)))), (b 2, .inl (G 0, 64, .inl (fun y9 => iv (RR (kS cs) y9)))), (b 3, .inl (G 0, 48, .inl (fun y9 => iv (PP (kP cs) y9)))), (b 4, .inl (G 0, 5, .inl (fun y9 => iv (kT cs y9)))), (b 5, .inl (G 0, 1, .inl (fun y9 => iv (kk (kd cs) y9))))]) (wr := []) (by decide) rfl rfl rfl
                              have hP := wP_perm hP hq
                              have hD := wD_perm hD hq
                              have hP : va_P D vwCl ([(b 0, .inr (3, [.int (iv th), .int (iv (kn cs : Int)), .int (iv (kp cs : Int)), .int (iv (km cs)), .ref (b 1), .ref (b 2), .ref (b 3), .ref (b 4), .ref (b 5)])), (b 1, .inl (G 0, 144, .inl (fun y9 => iv (LL (kS cs) y9)))), (b 2, .inl (G 0, 64, .inl (fun y9 => iv (RR (kS cs) y9)))), (b 3, .inl (G 0, 48, .inl (fun y9 => iv (PP (kP cs) y9)))), (b 4, .inl (G 0, 5, .inl (fun y9 => iv (kT cs y9)))), (b 5, .inl (G 0, 1, .inl (fun y9 => iv (kk (kd cs) y9))))]) H := hP
                              have hD : va_D A ([(b 0, .inr (3, [.int (iv th), .int (iv (kn cs : Int)), .int (iv (kp cs : Int)), .int (iv (km cs)), .ref (b 1), .ref (b 2), .ref (b 3), .ref (b 4), .ref (b 5)])), (b 1, .inl (G 0, 144, .inl (fun y9 => iv (LL (kS cs) y9)))), (b 2, .inl (G 0, 64, .inl (fun y9 => iv (RR (kS cs) y9)))), (b 3, .inl (G 0, 48, .inl (fun y9 => iv (PP (kP cs) y9)))), (b 4, .inl (G 0, 5, .inl (fun y9 => iv (kT cs y9)))), (b 5, .inl (G 0, 1, .inl (fun y9 => iv (kk (kd cs) y9))))]) := hD
                              exact ih67 (y + 1) (x2 + 1) (by omega) (by omega) (by rw [e2.1]; exact sm_s ex (by show 1 = tally 5 (kS cs y); rw [tally_5]; repeat' split; all_goals omega)) _ _ hP hD hS _ (lv_sub hl [2, 3, 1, 0] rfl)
                            · exact absurd c_156 (by decide)
                          · exact absurd c_133 (by decide)
                        · skip
                          refine r_const hx hb dX3_counted_123 ?_
                          refine r_goto hx hb 128 dX3_counted_124 (by decide) ?_
                          refine r_add hx hb dX3_counted_128 ?_
                          refine lv_istore_n (lv' := [(2, .int (iv (x2 + 0))), (0, .ref (b 0)), (1, .int (iv 5)), (3, .int (iv (y : Int))), (4, .int (iv (i : Int)))]) hx hb dX3_counted_129 rfl hl (by decide) rfl (fun ls hl => ?_)
                          refine lv_iload_n hx hb dX3_counted_130 rfl (lv_at hl 2 rfl) ?_
                          refine lv_bipush (v := iv 6) hx hb dX3_counted_131 (by decide) ?_
                          refine r_icmp_ne hx hb 153 dX3_counted_133 (by decide) (by omega) (by omega) (fun c_133 => ?_) (fun c_133 => ?_)
                          · skip
                            refine lv_iload_n hx hb dX3_counted_153 rfl (lv_at hl 2 rfl) ?_
                            refine lv_bipush (v := iv 7) hx hb dX3_counted_154 (by decide) ?_
                            refine r_icmp_ne hx hb 195 dX3_counted_156 (by decide) (by omega) (by omega) (fun c_156 => ?_) (fun c_156 => ?_)
                            · skip
                              refine r_iinc (k := 3) (lv' := [(3, .int (iv ((y : Int) + 1))), (2, .int (iv (x2 + 0))), (0, .ref (b 0)), (1, .int (iv 5)), (4, .int (iv (i : Int)))]) hx hb dX3_counted_195 hl rfl (by decide) rfl (fun ls hl => ?_)
                              refine r_goto hx hb 67 dX3_counted_198 (by decide) ?_
                              have hq := wsp ([(b 0, .inr (3, [.int (iv th), .int (iv (kn cs : Int)), .int (iv (kp cs : Int)), .int (iv (km cs)), .ref (b 1), .ref (b 2), .ref (b 3), .ref (b 4), .ref (b 5)])), (b 2, .inl (G 0, 64, .inl (fun y9 => iv (RR (kS cs) y9)))), (b 1, .inl (G 0, 144, .inl (fun y9 => iv (LL (kS cs) y9)))), (b 3, .inl (G 0, 48, .inl (fun y9 => iv (PP (kP cs) y9)))), (b 4, .inl (G 0, 5, .inl (fun y9 => iv (kT cs y9)))), (b 5, .inl (G 0, 1, .inl (fun y9 => iv (kk (kd cs) y9))))]) ([]) 6 (is := [0, 2, 1, 3, 4, 5]) (js := []) (wc := [(b 0, .inr (3, [.int (iv th), .int (iv (kn cs : Int)), .int (iv (kp cs : Int)), .int (iv (km cs)), .ref (b 1), .ref (b 2), .ref (b 3), .ref (b 4), .ref (b 5)])), (b 1, .inl (G 0, 144, .inl (fun y9 => iv (LL (kS cs) y9)))), (b 2, .inl (G 0, 64, .inl (fun y9 => iv (RR (kS cs) y9)))), (b 3, .inl (G 0, 48, .inl (fun y9 => iv (PP (kP cs) y9)))), (b 4, .inl (G 0, 5, .inl (fun y9 => iv (kT cs y9)))), (b 5, .inl (G 0, 1, .inl (fun y9 => iv (kk (kd cs) y9))))]) (wr := []) (by decide) rfl rfl rfl
                              have hP := wP_perm hP hq
                              have hD := wD_perm hD hq
                              have hP : va_P D vwCl ([(b 0, .inr (3, [.int (iv th), .int (iv (kn cs : Int)), .int (iv (kp cs : Int)), .int (iv (km cs)), .ref (b 1), .ref (b 2), .ref (b 3), .ref (b 4), .ref (b 5)])), (b 1, .inl (G 0, 144, .inl (fun y9 => iv (LL (kS cs) y9)))), (b 2, .inl (G 0, 64, .inl (fun y9 => iv (RR (kS cs) y9)))), (b 3, .inl (G 0, 48, .inl (fun y9 => iv (PP (kP cs) y9)))), (b 4, .inl (G 0, 5, .inl (fun y9 => iv (kT cs y9)))), (b 5, .inl (G 0, 1, .inl (fun y9 => iv (kk (kd cs) y9))))]) H := hP
                              have hD : va_D A ([(b 0, .inr (3, [.int (iv th), .int (iv (kn cs : Int)), .int (iv (kp cs : Int)), .int (iv (km cs)), .ref (b 1), .ref (b 2), .ref (b 3), .ref (b 4), .ref (b 5)])), (b 1, .inl (G 0, 144, .inl (fun y9 => iv (LL (kS cs) y9)))), (b 2, .inl (G 0, 64, .inl (fun y9 => iv (RR (kS cs) y9)))), (b 3, .inl (G 0, 48, .inl (fun y9 => iv (PP (kP cs) y9)))), (b 4, .inl (G 0, 5, .inl (fun y9 => iv (kT cs y9)))), (b 5, .inl (G 0, 1, .inl (fun y9 => iv (kk (kd cs) y9))))]) := hD
                              exact ih67 (y + 1) (x2 + 0) (by omega) (by omega) (by rw [e2.1]; exact sm_s ex (by show 0 = tally 5 (kS cs y); rw [tally_5]; repeat' split; all_goals omega)) _ _ hP hD hS _ (lv_sub hl [2, 3, 1, 0] rfl)
                            · exact absurd c_156 (by decide)
                          · exact absurd c_133 (by decide)
                    · exact absurd c_87 (by decide)
              exact K78 7 0 x (by omega) (by omega) ⟨rfl, rfl⟩ _ _ hP hD hS _ (lv_sub hl [1, 2, 3, 4, 0] rfl)
        exact K67 (kn cs + 1) 0 0 (by omega) (by omega) rfl _ _ hP hD hS _ (lv_sub hl [2, 3, 1, 0] rfl)
      · skip
        refine r_const hx hb dX3_counted_65 ?_
        refine lv_istore_n (lv' := [(3, .int (iv 0)), (2, .int (iv 0)), (0, .ref (b 0)), (1, .int (iv 6))]) hx hb dX3_counted_66 rfl hl (by decide) rfl (fun ls hl => ?_)
        have K67 : ∀ (fu y : Nat) (x : Int), y ≤ (kn cs) → (kn cs) < y + fu → x = sm (fun e9 => tally 6 (kS cs e9)) y → ∀ (H : Heap) (locs : List Loc), va_P D vwCl ([(b 0, .inr (3, [.int (iv th), .int (iv (kn cs : Int)), .int (iv (kp cs : Int)), .int (iv (km cs)), .ref (b 1), .ref (b 2), .ref (b 3), .ref (b 4), .ref (b 5)])), (b 1, .inl (G 0, 144, .inl (fun y9 => iv (LL (kS cs) y9)))), (b 2, .inl (G 0, 64, .inl (fun y9 => iv (RR (kS cs) y9)))), (b 3, .inl (G 0, 48, .inl (fun y9 => iv (PP (kP cs) y9)))), (b 4, .inl (G 0, 5, .inl (fun y9 => iv (kT cs y9)))), (b 5, .inl (G 0, 1, .inl (fun y9 => iv (kk (kd cs) y9))))]) H → va_D A ([(b 0, .inr (3, [.int (iv th), .int (iv (kn cs : Int)), .int (iv (kp cs : Int)), .int (iv (km cs)), .ref (b 1), .ref (b 2), .ref (b 3), .ref (b 4), .ref (b 5)])), (b 1, .inl (G 0, 144, .inl (fun y9 => iv (LL (kS cs) y9)))), (b 2, .inl (G 0, 64, .inl (fun y9 => iv (RR (kS cs) y9)))), (b 3, .inl (G 0, 48, .inl (fun y9 => iv (PP (kP cs) y9)))), (b 4, .inl (G 0, 5, .inl (fun y9 => iv (kT cs y9)))), (b 5, .inl (G 0, 1, .inl (fun y9 => iv (kk (kd cs) y9))))]) → va_S A s.heap H locs → ∀ (ls : Array Slot), lv_has ls 5 [(0, .ref (b 0)), (1, .int (iv 6)), (2, .int (iv x)), (3, .int (iv (y : Int)))] → W p l e (rmOf 4 170 0 0) s m ([.ref (b 0), .int (iv 6)] : List Value).toArray below meth c H locs 0 0 (MQ below (qI D (fun r u => r = iv (countV cs 6) ∧ u = wMod G b th cs) A) ([.ref (b 0), .int (iv 6)] : List Value).toArray s 0 0 A) (F0 m 67 ls []) := by
          intro fu
          induction fu with
          | zero => intro y x h1 h2; exact absurd h2 (by omega)
          | succ fu ih67 =>
            intro y x hi_67 hn_67 ex H locs hP hD hS ls hl
            refine lv_iload_n hx hb dX3_counted_67 rfl (lv_at hl 3 rfl) ?_
            refine lv_aload_n hx hb dX3_counted_68 rfl (lv_at hl 0 rfl) ?_
            refine va_get (D := D) (ci := 3) (v := .int (iv (kn cs : Int))) (C := RX3) (T := TX3) (N := 9) hx hb hts in_X3 hown hK hP 0 rfl rfl 1 (by decide) lk32 (fun _ h9 => h9) rfl dX3_counted_69 ?_
            refine r_icmp_ge hx hb 201 dX3_counted_72 (by decide) (by omega) (by omega) (fun c_72 => ?_) (fun c_72 => ?_)
            · skip
              refine lv_iload_n hx hb dX3_counted_201 rfl (lv_at hl 2 rfl) ?_
              have ey : y = kn cs := by omega
              subst ey
              exact e_int hx hb hr hlk dX3_counted_202 hS hP hD (by decide) (by decide) (⟨by unfold countV; rw [if_neg (by omega), if_neg (by omega), if_neg (by omega), if_neg (by omega), if_pos (by omega), ex], rfl⟩)
            · skip
              have okd : okD (kS cs y) := okC_D hok (by omega)
              obtain ⟨-, -, og, ov, on, ovn, ovn2⟩ := id okd
              have u0 := okD_U okd 0 (by omega)
              have u1 := okD_U okd 1 (by omega)
              refine r_const hx hb dX3_counted_75 ?_
              refine lv_istore (lv' := [(4, .int (iv 0)), (0, .ref (b 0)), (1, .int (iv 6)), (2, .int (iv x)), (3, .int (iv (y : Int)))]) hx hb dX3_counted_76 hl (by decide) rfl (fun ls hl => ?_)
              have K78 : ∀ (fu i : Nat) (x2 : Int), i ≤ 6 → 6 < i + fu → x2 = x ∧ i = 0 → ∀ (H : Heap) (locs : List Loc), va_P D vwCl ([(b 0, .inr (3, [.int (iv th), .int (iv (kn cs : Int)), .int (iv (kp cs : Int)), .int (iv (km cs)), .ref (b 1), .ref (b 2), .ref (b 3), .ref (b 4), .ref (b 5)])), (b 1, .inl (G 0, 144, .inl (fun y9 => iv (LL (kS cs) y9)))), (b 2, .inl (G 0, 64, .inl (fun y9 => iv (RR (kS cs) y9)))), (b 3, .inl (G 0, 48, .inl (fun y9 => iv (PP (kP cs) y9)))), (b 4, .inl (G 0, 5, .inl (fun y9 => iv (kT cs y9)))), (b 5, .inl (G 0, 1, .inl (fun y9 => iv (kk (kd cs) y9))))]) H → va_D A ([(b 0, .inr (3, [.int (iv th), .int (iv (kn cs : Int)), .int (iv (kp cs : Int)), .int (iv (km cs)), .ref (b 1), .ref (b 2), .ref (b 3), .ref (b 4), .ref (b 5)])), (b 1, .inl (G 0, 144, .inl (fun y9 => iv (LL (kS cs) y9)))), (b 2, .inl (G 0, 64, .inl (fun y9 => iv (RR (kS cs) y9)))), (b 3, .inl (G 0, 48, .inl (fun y9 => iv (PP (kP cs) y9)))), (b 4, .inl (G 0, 5, .inl (fun y9 => iv (kT cs y9)))), (b 5, .inl (G 0, 1, .inl (fun y9 => iv (kk (kd cs) y9))))]) → va_S A s.heap H locs → ∀ (ls : Array Slot), lv_has ls 5 [(0, .ref (b 0)), (1, .int (iv 6)), (2, .int (iv x2)), (3, .int (iv (y : Int))), (4, .int (iv (i : Int)))] → W p l e (rmOf 4 170 0 0) s m ([.ref (b 0), .int (iv 6)] : List Value).toArray below meth c H locs 0 0 (MQ below (qI D (fun r u => r = iv (countV cs 6) ∧ u = wMod G b th cs) A) ([.ref (b 0), .int (iv 6)] : List Value).toArray s 0 0 A) (F0 m 78 ls []) := by
                intro fu
                induction fu with
                | zero => intro i x2 h1 h2; exact absurd h2 (by omega)
                | succ fu ih78 =>
                  intro i x2 hi_78 hn_78 e2 H locs hP hD hS ls hl
                  refine lv_iload hx hb dX3_counted_78 (lv_at hl 4 rfl) ?_
                  refine lv_bipush (v := iv 6) hx hb dX3_counted_80 (by decide) ?_
                  refine r_icmp_ge hx hb 107 dX3_counted_82 (by decide) (by omega) (by omega) (fun c_82 => ?_) (fun c_82 => ?_)
                  · skip
                    exact (by omega : False).elim
                  · skip
                    refine lv_iload_n hx hb dX3_counted_85 rfl (lv_at hl 1 rfl) ?_
                    refine r_const hx hb dX3_counted_86 ?_
                    refine r_icmp_ne hx hb 107 dX3_counted_87 (by decide) (by omega) (by omega) (fun c_87 => ?_) (fun c_87 => ?_)
                    · skip
                      refine lv_iload_n hx hb dX3_counted_107 rfl (lv_at hl 1 rfl) ?_
                      refine r_const hx hb dX3_counted_108 ?_
                      refine r_icmp_ne hx hb 130 dX3_counted_109 (by decide) (by omega) (by omega) (fun c_109 => ?_) (fun c_109 => ?_)
                      · skip
                        refine lv_iload_n hx hb dX3_counted_130 rfl (lv_at hl 1 rfl) ?_
                        refine lv_bipush (v := iv 6) hx hb dX3_counted_131 (by decide) ?_
                        refine r_icmp_ne hx hb 153 dX3_counted_133 (by decide) (by omega) (by omega) (fun c_133 => ?_) (fun c_133 => ?_)
                        · exact absurd c_133 (by decide)
                        · skip
                          refine lv_iload_n hx hb dX3_counted_136 rfl (lv_at hl 2 rfl) ?_
                          refine lv_aload_n hx hb dX3_counted_137 rfl (lv_at hl 0 rfl) ?_
                          refine lv_iload_n hx hb dX3_counted_138 rfl (lv_at hl 3 rfl) ?_
                          refine r_const hx hb dX3_counted_139 ?_
                          have hp := wsp ([(b 0, .inr (3, [.int (iv th), .int (iv (kn cs : Int)), .int (iv (kp cs : Int)), .int (iv (km cs)), .ref (b 1), .ref (b 2), .ref (b 3), .ref (b 4), .ref (b 5)])), (b 1, .inl (G 0, 144, .inl (fun y9 => iv (LL (kS cs) y9)))), (b 2, .inl (G 0, 64, .inl (fun y9 => iv (RR (kS cs) y9)))), (b 3, .inl (G 0, 48, .inl (fun y9 => iv (PP (kP cs) y9)))), (b 4, .inl (G 0, 5, .inl (fun y9 => iv (kT cs y9)))), (b 5, .inl (G 0, 1, .inl (fun y9 => iv (kk (kd cs) y9))))]) ([]) 6 (is := [0, 2]) (js := [1, 3, 4, 5]) (wc := [wM0 b th (kn cs : Int) (kp cs : Int) (km cs), wMr G b (RR (kS cs))]) (wr := [(b 1, .inl (G 0, 144, .inl (fun y9 => iv (LL (kS cs) y9)))), (b 3, .inl (G 0, 48, .inl (fun y9 => iv (PP (kP cs) y9)))), (b 4, .inl (G 0, 5, .inl (fun y9 => iv (kT cs y9)))), (b 5, .inl (G 0, 1, .inl (fun y9 => iv (kk (kd cs) y9))))]) (by decide) rfl rfl rfl
                          skip
                          refine k_int (g_V (As := [.int (iv (y : Int)), .int (iv 5)]) (rest := [.int (iv x2)]) (q0 := 0) (ci := 3) ⟨hx, hb, hml, hown, hts⟩ (c_X3_ro l D G b th (kn cs : Int) (kp cs : Int) (km cs) (RR (kS cs)) y 5 (by omega) (by omega) (dv (kS cs y)) (by rw [RR_at _ (by omega)]; rfl)) (cwV 2 hts gX3_counted_X3_ro rfl rfl rfl (by decide +kernel) ⟨Nat.le_of_ble_eq_true rfl, Nat.le_of_ble_eq_true rfl⟩) hK hP hD hp rfl rfl rfl rfl hl.1 rfl (Nat.le_of_ble_eq_true rfl) dX3_counted_140 ⟨by decide, by decide⟩) hP hD hS hA hp (fun v u H locs hw hP hD hS => ?_)
                          obtain ⟨hv, hu⟩ := hw
                          replace hv : v = (iv (dv (kS cs y))) := hv
                          subst hv
                          subst hu
                          have hP : va_P D vwCl ([(b 0, .inr (3, [.int (iv th), .int (iv (kn cs : Int)), .int (iv (kp cs : Int)), .int (iv (km cs)), .ref (b 1), .ref (b 2), .ref (b 3), .ref (b 4), .ref (b 5)])), (b 2, .inl (G 0, 64, .inl (fun y9 => iv (RR (kS cs) y9)))), (b 1, .inl (G 0, 144, .inl (fun y9 => iv (LL (kS cs) y9)))), (b 3, .inl (G 0, 48, .inl (fun y9 => iv (PP (kP cs) y9)))), (b 4, .inl (G 0, 5, .inl (fun y9 => iv (kT cs y9)))), (b 5, .inl (G 0, 1, .inl (fun y9 => iv (kk (kd cs) y9))))]) H := hP
                          have hD : va_D A ([(b 0, .inr (3, [.int (iv th), .int (iv (kn cs : Int)), .int (iv (kp cs : Int)), .int (iv (km cs)), .ref (b 1), .ref (b 2), .ref (b 3), .ref (b 4), .ref (b 5)])), (b 2, .inl (G 0, 64, .inl (fun y9 => iv (RR (kS cs) y9)))), (b 1, .inl (G 0, 144, .inl (fun y9 => iv (LL (kS cs) y9)))), (b 3, .inl (G 0, 48, .inl (fun y9 => iv (PP (kP cs) y9)))), (b 4, .inl (G 0, 5, .inl (fun y9 => iv (kT cs y9)))), (b 5, .inl (G 0, 1, .inl (fun y9 => iv (kk (kd cs) y9))))]) := hD
                          refine r_if_le hx hb 150 dX3_counted_143 (by decide) (by omega) (fun c_143 => ?_) (fun c_143 => ?_)
                          · skip
                            refine r_const hx hb dX3_counted_150 ?_
                            refine r_add hx hb dX3_counted_151 ?_
                            refine lv_istore_n (lv' := [(2, .int (iv (x2 + 0))), (0, .ref (b 0)), (1, .int (iv 6)), (3, .int (iv (y : Int))), (4, .int (iv (i : Int)))]) hx hb dX3_counted_152 rfl hl (by decide) rfl (fun ls hl => ?_)
                            refine lv_iload_n hx hb dX3_counted_153 rfl (lv_at hl 2 rfl) ?_
                            refine lv_bipush (v := iv 7) hx hb dX3_counted_154 (by decide) ?_
                            refine r_icmp_ne hx hb 195 dX3_counted_156 (by decide) (by omega) (by omega) (fun c_156 => ?_) (fun c_156 => ?_)
                            · skip
                              refine r_iinc (k := 3) (lv' := [(3, .int (iv ((y : Int) + 1))), (2, .int (iv (x2 + 0))), (0, .ref (b 0)), (1, .int (iv 6)), (4, .int (iv (i : Int)))]) hx hb dX3_counted_195 hl rfl (by decide) rfl (fun ls hl => ?_)
                              refine r_goto hx hb 67 dX3_counted_198 (by decide) ?_
                              have hq := wsp ([(b 0, .inr (3, [.int (iv th), .int (iv (kn cs : Int)), .int (iv (kp cs : Int)), .int (iv (km cs)), .ref (b 1), .ref (b 2), .ref (b 3), .ref (b 4), .ref (b 5)])), (b 2, .inl (G 0, 64, .inl (fun y9 => iv (RR (kS cs) y9)))), (b 1, .inl (G 0, 144, .inl (fun y9 => iv (LL (kS cs) y9)))), (b 3, .inl (G 0, 48, .inl (fun y9 => iv (PP (kP cs) y9)))), (b 4, .inl (G 0, 5, .inl (fun y9 => iv (kT cs y9)))), (b 5, .inl (G 0, 1, .inl (fun y9 => iv (kk (kd cs) y9))))]) ([]) 6 (is := [0, 2, 1, 3, 4, 5]) (js := []) (wc := [(b 0, .inr (3, [.int (iv th), .int (iv (kn cs : Int)), .int (iv (kp cs : Int)), .int (iv (km cs)), .ref (b 1), .ref (b 2), .ref (b 3), .ref (b 4), .ref (b 5)])), (b 1, .inl (G 0, 144, .inl (fun y9 => iv (LL (kS cs) y9)))), (b 2, .inl (G 0, 64, .inl (fun y9 => iv (RR (kS cs) y9)))), (b 3, .inl (G 0, 48, .inl (fun y9 => iv (PP (kP cs) y9)))), (b 4, .inl (G 0, 5, .inl (fun y9 => iv (kT cs y9)))), (b 5, .inl (G 0, 1, .inl (fun y9 => iv (kk (kd cs) y9))))]) (wr := []) (by decide) rfl rfl rfl
                              have hP := wP_perm hP hq
                              have hD := wD_perm hD hq
                              have hP : va_P D vwCl ([(b 0, .inr (3, [.int (iv th), .int (iv (kn cs : Int)), .int (iv (kp cs : Int)), .int (iv (km cs)), .ref (b 1), .ref (b 2), .ref (b 3), .ref (b 4), .ref (b 5)])), (b 1, .inl (G 0, 144, .inl (fun y9 => iv (LL (kS cs) y9)))), (b 2, .inl (G 0, 64, .inl (fun y9 => iv (RR (kS cs) y9)))), (b 3, .inl (G 0, 48, .inl (fun y9 => iv (PP (kP cs) y9)))), (b 4, .inl (G 0, 5, .inl (fun y9 => iv (kT cs y9)))), (b 5, .inl (G 0, 1, .inl (fun y9 => iv (kk (kd cs) y9))))]) H := hP
                              have hD : va_D A ([(b 0, .inr (3, [.int (iv th), .int (iv (kn cs : Int)), .int (iv (kp cs : Int)), .int (iv (km cs)), .ref (b 1), .ref (b 2), .ref (b 3), .ref (b 4), .ref (b 5)])), (b 1, .inl (G 0, 144, .inl (fun y9 => iv (LL (kS cs) y9)))), (b 2, .inl (G 0, 64, .inl (fun y9 => iv (RR (kS cs) y9)))), (b 3, .inl (G 0, 48, .inl (fun y9 => iv (PP (kP cs) y9)))), (b 4, .inl (G 0, 5, .inl (fun y9 => iv (kT cs y9)))), (b 5, .inl (G 0, 1, .inl (fun y9 => iv (kk (kd cs) y9))))]) := hD
                              exact ih67 (y + 1) (x2 + 0) (by omega) (by omega) (by rw [e2.1]; exact sm_s ex (by show 0 = tally 6 (kS cs y); rw [tally_6]; repeat' split; all_goals omega)) _ _ hP hD hS _ (lv_sub hl [2, 3, 1, 0] rfl)
                            · exact absurd c_156 (by decide)
                          · skip
                            refine r_const hx hb dX3_counted_146 ?_
                            refine r_goto hx hb 151 dX3_counted_147 (by decide) ?_
                            refine r_add hx hb dX3_counted_151 ?_
                            refine lv_istore_n (lv' := [(2, .int (iv (x2 + 1))), (0, .ref (b 0)), (1, .int (iv 6)), (3, .int (iv (y : Int))), (4, .int (iv (i : Int)))]) hx hb dX3_counted_152 rfl hl (by decide) rfl (fun ls hl => ?_)
                            refine lv_iload_n hx hb dX3_counted_153 rfl (lv_at hl 2 rfl) ?_
                            refine lv_bipush (v := iv 7) hx hb dX3_counted_154 (by decide) ?_
                            refine r_icmp_ne hx hb 195 dX3_counted_156 (by decide) (by omega) (by omega) (fun c_156 => ?_) (fun c_156 => ?_)
                            · skip
                              refine r_iinc (k := 3) (lv' := [(3, .int (iv ((y : Int) + 1))), (2, .int (iv (x2 + 1))), (0, .ref (b 0)), (1, .int (iv 6)), (4, .int (iv (i : Int)))]) hx hb dX3_counted_195 hl rfl (by decide) rfl (fun ls hl => ?_)
                              refine r_goto hx hb 67 dX3_counted_198 (by decide) ?_
                              have hq := wsp ([(b 0, .inr (3, [.int (iv th), .int (iv (kn cs : Int)), .int (iv (kp cs : Int)), .int (iv (km cs)), .ref (b 1), .ref (b 2), .ref (b 3), .ref (b 4), .ref (b 5)])), (b 2, .inl (G 0, 64, .inl (fun y9 => iv (RR (kS cs) y9)))), (b 1, .inl (G 0, 144, .inl (fun y9 => iv (LL (kS cs) y9)))), (b 3, .inl (G 0, 48, .inl (fun y9 => iv (PP (kP cs) y9)))), (b 4, .inl (G 0, 5, .inl (fun y9 => iv (kT cs y9)))), (b 5, .inl (G 0, 1, .inl (fun y9 => iv (kk (kd cs) y9))))]) ([]) 6 (is := [0, 2, 1, 3, 4, 5]) (js := []) (wc := [(b 0, .inr (3, [.int (iv th), .int (iv (kn cs : Int)), .int (iv (kp cs : Int)), .int (iv (km cs)), .ref (b 1), .ref (b 2), .ref (b 3), .ref (b 4), .ref (b 5)])), (b 1, .inl (G 0, 144, .inl (fun y9 => iv (LL (kS cs) y9)))), (b 2, .inl (G 0, 64, .inl (fun y9 => iv (RR (kS cs) y9)))), (b 3, .inl (G 0, 48, .inl (fun y9 => iv (PP (kP cs) y9)))), (b 4, .inl (G 0, 5, .inl (fun y9 => iv (kT cs y9)))), (b 5, .inl (G 0, 1, .inl (fun y9 => iv (kk (kd cs) y9))))]) (wr := []) (by decide) rfl rfl rfl
                              have hP := wP_perm hP hq
                              have hD := wD_perm hD hq
                              have hP : va_P D vwCl ([(b 0, .inr (3, [.int (iv th), .int (iv (kn cs : Int)), .int (iv (kp cs : Int)), .int (iv (km cs)), .ref (b 1), .ref (b 2), .ref (b 3), .ref (b 4), .ref (b 5)])), (b 1, .inl (G 0, 144, .inl (fun y9 => iv (LL (kS cs) y9)))), (b 2, .inl (G 0, 64, .inl (fun y9 => iv (RR (kS cs) y9)))), (b 3, .inl (G 0, 48, .inl (fun y9 => iv (PP (kP cs) y9)))), (b 4, .inl (G 0, 5, .inl (fun y9 => iv (kT cs y9)))), (b 5, .inl (G 0, 1, .inl (fun y9 => iv (kk (kd cs) y9))))]) H := hP
                              have hD : va_D A ([(b 0, .inr (3, [.int (iv th), .int (iv (kn cs : Int)), .int (iv (kp cs : Int)), .int (iv (km cs)), .ref (b 1), .ref (b 2), .ref (b 3), .ref (b 4), .ref (b 5)])), (b 1, .inl (G 0, 144, .inl (fun y9 => iv (LL (kS cs) y9)))), (b 2, .inl (G 0, 64, .inl (fun y9 => iv (RR (kS cs) y9)))), (b 3, .inl (G 0, 48, .inl (fun y9 => iv (PP (kP cs) y9)))), (b 4, .inl (G 0, 5, .inl (fun y9 => iv (kT cs y9)))), (b 5, .inl (G 0, 1, .inl (fun y9 => iv (kk (kd cs) y9))))]) := hD
                              exact ih67 (y + 1) (x2 + 1) (by omega) (by omega) (by rw [e2.1]; exact sm_s ex (by show 1 = tally 6 (kS cs y); rw [tally_6]; repeat' split; all_goals omega)) _ _ hP hD hS _ (lv_sub hl [2, 3, 1, 0] rfl)
                            · exact absurd c_156 (by decide)
                      · exact absurd c_109 (by decide)
                    · exact absurd c_87 (by decide)
              exact K78 7 0 x (by omega) (by omega) ⟨rfl, rfl⟩ _ _ hP hD hS _ (lv_sub hl [1, 2, 3, 4, 0] rfl)
        exact K67 (kn cs + 1) 0 0 (by omega) (by omega) rfl _ _ hP hD hS _ (lv_sub hl [2, 3, 1, 0] rfl)
      · skip
        refine r_const hx hb dX3_counted_65 ?_
        refine lv_istore_n (lv' := [(3, .int (iv 0)), (2, .int (iv 0)), (0, .ref (b 0)), (1, .int (iv 7))]) hx hb dX3_counted_66 rfl hl (by decide) rfl (fun ls hl => ?_)
        have K67 : ∀ (fu y : Nat) (x : Int), y ≤ (kn cs) → (kn cs) < y + fu → x = sm (fun e9 => tally 7 (kS cs e9)) y → ∀ (H : Heap) (locs : List Loc), va_P D vwCl ([(b 0, .inr (3, [.int (iv th), .int (iv (kn cs : Int)), .int (iv (kp cs : Int)), .int (iv (km cs)), .ref (b 1), .ref (b 2), .ref (b 3), .ref (b 4), .ref (b 5)])), (b 1, .inl (G 0, 144, .inl (fun y9 => iv (LL (kS cs) y9)))), (b 2, .inl (G 0, 64, .inl (fun y9 => iv (RR (kS cs) y9)))), (b 3, .inl (G 0, 48, .inl (fun y9 => iv (PP (kP cs) y9)))), (b 4, .inl (G 0, 5, .inl (fun y9 => iv (kT cs y9)))), (b 5, .inl (G 0, 1, .inl (fun y9 => iv (kk (kd cs) y9))))]) H → va_D A ([(b 0, .inr (3, [.int (iv th), .int (iv (kn cs : Int)), .int (iv (kp cs : Int)), .int (iv (km cs)), .ref (b 1), .ref (b 2), .ref (b 3), .ref (b 4), .ref (b 5)])), (b 1, .inl (G 0, 144, .inl (fun y9 => iv (LL (kS cs) y9)))), (b 2, .inl (G 0, 64, .inl (fun y9 => iv (RR (kS cs) y9)))), (b 3, .inl (G 0, 48, .inl (fun y9 => iv (PP (kP cs) y9)))), (b 4, .inl (G 0, 5, .inl (fun y9 => iv (kT cs y9)))), (b 5, .inl (G 0, 1, .inl (fun y9 => iv (kk (kd cs) y9))))]) → va_S A s.heap H locs → ∀ (ls : Array Slot), lv_has ls 5 [(0, .ref (b 0)), (1, .int (iv 7)), (2, .int (iv x)), (3, .int (iv (y : Int)))] → W p l e (rmOf 4 170 0 0) s m ([.ref (b 0), .int (iv 7)] : List Value).toArray below meth c H locs 0 0 (MQ below (qI D (fun r u => r = iv (countV cs 7) ∧ u = wMod G b th cs) A) ([.ref (b 0), .int (iv 7)] : List Value).toArray s 0 0 A) (F0 m 67 ls []) := by
          intro fu
          induction fu with
          | zero => intro y x h1 h2; exact absurd h2 (by omega)
          | succ fu ih67 =>
            intro y x hi_67 hn_67 ex H locs hP hD hS ls hl
            refine lv_iload_n hx hb dX3_counted_67 rfl (lv_at hl 3 rfl) ?_
            refine lv_aload_n hx hb dX3_counted_68 rfl (lv_at hl 0 rfl) ?_
            refine va_get (D := D) (ci := 3) (v := .int (iv (kn cs : Int))) (C := RX3) (T := TX3) (N := 9) hx hb hts in_X3 hown hK hP 0 rfl rfl 1 (by decide) lk32 (fun _ h9 => h9) rfl dX3_counted_69 ?_
            refine r_icmp_ge hx hb 201 dX3_counted_72 (by decide) (by omega) (by omega) (fun c_72 => ?_) (fun c_72 => ?_)
            · skip
              refine lv_iload_n hx hb dX3_counted_201 rfl (lv_at hl 2 rfl) ?_
              have ey : y = kn cs := by omega
              subst ey
              exact e_int hx hb hr hlk dX3_counted_202 hS hP hD (by decide) (by decide) (⟨by unfold countV; rw [if_neg (by omega), if_neg (by omega), if_neg (by omega), if_neg (by omega), if_pos (by omega), ex], rfl⟩)
            · skip
              have okd : okD (kS cs y) := okC_D hok (by omega)
              obtain ⟨-, -, og, ov, on, ovn, ovn2⟩ := id okd
              have u0 := okD_U okd 0 (by omega)
              have u1 := okD_U okd 1 (by omega)
              refine r_const hx hb dX3_counted_75 ?_
              refine lv_istore (lv' := [(4, .int (iv 0)), (0, .ref (b 0)), (1, .int (iv 7)), (2, .int (iv x)), (3, .int (iv (y : Int)))]) hx hb dX3_counted_76 hl (by decide) rfl (fun ls hl => ?_)
              have K78 : ∀ (fu i : Nat) (x2 : Int), i ≤ 6 → 6 < i + fu → x2 = x ∧ i = 0 → ∀ (H : Heap) (locs : List Loc), va_P D vwCl ([(b 0, .inr (3, [.int (iv th), .int (iv (kn cs : Int)), .int (iv (kp cs : Int)), .int (iv (km cs)), .ref (b 1), .ref (b 2), .ref (b 3), .ref (b 4), .ref (b 5)])), (b 1, .inl (G 0, 144, .inl (fun y9 => iv (LL (kS cs) y9)))), (b 2, .inl (G 0, 64, .inl (fun y9 => iv (RR (kS cs) y9)))), (b 3, .inl (G 0, 48, .inl (fun y9 => iv (PP (kP cs) y9)))), (b 4, .inl (G 0, 5, .inl (fun y9 => iv (kT cs y9)))), (b 5, .inl (G 0, 1, .inl (fun y9 => iv (kk (kd cs) y9))))]) H → va_D A ([(b 0, .inr (3, [.int (iv th), .int (iv (kn cs : Int)), .int (iv (kp cs : Int)), .int (iv (km cs)), .ref (b 1), .ref (b 2), .ref (b 3), .ref (b 4), .ref (b 5)])), (b 1, .inl (G 0, 144, .inl (fun y9 => iv (LL (kS cs) y9)))), (b 2, .inl (G 0, 64, .inl (fun y9 => iv (RR (kS cs) y9)))), (b 3, .inl (G 0, 48, .inl (fun y9 => iv (PP (kP cs) y9)))), (b 4, .inl (G 0, 5, .inl (fun y9 => iv (kT cs y9)))), (b 5, .inl (G 0, 1, .inl (fun y9 => iv (kk (kd cs) y9))))]) → va_S A s.heap H locs → ∀ (ls : Array Slot), lv_has ls 5 [(0, .ref (b 0)), (1, .int (iv 7)), (2, .int (iv x2)), (3, .int (iv (y : Int))), (4, .int (iv (i : Int)))] → W p l e (rmOf 4 170 0 0) s m ([.ref (b 0), .int (iv 7)] : List Value).toArray below meth c H locs 0 0 (MQ below (qI D (fun r u => r = iv (countV cs 7) ∧ u = wMod G b th cs) A) ([.ref (b 0), .int (iv 7)] : List Value).toArray s 0 0 A) (F0 m 78 ls []) := by
                intro fu
                induction fu with
                | zero => intro i x2 h1 h2; exact absurd h2 (by omega)
                | succ fu ih78 =>
                  intro i x2 hi_78 hn_78 e2 H locs hP hD hS ls hl
                  refine lv_iload hx hb dX3_counted_78 (lv_at hl 4 rfl) ?_
                  refine lv_bipush (v := iv 6) hx hb dX3_counted_80 (by decide) ?_
                  refine r_icmp_ge hx hb 107 dX3_counted_82 (by decide) (by omega) (by omega) (fun c_82 => ?_) (fun c_82 => ?_)
                  · skip
                    exact (by omega : False).elim
                  · skip
                    refine lv_iload_n hx hb dX3_counted_85 rfl (lv_at hl 1 rfl) ?_
                    refine r_const hx hb dX3_counted_86 ?_
                    refine r_icmp_ne hx hb 107 dX3_counted_87 (by decide) (by omega) (by omega) (fun c_87 => ?_) (fun c_87 => ?_)
                    · skip
                      refine lv_iload_n hx hb dX3_counted_107 rfl (lv_at hl 1 rfl) ?_
                      refine r_const hx hb dX3_counted_108 ?_
                      refine r_icmp_ne hx hb 130 dX3_counted_109 (by decide) (by omega) (by omega) (fun c_109 => ?_) (fun c_109 => ?_)
                      · skip
                        refine lv_iload_n hx hb dX3_counted_130 rfl (lv_at hl 1 rfl) ?_
                        refine lv_bipush (v := iv 6) hx hb dX3_counted_131 (by decide) ?_
                        refine r_icmp_ne hx hb 153 dX3_counted_133 (by decide) (by omega) (by omega) (fun c_133 => ?_) (fun c_133 => ?_)
                        · skip
                          refine lv_iload_n hx hb dX3_counted_153 rfl (lv_at hl 1 rfl) ?_
                          refine lv_bipush (v := iv 7) hx hb dX3_counted_154 (by decide) ?_
                          refine r_icmp_ne hx hb 195 dX3_counted_156 (by decide) (by omega) (by omega) (fun c_156 => ?_) (fun c_156 => ?_)
                          · exact absurd c_156 (by decide)
                          · skip
                            refine lv_iload_n hx hb dX3_counted_159 rfl (lv_at hl 2 rfl) ?_
                            refine lv_aload_n hx hb dX3_counted_160 rfl (lv_at hl 0 rfl) ?_
                            refine lv_iload_n hx hb dX3_counted_161 rfl (lv_at hl 3 rfl) ?_
                            refine r_const hx hb dX3_counted_162 ?_
                            have hp := wsp ([(b 0, .inr (3, [.int (iv th), .int (iv (kn cs : Int)), .int (iv (kp cs : Int)), .int (iv (km cs)), .ref (b 1), .ref (b 2), .ref (b 3), .ref (b 4), .ref (b 5)])), (b 1, .inl (G 0, 144, .inl (fun y9 => iv (LL (kS cs) y9)))), (b 2, .inl (G 0, 64, .inl (fun y9 => iv (RR (kS cs) y9)))), (b 3, .inl (G 0, 48, .inl (fun y9 => iv (PP (kP cs) y9)))), (b 4, .inl (G 0, 5, .inl (fun y9 => iv (kT cs y9)))), (b 5, .inl (G 0, 1, .inl (fun y9 => iv (kk (kd cs) y9))))]) ([]) 6 (is := [0, 2]) (js := [1, 3, 4, 5]) (wc := [wM0 b th (kn cs : Int) (kp cs : Int) (km cs), wMr G b (RR (kS cs))]) (wr := [(b 1, .inl (G 0, 144, .inl (fun y9 => iv (LL (kS cs) y9)))), (b 3, .inl (G 0, 48, .inl (fun y9 => iv (PP (kP cs) y9)))), (b 4, .inl (G 0, 5, .inl (fun y9 => iv (kT cs y9)))), (b 5, .inl (G 0, 1, .inl (fun y9 => iv (kk (kd cs) y9))))]) (by decide) rfl rfl rfl
                            skip
                            refine k_int (g_V (As := [.int (iv (y : Int)), .int (iv 2)]) (rest := [.int (iv x2)]) (q0 := 0) (ci := 3) ⟨hx, hb, hml, hown, hts⟩ (c_X3_ro l D G b th (kn cs : Int) (kp cs : Int) (km cs) (RR (kS cs)) y 2 (by omega) (by omega) (dU (kS cs y) 0) (by rw [RR_at _ (by omega)]; rfl)) (cwV 2 hts gX3_counted_X3_ro rfl rfl rfl (by decide +kernel) ⟨Nat.le_of_ble_eq_true rfl, Nat.le_of_ble_eq_true rfl⟩) hK hP hD hp rfl rfl rfl rfl hl.1 rfl (Nat.le_of_ble_eq_true rfl) dX3_counted_163 ⟨by decide, by decide⟩) hP hD hS hA hp (fun v u H locs hw hP hD hS => ?_)
                            obtain ⟨hv, hu⟩ := hw
                            replace hv : v = (iv (dU (kS cs y) 0)) := hv
                            subst hv
                            subst hu
                            have hP : va_P D vwCl ([(b 0, .inr (3, [.int (iv th), .int (iv (kn cs : Int)), .int (iv (kp cs : Int)), .int (iv (km cs)), .ref (b 1), .ref (b 2), .ref (b 3), .ref (b 4), .ref (b 5)])), (b 2, .inl (G 0, 64, .inl (fun y9 => iv (RR (kS cs) y9)))), (b 1, .inl (G 0, 144, .inl (fun y9 => iv (LL (kS cs) y9)))), (b 3, .inl (G 0, 48, .inl (fun y9 => iv (PP (kP cs) y9)))), (b 4, .inl (G 0, 5, .inl (fun y9 => iv (kT cs y9)))), (b 5, .inl (G 0, 1, .inl (fun y9 => iv (kk (kd cs) y9))))]) H := hP
                            have hD : va_D A ([(b 0, .inr (3, [.int (iv th), .int (iv (kn cs : Int)), .int (iv (kp cs : Int)), .int (iv (km cs)), .ref (b 1), .ref (b 2), .ref (b 3), .ref (b 4), .ref (b 5)])), (b 2, .inl (G 0, 64, .inl (fun y9 => iv (RR (kS cs) y9)))), (b 1, .inl (G 0, 144, .inl (fun y9 => iv (LL (kS cs) y9)))), (b 3, .inl (G 0, 48, .inl (fun y9 => iv (PP (kP cs) y9)))), (b 4, .inl (G 0, 5, .inl (fun y9 => iv (kT cs y9)))), (b 5, .inl (G 0, 1, .inl (fun y9 => iv (kk (kd cs) y9))))]) := hD
                            refine lv_bipush (v := iv 9) hx hb dX3_counted_166 (by decide) ?_
                            refine r_icmp_ne hx hb 175 dX3_counted_168 (by decide) (by omega) (by omega) (fun c_168 => ?_) (fun c_168 => ?_)
                            · skip
                              refine r_const hx hb dX3_counted_175 ?_
                              refine lv_aload_n hx hb dX3_counted_176 rfl (lv_at hl 0 rfl) ?_
                              refine lv_iload_n hx hb dX3_counted_177 rfl (lv_at hl 3 rfl) ?_
                              refine r_const hx hb dX3_counted_178 ?_
                              have hp := wsp ([(b 0, .inr (3, [.int (iv th), .int (iv (kn cs : Int)), .int (iv (kp cs : Int)), .int (iv (km cs)), .ref (b 1), .ref (b 2), .ref (b 3), .ref (b 4), .ref (b 5)])), (b 2, .inl (G 0, 64, .inl (fun y9 => iv (RR (kS cs) y9)))), (b 1, .inl (G 0, 144, .inl (fun y9 => iv (LL (kS cs) y9)))), (b 3, .inl (G 0, 48, .inl (fun y9 => iv (PP (kP cs) y9)))), (b 4, .inl (G 0, 5, .inl (fun y9 => iv (kT cs y9)))), (b 5, .inl (G 0, 1, .inl (fun y9 => iv (kk (kd cs) y9))))]) ([]) 6 (is := [0, 1]) (js := [2, 3, 4, 5]) (wc := [wM0 b th (kn cs : Int) (kp cs : Int) (km cs), wMr G b (RR (kS cs))]) (wr := [(b 1, .inl (G 0, 144, .inl (fun y9 => iv (LL (kS cs) y9)))), (b 3, .inl (G 0, 48, .inl (fun y9 => iv (PP (kP cs) y9)))), (b 4, .inl (G 0, 5, .inl (fun y9 => iv (kT cs y9)))), (b 5, .inl (G 0, 1, .inl (fun y9 => iv (kk (kd cs) y9))))]) (by decide) rfl rfl rfl
                              skip
                              refine k_int (g_V (As := [.int (iv (y : Int)), .int (iv 3)]) (rest := [.int (iv 0), .int (iv x2)]) (q0 := 0) (ci := 3) ⟨hx, hb, hml, hown, hts⟩ (c_X3_ro l D G b th (kn cs : Int) (kp cs : Int) (km cs) (RR (kS cs)) y 3 (by omega) (by omega) (dU (kS cs y) 1) (by rw [RR_at _ (by omega)]; rfl)) (cwV 2 hts gX3_counted_X3_ro rfl rfl rfl (by decide +kernel) ⟨Nat.le_of_ble_eq_true rfl, Nat.le_of_ble_eq_true rfl⟩) hK hP hD hp rfl rfl rfl rfl hl.1 rfl (Nat.le_of_ble_eq_true rfl) dX3_counted_179 ⟨by decide, by decide⟩) hP hD hS hA hp (fun v u H locs hw hP hD hS => ?_)
                              obtain ⟨hv, hu⟩ := hw
                              replace hv : v = (iv (dU (kS cs y) 1)) := hv
                              subst hv
                              subst hu
                              have hP : va_P D vwCl ([(b 0, .inr (3, [.int (iv th), .int (iv (kn cs : Int)), .int (iv (kp cs : Int)), .int (iv (km cs)), .ref (b 1), .ref (b 2), .ref (b 3), .ref (b 4), .ref (b 5)])), (b 2, .inl (G 0, 64, .inl (fun y9 => iv (RR (kS cs) y9)))), (b 1, .inl (G 0, 144, .inl (fun y9 => iv (LL (kS cs) y9)))), (b 3, .inl (G 0, 48, .inl (fun y9 => iv (PP (kP cs) y9)))), (b 4, .inl (G 0, 5, .inl (fun y9 => iv (kT cs y9)))), (b 5, .inl (G 0, 1, .inl (fun y9 => iv (kk (kd cs) y9))))]) H := hP
                              have hD : va_D A ([(b 0, .inr (3, [.int (iv th), .int (iv (kn cs : Int)), .int (iv (kp cs : Int)), .int (iv (km cs)), .ref (b 1), .ref (b 2), .ref (b 3), .ref (b 4), .ref (b 5)])), (b 2, .inl (G 0, 64, .inl (fun y9 => iv (RR (kS cs) y9)))), (b 1, .inl (G 0, 144, .inl (fun y9 => iv (LL (kS cs) y9)))), (b 3, .inl (G 0, 48, .inl (fun y9 => iv (PP (kP cs) y9)))), (b 4, .inl (G 0, 5, .inl (fun y9 => iv (kT cs y9)))), (b 5, .inl (G 0, 1, .inl (fun y9 => iv (kk (kd cs) y9))))]) := hD
                              refine lv_bipush (v := iv 9) hx hb dX3_counted_182 (by decide) ?_
                              refine r_icmp_ne hx hb 191 dX3_counted_184 (by decide) (by omega) (by omega) (fun c_184 => ?_) (fun c_184 => ?_)
                              · skip
                                refine r_const hx hb dX3_counted_191 ?_
                                refine r_add hx hb dX3_counted_192 ?_
                                refine r_add hx hb dX3_counted_193 ?_
                                refine lv_istore_n (lv' := [(2, .int (iv (x2 + (0 + 0)))), (0, .ref (b 0)), (1, .int (iv 7)), (3, .int (iv (y : Int))), (4, .int (iv (i : Int)))]) hx hb dX3_counted_194 rfl hl (by decide) rfl (fun ls hl => ?_)
                                refine r_iinc (k := 3) (lv' := [(3, .int (iv ((y : Int) + 1))), (2, .int (iv (x2 + (0 + 0)))), (0, .ref (b 0)), (1, .int (iv 7)), (4, .int (iv (i : Int)))]) hx hb dX3_counted_195 hl rfl (by decide) rfl (fun ls hl => ?_)
                                refine r_goto hx hb 67 dX3_counted_198 (by decide) ?_
                                have hq := wsp ([(b 0, .inr (3, [.int (iv th), .int (iv (kn cs : Int)), .int (iv (kp cs : Int)), .int (iv (km cs)), .ref (b 1), .ref (b 2), .ref (b 3), .ref (b 4), .ref (b 5)])), (b 2, .inl (G 0, 64, .inl (fun y9 => iv (RR (kS cs) y9)))), (b 1, .inl (G 0, 144, .inl (fun y9 => iv (LL (kS cs) y9)))), (b 3, .inl (G 0, 48, .inl (fun y9 => iv (PP (kP cs) y9)))), (b 4, .inl (G 0, 5, .inl (fun y9 => iv (kT cs y9)))), (b 5, .inl (G 0, 1, .inl (fun y9 => iv (kk (kd cs) y9))))]) ([]) 6 (is := [0, 2, 1, 3, 4, 5]) (js := []) (wc := [(b 0, .inr (3, [.int (iv th), .int (iv (kn cs : Int)), .int (iv (kp cs : Int)), .int (iv (km cs)), .ref (b 1), .ref (b 2), .ref (b 3), .ref (b 4), .ref (b 5)])), (b 1, .inl (G 0, 144, .inl (fun y9 => iv (LL (kS cs) y9)))), (b 2, .inl (G 0, 64, .inl (fun y9 => iv (RR (kS cs) y9)))), (b 3, .inl (G 0, 48, .inl (fun y9 => iv (PP (kP cs) y9)))), (b 4, .inl (G 0, 5, .inl (fun y9 => iv (kT cs y9)))), (b 5, .inl (G 0, 1, .inl (fun y9 => iv (kk (kd cs) y9))))]) (wr := []) (by decide) rfl rfl rfl
                                have hP := wP_perm hP hq
                                have hD := wD_perm hD hq
                                have hP : va_P D vwCl ([(b 0, .inr (3, [.int (iv th), .int (iv (kn cs : Int)), .int (iv (kp cs : Int)), .int (iv (km cs)), .ref (b 1), .ref (b 2), .ref (b 3), .ref (b 4), .ref (b 5)])), (b 1, .inl (G 0, 144, .inl (fun y9 => iv (LL (kS cs) y9)))), (b 2, .inl (G 0, 64, .inl (fun y9 => iv (RR (kS cs) y9)))), (b 3, .inl (G 0, 48, .inl (fun y9 => iv (PP (kP cs) y9)))), (b 4, .inl (G 0, 5, .inl (fun y9 => iv (kT cs y9)))), (b 5, .inl (G 0, 1, .inl (fun y9 => iv (kk (kd cs) y9))))]) H := hP
                                have hD : va_D A ([(b 0, .inr (3, [.int (iv th), .int (iv (kn cs : Int)), .int (iv (kp cs : Int)), .int (iv (km cs)), .ref (b 1), .ref (b 2), .ref (b 3), .ref (b 4), .ref (b 5)])), (b 1, .inl (G 0, 144, .inl (fun y9 => iv (LL (kS cs) y9)))), (b 2, .inl (G 0, 64, .inl (fun y9 => iv (RR (kS cs) y9)))), (b 3, .inl (G 0, 48, .inl (fun y9 => iv (PP (kP cs) y9)))), (b 4, .inl (G 0, 5, .inl (fun y9 => iv (kT cs y9)))), (b 5, .inl (G 0, 1, .inl (fun y9 => iv (kk (kd cs) y9))))]) := hD
                                exact ih67 (y + 1) (x2 + (0 + 0)) (by omega) (by omega) (by rw [e2.1]; exact sm_s ex (by show (0 + 0) = tally 7 (kS cs y); rw [tally_7 okd]; repeat' split; all_goals omega)) _ _ hP hD hS _ (lv_sub hl [2, 3, 1, 0] rfl)
                              · skip
                                refine r_const hx hb dX3_counted_187 ?_
                                refine r_goto hx hb 192 dX3_counted_188 (by decide) ?_
                                refine r_add hx hb dX3_counted_192 ?_
                                refine r_add hx hb dX3_counted_193 ?_
                                refine lv_istore_n (lv' := [(2, .int (iv (x2 + (0 + 1)))), (0, .ref (b 0)), (1, .int (iv 7)), (3, .int (iv (y : Int))), (4, .int (iv (i : Int)))]) hx hb dX3_counted_194 rfl hl (by decide) rfl (fun ls hl => ?_)
                                refine r_iinc (k := 3) (lv' := [(3, .int (iv ((y : Int) + 1))), (2, .int (iv (x2 + (0 + 1)))), (0, .ref (b 0)), (1, .int (iv 7)), (4, .int (iv (i : Int)))]) hx hb dX3_counted_195 hl rfl (by decide) rfl (fun ls hl => ?_)
                                refine r_goto hx hb 67 dX3_counted_198 (by decide) ?_
                                have hq := wsp ([(b 0, .inr (3, [.int (iv th), .int (iv (kn cs : Int)), .int (iv (kp cs : Int)), .int (iv (km cs)), .ref (b 1), .ref (b 2), .ref (b 3), .ref (b 4), .ref (b 5)])), (b 2, .inl (G 0, 64, .inl (fun y9 => iv (RR (kS cs) y9)))), (b 1, .inl (G 0, 144, .inl (fun y9 => iv (LL (kS cs) y9)))), (b 3, .inl (G 0, 48, .inl (fun y9 => iv (PP (kP cs) y9)))), (b 4, .inl (G 0, 5, .inl (fun y9 => iv (kT cs y9)))), (b 5, .inl (G 0, 1, .inl (fun y9 => iv (kk (kd cs) y9))))]) ([]) 6 (is := [0, 2, 1, 3, 4, 5]) (js := []) (wc := [(b 0, .inr (3, [.int (iv th), .int (iv (kn cs : Int)), .int (iv (kp cs : Int)), .int (iv (km cs)), .ref (b 1), .ref (b 2), .ref (b 3), .ref (b 4), .ref (b 5)])), (b 1, .inl (G 0, 144, .inl (fun y9 => iv (LL (kS cs) y9)))), (b 2, .inl (G 0, 64, .inl (fun y9 => iv (RR (kS cs) y9)))), (b 3, .inl (G 0, 48, .inl (fun y9 => iv (PP (kP cs) y9)))), (b 4, .inl (G 0, 5, .inl (fun y9 => iv (kT cs y9)))), (b 5, .inl (G 0, 1, .inl (fun y9 => iv (kk (kd cs) y9))))]) (wr := []) (by decide) rfl rfl rfl
                                have hP := wP_perm hP hq
                                have hD := wD_perm hD hq
                                have hP : va_P D vwCl ([(b 0, .inr (3, [.int (iv th), .int (iv (kn cs : Int)), .int (iv (kp cs : Int)), .int (iv (km cs)), .ref (b 1), .ref (b 2), .ref (b 3), .ref (b 4), .ref (b 5)])), (b 1, .inl (G 0, 144, .inl (fun y9 => iv (LL (kS cs) y9)))), (b 2, .inl (G 0, 64, .inl (fun y9 => iv (RR (kS cs) y9)))), (b 3, .inl (G 0, 48, .inl (fun y9 => iv (PP (kP cs) y9)))), (b 4, .inl (G 0, 5, .inl (fun y9 => iv (kT cs y9)))), (b 5, .inl (G 0, 1, .inl (fun y9 => iv (kk (kd cs) y9))))]) H := hP
                                have hD : va_D A ([(b 0, .inr (3, [.int (iv th), .int (iv (kn cs : Int)), .int (iv (kp cs : Int)), .int (iv (km cs)), .ref (b 1), .ref (b 2), .ref (b 3), .ref (b 4), .ref (b 5)])), (b 1, .inl (G 0, 144, .inl (fun y9 => iv (LL (kS cs) y9)))), (b 2, .inl (G 0, 64, .inl (fun y9 => iv (RR (kS cs) y9)))), (b 3, .inl (G 0, 48, .inl (fun y9 => iv (PP (kP cs) y9)))), (b 4, .inl (G 0, 5, .inl (fun y9 => iv (kT cs y9)))), (b 5, .inl (G 0, 1, .inl (fun y9 => iv (kk (kd cs) y9))))]) := hD
                                exact ih67 (y + 1) (x2 + (0 + 1)) (by omega) (by omega) (by rw [e2.1]; exact sm_s ex (by show (0 + 1) = tally 7 (kS cs y); rw [tally_7 okd]; repeat' split; all_goals omega)) _ _ hP hD hS _ (lv_sub hl [2, 3, 1, 0] rfl)
                            · skip
                              refine r_const hx hb dX3_counted_171 ?_
                              refine r_goto hx hb 176 dX3_counted_172 (by decide) ?_
                              refine lv_aload_n hx hb dX3_counted_176 rfl (lv_at hl 0 rfl) ?_
                              refine lv_iload_n hx hb dX3_counted_177 rfl (lv_at hl 3 rfl) ?_
                              refine r_const hx hb dX3_counted_178 ?_
                              have hp := wsp ([(b 0, .inr (3, [.int (iv th), .int (iv (kn cs : Int)), .int (iv (kp cs : Int)), .int (iv (km cs)), .ref (b 1), .ref (b 2), .ref (b 3), .ref (b 4), .ref (b 5)])), (b 2, .inl (G 0, 64, .inl (fun y9 => iv (RR (kS cs) y9)))), (b 1, .inl (G 0, 144, .inl (fun y9 => iv (LL (kS cs) y9)))), (b 3, .inl (G 0, 48, .inl (fun y9 => iv (PP (kP cs) y9)))), (b 4, .inl (G 0, 5, .inl (fun y9 => iv (kT cs y9)))), (b 5, .inl (G 0, 1, .inl (fun y9 => iv (kk (kd cs) y9))))]) ([]) 6 (is := [0, 1]) (js := [2, 3, 4, 5]) (wc := [wM0 b th (kn cs : Int) (kp cs : Int) (km cs), wMr G b (RR (kS cs))]) (wr := [(b 1, .inl (G 0, 144, .inl (fun y9 => iv (LL (kS cs) y9)))), (b 3, .inl (G 0, 48, .inl (fun y9 => iv (PP (kP cs) y9)))), (b 4, .inl (G 0, 5, .inl (fun y9 => iv (kT cs y9)))), (b 5, .inl (G 0, 1, .inl (fun y9 => iv (kk (kd cs) y9))))]) (by decide) rfl rfl rfl
                              skip
                              refine k_int (g_V (As := [.int (iv (y : Int)), .int (iv 3)]) (rest := [.int (iv 1), .int (iv x2)]) (q0 := 0) (ci := 3) ⟨hx, hb, hml, hown, hts⟩ (c_X3_ro l D G b th (kn cs : Int) (kp cs : Int) (km cs) (RR (kS cs)) y 3 (by omega) (by omega) (dU (kS cs y) 1) (by rw [RR_at _ (by omega)]; rfl)) (cwV 2 hts gX3_counted_X3_ro rfl rfl rfl (by decide +kernel) ⟨Nat.le_of_ble_eq_true rfl, Nat.le_of_ble_eq_true rfl⟩) hK hP hD hp rfl rfl rfl rfl hl.1 rfl (Nat.le_of_ble_eq_true rfl) dX3_counted_179 ⟨by decide, by decide⟩) hP hD hS hA hp (fun v u H locs hw hP hD hS => ?_)
                              obtain ⟨hv, hu⟩ := hw
                              replace hv : v = (iv (dU (kS cs y) 1)) := hv
                              subst hv
                              subst hu
                              have hP : va_P D vwCl ([(b 0, .inr (3, [.int (iv th), .int (iv (kn cs : Int)), .int (iv (kp cs : Int)), .int (iv (km cs)), .ref (b 1), .ref (b 2), .ref (b 3), .ref (b 4), .ref (b 5)])), (b 2, .inl (G 0, 64, .inl (fun y9 => iv (RR (kS cs) y9)))), (b 1, .inl (G 0, 144, .inl (fun y9 => iv (LL (kS cs) y9)))), (b 3, .inl (G 0, 48, .inl (fun y9 => iv (PP (kP cs) y9)))), (b 4, .inl (G 0, 5, .inl (fun y9 => iv (kT cs y9)))), (b 5, .inl (G 0, 1, .inl (fun y9 => iv (kk (kd cs) y9))))]) H := hP
                              have hD : va_D A ([(b 0, .inr (3, [.int (iv th), .int (iv (kn cs : Int)), .int (iv (kp cs : Int)), .int (iv (km cs)), .ref (b 1), .ref (b 2), .ref (b 3), .ref (b 4), .ref (b 5)])), (b 2, .inl (G 0, 64, .inl (fun y9 => iv (RR (kS cs) y9)))), (b 1, .inl (G 0, 144, .inl (fun y9 => iv (LL (kS cs) y9)))), (b 3, .inl (G 0, 48, .inl (fun y9 => iv (PP (kP cs) y9)))), (b 4, .inl (G 0, 5, .inl (fun y9 => iv (kT cs y9)))), (b 5, .inl (G 0, 1, .inl (fun y9 => iv (kk (kd cs) y9))))]) := hD
                              refine lv_bipush (v := iv 9) hx hb dX3_counted_182 (by decide) ?_
                              refine r_icmp_ne hx hb 191 dX3_counted_184 (by decide) (by omega) (by omega) (fun c_184 => ?_) (fun c_184 => ?_)
                              · skip
                                refine r_const hx hb dX3_counted_191 ?_
                                refine r_add hx hb dX3_counted_192 ?_
                                refine r_add hx hb dX3_counted_193 ?_
                                refine lv_istore_n (lv' := [(2, .int (iv (x2 + (1 + 0)))), (0, .ref (b 0)), (1, .int (iv 7)), (3, .int (iv (y : Int))), (4, .int (iv (i : Int)))]) hx hb dX3_counted_194 rfl hl (by decide) rfl (fun ls hl => ?_)
                                refine r_iinc (k := 3) (lv' := [(3, .int (iv ((y : Int) + 1))), (2, .int (iv (x2 + (1 + 0)))), (0, .ref (b 0)), (1, .int (iv 7)), (4, .int (iv (i : Int)))]) hx hb dX3_counted_195 hl rfl (by decide) rfl (fun ls hl => ?_)
                                refine r_goto hx hb 67 dX3_counted_198 (by decide) ?_
                                have hq := wsp ([(b 0, .inr (3, [.int (iv th), .int (iv (kn cs : Int)), .int (iv (kp cs : Int)), .int (iv (km cs)), .ref (b 1), .ref (b 2), .ref (b 3), .ref (b 4), .ref (b 5)])), (b 2, .inl (G 0, 64, .inl (fun y9 => iv (RR (kS cs) y9)))), (b 1, .inl (G 0, 144, .inl (fun y9 => iv (LL (kS cs) y9)))), (b 3, .inl (G 0, 48, .inl (fun y9 => iv (PP (kP cs) y9)))), (b 4, .inl (G 0, 5, .inl (fun y9 => iv (kT cs y9)))), (b 5, .inl (G 0, 1, .inl (fun y9 => iv (kk (kd cs) y9))))]) ([]) 6 (is := [0, 2, 1, 3, 4, 5]) (js := []) (wc := [(b 0, .inr (3, [.int (iv th), .int (iv (kn cs : Int)), .int (iv (kp cs : Int)), .int (iv (km cs)), .ref (b 1), .ref (b 2), .ref (b 3), .ref (b 4), .ref (b 5)])), (b 1, .inl (G 0, 144, .inl (fun y9 => iv (LL (kS cs) y9)))), (b 2, .inl (G 0, 64, .inl (fun y9 => iv (RR (kS cs) y9)))), (b 3, .inl (G 0, 48, .inl (fun y9 => iv (PP (kP cs) y9)))), (b 4, .inl (G 0, 5, .inl (fun y9 => iv (kT cs y9)))), (b 5, .inl (G 0, 1, .inl (fun y9 => iv (kk (kd cs) y9))))]) (wr := []) (by decide) rfl rfl rfl
                                have hP := wP_perm hP hq
                                have hD := wD_perm hD hq
                                have hP : va_P D vwCl ([(b 0, .inr (3, [.int (iv th), .int (iv (kn cs : Int)), .int (iv (kp cs : Int)), .int (iv (km cs)), .ref (b 1), .ref (b 2), .ref (b 3), .ref (b 4), .ref (b 5)])), (b 1, .inl (G 0, 144, .inl (fun y9 => iv (LL (kS cs) y9)))), (b 2, .inl (G 0, 64, .inl (fun y9 => iv (RR (kS cs) y9)))), (b 3, .inl (G 0, 48, .inl (fun y9 => iv (PP (kP cs) y9)))), (b 4, .inl (G 0, 5, .inl (fun y9 => iv (kT cs y9)))), (b 5, .inl (G 0, 1, .inl (fun y9 => iv (kk (kd cs) y9))))]) H := hP
                                have hD : va_D A ([(b 0, .inr (3, [.int (iv th), .int (iv (kn cs : Int)), .int (iv (kp cs : Int)), .int (iv (km cs)), .ref (b 1), .ref (b 2), .ref (b 3), .ref (b 4), .ref (b 5)])), (b 1, .inl (G 0, 144, .inl (fun y9 => iv (LL (kS cs) y9)))), (b 2, .inl (G 0, 64, .inl (fun y9 => iv (RR (kS cs) y9)))), (b 3, .inl (G 0, 48, .inl (fun y9 => iv (PP (kP cs) y9)))), (b 4, .inl (G 0, 5, .inl (fun y9 => iv (kT cs y9)))), (b 5, .inl (G 0, 1, .inl (fun y9 => iv (kk (kd cs) y9))))]) := hD
                                exact ih67 (y + 1) (x2 + (1 + 0)) (by omega) (by omega) (by rw [e2.1]; exact sm_s ex (by show (1 + 0) = tally 7 (kS cs y); rw [tally_7 okd]; repeat' split; all_goals omega)) _ _ hP hD hS _ (lv_sub hl [2, 3, 1, 0] rfl)
                              · skip
                                refine r_const hx hb dX3_counted_187 ?_
                                refine r_goto hx hb 192 dX3_counted_188 (by decide) ?_
                                refine r_add hx hb dX3_counted_192 ?_
                                refine r_add hx hb dX3_counted_193 ?_
                                refine lv_istore_n (lv' := [(2, .int (iv (x2 + (1 + 1)))), (0, .ref (b 0)), (1, .int (iv 7)), (3, .int (iv (y : Int))), (4, .int (iv (i : Int)))]) hx hb dX3_counted_194 rfl hl (by decide) rfl (fun ls hl => ?_)
                                refine r_iinc (k := 3) (lv' := [(3, .int (iv ((y : Int) + 1))), (2, .int (iv (x2 + (1 + 1)))), (0, .ref (b 0)), (1, .int (iv 7)), (4, .int (iv (i : Int)))]) hx hb dX3_counted_195 hl rfl (by decide) rfl (fun ls hl => ?_)
                                refine r_goto hx hb 67 dX3_counted_198 (by decide) ?_
                                have hq := wsp ([(b 0, .inr (3, [.int (iv th), .int (iv (kn cs : Int)), .int (iv (kp cs : Int)), .int (iv (km cs)), .ref (b 1), .ref (b 2), .ref (b 3), .ref (b 4), .ref (b 5)])), (b 2, .inl (G 0, 64, .inl (fun y9 => iv (RR (kS cs) y9)))), (b 1, .inl (G 0, 144, .inl (fun y9 => iv (LL (kS cs) y9)))), (b 3, .inl (G 0, 48, .inl (fun y9 => iv (PP (kP cs) y9)))), (b 4, .inl (G 0, 5, .inl (fun y9 => iv (kT cs y9)))), (b 5, .inl (G 0, 1, .inl (fun y9 => iv (kk (kd cs) y9))))]) ([]) 6 (is := [0, 2, 1, 3, 4, 5]) (js := []) (wc := [(b 0, .inr (3, [.int (iv th), .int (iv (kn cs : Int)), .int (iv (kp cs : Int)), .int (iv (km cs)), .ref (b 1), .ref (b 2), .ref (b 3), .ref (b 4), .ref (b 5)])), (b 1, .inl (G 0, 144, .inl (fun y9 => iv (LL (kS cs) y9)))), (b 2, .inl (G 0, 64, .inl (fun y9 => iv (RR (kS cs) y9)))), (b 3, .inl (G 0, 48, .inl (fun y9 => iv (PP (kP cs) y9)))), (b 4, .inl (G 0, 5, .inl (fun y9 => iv (kT cs y9)))), (b 5, .inl (G 0, 1, .inl (fun y9 => iv (kk (kd cs) y9))))]) (wr := []) (by decide) rfl rfl rfl
                                have hP := wP_perm hP hq
                                have hD := wD_perm hD hq
                                have hP : va_P D vwCl ([(b 0, .inr (3, [.int (iv th), .int (iv (kn cs : Int)), .int (iv (kp cs : Int)), .int (iv (km cs)), .ref (b 1), .ref (b 2), .ref (b 3), .ref (b 4), .ref (b 5)])), (b 1, .inl (G 0, 144, .inl (fun y9 => iv (LL (kS cs) y9)))), (b 2, .inl (G 0, 64, .inl (fun y9 => iv (RR (kS cs) y9)))), (b 3, .inl (G 0, 48, .inl (fun y9 => iv (PP (kP cs) y9)))), (b 4, .inl (G 0, 5, .inl (fun y9 => iv (kT cs y9)))), (b 5, .inl (G 0, 1, .inl (fun y9 => iv (kk (kd cs) y9))))]) H := hP
                                have hD : va_D A ([(b 0, .inr (3, [.int (iv th), .int (iv (kn cs : Int)), .int (iv (kp cs : Int)), .int (iv (km cs)), .ref (b 1), .ref (b 2), .ref (b 3), .ref (b 4), .ref (b 5)])), (b 1, .inl (G 0, 144, .inl (fun y9 => iv (LL (kS cs) y9)))), (b 2, .inl (G 0, 64, .inl (fun y9 => iv (RR (kS cs) y9)))), (b 3, .inl (G 0, 48, .inl (fun y9 => iv (PP (kP cs) y9)))), (b 4, .inl (G 0, 5, .inl (fun y9 => iv (kT cs y9)))), (b 5, .inl (G 0, 1, .inl (fun y9 => iv (kk (kd cs) y9))))]) := hD
                                exact ih67 (y + 1) (x2 + (1 + 1)) (by omega) (by omega) (by rw [e2.1]; exact sm_s ex (by show (1 + 1) = tally 7 (kS cs y); rw [tally_7 okd]; repeat' split; all_goals omega)) _ _ hP hD hS _ (lv_sub hl [2, 3, 1, 0] rfl)
                        · exact absurd c_133 (by decide)
                      · exact absurd c_109 (by decide)
                    · exact absurd c_87 (by decide)
              exact K78 7 0 x (by omega) (by omega) ⟨rfl, rfl⟩ _ _ hP hD hS _ (lv_sub hl [1, 2, 3, 4, 0] rfl)
        exact K67 (kn cs + 1) 0 0 (by omega) (by omega) rfl _ _ hP hD hS _ (lv_sub hl [2, 3, 1, 0] rfl)
    · skip
      refine lv_iload_n hx hb dX3_counted_23 rfl (lv_at hl 2 rfl) ?_
      refine r_if_ne hx hb 36 dX3_counted_24 (by decide) (by omega) (fun c_24 => ?_) (fun c_24 => ?_)
      · skip
        refine lv_iload_n hx hb dX3_counted_36 rfl (lv_at hl 2 rfl) ?_
        refine r_const hx hb dX3_counted_37 ?_
        refine r_icmp_ne hx hb 48 dX3_counted_38 (by decide) (by omega) (by omega) (fun c_38 => ?_) (fun c_38 => ?_)
        · skip
          refine lv_iload_n hx hb dX3_counted_48 rfl (lv_at hl 2 rfl) ?_
          refine r_const hx hb dX3_counted_49 ?_
          refine r_icmp_ne hx hb 60 dX3_counted_50 (by decide) (by omega) (by omega) (fun c_50 => ?_) (fun c_50 => ?_)
          · skip
            refine lv_aload_n hx hb dX3_counted_60 rfl (lv_at hl 1 rfl) ?_
            refine va_get (D := D) (ci := 3) (v := .int (iv (km cs))) (C := RX3) (T := TX3) (N := 9) hx hb hts in_X3 hown hK hP 0 rfl rfl 3 (by decide) lk7 (fun _ h9 => h9) rfl dX3_counted_61 ?_
            exact e_int hx hb hr hlk dX3_counted_64 hS hP hD (by decide) (by decide) (⟨by unfold countV; rw [if_neg (by omega), if_neg (by omega), if_neg (by omega), if_pos (by omega)], rfl⟩)
          · skip
            refine lv_aload_n hx hb dX3_counted_53 rfl (lv_at hl 1 rfl) ?_
            refine va_get (D := D) (ci := 3) (v := .int (iv (kp cs : Int))) (C := RX3) (T := TX3) (N := 9) hx hb hts in_X3 hown hK hP 0 rfl rfl 2 (by decide) lk39 (fun _ h9 => h9) rfl dX3_counted_54 ?_
            refine r_goto hx hb 64 dX3_counted_57 (by decide) ?_
            exact e_int hx hb hr hlk dX3_counted_64 hS hP hD (by decide) (by decide) (⟨by unfold countV; rw [if_neg (by omega), if_neg (by omega), if_pos (by omega)], rfl⟩)
        · skip
          refine lv_aload_n hx hb dX3_counted_41 rfl (lv_at hl 1 rfl) ?_
          refine va_get (D := D) (ci := 3) (v := .int (iv (kn cs : Int))) (C := RX3) (T := TX3) (N := 9) hx hb hts in_X3 hown hK hP 0 rfl rfl 1 (by decide) lk32 (fun _ h9 => h9) rfl dX3_counted_42 ?_
          refine r_goto hx hb 64 dX3_counted_45 (by decide) ?_
          exact e_int hx hb hr hlk dX3_counted_64 hS hP hD (by decide) (by decide) (⟨by unfold countV; rw [if_neg (by omega), if_pos (by omega)], rfl⟩)
      · skip
        refine lv_aload_n hx hb dX3_counted_27 rfl (lv_at hl 1 rfl) ?_
        refine va_get (D := D) (ci := 3) (v := .ref (b 5)) (C := RX3) (T := TX3) (N := 9) hx hb hts in_X3 hown hK hP 0 rfl rfl 8 (by decide) lk26 (fun _ h9 => h9) rfl dX3_counted_28 ?_
        refine r_const hx hb dX3_counted_31 ?_
        refine r_iald (F := kk (kd cs)) hx hb hK hP 5 0 rfl rfl 0 (by omega) (by omega) (by decide) dX3_counted_32 ?_
        rw [show (kk (kd cs)) 0 = kd cs from rfl]
        refine r_goto hx hb 64 dX3_counted_33 (by decide) ?_
        exact e_int hx hb hr hlk dX3_counted_64 hS hP hD (by decide) (by decide) (⟨by unfold countV; rw [if_pos (by omega)], rfl⟩)
  · skip
    refine lv_aload_n hx hb dX3_counted_8 rfl (lv_at hl 1 rfl) ?_
    refine va_get (D := D) (ci := 3) (v := .ref (b 4)) (C := RX3) (T := TX3) (N := 9) hx hb hts in_X3 hown hK hP 0 rfl rfl 7 (by decide) lk23 (fun _ h9 => h9) rfl dX3_counted_9 ?_
    refine lv_iload_n hx hb dX3_counted_12 rfl (lv_at hl 2 rfl) ?_
    refine lv_bipush (v := iv 8) hx hb dX3_counted_13 (by decide) ?_
    refine r_sub hx hb dX3_counted_15 ?_
    refine r_iald (F := kT cs) hx hb hK hP 4 0 rfl rfl ((w - 8).toNat) (by omega) (by omega) (by decide) dX3_counted_16 ?_
    exact e_int hx hb hr hlk dX3_counted_17 hS hP hD (by decide) (by decide) (⟨by unfold countV; rw [if_neg (by omega), if_neg (by omega), if_neg (by omega), if_neg (by omega), if_neg (by omega)], rfl⟩)
