set_option maxHeartbeats 4000000 in
set_option maxRecDepth 100000 in
theorem c_X3_worst (l : Launch) (D : va_G) (G : Nat → ClassId) (b : Nat → Nat) (th : Int) (cs : CS) (hok : okC cs)  : MtG l yX3_worst wsX3_worst 3 125 0 0 D (TY G) [.ref (b 0)] (wMod G b th cs) (qI D (fun r u => r = iv (opWorst cs) ∧ u = wMod G b 0 cs)) := by
  refine MtG.mk (cc := cX3_worst) (maxL := 6) (ret := some .int) (by decide) rfl (Nat.le_of_ble_eq_true rfl) ?_
  intro p e s m below meth c A ls hx hb hr hlk hml hown hin hts hK hA hP hD hS hl
  replace hown : s.vm.findClass RX3 = some m.cls := hown
  have hl : lv_has ls 6 [(0, .ref (b 0))] := hl
  skip
  have hP : va_P D vwCl ([(b 0, .inr (3, [.int (iv th), .int (iv (kn cs : Int)), .int (iv (kp cs : Int)), .int (iv (km cs)), .ref (b 1), .ref (b 2), .ref (b 3), .ref (b 4), .ref (b 5)])), (b 1, .inl (G 0, 144, .inl (fun y9 => iv (LL (kS cs) y9)))), (b 2, .inl (G 0, 64, .inl (fun y9 => iv (RR (kS cs) y9)))), (b 3, .inl (G 0, 48, .inl (fun y9 => iv (PP (kP cs) y9)))), (b 4, .inl (G 0, 5, .inl (fun y9 => iv (kT cs y9)))), (b 5, .inl (G 0, 1, .inl (fun y9 => iv (kk (kd cs) y9))))]) s.heap := hP
  have hD : va_D A ([(b 0, .inr (3, [.int (iv th), .int (iv (kn cs : Int)), .int (iv (kp cs : Int)), .int (iv (km cs)), .ref (b 1), .ref (b 2), .ref (b 3), .ref (b 4), .ref (b 5)])), (b 1, .inl (G 0, 144, .inl (fun y9 => iv (LL (kS cs) y9)))), (b 2, .inl (G 0, 64, .inl (fun y9 => iv (RR (kS cs) y9)))), (b 3, .inl (G 0, 48, .inl (fun y9 => iv (PP (kP cs) y9)))), (b 4, .inl (G 0, 5, .inl (fun y9 => iv (kT cs y9)))), (b 5, .inl (G 0, 1, .inl (fun y9 => iv (kk (kd cs) y9))))]) := hD
  have lk29 := hts (.fieldLink RX3 29 "DollCitadelModel" "thrown" "I") (by decide +kernel)
  have in_X3 : ∀ w ∈ u_ws RX3 TX3 9, w ∈ wsX3_worst := by decide +kernel
  have lk32 := hts (.fieldLink RX3 32 "DollCitadelModel" "dolls" "I") (by decide +kernel)
  obtain ⟨on8, op8, -, -, -, oday, omo⟩ := id hok
  refine lv_aload_n hx hb dX3_worst_0 rfl (lv_at hl 0 rfl) ?_
  refine r_const hx hb dX3_worst_1 ?_
  refine va_put (D := D) (ci := 3) (v := .int (iv 0)) (ty := .int) (C := RX3) (T := TX3) (N := 9) hx hb hts in_X3 tyX3 tyX3_ok nmX3 hown hK hP hD hS 0 rfl rfl 0 (by decide) lk29 (fun _ h9 => h9) rfl (by decide +kernel) rfl rfl (Nat.le_of_ble_eq_true rfl) dX3_worst_2 (fun H locs hP hD hS => ?_)
  have hP : va_P D vwCl ([(b 0, .inr (3, [.int (iv 0), .int (iv (kn cs : Int)), .int (iv (kp cs : Int)), .int (iv (km cs)), .ref (b 1), .ref (b 2), .ref (b 3), .ref (b 4), .ref (b 5)])), (b 1, .inl (G 0, 144, .inl (fun y9 => iv (LL (kS cs) y9)))), (b 2, .inl (G 0, 64, .inl (fun y9 => iv (RR (kS cs) y9)))), (b 3, .inl (G 0, 48, .inl (fun y9 => iv (PP (kP cs) y9)))), (b 4, .inl (G 0, 5, .inl (fun y9 => iv (kT cs y9)))), (b 5, .inl (G 0, 1, .inl (fun y9 => iv (kk (kd cs) y9))))]) H := hP
  have hD : va_D A ([(b 0, .inr (3, [.int (iv 0), .int (iv (kn cs : Int)), .int (iv (kp cs : Int)), .int (iv (km cs)), .ref (b 1), .ref (b 2), .ref (b 3), .ref (b 4), .ref (b 5)])), (b 1, .inl (G 0, 144, .inl (fun y9 => iv (LL (kS cs) y9)))), (b 2, .inl (G 0, 64, .inl (fun y9 => iv (RR (kS cs) y9)))), (b 3, .inl (G 0, 48, .inl (fun y9 => iv (PP (kP cs) y9)))), (b 4, .inl (G 0, 5, .inl (fun y9 => iv (kT cs y9)))), (b 5, .inl (G 0, 1, .inl (fun y9 => iv (kk (kd cs) y9))))]) := hD
  refine r_const hx hb dX3_worst_5 ?_
  refine lv_istore_n (lv' := [(1, .int (iv (-1))), (0, .ref (b 0))]) hx hb dX3_worst_6 rfl hl (by decide) rfl (fun ls hl => ?_)
  refine r_const hx hb dX3_worst_7 ?_
  refine lv_istore_n (lv' := [(2, .int (iv 0)), (1, .int (iv (-1))), (0, .ref (b 0))]) hx hb dX3_worst_8 rfl hl (by decide) rfl (fun ls hl => ?_)
  refine r_const hx hb dX3_worst_9 ?_
  refine lv_istore_n (lv' := [(3, .int (iv 0)), (2, .int (iv 0)), (1, .int (iv (-1))), (0, .ref (b 0))]) hx hb dX3_worst_10 rfl hl (by decide) rfl (fun ls hl => ?_)
  have K11 : ∀ (fu y : Nat) (x : Int) (mx : Int), y ≤ (kn cs) → (kn cs) < y + fu → x = (wstN (kS cs) y).1 → mx = (wstN (kS cs) y).2 → ∀ (H : Heap) (locs : List Loc), va_P D vwCl ([(b 0, .inr (3, [.int (iv 0), .int (iv (kn cs : Int)), .int (iv (kp cs : Int)), .int (iv (km cs)), .ref (b 1), .ref (b 2), .ref (b 3), .ref (b 4), .ref (b 5)])), (b 1, .inl (G 0, 144, .inl (fun y9 => iv (LL (kS cs) y9)))), (b 2, .inl (G 0, 64, .inl (fun y9 => iv (RR (kS cs) y9)))), (b 3, .inl (G 0, 48, .inl (fun y9 => iv (PP (kP cs) y9)))), (b 4, .inl (G 0, 5, .inl (fun y9 => iv (kT cs y9)))), (b 5, .inl (G 0, 1, .inl (fun y9 => iv (kk (kd cs) y9))))]) H → va_D A ([(b 0, .inr (3, [.int (iv 0), .int (iv (kn cs : Int)), .int (iv (kp cs : Int)), .int (iv (km cs)), .ref (b 1), .ref (b 2), .ref (b 3), .ref (b 4), .ref (b 5)])), (b 1, .inl (G 0, 144, .inl (fun y9 => iv (LL (kS cs) y9)))), (b 2, .inl (G 0, 64, .inl (fun y9 => iv (RR (kS cs) y9)))), (b 3, .inl (G 0, 48, .inl (fun y9 => iv (PP (kP cs) y9)))), (b 4, .inl (G 0, 5, .inl (fun y9 => iv (kT cs y9)))), (b 5, .inl (G 0, 1, .inl (fun y9 => iv (kk (kd cs) y9))))]) → va_S A s.heap H locs → ∀ (ls : Array Slot), lv_has ls 6 [(0, .ref (b 0)), (1, .int (iv x)), (2, .int (iv mx)), (3, .int (iv (y : Int)))] → W p l e (rmOf 3 125 0 0) s m ([.ref (b 0)] : List Value).toArray below meth c H locs 0 0 (MQ below (qI D (fun r u => r = iv (opWorst cs) ∧ u = wMod G b 0 cs) A) ([.ref (b 0)] : List Value).toArray s 0 0 A) (F0 m 11 ls []) := by
    intro fu
    induction fu with
    | zero => intro y x mx h1 h2; exact absurd h2 (by omega)
    | succ fu ih11 =>
      intro y x mx hi_11 hn_11 ex em H locs hP hD hS ls hl
      have rm := wst_rng (S := kS cs) (n := kn cs) (i := y) (fun d9 h9 => okC_D hok h9) (by omega)
      refine lv_iload_n hx hb dX3_worst_11 rfl (lv_at hl 3 rfl) ?_
      refine lv_aload_n hx hb dX3_worst_12 rfl (lv_at hl 0 rfl) ?_
      refine va_get (D := D) (ci := 3) (v := .int (iv (kn cs : Int))) (C := RX3) (T := TX3) (N := 9) hx hb hts in_X3 hown hK hP 0 rfl rfl 1 (by decide) lk32 (fun _ h9 => h9) rfl dX3_worst_13 ?_
      refine r_icmp_ge hx hb 69 dX3_worst_16 (by decide) (by omega) (by omega) (fun c_16 => ?_) (fun c_16 => ?_)
      · skip
        refine lv_iload_n hx hb dX3_worst_69 rfl (lv_at hl 1 rfl) ?_
        exact e_int hx hb hr hlk dX3_worst_70 hS hP hD (by decide) (by decide) (⟨by rw [ex, show y = kn cs by omega]; rfl, rfl⟩)
      · skip
        refine r_const hx hb dX3_worst_19 ?_
        refine lv_istore (lv' := [(4, .int (iv 0)), (0, .ref (b 0)), (1, .int (iv x)), (2, .int (iv mx)), (3, .int (iv (y : Int)))]) hx hb dX3_worst_20 hl (by decide) rfl (fun ls hl => ?_)
        refine r_const hx hb dX3_worst_22 ?_
        refine lv_istore (lv' := [(5, .int (iv 0)), (4, .int (iv 0)), (0, .ref (b 0)), (1, .int (iv x)), (2, .int (iv mx)), (3, .int (iv (y : Int)))]) hx hb dX3_worst_23 hl (by decide) rfl (fun ls hl => ?_)
        have K25 : ∀ (fu k : Nat) (su : Int), k ≤ 5 → 5 < k + fu → su = sm (fun e9 => wants (e9 : Int) (kS cs y)) k → ∀ (H : Heap) (locs : List Loc), va_P D vwCl ([(b 0, .inr (3, [.int (iv 0), .int (iv (kn cs : Int)), .int (iv (kp cs : Int)), .int (iv (km cs)), .ref (b 1), .ref (b 2), .ref (b 3), .ref (b 4), .ref (b 5)])), (b 1, .inl (G 0, 144, .inl (fun y9 => iv (LL (kS cs) y9)))), (b 2, .inl (G 0, 64, .inl (fun y9 => iv (RR (kS cs) y9)))), (b 3, .inl (G 0, 48, .inl (fun y9 => iv (PP (kP cs) y9)))), (b 4, .inl (G 0, 5, .inl (fun y9 => iv (kT cs y9)))), (b 5, .inl (G 0, 1, .inl (fun y9 => iv (kk (kd cs) y9))))]) H → va_D A ([(b 0, .inr (3, [.int (iv 0), .int (iv (kn cs : Int)), .int (iv (kp cs : Int)), .int (iv (km cs)), .ref (b 1), .ref (b 2), .ref (b 3), .ref (b 4), .ref (b 5)])), (b 1, .inl (G 0, 144, .inl (fun y9 => iv (LL (kS cs) y9)))), (b 2, .inl (G 0, 64, .inl (fun y9 => iv (RR (kS cs) y9)))), (b 3, .inl (G 0, 48, .inl (fun y9 => iv (PP (kP cs) y9)))), (b 4, .inl (G 0, 5, .inl (fun y9 => iv (kT cs y9)))), (b 5, .inl (G 0, 1, .inl (fun y9 => iv (kk (kd cs) y9))))]) → va_S A s.heap H locs → ∀ (ls : Array Slot), lv_has ls 6 [(0, .ref (b 0)), (1, .int (iv x)), (2, .int (iv mx)), (3, .int (iv (y : Int))), (4, .int (iv su)), (5, .int (iv (k : Int)))] → W p l e (rmOf 3 125 0 0) s m ([.ref (b 0)] : List Value).toArray below meth c H locs 0 0 (MQ below (qI D (fun r u => r = iv (opWorst cs) ∧ u = wMod G b 0 cs) A) ([.ref (b 0)] : List Value).toArray s 0 0 A) (F0 m 25 ls []) := by
          intro fu
          induction fu with
          | zero => intro k su h1 h2; exact absurd h2 (by omega)
          | succ fu ih25 =>
            intro k su hi_25 hn_25 es H locs hP hD hS ls hl
            have bs := sm_bound (f := fun e9 => wants (e9 : Int) (kS cs y)) (c := 12) (n := k) (fun j hj => wants_rng (okC_D hok (by omega)))
            refine lv_iload hx hb dX3_worst_25 (lv_at hl 5 rfl) ?_
            refine r_const hx hb dX3_worst_27 ?_
            refine r_icmp_ge hx hb 49 dX3_worst_28 (by decide) (by omega) (by omega) (fun c_28 => ?_) (fun c_28 => ?_)
            · skip
              have ek : su = wantsAll (kS cs y) := by rw [es, show k = 5 by omega]; rfl
              refine lv_iload hx hb dX3_worst_49 (lv_at hl 4 rfl) ?_
              refine lv_iload_n hx hb dX3_worst_51 rfl (lv_at hl 2 rfl) ?_
              refine r_icmp_gt hx hb 58 dX3_worst_52 (by decide) (by omega) (by omega) (fun c_52 => ?_) (fun c_52 => ?_)
              · skip
                refine lv_iload_n hx hb dX3_worst_58 rfl (lv_at hl 3 rfl) ?_
                refine lv_istore_n (lv' := [(1, .int (iv (y : Int))), (0, .ref (b 0)), (2, .int (iv mx)), (3, .int (iv (y : Int))), (4, .int (iv su)), (5, .int (iv (k : Int)))]) hx hb dX3_worst_59 rfl hl (by decide) rfl (fun ls hl => ?_)
                refine lv_iload hx hb dX3_worst_60 (lv_at hl 4 rfl) ?_
                refine lv_istore_n (lv' := [(2, .int (iv su)), (1, .int (iv (y : Int))), (0, .ref (b 0)), (3, .int (iv (y : Int))), (4, .int (iv su)), (5, .int (iv (k : Int)))]) hx hb dX3_worst_62 rfl hl (by decide) rfl (fun ls hl => ?_)
                refine r_iinc (k := 3) (lv' := [(3, .int (iv ((y : Int) + 1))), (2, .int (iv su)), (1, .int (iv (y : Int))), (0, .ref (b 0)), (4, .int (iv su)), (5, .int (iv (k : Int)))]) hx hb dX3_worst_63 hl rfl (by decide) rfl (fun ls hl => ?_)
                refine r_goto hx hb 11 dX3_worst_66 (by decide) ?_
                exact ih11 (y + 1) (y : Int) su (by omega) (by omega) (wst_yes ek em (by omega)).1 (wst_yes ek em (by omega)).2 _ _ hP hD hS _ (lv_sub hl [3, 2, 1, 0] rfl)
              · skip
                refine r_goto hx hb 63 dX3_worst_55 (by decide) ?_
                refine r_iinc (k := 3) (lv' := [(3, .int (iv ((y : Int) + 1))), (0, .ref (b 0)), (1, .int (iv x)), (2, .int (iv mx)), (4, .int (iv su)), (5, .int (iv (k : Int)))]) hx hb dX3_worst_63 hl rfl (by decide) rfl (fun ls hl => ?_)
                refine r_goto hx hb 11 dX3_worst_66 (by decide) ?_
                exact ih11 (y + 1) x mx (by omega) (by omega) (wst_no ek ex em (by omega)).1 (wst_no ek ex em (by omega)).2 _ _ hP hD hS _ (lv_sub hl [1, 2, 3, 0] rfl)
            · skip
              refine lv_iload hx hb dX3_worst_31 (lv_at hl 4 rfl) ?_
              refine lv_aload_n hx hb dX3_worst_33 rfl (lv_at hl 0 rfl) ?_
              refine lv_iload_n hx hb dX3_worst_34 rfl (lv_at hl 3 rfl) ?_
              refine lv_iload hx hb dX3_worst_35 (lv_at hl 5 rfl) ?_
              have hp := wsp ([(b 0, .inr (3, [.int (iv 0), .int (iv (kn cs : Int)), .int (iv (kp cs : Int)), .int (iv (km cs)), .ref (b 1), .ref (b 2), .ref (b 3), .ref (b 4), .ref (b 5)])), (b 1, .inl (G 0, 144, .inl (fun y9 => iv (LL (kS cs) y9)))), (b 2, .inl (G 0, 64, .inl (fun y9 => iv (RR (kS cs) y9)))), (b 3, .inl (G 0, 48, .inl (fun y9 => iv (PP (kP cs) y9)))), (b 4, .inl (G 0, 5, .inl (fun y9 => iv (kT cs y9)))), (b 5, .inl (G 0, 1, .inl (fun y9 => iv (kk (kd cs) y9))))]) ([]) 6 (is := [0, 1, 2]) (js := [3, 4, 5]) (wc := [wM0 b 0 (kn cs : Int) (kp cs : Int) (km cs), wMl G b (LL (kS cs)), wMr G b (RR (kS cs))]) (wr := [(b 3, .inl (G 0, 48, .inl (fun y9 => iv (PP (kP cs) y9)))), (b 4, .inl (G 0, 5, .inl (fun y9 => iv (kT cs y9)))), (b 5, .inl (G 0, 1, .inl (fun y9 => iv (kk (kd cs) y9))))]) (by decide) rfl rfl rfl
              skip
              refine k_int (g_V (As := [.int (iv (y : Int)), .int (iv (k : Int))]) (rest := [.int (iv su)]) (q0 := 0) (ci := 3) ⟨hx, hb, hml, hown, hts⟩ (c_X3_needed l D G b 0 (kn cs : Int) (kp cs : Int) (km cs) (kS cs) y (by omega) (kS cs y) rfl (okC_D hok (by omega)) (k : Int) (by omega)) (cwV 2 hts gX3_worst_X3_needed rfl rfl rfl (by decide +kernel) ⟨Nat.le_of_ble_eq_true rfl, Nat.le_of_ble_eq_true rfl⟩) hK hP hD hp rfl rfl rfl rfl hl.1 rfl (Nat.le_of_ble_eq_true rfl) dX3_worst_37 ⟨by decide, by decide⟩) hP hD hS hA hp (fun v u H locs hw hP hD hS => ?_)
              obtain ⟨hv, hu⟩ := hw
              replace hv : v = (iv (wants (k : Int) (kS cs y))) := hv
              subst hv
              subst hu
              have hP : va_P D vwCl ([(b 0, .inr (3, [.int (iv 0), .int (iv (kn cs : Int)), .int (iv (kp cs : Int)), .int (iv (km cs)), .ref (b 1), .ref (b 2), .ref (b 3), .ref (b 4), .ref (b 5)])), (b 1, .inl (G 0, 144, .inl (fun y9 => iv (LL (kS cs) y9)))), (b 2, .inl (G 0, 64, .inl (fun y9 => iv (RR (kS cs) y9)))), (b 3, .inl (G 0, 48, .inl (fun y9 => iv (PP (kP cs) y9)))), (b 4, .inl (G 0, 5, .inl (fun y9 => iv (kT cs y9)))), (b 5, .inl (G 0, 1, .inl (fun y9 => iv (kk (kd cs) y9))))]) H := hP
              have hD : va_D A ([(b 0, .inr (3, [.int (iv 0), .int (iv (kn cs : Int)), .int (iv (kp cs : Int)), .int (iv (km cs)), .ref (b 1), .ref (b 2), .ref (b 3), .ref (b 4), .ref (b 5)])), (b 1, .inl (G 0, 144, .inl (fun y9 => iv (LL (kS cs) y9)))), (b 2, .inl (G 0, 64, .inl (fun y9 => iv (RR (kS cs) y9)))), (b 3, .inl (G 0, 48, .inl (fun y9 => iv (PP (kP cs) y9)))), (b 4, .inl (G 0, 5, .inl (fun y9 => iv (kT cs y9)))), (b 5, .inl (G 0, 1, .inl (fun y9 => iv (kk (kd cs) y9))))]) := hD
              refine r_add hx hb dX3_worst_40 ?_
              refine lv_istore (lv' := [(4, .int (iv (su + (wants (k : Int) (kS cs y))))), (0, .ref (b 0)), (1, .int (iv x)), (2, .int (iv mx)), (3, .int (iv (y : Int))), (5, .int (iv (k : Int)))]) hx hb dX3_worst_41 hl (by decide) rfl (fun ls hl => ?_)
              refine r_iinc (k := 5) (lv' := [(5, .int (iv ((k : Int) + 1))), (4, .int (iv (su + (wants (k : Int) (kS cs y))))), (0, .ref (b 0)), (1, .int (iv x)), (2, .int (iv mx)), (3, .int (iv (y : Int)))]) hx hb dX3_worst_43 hl rfl (by decide) rfl (fun ls hl => ?_)
              refine r_goto hx hb 25 dX3_worst_46 (by decide) ?_
              exact ih25 (k + 1) (su + (wants (k : Int) (kS cs y))) (by omega) (by omega) (sm_s es rfl) _ _ hP hD hS _ (lv_sub hl [2, 3, 4, 5, 1, 0] rfl)
        exact K25 6 0 0 (by omega) (by omega) rfl _ _ hP hD hS _ (lv_sub hl [2, 3, 4, 5, 1, 0] rfl)
  exact K11 (kn cs + 1) 0 (-1) 0 (by omega) (by omega) rfl rfl _ _ hP hD hS _ (lv_sub hl [3, 2, 1, 0] rfl)
set_option maxHeartbeats 4000000 in
set_option maxRecDepth 100000 in
theorem c_X3_digest (l : Launch) (D : va_G) (G : Nat → ClassId) (b : Nat → Nat) (th : Int) (cs : CS) (hok : okC cs)  : MtG l yX3_digest wsX3_digest 5 220 0 0 D (TY G) [.ref (b 0)] (wMod G b th cs) (qL D (fun r u => r = opDigest cs ∧ u = wMod G b 0 cs)) := by
  refine MtG.mk (cc := cX3_digest) (maxL := 6) (ret := some .long) (by decide) rfl (Nat.le_of_ble_eq_true rfl) ?_
  intro p e s m below meth c A ls hx hb hr hlk hml hown hin hts hK hA hP hD hS hl
  replace hown : s.vm.findClass RX3 = some m.cls := hown
  have hl : lv_has ls 6 [(0, .ref (b 0))] := hl
  skip
  have hP : va_P D vwCl ([(b 0, .inr (3, [.int (iv th), .int (iv (kn cs : Int)), .int (iv (kp cs : Int)), .int (iv (km cs)), .ref (b 1), .ref (b 2), .ref (b 3), .ref (b 4), .ref (b 5)])), (b 1, .inl (G 0, 144, .inl (fun y9 => iv (LL (kS cs) y9)))), (b 2, .inl (G 0, 64, .inl (fun y9 => iv (RR (kS cs) y9)))), (b 3, .inl (G 0, 48, .inl (fun y9 => iv (PP (kP cs) y9)))), (b 4, .inl (G 0, 5, .inl (fun y9 => iv (kT cs y9)))), (b 5, .inl (G 0, 1, .inl (fun y9 => iv (kk (kd cs) y9))))]) s.heap := hP
  have hD : va_D A ([(b 0, .inr (3, [.int (iv th), .int (iv (kn cs : Int)), .int (iv (kp cs : Int)), .int (iv (km cs)), .ref (b 1), .ref (b 2), .ref (b 3), .ref (b 4), .ref (b 5)])), (b 1, .inl (G 0, 144, .inl (fun y9 => iv (LL (kS cs) y9)))), (b 2, .inl (G 0, 64, .inl (fun y9 => iv (RR (kS cs) y9)))), (b 3, .inl (G 0, 48, .inl (fun y9 => iv (PP (kP cs) y9)))), (b 4, .inl (G 0, 5, .inl (fun y9 => iv (kT cs y9)))), (b 5, .inl (G 0, 1, .inl (fun y9 => iv (kk (kd cs) y9))))]) := hD
  have lk29 := hts (.fieldLink RX3 29 "DollCitadelModel" "thrown" "I") (by decide +kernel)
  have in_X3 : ∀ w ∈ u_ws RX3 TX3 9, w ∈ wsX3_digest := by decide +kernel
  have lk39 := hts (.fieldLink RX3 39 "DollCitadelModel" "poses" "I") (by decide +kernel)
  have lk20 := hts (.fieldLink RX3 20 "DollCitadelModel" "told" "[I") (by decide +kernel)
  have lk32 := hts (.fieldLink RX3 32 "DollCitadelModel" "dolls" "I") (by decide +kernel)
  obtain ⟨on8, op8, -, -, -, oday, omo⟩ := id hok
  refine lv_aload_n hx hb dX3_digest_0 rfl (lv_at hl 0 rfl) ?_
  refine r_const hx hb dX3_digest_1 ?_
  refine va_put (D := D) (ci := 3) (v := .int (iv 0)) (ty := .int) (C := RX3) (T := TX3) (N := 9) hx hb hts in_X3 tyX3 tyX3_ok nmX3 hown hK hP hD hS 0 rfl rfl 0 (by decide) lk29 (fun _ h9 => h9) rfl (by decide +kernel) rfl rfl (Nat.le_of_ble_eq_true rfl) dX3_digest_2 (fun H locs hP hD hS => ?_)
  have hP : va_P D vwCl ([(b 0, .inr (3, [.int (iv 0), .int (iv (kn cs : Int)), .int (iv (kp cs : Int)), .int (iv (km cs)), .ref (b 1), .ref (b 2), .ref (b 3), .ref (b 4), .ref (b 5)])), (b 1, .inl (G 0, 144, .inl (fun y9 => iv (LL (kS cs) y9)))), (b 2, .inl (G 0, 64, .inl (fun y9 => iv (RR (kS cs) y9)))), (b 3, .inl (G 0, 48, .inl (fun y9 => iv (PP (kP cs) y9)))), (b 4, .inl (G 0, 5, .inl (fun y9 => iv (kT cs y9)))), (b 5, .inl (G 0, 1, .inl (fun y9 => iv (kk (kd cs) y9))))]) H := hP
  have hD : va_D A ([(b 0, .inr (3, [.int (iv 0), .int (iv (kn cs : Int)), .int (iv (kp cs : Int)), .int (iv (km cs)), .ref (b 1), .ref (b 2), .ref (b 3), .ref (b 4), .ref (b 5)])), (b 1, .inl (G 0, 144, .inl (fun y9 => iv (LL (kS cs) y9)))), (b 2, .inl (G 0, 64, .inl (fun y9 => iv (RR (kS cs) y9)))), (b 3, .inl (G 0, 48, .inl (fun y9 => iv (PP (kP cs) y9)))), (b 4, .inl (G 0, 5, .inl (fun y9 => iv (kT cs y9)))), (b 5, .inl (G 0, 1, .inl (fun y9 => iv (kk (kd cs) y9))))]) := hD
  refine lv_ldc2 hx hb hown (hts (.constantLong RX3 129 (1063)) (by decide +kernel)) dX3_digest_5 ?_
  refine lv_lstore_n (lv' := [(1, .long (1063 : Int64)), (0, .ref (b 0))]) hx hb dX3_digest_8 rfl hl (by decide) rfl (fun ls hl => ?_)
  refine r_const hx hb dX3_digest_9 ?_
  refine lv_istore_n (lv' := [(3, .int (iv 0)), (1, .long (1063 : Int64)), (0, .ref (b 0))]) hx hb dX3_digest_10 rfl hl (by decide) rfl (fun ls hl => ?_)
  have K11 : ∀ (fu i : Nat) (d1 : Int64), i ≤ 13 → 13 < i + fu → d1 = dg64 (fun w9 => countV cs (w9 : Int)) 1063 i → ∀ (H : Heap) (locs : List Loc), va_P D vwCl ([(b 0, .inr (3, [.int (iv 0), .int (iv (kn cs : Int)), .int (iv (kp cs : Int)), .int (iv (km cs)), .ref (b 1), .ref (b 2), .ref (b 3), .ref (b 4), .ref (b 5)])), (b 1, .inl (G 0, 144, .inl (fun y9 => iv (LL (kS cs) y9)))), (b 2, .inl (G 0, 64, .inl (fun y9 => iv (RR (kS cs) y9)))), (b 3, .inl (G 0, 48, .inl (fun y9 => iv (PP (kP cs) y9)))), (b 4, .inl (G 0, 5, .inl (fun y9 => iv (kT cs y9)))), (b 5, .inl (G 0, 1, .inl (fun y9 => iv (kk (kd cs) y9))))]) H → va_D A ([(b 0, .inr (3, [.int (iv 0), .int (iv (kn cs : Int)), .int (iv (kp cs : Int)), .int (iv (km cs)), .ref (b 1), .ref (b 2), .ref (b 3), .ref (b 4), .ref (b 5)])), (b 1, .inl (G 0, 144, .inl (fun y9 => iv (LL (kS cs) y9)))), (b 2, .inl (G 0, 64, .inl (fun y9 => iv (RR (kS cs) y9)))), (b 3, .inl (G 0, 48, .inl (fun y9 => iv (PP (kP cs) y9)))), (b 4, .inl (G 0, 5, .inl (fun y9 => iv (kT cs y9)))), (b 5, .inl (G 0, 1, .inl (fun y9 => iv (kk (kd cs) y9))))]) → va_S A s.heap H locs → ∀ (ls : Array Slot), lv_has ls 6 [(0, .ref (b 0)), (1, .long d1), (3, .int (iv (i : Int)))] → W p l e (rmOf 5 220 0 0) s m ([.ref (b 0)] : List Value).toArray below meth c H locs 0 0 (MQ below (qL D (fun r u => r = opDigest cs ∧ u = wMod G b 0 cs) A) ([.ref (b 0)] : List Value).toArray s 0 0 A) (F0 m 11 ls []) := by
    intro fu
    induction fu with
    | zero => intro i d1 h1 h2; exact absurd h2 (by omega)
    | succ fu ih11 =>
      intro i d1 hi_11 hn_11 ed1 H locs hP hD hS ls hl
      refine lv_iload_n hx hb dX3_digest_11 rfl (lv_at hl 2 rfl) ?_
      refine lv_bipush (v := iv 13) hx hb dX3_digest_12 (by decide) ?_
      refine r_icmp_ge hx hb 36 dX3_digest_14 (by decide) (by omega) (by omega) (fun c_14 => ?_) (fun c_14 => ?_)
      · skip
        refine r_const hx hb dX3_digest_36 ?_
        refine lv_istore_n (lv' := [(3, .int (iv 0)), (0, .ref (b 0)), (1, .long d1)]) hx hb dX3_digest_37 rfl hl (by decide) rfl (fun ls hl => ?_)
        have K38 : ∀ (fu f : Nat) (d2 : Int64), f ≤ (6 * kp cs) → (6 * kp cs) < f + fu → d2 = dg64 (PP (kP cs)) (dg64 (fun w9 => countV cs (w9 : Int)) 1063 13) f → ∀ (H : Heap) (locs : List Loc), va_P D vwCl ([(b 0, .inr (3, [.int (iv 0), .int (iv (kn cs : Int)), .int (iv (kp cs : Int)), .int (iv (km cs)), .ref (b 1), .ref (b 2), .ref (b 3), .ref (b 4), .ref (b 5)])), (b 1, .inl (G 0, 144, .inl (fun y9 => iv (LL (kS cs) y9)))), (b 2, .inl (G 0, 64, .inl (fun y9 => iv (RR (kS cs) y9)))), (b 3, .inl (G 0, 48, .inl (fun y9 => iv (PP (kP cs) y9)))), (b 4, .inl (G 0, 5, .inl (fun y9 => iv (kT cs y9)))), (b 5, .inl (G 0, 1, .inl (fun y9 => iv (kk (kd cs) y9))))]) H → va_D A ([(b 0, .inr (3, [.int (iv 0), .int (iv (kn cs : Int)), .int (iv (kp cs : Int)), .int (iv (km cs)), .ref (b 1), .ref (b 2), .ref (b 3), .ref (b 4), .ref (b 5)])), (b 1, .inl (G 0, 144, .inl (fun y9 => iv (LL (kS cs) y9)))), (b 2, .inl (G 0, 64, .inl (fun y9 => iv (RR (kS cs) y9)))), (b 3, .inl (G 0, 48, .inl (fun y9 => iv (PP (kP cs) y9)))), (b 4, .inl (G 0, 5, .inl (fun y9 => iv (kT cs y9)))), (b 5, .inl (G 0, 1, .inl (fun y9 => iv (kk (kd cs) y9))))]) → va_S A s.heap H locs → ∀ (ls : Array Slot), lv_has ls 6 [(0, .ref (b 0)), (1, .long d2), (3, .int (iv (f : Int)))] → W p l e (rmOf 5 220 0 0) s m ([.ref (b 0)] : List Value).toArray below meth c H locs 0 0 (MQ below (qL D (fun r u => r = opDigest cs ∧ u = wMod G b 0 cs) A) ([.ref (b 0)] : List Value).toArray s 0 0 A) (F0 m 38 ls []) := by
          intro fu
          induction fu with
          | zero => intro f d2 h1 h2; exact absurd h2 (by omega)
          | succ fu ih38 =>
            intro f d2 hi_38 hn_38 ed2 H locs hP hD hS ls hl
            refine lv_iload_n hx hb dX3_digest_38 rfl (lv_at hl 2 rfl) ?_
            refine lv_bipush (v := iv 6) hx hb dX3_digest_39 (by decide) ?_
            refine lv_aload_n hx hb dX3_digest_41 rfl (lv_at hl 0 rfl) ?_
            refine va_get (D := D) (ci := 3) (v := .int (iv (kp cs : Int))) (C := RX3) (T := TX3) (N := 9) hx hb hts in_X3 hown hK hP 0 rfl rfl 2 (by decide) lk39 (fun _ h9 => h9) rfl dX3_digest_42 ?_
            refine r_mul hx hb dX3_digest_45 ?_
            refine r_icmp_ge hx hb 69 dX3_digest_46 (by decide) (by omega) (by omega) (fun c_46 => ?_) (fun c_46 => ?_)
            · skip
              refine r_const hx hb dX3_digest_69 ?_
              refine lv_istore_n (lv' := [(3, .int (iv 0)), (0, .ref (b 0)), (1, .long d2)]) hx hb dX3_digest_70 rfl hl (by decide) rfl (fun ls hl => ?_)
              have K71 : ∀ (fu y : Nat) (d3 : Int64), y ≤ (kn cs) → (kn cs) < y + fu → d3 = dgS (fun e9 x9 => dgDoll (kS cs e9) x9) (dgS (fun q9 x9 => dg64 (kP cs q9) x9 6) (dg64 (fun w9 => countV cs (w9 : Int)) 1063 13) (kp cs)) y → ∀ (H : Heap) (locs : List Loc), va_P D vwCl ([(b 0, .inr (3, [.int (iv 0), .int (iv (kn cs : Int)), .int (iv (kp cs : Int)), .int (iv (km cs)), .ref (b 1), .ref (b 2), .ref (b 3), .ref (b 4), .ref (b 5)])), (b 1, .inl (G 0, 144, .inl (fun y9 => iv (LL (kS cs) y9)))), (b 2, .inl (G 0, 64, .inl (fun y9 => iv (RR (kS cs) y9)))), (b 3, .inl (G 0, 48, .inl (fun y9 => iv (PP (kP cs) y9)))), (b 4, .inl (G 0, 5, .inl (fun y9 => iv (kT cs y9)))), (b 5, .inl (G 0, 1, .inl (fun y9 => iv (kk (kd cs) y9))))]) H → va_D A ([(b 0, .inr (3, [.int (iv 0), .int (iv (kn cs : Int)), .int (iv (kp cs : Int)), .int (iv (km cs)), .ref (b 1), .ref (b 2), .ref (b 3), .ref (b 4), .ref (b 5)])), (b 1, .inl (G 0, 144, .inl (fun y9 => iv (LL (kS cs) y9)))), (b 2, .inl (G 0, 64, .inl (fun y9 => iv (RR (kS cs) y9)))), (b 3, .inl (G 0, 48, .inl (fun y9 => iv (PP (kP cs) y9)))), (b 4, .inl (G 0, 5, .inl (fun y9 => iv (kT cs y9)))), (b 5, .inl (G 0, 1, .inl (fun y9 => iv (kk (kd cs) y9))))]) → va_S A s.heap H locs → ∀ (ls : Array Slot), lv_has ls 6 [(0, .ref (b 0)), (1, .long d3), (3, .int (iv (y : Int)))] → W p l e (rmOf 5 220 0 0) s m ([.ref (b 0)] : List Value).toArray below meth c H locs 0 0 (MQ below (qL D (fun r u => r = opDigest cs ∧ u = wMod G b 0 cs) A) ([.ref (b 0)] : List Value).toArray s 0 0 A) (F0 m 71 ls []) := by
                intro fu
                induction fu with
                | zero => intro y d3 h1 h2; exact absurd h2 (by omega)
                | succ fu ih71 =>
                  intro y d3 hi_71 hn_71 ed3 H locs hP hD hS ls hl
                  refine lv_iload_n hx hb dX3_digest_71 rfl (lv_at hl 2 rfl) ?_
                  refine lv_aload_n hx hb dX3_digest_72 rfl (lv_at hl 0 rfl) ?_
                  refine va_get (D := D) (ci := 3) (v := .int (iv (kn cs : Int))) (C := RX3) (T := TX3) (N := 9) hx hb hts in_X3 hown hK hP 0 rfl rfl 1 (by decide) lk32 (fun _ h9 => h9) rfl dX3_digest_73 ?_
                  refine r_icmp_ge hx hb 164 dX3_digest_76 (by decide) (by omega) (by omega) (fun c_76 => ?_) (fun c_76 => ?_)
                  · skip
                    refine lv_lload_n hx hb dX3_digest_164 rfl (lv_at hl 1 rfl) ?_
                    exact e_long hx hb hr hlk dX3_digest_165 hS hP hD (by decide) (by decide) (⟨by rw [ed3, show y = kn cs by omega]; rfl, rfl⟩)
                  · skip
                    refine r_const hx hb dX3_digest_79 ?_
                    refine lv_istore (lv' := [(4, .int (iv 0)), (0, .ref (b 0)), (1, .long d3), (3, .int (iv (y : Int)))]) hx hb dX3_digest_80 hl (by decide) rfl (fun ls hl => ?_)
                    have K82 : ∀ (fu t : Nat) (d4 : Int64), t ≤ 8 → 8 < t + fu → d4 = dg64 (fun w9 => roomv (kS cs y) w9) d3 t → ∀ (H : Heap) (locs : List Loc), va_P D vwCl ([(b 0, .inr (3, [.int (iv 0), .int (iv (kn cs : Int)), .int (iv (kp cs : Int)), .int (iv (km cs)), .ref (b 1), .ref (b 2), .ref (b 3), .ref (b 4), .ref (b 5)])), (b 1, .inl (G 0, 144, .inl (fun y9 => iv (LL (kS cs) y9)))), (b 2, .inl (G 0, 64, .inl (fun y9 => iv (RR (kS cs) y9)))), (b 3, .inl (G 0, 48, .inl (fun y9 => iv (PP (kP cs) y9)))), (b 4, .inl (G 0, 5, .inl (fun y9 => iv (kT cs y9)))), (b 5, .inl (G 0, 1, .inl (fun y9 => iv (kk (kd cs) y9))))]) H → va_D A ([(b 0, .inr (3, [.int (iv 0), .int (iv (kn cs : Int)), .int (iv (kp cs : Int)), .int (iv (km cs)), .ref (b 1), .ref (b 2), .ref (b 3), .ref (b 4), .ref (b 5)])), (b 1, .inl (G 0, 144, .inl (fun y9 => iv (LL (kS cs) y9)))), (b 2, .inl (G 0, 64, .inl (fun y9 => iv (RR (kS cs) y9)))), (b 3, .inl (G 0, 48, .inl (fun y9 => iv (PP (kP cs) y9)))), (b 4, .inl (G 0, 5, .inl (fun y9 => iv (kT cs y9)))), (b 5, .inl (G 0, 1, .inl (fun y9 => iv (kk (kd cs) y9))))]) → va_S A s.heap H locs → ∀ (ls : Array Slot), lv_has ls 6 [(0, .ref (b 0)), (1, .long d4), (3, .int (iv (y : Int))), (4, .int (iv (t : Int)))] → W p l e (rmOf 5 220 0 0) s m ([.ref (b 0)] : List Value).toArray below meth c H locs 0 0 (MQ below (qL D (fun r u => r = opDigest cs ∧ u = wMod G b 0 cs) A) ([.ref (b 0)] : List Value).toArray s 0 0 A) (F0 m 82 ls []) := by
                      intro fu
                      induction fu with
                      | zero => intro t d4 h1 h2; exact absurd h2 (by omega)
                      | succ fu ih82 =>
                        intro t d4 hi_82 hn_82 ed4 H locs hP hD hS ls hl
                        have okd : okD (kS cs y) := okC_D hok (by omega)
                        refine lv_iload hx hb dX3_digest_82 (lv_at hl 3 rfl) ?_
                        refine lv_bipush (v := iv 8) hx hb dX3_digest_84 (by decide) ?_
                        refine r_icmp_ge hx hb 110 dX3_digest_86 (by decide) (by omega) (by omega) (fun c_86 => ?_) (fun c_86 => ?_)
                        · skip
                          refine r_const hx hb dX3_digest_110 ?_
                          refine lv_istore (lv' := [(4, .int (iv 0)), (0, .ref (b 0)), (1, .long d4), (3, .int (iv (y : Int)))]) hx hb dX3_digest_111 hl (by decide) rfl (fun ls hl => ?_)
                          have K113 : ∀ (fu j : Nat) (d5 : Int64), j ≤ 6 → 6 < j + fu → d5 = dgS (fun j9 x9 => dg64 (fun w9 => jtold (kS cs y) j9 w9) x9 4) (dg64 (fun w9 => roomv (kS cs y) w9) d3 8) j → ∀ (H : Heap) (locs : List Loc), va_P D vwCl ([(b 0, .inr (3, [.int (iv 0), .int (iv (kn cs : Int)), .int (iv (kp cs : Int)), .int (iv (km cs)), .ref (b 1), .ref (b 2), .ref (b 3), .ref (b 4), .ref (b 5)])), (b 1, .inl (G 0, 144, .inl (fun y9 => iv (LL (kS cs) y9)))), (b 2, .inl (G 0, 64, .inl (fun y9 => iv (RR (kS cs) y9)))), (b 3, .inl (G 0, 48, .inl (fun y9 => iv (PP (kP cs) y9)))), (b 4, .inl (G 0, 5, .inl (fun y9 => iv (kT cs y9)))), (b 5, .inl (G 0, 1, .inl (fun y9 => iv (kk (kd cs) y9))))]) H → va_D A ([(b 0, .inr (3, [.int (iv 0), .int (iv (kn cs : Int)), .int (iv (kp cs : Int)), .int (iv (km cs)), .ref (b 1), .ref (b 2), .ref (b 3), .ref (b 4), .ref (b 5)])), (b 1, .inl (G 0, 144, .inl (fun y9 => iv (LL (kS cs) y9)))), (b 2, .inl (G 0, 64, .inl (fun y9 => iv (RR (kS cs) y9)))), (b 3, .inl (G 0, 48, .inl (fun y9 => iv (PP (kP cs) y9)))), (b 4, .inl (G 0, 5, .inl (fun y9 => iv (kT cs y9)))), (b 5, .inl (G 0, 1, .inl (fun y9 => iv (kk (kd cs) y9))))]) → va_S A s.heap H locs → ∀ (ls : Array Slot), lv_has ls 6 [(0, .ref (b 0)), (1, .long d5), (3, .int (iv (y : Int))), (4, .int (iv (j : Int)))] → W p l e (rmOf 5 220 0 0) s m ([.ref (b 0)] : List Value).toArray below meth c H locs 0 0 (MQ below (qL D (fun r u => r = opDigest cs ∧ u = wMod G b 0 cs) A) ([.ref (b 0)] : List Value).toArray s 0 0 A) (F0 m 113 ls []) := by
                            intro fu
                            induction fu with
                            | zero => intro j d5 h1 h2; exact absurd h2 (by omega)
                            | succ fu ih113 =>
                              intro j d5 hi_113 hn_113 ed5 H locs hP hD hS ls hl
                              have okd : okD (kS cs y) := okC_D hok (by omega)
                              refine lv_iload hx hb dX3_digest_113 (lv_at hl 3 rfl) ?_
                              refine lv_bipush (v := iv 6) hx hb dX3_digest_115 (by decide) ?_
                              refine r_icmp_ge hx hb 158 dX3_digest_117 (by decide) (by omega) (by omega) (fun c_117 => ?_) (fun c_117 => ?_)
                              · skip
                                refine r_iinc (k := 2) (lv' := [(3, .int (iv ((y : Int) + 1))), (0, .ref (b 0)), (1, .long d5), (4, .int (iv (j : Int)))]) hx hb dX3_digest_158 hl rfl (by decide) rfl (fun ls hl => ?_)
                                refine r_goto hx hb 71 dX3_digest_161 (by decide) ?_
                                exact ih71 (y + 1) d5 (by omega) (by omega) (by rw [ed5, show j = 6 by omega, ed3]; rfl) _ _ hP hD hS _ (lv_sub hl [1, 2, 0] rfl)
                              · skip
                                refine r_const hx hb dX3_digest_120 ?_
                                refine lv_istore (lv' := [(5, .int (iv 0)), (0, .ref (b 0)), (1, .long d5), (3, .int (iv (y : Int))), (4, .int (iv (j : Int)))]) hx hb dX3_digest_121 hl (by decide) rfl (fun ls hl => ?_)
                                have K123 : ∀ (fu k : Nat) (d6 : Int64), k ≤ 4 → 4 < k + fu → d6 = dg64 (fun w9 => jtold (kS cs y) j w9) d5 k → ∀ (H : Heap) (locs : List Loc), va_P D vwCl ([(b 0, .inr (3, [.int (iv 0), .int (iv (kn cs : Int)), .int (iv (kp cs : Int)), .int (iv (km cs)), .ref (b 1), .ref (b 2), .ref (b 3), .ref (b 4), .ref (b 5)])), (b 1, .inl (G 0, 144, .inl (fun y9 => iv (LL (kS cs) y9)))), (b 2, .inl (G 0, 64, .inl (fun y9 => iv (RR (kS cs) y9)))), (b 3, .inl (G 0, 48, .inl (fun y9 => iv (PP (kP cs) y9)))), (b 4, .inl (G 0, 5, .inl (fun y9 => iv (kT cs y9)))), (b 5, .inl (G 0, 1, .inl (fun y9 => iv (kk (kd cs) y9))))]) H → va_D A ([(b 0, .inr (3, [.int (iv 0), .int (iv (kn cs : Int)), .int (iv (kp cs : Int)), .int (iv (km cs)), .ref (b 1), .ref (b 2), .ref (b 3), .ref (b 4), .ref (b 5)])), (b 1, .inl (G 0, 144, .inl (fun y9 => iv (LL (kS cs) y9)))), (b 2, .inl (G 0, 64, .inl (fun y9 => iv (RR (kS cs) y9)))), (b 3, .inl (G 0, 48, .inl (fun y9 => iv (PP (kP cs) y9)))), (b 4, .inl (G 0, 5, .inl (fun y9 => iv (kT cs y9)))), (b 5, .inl (G 0, 1, .inl (fun y9 => iv (kk (kd cs) y9))))]) → va_S A s.heap H locs → ∀ (ls : Array Slot), lv_has ls 6 [(0, .ref (b 0)), (1, .long d6), (3, .int (iv (y : Int))), (4, .int (iv (j : Int))), (5, .int (iv (k : Int)))] → W p l e (rmOf 5 220 0 0) s m ([.ref (b 0)] : List Value).toArray below meth c H locs 0 0 (MQ below (qL D (fun r u => r = opDigest cs ∧ u = wMod G b 0 cs) A) ([.ref (b 0)] : List Value).toArray s 0 0 A) (F0 m 123 ls []) := by
                                  intro fu
                                  induction fu with
                                  | zero => intro k d6 h1 h2; exact absurd h2 (by omega)
                                  | succ fu ih123 =>
                                    intro k d6 hi_123 hn_123 ed6 H locs hP hD hS ls hl
                                    have okd : okD (kS cs y) := okC_D hok (by omega)
                                    refine lv_iload hx hb dX3_digest_123 (lv_at hl 4 rfl) ?_
                                    refine r_const hx hb dX3_digest_125 ?_
                                    refine r_icmp_ge hx hb 152 dX3_digest_126 (by decide) (by omega) (by omega) (fun c_126 => ?_) (fun c_126 => ?_)
                                    · skip
                                      refine r_iinc (k := 3) (lv' := [(4, .int (iv ((j : Int) + 1))), (0, .ref (b 0)), (1, .long d6), (3, .int (iv (y : Int))), (5, .int (iv (k : Int)))]) hx hb dX3_digest_152 hl rfl (by decide) rfl (fun ls hl => ?_)
                                      refine r_goto hx hb 113 dX3_digest_155 (by decide) ?_
                                      exact ih113 (j + 1) d6 (by omega) (by omega) (by rw [ed6, show k = 4 by omega, ed5]; rfl) _ _ hP hD hS _ (lv_sub hl [1, 2, 3, 0] rfl)
                                    · skip
                                      refine lv_lload_n hx hb dX3_digest_129 rfl (lv_at hl 1 rfl) ?_
                                      refine lv_ldc2 hx hb hown (hts (.constantLong RX3 131 (31)) (by decide +kernel)) dX3_digest_130 ?_
                                      refine lv_lmul hx hb dX3_digest_133 ?_
                                      refine lv_aload_n hx hb dX3_digest_134 rfl (lv_at hl 0 rfl) ?_
                                      refine lv_iload_n hx hb dX3_digest_135 rfl (lv_at hl 2 rfl) ?_
                                      refine lv_iload hx hb dX3_digest_136 (lv_at hl 3 rfl) ?_
                                      refine lv_iload hx hb dX3_digest_138 (lv_at hl 4 rfl) ?_
                                      have hp := wsp ([(b 0, .inr (3, [.int (iv 0), .int (iv (kn cs : Int)), .int (iv (kp cs : Int)), .int (iv (km cs)), .ref (b 1), .ref (b 2), .ref (b 3), .ref (b 4), .ref (b 5)])), (b 1, .inl (G 0, 144, .inl (fun y9 => iv (LL (kS cs) y9)))), (b 2, .inl (G 0, 64, .inl (fun y9 => iv (RR (kS cs) y9)))), (b 3, .inl (G 0, 48, .inl (fun y9 => iv (PP (kP cs) y9)))), (b 4, .inl (G 0, 5, .inl (fun y9 => iv (kT cs y9)))), (b 5, .inl (G 0, 1, .inl (fun y9 => iv (kk (kd cs) y9))))]) ([]) 6 (is := [0, 1]) (js := [2, 3, 4, 5]) (wc := [wM0 b 0 (kn cs : Int) (kp cs : Int) (km cs), wMl G b (LL (kS cs))]) (wr := [(b 2, .inl (G 0, 64, .inl (fun y9 => iv (RR (kS cs) y9)))), (b 3, .inl (G 0, 48, .inl (fun y9 => iv (PP (kP cs) y9)))), (b 4, .inl (G 0, 5, .inl (fun y9 => iv (kT cs y9)))), (b 5, .inl (G 0, 1, .inl (fun y9 => iv (kk (kd cs) y9))))]) (by decide) rfl rfl rfl
                                      skip
                                      refine k_int (g_V (As := [.int (iv (y : Int)), .int (iv (j : Int)), .int (iv (k : Int))]) (rest := [.long (d6 * (31 : Int64))]) (q0 := 0) (ci := 3) ⟨hx, hb, hml, hown, hts⟩ (c_X3_jointTold l D G b 0 (kn cs : Int) (kp cs : Int) (km cs) (kS cs) y (by omega) (kS cs y) rfl okd j k (by omega) (by omega)) (cwV 3 hts gX3_digest_X3_jointTold rfl rfl rfl (by decide +kernel) ⟨Nat.le_of_ble_eq_true rfl, Nat.le_of_ble_eq_true rfl⟩) hK hP hD hp rfl rfl rfl rfl hl.1 rfl (Nat.le_of_ble_eq_true rfl) dX3_digest_140 ⟨by decide, by decide⟩) hP hD hS hA hp (fun v u H locs hw hP hD hS => ?_)
                                      obtain ⟨hv, hu⟩ := hw
                                      replace hv : v = (iv (jtold (kS cs y) j k)) := hv
                                      subst hv
                                      subst hu
                                      have hP : va_P D vwCl ([(b 0, .inr (3, [.int (iv 0), .int (iv (kn cs : Int)), .int (iv (kp cs : Int)), .int (iv (km cs)), .ref (b 1), .ref (b 2), .ref (b 3), .ref (b 4), .ref (b 5)])), (b 1, .inl (G 0, 144, .inl (fun y9 => iv (LL (kS cs) y9)))), (b 2, .inl (G 0, 64, .inl (fun y9 => iv (RR (kS cs) y9)))), (b 3, .inl (G 0, 48, .inl (fun y9 => iv (PP (kP cs) y9)))), (b 4, .inl (G 0, 5, .inl (fun y9 => iv (kT cs y9)))), (b 5, .inl (G 0, 1, .inl (fun y9 => iv (kk (kd cs) y9))))]) H := hP
                                      have hD : va_D A ([(b 0, .inr (3, [.int (iv 0), .int (iv (kn cs : Int)), .int (iv (kp cs : Int)), .int (iv (km cs)), .ref (b 1), .ref (b 2), .ref (b 3), .ref (b 4), .ref (b 5)])), (b 1, .inl (G 0, 144, .inl (fun y9 => iv (LL (kS cs) y9)))), (b 2, .inl (G 0, 64, .inl (fun y9 => iv (RR (kS cs) y9)))), (b 3, .inl (G 0, 48, .inl (fun y9 => iv (PP (kP cs) y9)))), (b 4, .inl (G 0, 5, .inl (fun y9 => iv (kT cs y9)))), (b 5, .inl (G 0, 1, .inl (fun y9 => iv (kk (kd cs) y9))))]) := hD
                                      refine lv_i2l (v := ((iv (jtold (kS cs y) j k))).toInt64) hx hb dX3_digest_143 rfl ?_
                                      refine lv_ladd hx hb dX3_digest_144 ?_
                                      refine lv_lstore_n (lv' := [(1, .long ((d6 * (31 : Int64)) + (((iv (jtold (kS cs y) j k))).toInt64))), (0, .ref (b 0)), (3, .int (iv (y : Int))), (4, .int (iv (j : Int))), (5, .int (iv (k : Int)))]) hx hb dX3_digest_145 rfl hl (by decide) rfl (fun ls hl => ?_)
                                      refine r_iinc (k := 4) (lv' := [(5, .int (iv ((k : Int) + 1))), (1, .long ((d6 * (31 : Int64)) + (((iv (jtold (kS cs y) j k))).toInt64))), (0, .ref (b 0)), (3, .int (iv (y : Int))), (4, .int (iv (j : Int)))]) hx hb dX3_digest_146 hl rfl (by decide) rfl (fun ls hl => ?_)
                                      refine r_goto hx hb 123 dX3_digest_149 (by decide) ?_
                                      exact ih123 (k + 1) ((d6 * (31 : Int64)) + (((iv (jtold (kS cs y) j k))).toInt64)) (by omega) (by omega) (by rw [ed6]; rfl) _ _ hP hD hS _ (lv_sub hl [2, 1, 3, 4, 0] rfl)
                                exact K123 5 0 d5 (by omega) (by omega) rfl _ _ hP hD hS _ (lv_sub hl [1, 2, 3, 4, 0] rfl)
                          exact K113 7 0 d4 (by omega) (by omega) (by rw [ed4, show t = 8 by omega]; rfl) _ _ hP hD hS _ (lv_sub hl [1, 2, 3, 0] rfl)
                        · skip
                          refine lv_lload_n hx hb dX3_digest_89 rfl (lv_at hl 1 rfl) ?_
                          refine lv_ldc2 hx hb hown (hts (.constantLong RX3 131 (31)) (by decide +kernel)) dX3_digest_90 ?_
                          refine lv_lmul hx hb dX3_digest_93 ?_
                          refine lv_aload_n hx hb dX3_digest_94 rfl (lv_at hl 0 rfl) ?_
                          refine lv_iload_n hx hb dX3_digest_95 rfl (lv_at hl 2 rfl) ?_
                          refine lv_iload hx hb dX3_digest_96 (lv_at hl 3 rfl) ?_
                          have hp := wsp ([(b 0, .inr (3, [.int (iv 0), .int (iv (kn cs : Int)), .int (iv (kp cs : Int)), .int (iv (km cs)), .ref (b 1), .ref (b 2), .ref (b 3), .ref (b 4), .ref (b 5)])), (b 1, .inl (G 0, 144, .inl (fun y9 => iv (LL (kS cs) y9)))), (b 2, .inl (G 0, 64, .inl (fun y9 => iv (RR (kS cs) y9)))), (b 3, .inl (G 0, 48, .inl (fun y9 => iv (PP (kP cs) y9)))), (b 4, .inl (G 0, 5, .inl (fun y9 => iv (kT cs y9)))), (b 5, .inl (G 0, 1, .inl (fun y9 => iv (kk (kd cs) y9))))]) ([]) 6 (is := [0, 2]) (js := [1, 3, 4, 5]) (wc := [wM0 b 0 (kn cs : Int) (kp cs : Int) (km cs), wMr G b (RR (kS cs))]) (wr := [(b 1, .inl (G 0, 144, .inl (fun y9 => iv (LL (kS cs) y9)))), (b 3, .inl (G 0, 48, .inl (fun y9 => iv (PP (kP cs) y9)))), (b 4, .inl (G 0, 5, .inl (fun y9 => iv (kT cs y9)))), (b 5, .inl (G 0, 1, .inl (fun y9 => iv (kk (kd cs) y9))))]) (by decide) rfl rfl rfl
                          skip
                          refine k_int (g_V (As := [.int (iv (y : Int)), .int (iv (t : Int))]) (rest := [.long (d4 * (31 : Int64))]) (q0 := 0) (ci := 3) ⟨hx, hb, hml, hown, hts⟩ (c_X3_ro l D G b 0 (kn cs : Int) (kp cs : Int) (km cs) (RR (kS cs)) y t (by omega) (by omega) (roomv (kS cs y) t) (RR_at _ (by omega))) (cwV 2 hts gX3_digest_X3_ro rfl rfl rfl (by decide +kernel) ⟨Nat.le_of_ble_eq_true rfl, Nat.le_of_ble_eq_true rfl⟩) hK hP hD hp rfl rfl rfl rfl hl.1 rfl (Nat.le_of_ble_eq_true rfl) dX3_digest_98 ⟨by decide, by decide⟩) hP hD hS hA hp (fun v u H locs hw hP hD hS => ?_)
                          obtain ⟨hv, hu⟩ := hw
                          replace hv : v = (iv (roomv (kS cs y) t)) := hv
                          subst hv
                          subst hu
                          have hP : va_P D vwCl ([(b 0, .inr (3, [.int (iv 0), .int (iv (kn cs : Int)), .int (iv (kp cs : Int)), .int (iv (km cs)), .ref (b 1), .ref (b 2), .ref (b 3), .ref (b 4), .ref (b 5)])), (b 2, .inl (G 0, 64, .inl (fun y9 => iv (RR (kS cs) y9)))), (b 1, .inl (G 0, 144, .inl (fun y9 => iv (LL (kS cs) y9)))), (b 3, .inl (G 0, 48, .inl (fun y9 => iv (PP (kP cs) y9)))), (b 4, .inl (G 0, 5, .inl (fun y9 => iv (kT cs y9)))), (b 5, .inl (G 0, 1, .inl (fun y9 => iv (kk (kd cs) y9))))]) H := hP
                          have hD : va_D A ([(b 0, .inr (3, [.int (iv 0), .int (iv (kn cs : Int)), .int (iv (kp cs : Int)), .int (iv (km cs)), .ref (b 1), .ref (b 2), .ref (b 3), .ref (b 4), .ref (b 5)])), (b 2, .inl (G 0, 64, .inl (fun y9 => iv (RR (kS cs) y9)))), (b 1, .inl (G 0, 144, .inl (fun y9 => iv (LL (kS cs) y9)))), (b 3, .inl (G 0, 48, .inl (fun y9 => iv (PP (kP cs) y9)))), (b 4, .inl (G 0, 5, .inl (fun y9 => iv (kT cs y9)))), (b 5, .inl (G 0, 1, .inl (fun y9 => iv (kk (kd cs) y9))))]) := hD
                          refine lv_i2l (v := ((iv (roomv (kS cs y) t))).toInt64) hx hb dX3_digest_101 rfl ?_
                          refine lv_ladd hx hb dX3_digest_102 ?_
                          refine lv_lstore_n (lv' := [(1, .long ((d4 * (31 : Int64)) + (((iv (roomv (kS cs y) t))).toInt64))), (0, .ref (b 0)), (3, .int (iv (y : Int))), (4, .int (iv (t : Int)))]) hx hb dX3_digest_103 rfl hl (by decide) rfl (fun ls hl => ?_)
                          refine r_iinc (k := 3) (lv' := [(4, .int (iv ((t : Int) + 1))), (1, .long ((d4 * (31 : Int64)) + (((iv (roomv (kS cs y) t))).toInt64))), (0, .ref (b 0)), (3, .int (iv (y : Int)))]) hx hb dX3_digest_104 hl rfl (by decide) rfl (fun ls hl => ?_)
                          refine r_goto hx hb 82 dX3_digest_107 (by decide) ?_
                          have hq := wsp ([(b 0, .inr (3, [.int (iv 0), .int (iv (kn cs : Int)), .int (iv (kp cs : Int)), .int (iv (km cs)), .ref (b 1), .ref (b 2), .ref (b 3), .ref (b 4), .ref (b 5)])), (b 2, .inl (G 0, 64, .inl (fun y9 => iv (RR (kS cs) y9)))), (b 1, .inl (G 0, 144, .inl (fun y9 => iv (LL (kS cs) y9)))), (b 3, .inl (G 0, 48, .inl (fun y9 => iv (PP (kP cs) y9)))), (b 4, .inl (G 0, 5, .inl (fun y9 => iv (kT cs y9)))), (b 5, .inl (G 0, 1, .inl (fun y9 => iv (kk (kd cs) y9))))]) ([]) 6 (is := [0, 2, 1, 3, 4, 5]) (js := []) (wc := [(b 0, .inr (3, [.int (iv 0), .int (iv (kn cs : Int)), .int (iv (kp cs : Int)), .int (iv (km cs)), .ref (b 1), .ref (b 2), .ref (b 3), .ref (b 4), .ref (b 5)])), (b 1, .inl (G 0, 144, .inl (fun y9 => iv (LL (kS cs) y9)))), (b 2, .inl (G 0, 64, .inl (fun y9 => iv (RR (kS cs) y9)))), (b 3, .inl (G 0, 48, .inl (fun y9 => iv (PP (kP cs) y9)))), (b 4, .inl (G 0, 5, .inl (fun y9 => iv (kT cs y9)))), (b 5, .inl (G 0, 1, .inl (fun y9 => iv (kk (kd cs) y9))))]) (wr := []) (by decide) rfl rfl rfl
                          have hP := wP_perm hP hq
                          have hD := wD_perm hD hq
                          have hP : va_P D vwCl ([(b 0, .inr (3, [.int (iv 0), .int (iv (kn cs : Int)), .int (iv (kp cs : Int)), .int (iv (km cs)), .ref (b 1), .ref (b 2), .ref (b 3), .ref (b 4), .ref (b 5)])), (b 1, .inl (G 0, 144, .inl (fun y9 => iv (LL (kS cs) y9)))), (b 2, .inl (G 0, 64, .inl (fun y9 => iv (RR (kS cs) y9)))), (b 3, .inl (G 0, 48, .inl (fun y9 => iv (PP (kP cs) y9)))), (b 4, .inl (G 0, 5, .inl (fun y9 => iv (kT cs y9)))), (b 5, .inl (G 0, 1, .inl (fun y9 => iv (kk (kd cs) y9))))]) H := hP
                          have hD : va_D A ([(b 0, .inr (3, [.int (iv 0), .int (iv (kn cs : Int)), .int (iv (kp cs : Int)), .int (iv (km cs)), .ref (b 1), .ref (b 2), .ref (b 3), .ref (b 4), .ref (b 5)])), (b 1, .inl (G 0, 144, .inl (fun y9 => iv (LL (kS cs) y9)))), (b 2, .inl (G 0, 64, .inl (fun y9 => iv (RR (kS cs) y9)))), (b 3, .inl (G 0, 48, .inl (fun y9 => iv (PP (kP cs) y9)))), (b 4, .inl (G 0, 5, .inl (fun y9 => iv (kT cs y9)))), (b 5, .inl (G 0, 1, .inl (fun y9 => iv (kk (kd cs) y9))))]) := hD
                          exact ih82 (t + 1) ((d4 * (31 : Int64)) + (((iv (roomv (kS cs y) t))).toInt64)) (by omega) (by omega) (by rw [ed4]; rfl) _ _ hP hD hS _ (lv_sub hl [2, 1, 3, 0] rfl)
                    exact K82 9 0 d3 (by omega) (by omega) rfl _ _ hP hD hS _ (lv_sub hl [1, 2, 3, 0] rfl)
              exact K71 (kn cs + 1) 0 d2 (by omega) (by omega) (by rw [ed2, show f = 6 * kp cs by omega, dg_poses]; rfl) _ _ hP hD hS _ (lv_sub hl [1, 2, 0] rfl)
            · skip
              refine lv_lload_n hx hb dX3_digest_49 rfl (lv_at hl 1 rfl) ?_
              refine lv_ldc2 hx hb hown (hts (.constantLong RX3 131 (31)) (by decide +kernel)) dX3_digest_50 ?_
              refine lv_lmul hx hb dX3_digest_53 ?_
              refine lv_aload_n hx hb dX3_digest_54 rfl (lv_at hl 0 rfl) ?_
              refine va_get (D := D) (ci := 3) (v := .ref (b 3)) (C := RX3) (T := TX3) (N := 9) hx hb hts in_X3 hown hK hP 0 rfl rfl 6 (by decide) lk20 (fun _ h9 => h9) rfl dX3_digest_55 ?_
              refine lv_iload_n hx hb dX3_digest_58 rfl (lv_at hl 2 rfl) ?_
              refine r_iald (F := PP (kP cs)) hx hb hK hP 3 0 rfl rfl f (by omega) (by omega) (by decide) dX3_digest_59 ?_
              refine lv_i2l (v := ((iv (PP (kP cs) f))).toInt64) hx hb dX3_digest_60 rfl ?_
              refine lv_ladd hx hb dX3_digest_61 ?_
              refine lv_lstore_n (lv' := [(1, .long ((d2 * (31 : Int64)) + (((iv (PP (kP cs) f))).toInt64))), (0, .ref (b 0)), (3, .int (iv (f : Int)))]) hx hb dX3_digest_62 rfl hl (by decide) rfl (fun ls hl => ?_)
              refine r_iinc (k := 2) (lv' := [(3, .int (iv ((f : Int) + 1))), (1, .long ((d2 * (31 : Int64)) + (((iv (PP (kP cs) f))).toInt64))), (0, .ref (b 0))]) hx hb dX3_digest_63 hl rfl (by decide) rfl (fun ls hl => ?_)
              refine r_goto hx hb 38 dX3_digest_66 (by decide) ?_
              exact ih38 (f + 1) ((d2 * (31 : Int64)) + (((iv (PP (kP cs) f))).toInt64)) (by omega) (by omega) (by rw [ed2]; rfl) _ _ hP hD hS _ (lv_sub hl [2, 1, 0] rfl)
        exact K38 (6 * kp cs + 1) 0 d1 (by omega) (by omega) (by rw [ed1, show i = 13 by omega]; rfl) _ _ hP hD hS _ (lv_sub hl [1, 2, 0] rfl)
      · skip
        refine lv_lload_n hx hb dX3_digest_17 rfl (lv_at hl 1 rfl) ?_
        refine lv_ldc2 hx hb hown (hts (.constantLong RX3 131 (31)) (by decide +kernel)) dX3_digest_18 ?_
        refine lv_lmul hx hb dX3_digest_21 ?_
        refine lv_aload_n hx hb dX3_digest_22 rfl (lv_at hl 0 rfl) ?_
        refine lv_iload_n hx hb dX3_digest_23 rfl (lv_at hl 2 rfl) ?_
        have hp := wsp ([(b 0, .inr (3, [.int (iv 0), .int (iv (kn cs : Int)), .int (iv (kp cs : Int)), .int (iv (km cs)), .ref (b 1), .ref (b 2), .ref (b 3), .ref (b 4), .ref (b 5)])), (b 1, .inl (G 0, 144, .inl (fun y9 => iv (LL (kS cs) y9)))), (b 2, .inl (G 0, 64, .inl (fun y9 => iv (RR (kS cs) y9)))), (b 3, .inl (G 0, 48, .inl (fun y9 => iv (PP (kP cs) y9)))), (b 4, .inl (G 0, 5, .inl (fun y9 => iv (kT cs y9)))), (b 5, .inl (G 0, 1, .inl (fun y9 => iv (kk (kd cs) y9))))]) ([]) 6 (is := [0, 1, 2, 3, 4, 5]) (js := []) (wc := wMod G b 0 cs) (wr := []) (by decide) rfl rfl rfl
        skip
        refine k_int (g_V (As := [.int (iv (i : Int))]) (rest := [.long (d1 * (31 : Int64))]) (q0 := 0) (ci := 3) ⟨hx, hb, hml, hown, hts⟩ (c_X3_counted l D G b 0 cs hok (i : Int) (by omega)) (cwV 1 hts gX3_digest_X3_counted rfl rfl rfl (by decide +kernel) ⟨Nat.le_of_ble_eq_true rfl, Nat.le_of_ble_eq_true rfl⟩) hK hP hD hp rfl rfl rfl rfl hl.1 rfl (Nat.le_of_ble_eq_true rfl) dX3_digest_24 ⟨by decide, by decide⟩) hP hD hS hA hp (fun v u H locs hw hP hD hS => ?_)
        obtain ⟨hv, hu⟩ := hw
        replace hv : v = (iv (countV cs (i : Int))) := hv
        subst hv
        subst hu
        have hP : va_P D vwCl ([(b 0, .inr (3, [.int (iv 0), .int (iv (kn cs : Int)), .int (iv (kp cs : Int)), .int (iv (km cs)), .ref (b 1), .ref (b 2), .ref (b 3), .ref (b 4), .ref (b 5)])), (b 1, .inl (G 0, 144, .inl (fun y9 => iv (LL (kS cs) y9)))), (b 2, .inl (G 0, 64, .inl (fun y9 => iv (RR (kS cs) y9)))), (b 3, .inl (G 0, 48, .inl (fun y9 => iv (PP (kP cs) y9)))), (b 4, .inl (G 0, 5, .inl (fun y9 => iv (kT cs y9)))), (b 5, .inl (G 0, 1, .inl (fun y9 => iv (kk (kd cs) y9))))]) H := hP
        have hD : va_D A ([(b 0, .inr (3, [.int (iv 0), .int (iv (kn cs : Int)), .int (iv (kp cs : Int)), .int (iv (km cs)), .ref (b 1), .ref (b 2), .ref (b 3), .ref (b 4), .ref (b 5)])), (b 1, .inl (G 0, 144, .inl (fun y9 => iv (LL (kS cs) y9)))), (b 2, .inl (G 0, 64, .inl (fun y9 => iv (RR (kS cs) y9)))), (b 3, .inl (G 0, 48, .inl (fun y9 => iv (PP (kP cs) y9)))), (b 4, .inl (G 0, 5, .inl (fun y9 => iv (kT cs y9)))), (b 5, .inl (G 0, 1, .inl (fun y9 => iv (kk (kd cs) y9))))]) := hD
        refine lv_i2l (v := ((iv (countV cs (i : Int)))).toInt64) hx hb dX3_digest_27 rfl ?_
        refine lv_ladd hx hb dX3_digest_28 ?_
        refine lv_lstore_n (lv' := [(1, .long ((d1 * (31 : Int64)) + (((iv (countV cs (i : Int)))).toInt64))), (0, .ref (b 0)), (3, .int (iv (i : Int)))]) hx hb dX3_digest_29 rfl hl (by decide) rfl (fun ls hl => ?_)
        refine r_iinc (k := 2) (lv' := [(3, .int (iv ((i : Int) + 1))), (1, .long ((d1 * (31 : Int64)) + (((iv (countV cs (i : Int)))).toInt64))), (0, .ref (b 0))]) hx hb dX3_digest_30 hl rfl (by decide) rfl (fun ls hl => ?_)
        refine r_goto hx hb 11 dX3_digest_33 (by decide) ?_
        exact ih11 (i + 1) ((d1 * (31 : Int64)) + (((iv (countV cs (i : Int)))).toInt64)) (by omega) (by omega) (by rw [ed1]; rfl) _ _ hP hD hS _ (lv_sub hl [2, 1, 0] rfl)
  exact K11 14 0 1063 (by omega) (by omega) rfl _ _ hP hD hS _ (lv_sub hl [2, 1, 0] rfl)
set_option maxHeartbeats 4000000 in
set_option maxRecDepth 100000 in
theorem c_X3_init (l : Launch) (D : va_G) (G : Nat → ClassId) (h : Nat)  : MtG l yX3_init wsX3_init 1 40 5 262 D (TY G) [.ref h] ([(h, .inr (3, [.int (iv 0), .int (iv 0), .int (iv 0), .int (iv 0), .null, .null, .null, .null, .null]))]) (qV D (fun u => ∃ b : Nat → Nat, b 0 = h ∧ u = wMod G b 0 c0)) := by
  refine MtG.mk (cc := cX3_init) (maxL := 1) (ret := none) (by decide) rfl (Nat.le_of_ble_eq_true rfl) ?_
  intro p e s m below meth c A ls hx hb hr hlk hml hown hin hts hK hA hP hD hS hl
  replace hown : s.vm.findClass RX3 = some m.cls := hown
  have hl : lv_has ls 1 [(0, .ref h)] := hl
  skip
  have hP : va_P D vwCl ([(h, .inr (3, [.int (iv 0), .int (iv 0), .int (iv 0), .int (iv 0), .null, .null, .null, .null, .null]))]) s.heap := hP
  have hD : va_D A ([(h, .inr (3, [.int (iv 0), .int (iv 0), .int (iv 0), .int (iv 0), .null, .null, .null, .null, .null]))]) := hD
  have lk7 := hts (.fieldLink RX3 7 "DollCitadelModel" "moths" "I") (by decide +kernel)
  have in_X3 : ∀ w ∈ u_ws RX3 TX3 9, w ∈ wsX3_init := by decide +kernel
  have lk13 := hts (.fieldLink RX3 13 "DollCitadelModel" "limbs" "[I") (by decide +kernel)
  have lk17 := hts (.fieldLink RX3 17 "DollCitadelModel" "rooms" "[I") (by decide +kernel)
  have lk20 := hts (.fieldLink RX3 20 "DollCitadelModel" "told" "[I") (by decide +kernel)
  have lk23 := hts (.fieldLink RX3 23 "DollCitadelModel" "store" "[I") (by decide +kernel)
  have lk26 := hts (.fieldLink RX3 26 "DollCitadelModel" "day" "[I") (by decide +kernel)
  refine lv_aload_n hx hb dX3_init_0 rfl (lv_at hl 0 rfl) ?_
  refine W.objInit hx hb hown (hts (.methodLink RX3 1 objectInit) (by decide +kernel)) (hts (.instanceMethod objectInit) (by decide +kernel)) (hts (.code objectInit ⟨#[0xb1]⟩ 1 none) (by decide +kernel)) rfl (hl.1.trans hml.symm) rfl dX3_init_1 (Nat.le_of_ble_eq_true rfl) (Nat.le_of_ble_eq_true rfl) ?_
  refine W.eq (g2 := F0 m 4 ls []) rfl ?_
  refine lv_aload_n hx hb dX3_init_4 rfl (lv_at hl 0 rfl) ?_
  refine r_const hx hb dX3_init_5 ?_
  refine va_put (D := D) (ci := 3) (v := .int (iv 1)) (ty := .int) (C := RX3) (T := TX3) (N := 9) hx hb hts in_X3 tyX3 tyX3_ok nmX3 hown hK hP hD hS 0 rfl rfl 3 (by decide) lk7 (fun _ h9 => h9) rfl (by decide +kernel) rfl rfl (Nat.le_of_ble_eq_true rfl) dX3_init_6 (fun H locs hP hD hS => ?_)
  have hP : va_P D vwCl ([(h, .inr (3, [.int (iv 0), .int (iv 0), .int (iv 0), .int (iv 1), .null, .null, .null, .null, .null]))]) H := hP
  have hD : va_D A ([(h, .inr (3, [.int (iv 0), .int (iv 0), .int (iv 0), .int (iv 1), .null, .null, .null, .null, .null]))]) := hD
  refine lv_aload_n hx hb dX3_init_9 rfl (lv_at hl 0 rfl) ?_
  refine lv_sipush (v := iv 144) hx hb dX3_init_10 (by decide) ?_
  refine r_newI hx hb (hts (.arrayClass .int) (by decide +kernel)) hK hP hD hS hA 144 (by omega) (by omega) (by decide) (by decide) dX3_init_13 (fun q_1 H hP hD hS => ?_)
  have hP : va_P D vwCl ([(h, .inr (3, [.int (iv 0), .int (iv 0), .int (iv 0), .int (iv 1), .null, .null, .null, .null, .null])), (q_1, .inl (G 0, 144, .inl (fun y9 => iv (zz y9))))]) H := hP
  have hD : va_D A ([(h, .inr (3, [.int (iv 0), .int (iv 0), .int (iv 0), .int (iv 1), .null, .null, .null, .null, .null])), (q_1, .inl (G 0, 144, .inl (fun y9 => iv (zz y9))))]) := hD
  refine va_putF (D := D) (ci := 3) (v := .ref q_1) (ty := .array .int) (C := RX3) (T := TX3) (N := 9) hx hb hts in_X3 tyX3 tyX3_ok nmX3 hown hK hP hD hS 0 rfl rfl 4 (by decide) lk13 (fun _ h9 => h9) rfl hin rfl (by decide +kernel) rfl rfl (Nat.le_of_ble_eq_true rfl) dX3_init_15 (fun H locs hP hD hS => ?_)
  have hP : va_P D vwCl ([(h, .inr (3, [.int (iv 0), .int (iv 0), .int (iv 0), .int (iv 1), .ref q_1, .null, .null, .null, .null])), (q_1, .inl (G 0, 144, .inl (fun y9 => iv (zz y9))))]) H := hP
  have hD : va_D A ([(h, .inr (3, [.int (iv 0), .int (iv 0), .int (iv 0), .int (iv 1), .ref q_1, .null, .null, .null, .null])), (q_1, .inl (G 0, 144, .inl (fun y9 => iv (zz y9))))]) := hD
  refine lv_aload_n hx hb dX3_init_18 rfl (lv_at hl 0 rfl) ?_
  refine lv_bipush (v := iv 64) hx hb dX3_init_19 (by decide) ?_
  refine r_newI hx hb (hts (.arrayClass .int) (by decide +kernel)) hK hP hD hS hA 64 (by omega) (by omega) (by decide) (by decide) dX3_init_21 (fun q_2 H hP hD hS => ?_)
  have hP : va_P D vwCl ([(h, .inr (3, [.int (iv 0), .int (iv 0), .int (iv 0), .int (iv 1), .ref q_1, .null, .null, .null, .null])), (q_1, .inl (G 0, 144, .inl (fun y9 => iv (zz y9)))), (q_2, .inl (G 0, 64, .inl (fun y9 => iv (zz y9))))]) H := hP
  have hD : va_D A ([(h, .inr (3, [.int (iv 0), .int (iv 0), .int (iv 0), .int (iv 1), .ref q_1, .null, .null, .null, .null])), (q_1, .inl (G 0, 144, .inl (fun y9 => iv (zz y9)))), (q_2, .inl (G 0, 64, .inl (fun y9 => iv (zz y9))))]) := hD
  refine va_putF (D := D) (ci := 3) (v := .ref q_2) (ty := .array .int) (C := RX3) (T := TX3) (N := 9) hx hb hts in_X3 tyX3 tyX3_ok nmX3 hown hK hP hD hS 0 rfl rfl 5 (by decide) lk17 (fun _ h9 => h9) rfl hin rfl (by decide +kernel) rfl rfl (Nat.le_of_ble_eq_true rfl) dX3_init_23 (fun H locs hP hD hS => ?_)
  have hP : va_P D vwCl ([(h, .inr (3, [.int (iv 0), .int (iv 0), .int (iv 0), .int (iv 1), .ref q_1, .ref q_2, .null, .null, .null])), (q_1, .inl (G 0, 144, .inl (fun y9 => iv (zz y9)))), (q_2, .inl (G 0, 64, .inl (fun y9 => iv (zz y9))))]) H := hP
  have hD : va_D A ([(h, .inr (3, [.int (iv 0), .int (iv 0), .int (iv 0), .int (iv 1), .ref q_1, .ref q_2, .null, .null, .null])), (q_1, .inl (G 0, 144, .inl (fun y9 => iv (zz y9)))), (q_2, .inl (G 0, 64, .inl (fun y9 => iv (zz y9))))]) := hD
  refine lv_aload_n hx hb dX3_init_26 rfl (lv_at hl 0 rfl) ?_
  refine lv_bipush (v := iv 48) hx hb dX3_init_27 (by decide) ?_
  refine r_newI hx hb (hts (.arrayClass .int) (by decide +kernel)) hK hP hD hS hA 48 (by omega) (by omega) (by decide) (by decide) dX3_init_29 (fun q_3 H hP hD hS => ?_)
  have hP : va_P D vwCl ([(h, .inr (3, [.int (iv 0), .int (iv 0), .int (iv 0), .int (iv 1), .ref q_1, .ref q_2, .null, .null, .null])), (q_1, .inl (G 0, 144, .inl (fun y9 => iv (zz y9)))), (q_2, .inl (G 0, 64, .inl (fun y9 => iv (zz y9)))), (q_3, .inl (G 0, 48, .inl (fun y9 => iv (zz y9))))]) H := hP
  have hD : va_D A ([(h, .inr (3, [.int (iv 0), .int (iv 0), .int (iv 0), .int (iv 1), .ref q_1, .ref q_2, .null, .null, .null])), (q_1, .inl (G 0, 144, .inl (fun y9 => iv (zz y9)))), (q_2, .inl (G 0, 64, .inl (fun y9 => iv (zz y9)))), (q_3, .inl (G 0, 48, .inl (fun y9 => iv (zz y9))))]) := hD
  refine va_putF (D := D) (ci := 3) (v := .ref q_3) (ty := .array .int) (C := RX3) (T := TX3) (N := 9) hx hb hts in_X3 tyX3 tyX3_ok nmX3 hown hK hP hD hS 0 rfl rfl 6 (by decide) lk20 (fun _ h9 => h9) rfl hin rfl (by decide +kernel) rfl rfl (Nat.le_of_ble_eq_true rfl) dX3_init_31 (fun H locs hP hD hS => ?_)
  have hP : va_P D vwCl ([(h, .inr (3, [.int (iv 0), .int (iv 0), .int (iv 0), .int (iv 1), .ref q_1, .ref q_2, .ref q_3, .null, .null])), (q_1, .inl (G 0, 144, .inl (fun y9 => iv (zz y9)))), (q_2, .inl (G 0, 64, .inl (fun y9 => iv (zz y9)))), (q_3, .inl (G 0, 48, .inl (fun y9 => iv (zz y9))))]) H := hP
  have hD : va_D A ([(h, .inr (3, [.int (iv 0), .int (iv 0), .int (iv 0), .int (iv 1), .ref q_1, .ref q_2, .ref q_3, .null, .null])), (q_1, .inl (G 0, 144, .inl (fun y9 => iv (zz y9)))), (q_2, .inl (G 0, 64, .inl (fun y9 => iv (zz y9)))), (q_3, .inl (G 0, 48, .inl (fun y9 => iv (zz y9))))]) := hD
  refine lv_aload_n hx hb dX3_init_34 rfl (lv_at hl 0 rfl) ?_
  refine r_const hx hb dX3_init_35 ?_
  refine r_newI hx hb (hts (.arrayClass .int) (by decide +kernel)) hK hP hD hS hA 5 (by omega) (by omega) (by decide) (by decide) dX3_init_36 (fun q_4 H hP hD hS => ?_)
  have hP : va_P D vwCl ([(h, .inr (3, [.int (iv 0), .int (iv 0), .int (iv 0), .int (iv 1), .ref q_1, .ref q_2, .ref q_3, .null, .null])), (q_1, .inl (G 0, 144, .inl (fun y9 => iv (zz y9)))), (q_2, .inl (G 0, 64, .inl (fun y9 => iv (zz y9)))), (q_3, .inl (G 0, 48, .inl (fun y9 => iv (zz y9)))), (q_4, .inl (G 0, 5, .inl (fun y9 => iv (zz y9))))]) H := hP
  have hD : va_D A ([(h, .inr (3, [.int (iv 0), .int (iv 0), .int (iv 0), .int (iv 1), .ref q_1, .ref q_2, .ref q_3, .null, .null])), (q_1, .inl (G 0, 144, .inl (fun y9 => iv (zz y9)))), (q_2, .inl (G 0, 64, .inl (fun y9 => iv (zz y9)))), (q_3, .inl (G 0, 48, .inl (fun y9 => iv (zz y9)))), (q_4, .inl (G 0, 5, .inl (fun y9 => iv (zz y9))))]) := hD
  refine va_putF (D := D) (ci := 3) (v := .ref q_4) (ty := .array .int) (C := RX3) (T := TX3) (N := 9) hx hb hts in_X3 tyX3 tyX3_ok nmX3 hown hK hP hD hS 0 rfl rfl 7 (by decide) lk23 (fun _ h9 => h9) rfl hin rfl (by decide +kernel) rfl rfl (Nat.le_of_ble_eq_true rfl) dX3_init_38 (fun H locs hP hD hS => ?_)
  have hP : va_P D vwCl ([(h, .inr (3, [.int (iv 0), .int (iv 0), .int (iv 0), .int (iv 1), .ref q_1, .ref q_2, .ref q_3, .ref q_4, .null])), (q_1, .inl (G 0, 144, .inl (fun y9 => iv (zz y9)))), (q_2, .inl (G 0, 64, .inl (fun y9 => iv (zz y9)))), (q_3, .inl (G 0, 48, .inl (fun y9 => iv (zz y9)))), (q_4, .inl (G 0, 5, .inl (fun y9 => iv (zz y9))))]) H := hP
  have hD : va_D A ([(h, .inr (3, [.int (iv 0), .int (iv 0), .int (iv 0), .int (iv 1), .ref q_1, .ref q_2, .ref q_3, .ref q_4, .null])), (q_1, .inl (G 0, 144, .inl (fun y9 => iv (zz y9)))), (q_2, .inl (G 0, 64, .inl (fun y9 => iv (zz y9)))), (q_3, .inl (G 0, 48, .inl (fun y9 => iv (zz y9)))), (q_4, .inl (G 0, 5, .inl (fun y9 => iv (zz y9))))]) := hD
  refine lv_aload_n hx hb dX3_init_41 rfl (lv_at hl 0 rfl) ?_
  refine r_const hx hb dX3_init_42 ?_
  refine r_newI hx hb (hts (.arrayClass .int) (by decide +kernel)) hK hP hD hS hA 1 (by omega) (by omega) (by decide) (by decide) dX3_init_43 (fun q_5 H hP hD hS => ?_)
  have hP : va_P D vwCl ([(h, .inr (3, [.int (iv 0), .int (iv 0), .int (iv 0), .int (iv 1), .ref q_1, .ref q_2, .ref q_3, .ref q_4, .null])), (q_1, .inl (G 0, 144, .inl (fun y9 => iv (zz y9)))), (q_2, .inl (G 0, 64, .inl (fun y9 => iv (zz y9)))), (q_3, .inl (G 0, 48, .inl (fun y9 => iv (zz y9)))), (q_4, .inl (G 0, 5, .inl (fun y9 => iv (zz y9)))), (q_5, .inl (G 0, 1, .inl (fun y9 => iv (zz y9))))]) H := hP
  have hD : va_D A ([(h, .inr (3, [.int (iv 0), .int (iv 0), .int (iv 0), .int (iv 1), .ref q_1, .ref q_2, .ref q_3, .ref q_4, .null])), (q_1, .inl (G 0, 144, .inl (fun y9 => iv (zz y9)))), (q_2, .inl (G 0, 64, .inl (fun y9 => iv (zz y9)))), (q_3, .inl (G 0, 48, .inl (fun y9 => iv (zz y9)))), (q_4, .inl (G 0, 5, .inl (fun y9 => iv (zz y9)))), (q_5, .inl (G 0, 1, .inl (fun y9 => iv (zz y9))))]) := hD
  refine lv_dup hx hb dX3_init_45 rfl ?_
  refine r_const hx hb dX3_init_46 ?_
  refine r_const hx hb dX3_init_47 ?_
  refine r_iast (F := zz) hx hb hK hP hD hS 5 0 rfl rfl 0 (by omega) (by omega) (by decide) dX3_init_48 (fun H locs hP hD hS => ?_)
  have hP : va_P D vwCl ([(h, .inr (3, [.int (iv 0), .int (iv 0), .int (iv 0), .int (iv 1), .ref q_1, .ref q_2, .ref q_3, .ref q_4, .null])), (q_1, .inl (G 0, 144, .inl (fun y9 => iv (zz y9)))), (q_2, .inl (G 0, 64, .inl (fun y9 => iv (zz y9)))), (q_3, .inl (G 0, 48, .inl (fun y9 => iv (zz y9)))), (q_4, .inl (G 0, 5, .inl (fun y9 => iv (zz y9)))), (q_5, .inl (G 0, 1, .inl (fun y9 => iv (updI zz 0 0 y9))))]) H := hP
  have hD : va_D A ([(h, .inr (3, [.int (iv 0), .int (iv 0), .int (iv 0), .int (iv 1), .ref q_1, .ref q_2, .ref q_3, .ref q_4, .null])), (q_1, .inl (G 0, 144, .inl (fun y9 => iv (zz y9)))), (q_2, .inl (G 0, 64, .inl (fun y9 => iv (zz y9)))), (q_3, .inl (G 0, 48, .inl (fun y9 => iv (zz y9)))), (q_4, .inl (G 0, 5, .inl (fun y9 => iv (zz y9)))), (q_5, .inl (G 0, 1, .inl (fun y9 => iv (updI zz 0 0 y9))))]) := hD
  refine va_putF (D := D) (ci := 3) (v := .ref q_5) (ty := .array .int) (C := RX3) (T := TX3) (N := 9) hx hb hts in_X3 tyX3 tyX3_ok nmX3 hown hK hP hD hS 0 rfl rfl 8 (by decide) lk26 (fun _ h9 => h9) rfl hin rfl (by decide +kernel) rfl rfl (Nat.le_of_ble_eq_true rfl) dX3_init_49 (fun H locs hP hD hS => ?_)
  have hP : va_P D vwCl ([(h, .inr (3, [.int (iv 0), .int (iv 0), .int (iv 0), .int (iv 1), .ref q_1, .ref q_2, .ref q_3, .ref q_4, .ref q_5])), (q_1, .inl (G 0, 144, .inl (fun y9 => iv (zz y9)))), (q_2, .inl (G 0, 64, .inl (fun y9 => iv (zz y9)))), (q_3, .inl (G 0, 48, .inl (fun y9 => iv (zz y9)))), (q_4, .inl (G 0, 5, .inl (fun y9 => iv (zz y9)))), (q_5, .inl (G 0, 1, .inl (fun y9 => iv (updI zz 0 0 y9))))]) H := hP
  have hD : va_D A ([(h, .inr (3, [.int (iv 0), .int (iv 0), .int (iv 0), .int (iv 1), .ref q_1, .ref q_2, .ref q_3, .ref q_4, .ref q_5])), (q_1, .inl (G 0, 144, .inl (fun y9 => iv (zz y9)))), (q_2, .inl (G 0, 64, .inl (fun y9 => iv (zz y9)))), (q_3, .inl (G 0, 48, .inl (fun y9 => iv (zz y9)))), (q_4, .inl (G 0, 5, .inl (fun y9 => iv (zz y9)))), (q_5, .inl (G 0, 1, .inl (fun y9 => iv (updI zz 0 0 y9))))]) := hD
  have hP := wP_say 1 (LL (kS c0)) hP rfl (fun j hj => (congrFun LL_0 j).symm)
  have hD := wD_say 1 (.inl (G 0, 144, .inl (fun j => iv ((LL (kS c0)) j)))) hD rfl
  have hP := wP_say 2 (RR (kS c0)) hP rfl (fun j hj => (congrFun RR_0 j).symm)
  have hD := wD_say 2 (.inl (G 0, 64, .inl (fun j => iv ((RR (kS c0)) j)))) hD rfl
  have hP := wP_say 3 (PP (kP c0)) hP rfl (fun j hj => rfl)
  have hD := wD_say 3 (.inl (G 0, 48, .inl (fun j => iv ((PP (kP c0)) j)))) hD rfl
  have hP := wP_say 4 (kT c0) hP rfl (fun j hj => rfl)
  have hD := wD_say 4 (.inl (G 0, 5, .inl (fun j => iv ((kT c0) j)))) hD rfl
  have hP := wP_say 5 (kk (kd c0)) hP rfl (fun j hj => by obtain rfl : j = 0 := (by omega); exact updI_s _ _ _)
  have hD := wD_say 5 (.inl (G 0, 1, .inl (fun j => iv ((kk (kd c0)) j)))) hD rfl
  exact e_void hx hb hr hlk dX3_init_52 hS hP hD (by decide) (by decide) (⟨fun k => if k = 0 then h else if k = 1 then q_1 else if k = 2 then q_2 else if k = 3 then q_3 else if k = 4 then q_4 else q_5, rfl, rfl⟩)
