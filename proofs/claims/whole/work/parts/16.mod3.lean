set_option maxHeartbeats 4000000 in
set_option maxRecDepth 100000 in
theorem c_X3_dayOf (l : Launch) (D : va_G) (G : Nat → ClassId) (b : Nat → Nat) (th n np mo : Int) (S : Nat → DS) (d : Nat) (hd : d < 8) (ds : DS) (hSd : S d = ds) (hok : okD ds) (day : Int) (hdy : 0 ≤ day ∧ day < 2000000000) (hmo : 0 ≤ mo ∧ mo ≤ 3)  : MtG l yX3_dayOf wsX3_dayOf 2 80 0 0 D (TY G) [.ref (b 0), .int (iv (d : Int))] ([wM0 b th n np mo, wMl G b (LL (S)), wMr G b (RR (S)), wMd G b (kk day)]) (qI D (fun r u => r = iv (has ds - has (day1 day mo ds)) ∧ u = [wM0 b th n np mo, wMl G b (LL (updS S d (day1 day mo ds))), wMr G b (RR (updS S d (day1 day mo ds))), wMd G b (kk day)])) := by
  refine MtG.mk (cc := cX3_dayOf) (maxL := 4) (ret := some .int) (by decide) rfl (Nat.le_of_ble_eq_true rfl) ?_
  intro p e s m below meth c A ls hx hb hr hlk hml hown hin hts hK hA hP hD hS hl
  replace hown : s.vm.findClass RX3 = some m.cls := hown
  have hl : lv_has ls 4 [(0, .ref (b 0)), (1, .int (iv (d : Int)))] := hl
  skip
  have hP : va_P D vwCl ([(b 0, .inr (3, [.int (iv th), .int (iv n), .int (iv np), .int (iv mo), .ref (b 1), .ref (b 2), .ref (b 3), .ref (b 4), .ref (b 5)])), (b 1, .inl (G 0, 144, .inl (fun y9 => iv (LL S y9)))), (b 2, .inl (G 0, 64, .inl (fun y9 => iv (RR S y9)))), (b 5, .inl (G 0, 1, .inl (fun y9 => iv (kk day y9))))]) s.heap := hP
  have hD : va_D A ([(b 0, .inr (3, [.int (iv th), .int (iv n), .int (iv np), .int (iv mo), .ref (b 1), .ref (b 2), .ref (b 3), .ref (b 4), .ref (b 5)])), (b 1, .inl (G 0, 144, .inl (fun y9 => iv (LL S y9)))), (b 2, .inl (G 0, 64, .inl (fun y9 => iv (RR S y9)))), (b 5, .inl (G 0, 1, .inl (fun y9 => iv (kk day y9))))]) := hD
  have lk7 := hts (.fieldLink RX3 7 "DollCitadelModel" "moths" "I") (by decide +kernel)
  have in_X3 : ∀ w ∈ u_ws RX3 TX3 9, w ∈ wsX3_dayOf := by decide +kernel
  have lk26 := hts (.fieldLink RX3 26 "DollCitadelModel" "day" "[I") (by decide +kernel)
  have lk13 := hts (.fieldLink RX3 13 "DollCitadelModel" "limbs" "[I") (by decide +kernel)
  rw [show LL S = LL (updS S d ds) by rw [updS_id S d hSd], show RR S = RR (updS S d ds) by rw [updS_id S d hSd]] at hP hD
  obtain ⟨-, -, og, ov, on, ovn, ovn2⟩ := id hok
  have J174 : ∀ (st : DS) (x : Int), st = (if day % 3 = 0 then dryN 6 (loosen (eatW mo ds)) else loosen (eatW mo ds)) → x = has ds - has st → ∀ (H : Heap) (locs : List Loc), va_P D vwCl ([(b 0, .inr (3, [.int (iv th), .int (iv n), .int (iv np), .int (iv mo), .ref (b 1), .ref (b 2), .ref (b 3), .ref (b 4), .ref (b 5)])), (b 1, .inl (G 0, 144, .inl (fun y9 => iv (LL (updS S d st) y9)))), (b 2, .inl (G 0, 64, .inl (fun y9 => iv (RR (updS S d st) y9)))), (b 5, .inl (G 0, 1, .inl (fun y9 => iv (kk day y9))))]) H → va_D A ([(b 0, .inr (3, [.int (iv th), .int (iv n), .int (iv np), .int (iv mo), .ref (b 1), .ref (b 2), .ref (b 3), .ref (b 4), .ref (b 5)])), (b 1, .inl (G 0, 144, .inl (fun y9 => iv (LL (updS S d st) y9)))), (b 2, .inl (G 0, 64, .inl (fun y9 => iv (RR (updS S d st) y9)))), (b 5, .inl (G 0, 1, .inl (fun y9 => iv (kk day y9))))]) → va_S A s.heap H locs → ∀ (ls : Array Slot), lv_has ls 4 [(0, .ref (b 0)), (1, .int (iv (d : Int))), (2, .int (iv x))] → W p l e (rmOf 2 80 0 0) s m ([.ref (b 0), .int (iv (d : Int))] : List Value).toArray below meth c H locs 0 0 (MQ below (qI D (fun r u => r = iv (has ds - has (day1 day mo ds)) ∧ u = [wM0 b th n np mo, wMl G b (LL (updS S d (day1 day mo ds))), wMr G b (RR (updS S d (day1 day mo ds))), wMd G b (kk day)]) A) ([.ref (b 0), .int (iv (d : Int))] : List Value).toArray s 0 0 A) (F0 m 174 ls []) := by
    intro st x es ex H locs hP hD hS ls hl
    have oks : okD st := by rw [es]; split; (exact dryN_ok (loosen_ok (eatW_ok hmo hok)) 6 (by omega)); (exact loosen_ok (eatW_ok hmo hok))
    refine r_const hx hb dX3_dayOf_174 ?_
    refine lv_istore_n (lv' := [(3, .int (iv 0)), (0, .ref (b 0)), (1, .int (iv (d : Int))), (2, .int (iv x))]) hx hb dX3_dayOf_175 rfl hl (by decide) rfl (fun ls hl => ?_)
    have K176 : ∀ (fu i : Nat) (st2 : DS), i ≤ 2 → 2 < i + fu → st2 = gatN i st → ∀ (H : Heap) (locs : List Loc), va_P D vwCl ([(b 0, .inr (3, [.int (iv th), .int (iv n), .int (iv np), .int (iv mo), .ref (b 1), .ref (b 2), .ref (b 3), .ref (b 4), .ref (b 5)])), (b 1, .inl (G 0, 144, .inl (fun y9 => iv (LL (updS S d st2) y9)))), (b 2, .inl (G 0, 64, .inl (fun y9 => iv (RR (updS S d st2) y9)))), (b 5, .inl (G 0, 1, .inl (fun y9 => iv (kk day y9))))]) H → va_D A ([(b 0, .inr (3, [.int (iv th), .int (iv n), .int (iv np), .int (iv mo), .ref (b 1), .ref (b 2), .ref (b 3), .ref (b 4), .ref (b 5)])), (b 1, .inl (G 0, 144, .inl (fun y9 => iv (LL (updS S d st2) y9)))), (b 2, .inl (G 0, 64, .inl (fun y9 => iv (RR (updS S d st2) y9)))), (b 5, .inl (G 0, 1, .inl (fun y9 => iv (kk day y9))))]) → va_S A s.heap H locs → ∀ (ls : Array Slot), lv_has ls 4 [(0, .ref (b 0)), (1, .int (iv (d : Int))), (2, .int (iv x)), (3, .int (iv (i : Int)))] → W p l e (rmOf 2 80 0 0) s m ([.ref (b 0), .int (iv (d : Int))] : List Value).toArray below meth c H locs 0 0 (MQ below (qI D (fun r u => r = iv (has ds - has (day1 day mo ds)) ∧ u = [wM0 b th n np mo, wMl G b (LL (updS S d (day1 day mo ds))), wMr G b (RR (updS S d (day1 day mo ds))), wMd G b (kk day)]) A) ([.ref (b 0), .int (iv (d : Int))] : List Value).toArray s 0 0 A) (F0 m 176 ls []) := by
      intro fu
      induction fu with
      | zero => intro i st2 h1 h2; exact absurd h2 (by omega)
      | succ fu ih176 =>
        intro i st2 hi_176 hn_176 es2 H locs hP hD hS ls hl
        have ok2 : okD st2 := by rw [es2]; exact gatN_ok oks i (by omega)
        refine lv_iload_n hx hb dX3_dayOf_176 rfl (lv_at hl 3 rfl) ?_
        refine r_const hx hb dX3_dayOf_177 ?_
        refine r_icmp_ge hx hb 222 dX3_dayOf_178 (by decide) (by omega) (by omega) (fun c_178 => ?_) (fun c_178 => ?_)
        · skip
          refine lv_iload_n hx hb dX3_dayOf_222 rfl (lv_at hl 2 rfl) ?_
          obtain rfl : i = 2 := by omega
          have ed : st2 = day1 day mo ds := by rw [es2, es]; rfl
          rw [ed] at hP hD
          exact e_int hx hb hr hlk dX3_dayOf_223 hS hP hD (by decide) (by decide) (⟨by rw [ex, ← ed, es2, has_gat], rfl⟩)
        · skip
          have rO := okD_O ok2 i (by omega)
          have rU := okD_U ok2 i (by omega)
          refine lv_aload_n hx hb dX3_dayOf_181 rfl (lv_at hl 0 rfl) ?_
          refine lv_iload_n hx hb dX3_dayOf_182 rfl (lv_at hl 1 rfl) ?_
          refine r_const hx hb dX3_dayOf_183 ?_
          refine lv_iload_n hx hb dX3_dayOf_184 rfl (lv_at hl 3 rfl) ?_
          refine r_add hx hb dX3_dayOf_185 ?_
          have hp := wsp ([(b 0, .inr (3, [.int (iv th), .int (iv n), .int (iv np), .int (iv mo), .ref (b 1), .ref (b 2), .ref (b 3), .ref (b 4), .ref (b 5)])), (b 1, .inl (G 0, 144, .inl (fun y9 => iv (LL (updS S d st2) y9)))), (b 2, .inl (G 0, 64, .inl (fun y9 => iv (RR (updS S d st2) y9)))), (b 5, .inl (G 0, 1, .inl (fun y9 => iv (kk day y9))))]) ([]) 4 (is := [0, 2]) (js := [1, 3]) (wc := [wM0 b th n np mo, wMr G b (RR (updS S d st2))]) (wr := [(b 1, .inl (G 0, 144, .inl (fun y9 => iv (LL (updS S d st2) y9)))), (b 5, .inl (G 0, 1, .inl (fun y9 => iv (kk day y9))))]) (by decide) rfl rfl rfl
          skip
          refine k_int (g_V (As := [.int (iv (d : Int)), .int (iv (0 + (i : Int)))]) (rest := []) (q0 := 0) (ci := 3) ⟨hx, hb, hml, hown, hts⟩ (c_X3_ro l D G b th n np mo (RR (updS S d st2)) d (0 + i) (by omega) (by omega) (dO st2 i) (by rw [RR_at _ (by omega), updS_s, room_O (by omega)])) (cwV 2 hts gX3_dayOf_X3_ro rfl rfl rfl (by decide +kernel) ⟨Nat.le_of_ble_eq_true rfl, Nat.le_of_ble_eq_true rfl⟩) hK hP hD hp rfl rfl rfl rfl hl.1 rfl (Nat.le_of_ble_eq_true rfl) dX3_dayOf_186 ⟨by decide, by decide⟩) hP hD hS hA hp (fun v u H locs hw hP hD hS => ?_)
          obtain ⟨hv, hu⟩ := hw
          replace hv : v = (iv (dO st2 i)) := hv
          subst hv
          subst hu
          have hP : va_P D vwCl ([(b 0, .inr (3, [.int (iv th), .int (iv n), .int (iv np), .int (iv mo), .ref (b 1), .ref (b 2), .ref (b 3), .ref (b 4), .ref (b 5)])), (b 2, .inl (G 0, 64, .inl (fun y9 => iv (RR (updS S d st2) y9)))), (b 1, .inl (G 0, 144, .inl (fun y9 => iv (LL (updS S d st2) y9)))), (b 5, .inl (G 0, 1, .inl (fun y9 => iv (kk day y9))))]) H := hP
          have hD : va_D A ([(b 0, .inr (3, [.int (iv th), .int (iv n), .int (iv np), .int (iv mo), .ref (b 1), .ref (b 2), .ref (b 3), .ref (b 4), .ref (b 5)])), (b 2, .inl (G 0, 64, .inl (fun y9 => iv (RR (updS S d st2) y9)))), (b 1, .inl (G 0, 144, .inl (fun y9 => iv (LL (updS S d st2) y9)))), (b 5, .inl (G 0, 1, .inl (fun y9 => iv (kk day y9))))]) := hD
          refine r_const hx hb dX3_dayOf_189 ?_
          refine r_icmp_ne hx hb 216 dX3_dayOf_190 (by decide) (by omega) (by omega) (fun c_190 => ?_) (fun c_190 => ?_)
          · skip
            refine r_iinc (k := 3) (lv' := [(3, .int (iv ((i : Int) + 1))), (0, .ref (b 0)), (1, .int (iv (d : Int))), (2, .int (iv x))]) hx hb dX3_dayOf_216 hl rfl (by decide) rfl (fun ls hl => ?_)
            refine r_goto hx hb 176 dX3_dayOf_219 (by decide) ?_
            have hq := wsp ([(b 0, .inr (3, [.int (iv th), .int (iv n), .int (iv np), .int (iv mo), .ref (b 1), .ref (b 2), .ref (b 3), .ref (b 4), .ref (b 5)])), (b 2, .inl (G 0, 64, .inl (fun y9 => iv (RR (updS S d st2) y9)))), (b 1, .inl (G 0, 144, .inl (fun y9 => iv (LL (updS S d st2) y9)))), (b 5, .inl (G 0, 1, .inl (fun y9 => iv (kk day y9))))]) ([]) 4 (is := [0, 2, 1, 3]) (js := []) (wc := [(b 0, .inr (3, [.int (iv th), .int (iv n), .int (iv np), .int (iv mo), .ref (b 1), .ref (b 2), .ref (b 3), .ref (b 4), .ref (b 5)])), (b 1, .inl (G 0, 144, .inl (fun y9 => iv (LL (updS S d st2) y9)))), (b 2, .inl (G 0, 64, .inl (fun y9 => iv (RR (updS S d st2) y9)))), (b 5, .inl (G 0, 1, .inl (fun y9 => iv (kk day y9))))]) (wr := []) (by decide) rfl rfl rfl
            have hP := wP_perm hP hq
            have hD := wD_perm hD hq
            have hP : va_P D vwCl ([(b 0, .inr (3, [.int (iv th), .int (iv n), .int (iv np), .int (iv mo), .ref (b 1), .ref (b 2), .ref (b 3), .ref (b 4), .ref (b 5)])), (b 1, .inl (G 0, 144, .inl (fun y9 => iv (LL (updS S d st2) y9)))), (b 2, .inl (G 0, 64, .inl (fun y9 => iv (RR (updS S d st2) y9)))), (b 5, .inl (G 0, 1, .inl (fun y9 => iv (kk day y9))))]) H := hP
            have hD : va_D A ([(b 0, .inr (3, [.int (iv th), .int (iv n), .int (iv np), .int (iv mo), .ref (b 1), .ref (b 2), .ref (b 3), .ref (b 4), .ref (b 5)])), (b 1, .inl (G 0, 144, .inl (fun y9 => iv (LL (updS S d st2) y9)))), (b 2, .inl (G 0, 64, .inl (fun y9 => iv (RR (updS S d st2) y9)))), (b 5, .inl (G 0, 1, .inl (fun y9 => iv (kk day y9))))]) := hD
            exact ih176 (i + 1) st2 (by omega) (by omega) (gatN_0 es2 (by omega)) _ _ hP hD hS _ (lv_sub hl [1, 2, 3, 0] rfl)
          · skip
            refine lv_aload_n hx hb dX3_dayOf_193 rfl (lv_at hl 0 rfl) ?_
            refine lv_iload_n hx hb dX3_dayOf_194 rfl (lv_at hl 1 rfl) ?_
            refine r_const hx hb dX3_dayOf_195 ?_
            refine lv_iload_n hx hb dX3_dayOf_196 rfl (lv_at hl 3 rfl) ?_
            refine r_add hx hb dX3_dayOf_197 ?_
            refine lv_bipush (v := iv 9) hx hb dX3_dayOf_198 (by decide) ?_
            refine lv_aload_n hx hb dX3_dayOf_200 rfl (lv_at hl 0 rfl) ?_
            refine lv_iload_n hx hb dX3_dayOf_201 rfl (lv_at hl 1 rfl) ?_
            refine r_const hx hb dX3_dayOf_202 ?_
            refine lv_iload_n hx hb dX3_dayOf_203 rfl (lv_at hl 3 rfl) ?_
            refine r_add hx hb dX3_dayOf_204 ?_
            have hp := wsp ([(b 0, .inr (3, [.int (iv th), .int (iv n), .int (iv np), .int (iv mo), .ref (b 1), .ref (b 2), .ref (b 3), .ref (b 4), .ref (b 5)])), (b 2, .inl (G 0, 64, .inl (fun y9 => iv (RR (updS S d st2) y9)))), (b 1, .inl (G 0, 144, .inl (fun y9 => iv (LL (updS S d st2) y9)))), (b 5, .inl (G 0, 1, .inl (fun y9 => iv (kk day y9))))]) ([]) 4 (is := [0, 1]) (js := [2, 3]) (wc := [wM0 b th n np mo, wMr G b (RR (updS S d st2))]) (wr := [(b 1, .inl (G 0, 144, .inl (fun y9 => iv (LL (updS S d st2) y9)))), (b 5, .inl (G 0, 1, .inl (fun y9 => iv (kk day y9))))]) (by decide) rfl rfl rfl
            skip
            refine k_int (g_V (As := [.int (iv (d : Int)), .int (iv (2 + (i : Int)))]) (rest := [.int (iv 9), .int (iv (2 + (i : Int))), .int (iv (d : Int)), .ref (b 0)]) (q0 := 0) (ci := 3) ⟨hx, hb, hml, hown, hts⟩ (c_X3_ro l D G b th n np mo (RR (updS S d st2)) d (2 + i) (by omega) (by omega) (dU st2 i) (by rw [RR_at _ (by omega), updS_s, room_U (by omega)])) (cwV 2 hts gX3_dayOf_X3_ro rfl rfl rfl (by decide +kernel) ⟨Nat.le_of_ble_eq_true rfl, Nat.le_of_ble_eq_true rfl⟩) hK hP hD hp rfl rfl rfl rfl hl.1 rfl (Nat.le_of_ble_eq_true rfl) dX3_dayOf_205 ⟨by decide, by decide⟩) hP hD hS hA hp (fun v u H locs hw hP hD hS => ?_)
            obtain ⟨hv, hu⟩ := hw
            replace hv : v = (iv (dU st2 i)) := hv
            subst hv
            subst hu
            have hP : va_P D vwCl ([(b 0, .inr (3, [.int (iv th), .int (iv n), .int (iv np), .int (iv mo), .ref (b 1), .ref (b 2), .ref (b 3), .ref (b 4), .ref (b 5)])), (b 2, .inl (G 0, 64, .inl (fun y9 => iv (RR (updS S d st2) y9)))), (b 1, .inl (G 0, 144, .inl (fun y9 => iv (LL (updS S d st2) y9)))), (b 5, .inl (G 0, 1, .inl (fun y9 => iv (kk day y9))))]) H := hP
            have hD : va_D A ([(b 0, .inr (3, [.int (iv th), .int (iv n), .int (iv np), .int (iv mo), .ref (b 1), .ref (b 2), .ref (b 3), .ref (b 4), .ref (b 5)])), (b 2, .inl (G 0, 64, .inl (fun y9 => iv (RR (updS S d st2) y9)))), (b 1, .inl (G 0, 144, .inl (fun y9 => iv (LL (updS S d st2) y9)))), (b 5, .inl (G 0, 1, .inl (fun y9 => iv (kk day y9))))]) := hD
            refine r_const hx hb dX3_dayOf_208 ?_
            refine r_add hx hb dX3_dayOf_209 ?_
            refine r_min hx hb (hml.trans hl.1.symm) hown (hts (.methodLink RX3 64 Lib.Math.min.name) (by decide +kernel)) (hts (.static Lib.Math.min.name) (by decide +kernel)) (hts (.initialized "java/lang/Math") (by decide +kernel)) (hts (.code Lib.Math.min.name Lib.Math.min.code 2 (some .int)) (by decide +kernel)) (Nat.le_of_ble_eq_true rfl) (Nat.le_of_ble_eq_true rfl) (Nat.le_of_ble_eq_true rfl) (Nat.le_of_ble_eq_true rfl) (by omega) (by omega) dX3_dayOf_210 ?_
            have hp := wsp ([(b 0, .inr (3, [.int (iv th), .int (iv n), .int (iv np), .int (iv mo), .ref (b 1), .ref (b 2), .ref (b 3), .ref (b 4), .ref (b 5)])), (b 2, .inl (G 0, 64, .inl (fun y9 => iv (RR (updS S d st2) y9)))), (b 1, .inl (G 0, 144, .inl (fun y9 => iv (LL (updS S d st2) y9)))), (b 5, .inl (G 0, 1, .inl (fun y9 => iv (kk day y9))))]) ([]) 4 (is := [0, 1]) (js := [2, 3]) (wc := [wM0 b th n np mo, wMr G b (RR (updS S d st2))]) (wr := [(b 1, .inl (G 0, 144, .inl (fun y9 => iv (LL (updS S d st2) y9)))), (b 5, .inl (G 0, 1, .inl (fun y9 => iv (kk day y9))))]) (by decide) rfl rfl rfl
            skip
            refine k_void (g_V (As := [.int (iv (d : Int)), .int (iv (2 + (i : Int))), .int (iv (min 9 ((dU st2 i) + 1)))]) (rest := []) (q0 := 0) (ci := 3) ⟨hx, hb, hml, hown, hts⟩ (c_X3_put l D G b th n np mo (RR (updS S d st2)) d (2 + i) (by omega) (by omega) (min 9 ((dU st2 i) + 1))) (cwV 3 hts gX3_dayOf_X3_put rfl rfl rfl (by decide +kernel) ⟨Nat.le_of_ble_eq_true rfl, Nat.le_of_ble_eq_true rfl⟩) hK hP hD hp rfl rfl rfl rfl hl.1 rfl (Nat.le_of_ble_eq_true rfl) dX3_dayOf_213 ⟨by decide, by decide⟩) hP hD hS hA hp (fun u H locs hw hP hD hS => ?_)
            subst hw
            rw [put_say (by omega)] at hP hD
            rw [put_LL S d st2 (2 + i) (min 9 ((dU st2 i) + 1))] at hP hD
            rw [setR_U (by omega)] at hP hD
            have hP : va_P D vwCl ([(b 0, .inr (3, [.int (iv th), .int (iv n), .int (iv np), .int (iv mo), .ref (b 1), .ref (b 2), .ref (b 3), .ref (b 4), .ref (b 5)])), (b 2, .inl (G 0, 64, .inl (fun y9 => iv (RR (updS S d (dsetU st2 i (min 9 ((dU st2 i) + 1)))) y9)))), (b 1, .inl (G 0, 144, .inl (fun y9 => iv (LL (updS S d (dsetU st2 i (min 9 ((dU st2 i) + 1)))) y9)))), (b 5, .inl (G 0, 1, .inl (fun y9 => iv (kk day y9))))]) H := hP
            have hD : va_D A ([(b 0, .inr (3, [.int (iv th), .int (iv n), .int (iv np), .int (iv mo), .ref (b 1), .ref (b 2), .ref (b 3), .ref (b 4), .ref (b 5)])), (b 2, .inl (G 0, 64, .inl (fun y9 => iv (RR (updS S d (dsetU st2 i (min 9 ((dU st2 i) + 1)))) y9)))), (b 1, .inl (G 0, 144, .inl (fun y9 => iv (LL (updS S d (dsetU st2 i (min 9 ((dU st2 i) + 1)))) y9)))), (b 5, .inl (G 0, 1, .inl (fun y9 => iv (kk day y9))))]) := hD
            refine r_iinc (k := 3) (lv' := [(3, .int (iv ((i : Int) + 1))), (0, .ref (b 0)), (1, .int (iv (d : Int))), (2, .int (iv x))]) hx hb dX3_dayOf_216 hl rfl (by decide) rfl (fun ls hl => ?_)
            refine r_goto hx hb 176 dX3_dayOf_219 (by decide) ?_
            have hq := wsp ([(b 0, .inr (3, [.int (iv th), .int (iv n), .int (iv np), .int (iv mo), .ref (b 1), .ref (b 2), .ref (b 3), .ref (b 4), .ref (b 5)])), (b 2, .inl (G 0, 64, .inl (fun y9 => iv (RR (updS S d (dsetU st2 i (min 9 ((dU st2 i) + 1)))) y9)))), (b 1, .inl (G 0, 144, .inl (fun y9 => iv (LL (updS S d (dsetU st2 i (min 9 ((dU st2 i) + 1)))) y9)))), (b 5, .inl (G 0, 1, .inl (fun y9 => iv (kk day y9))))]) ([]) 4 (is := [0, 2, 1, 3]) (js := []) (wc := [(b 0, .inr (3, [.int (iv th), .int (iv n), .int (iv np), .int (iv mo), .ref (b 1), .ref (b 2), .ref (b 3), .ref (b 4), .ref (b 5)])), (b 1, .inl (G 0, 144, .inl (fun y9 => iv (LL (updS S d (dsetU st2 i (min 9 ((dU st2 i) + 1)))) y9)))), (b 2, .inl (G 0, 64, .inl (fun y9 => iv (RR (updS S d (dsetU st2 i (min 9 ((dU st2 i) + 1)))) y9)))), (b 5, .inl (G 0, 1, .inl (fun y9 => iv (kk day y9))))]) (wr := []) (by decide) rfl rfl rfl
            have hP := wP_perm hP hq
            have hD := wD_perm hD hq
            have hP : va_P D vwCl ([(b 0, .inr (3, [.int (iv th), .int (iv n), .int (iv np), .int (iv mo), .ref (b 1), .ref (b 2), .ref (b 3), .ref (b 4), .ref (b 5)])), (b 1, .inl (G 0, 144, .inl (fun y9 => iv (LL (updS S d (dsetU st2 i (min 9 ((dU st2 i) + 1)))) y9)))), (b 2, .inl (G 0, 64, .inl (fun y9 => iv (RR (updS S d (dsetU st2 i (min 9 ((dU st2 i) + 1)))) y9)))), (b 5, .inl (G 0, 1, .inl (fun y9 => iv (kk day y9))))]) H := hP
            have hD : va_D A ([(b 0, .inr (3, [.int (iv th), .int (iv n), .int (iv np), .int (iv mo), .ref (b 1), .ref (b 2), .ref (b 3), .ref (b 4), .ref (b 5)])), (b 1, .inl (G 0, 144, .inl (fun y9 => iv (LL (updS S d (dsetU st2 i (min 9 ((dU st2 i) + 1)))) y9)))), (b 2, .inl (G 0, 64, .inl (fun y9 => iv (RR (updS S d (dsetU st2 i (min 9 ((dU st2 i) + 1)))) y9)))), (b 5, .inl (G 0, 1, .inl (fun y9 => iv (kk day y9))))]) := hD
            exact ih176 (i + 1) (dsetU st2 i (min 9 ((dU st2 i) + 1))) (by omega) (by omega) (gatN_1 es2 (by omega)) _ _ hP hD hS _ (lv_sub hl [1, 2, 3, 0] rfl)
    exact K176 3 0 st (by omega) (by omega) rfl _ _ hP hD hS _ (lv_sub hl [1, 2, 3, 0] rfl)
  have J125 : ∀ (st : DS) (x : Int), st = loosen (eatW mo ds) → x = has ds - has st → ∀ (H : Heap) (locs : List Loc), va_P D vwCl ([(b 0, .inr (3, [.int (iv th), .int (iv n), .int (iv np), .int (iv mo), .ref (b 1), .ref (b 2), .ref (b 3), .ref (b 4), .ref (b 5)])), (b 1, .inl (G 0, 144, .inl (fun y9 => iv (LL (updS S d st) y9)))), (b 2, .inl (G 0, 64, .inl (fun y9 => iv (RR (updS S d st) y9)))), (b 5, .inl (G 0, 1, .inl (fun y9 => iv (kk day y9))))]) H → va_D A ([(b 0, .inr (3, [.int (iv th), .int (iv n), .int (iv np), .int (iv mo), .ref (b 1), .ref (b 2), .ref (b 3), .ref (b 4), .ref (b 5)])), (b 1, .inl (G 0, 144, .inl (fun y9 => iv (LL (updS S d st) y9)))), (b 2, .inl (G 0, 64, .inl (fun y9 => iv (RR (updS S d st) y9)))), (b 5, .inl (G 0, 1, .inl (fun y9 => iv (kk day y9))))]) → va_S A s.heap H locs → ∀ (ls : Array Slot), lv_has ls 4 [(0, .ref (b 0)), (1, .int (iv (d : Int))), (2, .int (iv x))] → W p l e (rmOf 2 80 0 0) s m ([.ref (b 0), .int (iv (d : Int))] : List Value).toArray below meth c H locs 0 0 (MQ below (qI D (fun r u => r = iv (has ds - has (day1 day mo ds)) ∧ u = [wM0 b th n np mo, wMl G b (LL (updS S d (day1 day mo ds))), wMr G b (RR (updS S d (day1 day mo ds))), wMd G b (kk day)]) A) ([.ref (b 0), .int (iv (d : Int))] : List Value).toArray s 0 0 A) (F0 m 125 ls []) := by
    intro st x es ex H locs hP hD hS ls hl
    have oks : okD st := by rw [es]; exact loosen_ok (eatW_ok hmo hok)
    refine r_const hx hb dX3_dayOf_125 ?_
    refine lv_istore_n (lv' := [(3, .int (iv 0)), (0, .ref (b 0)), (1, .int (iv (d : Int))), (2, .int (iv x))]) hx hb dX3_dayOf_126 rfl hl (by decide) rfl (fun ls hl => ?_)
    have K127 : ∀ (fu i : Nat) (st2 : DS), i ≤ 6 → 6 < i + fu → st2 = dryN i st → (i = 0 ∨ day % 3 = 0) → ∀ (H : Heap) (locs : List Loc), va_P D vwCl ([(b 0, .inr (3, [.int (iv th), .int (iv n), .int (iv np), .int (iv mo), .ref (b 1), .ref (b 2), .ref (b 3), .ref (b 4), .ref (b 5)])), (b 1, .inl (G 0, 144, .inl (fun y9 => iv (LL (updS S d st2) y9)))), (b 2, .inl (G 0, 64, .inl (fun y9 => iv (RR (updS S d st2) y9)))), (b 5, .inl (G 0, 1, .inl (fun y9 => iv (kk day y9))))]) H → va_D A ([(b 0, .inr (3, [.int (iv th), .int (iv n), .int (iv np), .int (iv mo), .ref (b 1), .ref (b 2), .ref (b 3), .ref (b 4), .ref (b 5)])), (b 1, .inl (G 0, 144, .inl (fun y9 => iv (LL (updS S d st2) y9)))), (b 2, .inl (G 0, 64, .inl (fun y9 => iv (RR (updS S d st2) y9)))), (b 5, .inl (G 0, 1, .inl (fun y9 => iv (kk day y9))))]) → va_S A s.heap H locs → ∀ (ls : Array Slot), lv_has ls 4 [(0, .ref (b 0)), (1, .int (iv (d : Int))), (2, .int (iv x)), (3, .int (iv (i : Int)))] → W p l e (rmOf 2 80 0 0) s m ([.ref (b 0), .int (iv (d : Int))] : List Value).toArray below meth c H locs 0 0 (MQ below (qI D (fun r u => r = iv (has ds - has (day1 day mo ds)) ∧ u = [wM0 b th n np mo, wMl G b (LL (updS S d (day1 day mo ds))), wMr G b (RR (updS S d (day1 day mo ds))), wMd G b (kk day)]) A) ([.ref (b 0), .int (iv (d : Int))] : List Value).toArray s 0 0 A) (F0 m 127 ls []) := by
      intro fu
      induction fu with
      | zero => intro i st2 h1 h2; exact absurd h2 (by omega)
      | succ fu ih127 =>
        intro i st2 hi_127 hn_127 es2 e3 H locs hP hD hS ls hl
        have ok2 : okD st2 := by rw [es2]; exact dryN_ok oks i (by omega)
        refine lv_iload_n hx hb dX3_dayOf_127 rfl (lv_at hl 3 rfl) ?_
        refine lv_bipush (v := iv 6) hx hb dX3_dayOf_128 (by decide) ?_
        refine r_icmp_ge hx hb 174 dX3_dayOf_130 (by decide) (by omega) (by omega) (fun c_130 => ?_) (fun c_130 => ?_)
        · skip
          exact J174 st2 x (by rw [if_pos (by omega), ← es, es2, show i = 6 by omega]) (by rw [ex, es2, has_dry]) _ _ hP hD hS _ (lv_sub hl [0, 1, 2] rfl)
        · skip
          have rQ := okD_Q ok2 i (by omega)
          refine lv_aload_n hx hb dX3_dayOf_133 rfl (lv_at hl 0 rfl) ?_
          refine va_get (D := D) (ci := 3) (v := .ref (b 5)) (C := RX3) (T := TX3) (N := 9) hx hb hts in_X3 hown hK hP 0 rfl rfl 8 (by decide) lk26 (fun _ h9 => h9) rfl dX3_dayOf_134 ?_
          refine r_const hx hb dX3_dayOf_137 ?_
          refine r_iald (F := kk day) hx hb hK hP 3 0 rfl rfl 0 (by omega) (by omega) (by decide) dX3_dayOf_138 ?_
          rw [show (kk day) 0 = day from rfl]
          refine r_const hx hb dX3_dayOf_139 ?_
          refine r_rem hx hb dX3_dayOf_140 (by omega) (by omega) ?_
          refine r_if_ne hx hb 174 dX3_dayOf_141 (by decide) (by omega) (fun c_141 => ?_) (fun c_141 => ?_)
          · skip
            exact J174 st2 x (by rw [if_neg c_141, ← es, es2]; obtain rfl : i = 0 := (by omega); rfl) (by rw [ex, es2, has_dry]) _ _ hP hD hS _ (lv_sub hl [0, 1, 2] rfl)
          · skip
            refine lv_aload_n hx hb dX3_dayOf_144 rfl (lv_at hl 0 rfl) ?_
            refine va_get (D := D) (ci := 3) (v := .ref (b 1)) (C := RX3) (T := TX3) (N := 9) hx hb hts in_X3 hown hK hP 0 rfl rfl 4 (by decide) lk13 (fun _ h9 => h9) rfl dX3_dayOf_145 ?_
            refine lv_iload_n hx hb dX3_dayOf_148 rfl (lv_at hl 1 rfl) ?_
            refine lv_iload_n hx hb dX3_dayOf_149 rfl (lv_at hl 3 rfl) ?_
            refine r_const hx hb dX3_dayOf_150 ?_
            have hp := wsp ([(b 0, .inr (3, [.int (iv th), .int (iv n), .int (iv np), .int (iv mo), .ref (b 1), .ref (b 2), .ref (b 3), .ref (b 4), .ref (b 5)])), (b 1, .inl (G 0, 144, .inl (fun y9 => iv (LL (updS S d st2) y9)))), (b 2, .inl (G 0, 64, .inl (fun y9 => iv (RR (updS S d st2) y9)))), (b 5, .inl (G 0, 1, .inl (fun y9 => iv (kk day y9))))]) ([]) 4 (is := []) (js := [0, 1, 2, 3]) (wc := []) (wr := [(b 0, .inr (3, [.int (iv th), .int (iv n), .int (iv np), .int (iv mo), .ref (b 1), .ref (b 2), .ref (b 3), .ref (b 4), .ref (b 5)])), (b 1, .inl (G 0, 144, .inl (fun y9 => iv (LL (updS S d st2) y9)))), (b 2, .inl (G 0, 64, .inl (fun y9 => iv (RR (updS S d st2) y9)))), (b 5, .inl (G 0, 1, .inl (fun y9 => iv (kk day y9))))]) (by decide) rfl rfl rfl
            skip
            refine k_int (g_S (As := [.int (iv (d : Int)), .int (iv (i : Int)), .int (iv 2)]) (rest := [.ref (b 1)]) ⟨hx, hb, hml, hown, hts⟩ (c_X3_at l D G d i 2) (va_cwS 3 hts gX3_dayOf_X3_at rfl rfl rfl (by decide +kernel) ⟨Nat.le_of_ble_eq_true rfl, Nat.le_of_ble_eq_true rfl⟩) hK hP hD hp rfl hl.1 rfl (Nat.le_of_ble_eq_true rfl) dX3_dayOf_151 ⟨by decide, by decide⟩) hP hD hS hA hp (fun v u H locs hw hP hD hS => ?_)
            obtain ⟨hv, hu⟩ := hw
            replace hv : v = (iv ((3 * (6 * d + i) + 2 : Nat) : Int)) := hv
            subst hv
            subst hu
            have hP : va_P D vwCl ([(b 0, .inr (3, [.int (iv th), .int (iv n), .int (iv np), .int (iv mo), .ref (b 1), .ref (b 2), .ref (b 3), .ref (b 4), .ref (b 5)])), (b 1, .inl (G 0, 144, .inl (fun y9 => iv (LL (updS S d st2) y9)))), (b 2, .inl (G 0, 64, .inl (fun y9 => iv (RR (updS S d st2) y9)))), (b 5, .inl (G 0, 1, .inl (fun y9 => iv (kk day y9))))]) H := hP
            have hD : va_D A ([(b 0, .inr (3, [.int (iv th), .int (iv n), .int (iv np), .int (iv mo), .ref (b 1), .ref (b 2), .ref (b 3), .ref (b 4), .ref (b 5)])), (b 1, .inl (G 0, 144, .inl (fun y9 => iv (LL (updS S d st2) y9)))), (b 2, .inl (G 0, 64, .inl (fun y9 => iv (RR (updS S d st2) y9)))), (b 5, .inl (G 0, 1, .inl (fun y9 => iv (kk day y9))))]) := hD
            refine r_const hx hb dX3_dayOf_154 ?_
            refine lv_aload_n hx hb dX3_dayOf_155 rfl (lv_at hl 0 rfl) ?_
            refine lv_iload_n hx hb dX3_dayOf_156 rfl (lv_at hl 1 rfl) ?_
            refine lv_iload_n hx hb dX3_dayOf_157 rfl (lv_at hl 3 rfl) ?_
            refine r_const hx hb dX3_dayOf_158 ?_
            have hp := wsp ([(b 0, .inr (3, [.int (iv th), .int (iv n), .int (iv np), .int (iv mo), .ref (b 1), .ref (b 2), .ref (b 3), .ref (b 4), .ref (b 5)])), (b 1, .inl (G 0, 144, .inl (fun y9 => iv (LL (updS S d st2) y9)))), (b 2, .inl (G 0, 64, .inl (fun y9 => iv (RR (updS S d st2) y9)))), (b 5, .inl (G 0, 1, .inl (fun y9 => iv (kk day y9))))]) ([]) 4 (is := [0, 1]) (js := [2, 3]) (wc := [wM0 b th n np mo, wMl G b (LL (updS S d st2))]) (wr := [(b 2, .inl (G 0, 64, .inl (fun y9 => iv (RR (updS S d st2) y9)))), (b 5, .inl (G 0, 1, .inl (fun y9 => iv (kk day y9))))]) (by decide) rfl rfl rfl
            skip
            refine k_int (g_V (As := [.int (iv (d : Int)), .int (iv (i : Int)), .int (iv 2)]) (rest := [.int (iv 0), .int (iv ((3 * (6 * d + i) + 2 : Nat) : Int)), .ref (b 1)]) (q0 := 0) (ci := 3) ⟨hx, hb, hml, hown, hts⟩ (c_X3_li l D G b th n np mo (LL (updS S d st2)) d i 2 (by omega) (by omega) (by omega) (dQ st2 i) (by rw [LL_at _ (by omega) (by omega), updS_s]; rfl)) (cwV 3 hts gX3_dayOf_X3_li rfl rfl rfl (by decide +kernel) ⟨Nat.le_of_ble_eq_true rfl, Nat.le_of_ble_eq_true rfl⟩) hK hP hD hp rfl rfl rfl rfl hl.1 rfl (Nat.le_of_ble_eq_true rfl) dX3_dayOf_159 ⟨by decide, by decide⟩) hP hD hS hA hp (fun v u H locs hw hP hD hS => ?_)
            obtain ⟨hv, hu⟩ := hw
            replace hv : v = (iv (dQ st2 i)) := hv
            subst hv
            subst hu
            have hP : va_P D vwCl ([(b 0, .inr (3, [.int (iv th), .int (iv n), .int (iv np), .int (iv mo), .ref (b 1), .ref (b 2), .ref (b 3), .ref (b 4), .ref (b 5)])), (b 1, .inl (G 0, 144, .inl (fun y9 => iv (LL (updS S d st2) y9)))), (b 2, .inl (G 0, 64, .inl (fun y9 => iv (RR (updS S d st2) y9)))), (b 5, .inl (G 0, 1, .inl (fun y9 => iv (kk day y9))))]) H := hP
            have hD : va_D A ([(b 0, .inr (3, [.int (iv th), .int (iv n), .int (iv np), .int (iv mo), .ref (b 1), .ref (b 2), .ref (b 3), .ref (b 4), .ref (b 5)])), (b 1, .inl (G 0, 144, .inl (fun y9 => iv (LL (updS S d st2) y9)))), (b 2, .inl (G 0, 64, .inl (fun y9 => iv (RR (updS S d st2) y9)))), (b 5, .inl (G 0, 1, .inl (fun y9 => iv (kk day y9))))]) := hD
            refine r_const hx hb dX3_dayOf_162 ?_
            refine r_sub hx hb dX3_dayOf_163 ?_
            refine r_max hx hb (hml.trans hl.1.symm) hown (hts (.methodLink RX3 120 Lib.Math.max.name) (by decide +kernel)) (hts (.static Lib.Math.max.name) (by decide +kernel)) (hts (.initialized "java/lang/Math") (by decide +kernel)) (hts (.code Lib.Math.max.name Lib.Math.max.code 2 (some .int)) (by decide +kernel)) (Nat.le_of_ble_eq_true rfl) (Nat.le_of_ble_eq_true rfl) (Nat.le_of_ble_eq_true rfl) (Nat.le_of_ble_eq_true rfl) (by omega) (by omega) dX3_dayOf_164 ?_
            refine r_iast (F := LL (updS S d st2)) hx hb hK hP hD hS 1 0 rfl rfl (3 * (6 * d + i) + 2) (by omega) (by omega) (by decide) dX3_dayOf_167 (fun H locs hP hD hS => ?_)
            rw [lim_say (by omega) (by omega), lim_RR S d st2 2 i (max 0 (dQ st2 i - 1)), dry_set es2] at hP hD
            have hP : va_P D vwCl ([(b 0, .inr (3, [.int (iv th), .int (iv n), .int (iv np), .int (iv mo), .ref (b 1), .ref (b 2), .ref (b 3), .ref (b 4), .ref (b 5)])), (b 1, .inl (G 0, 144, .inl (fun y9 => iv (LL (updS S d (dryN (i + 1) st)) y9)))), (b 2, .inl (G 0, 64, .inl (fun y9 => iv (RR (updS S d (dryN (i + 1) st)) y9)))), (b 5, .inl (G 0, 1, .inl (fun y9 => iv (kk day y9))))]) H := hP
            have hD : va_D A ([(b 0, .inr (3, [.int (iv th), .int (iv n), .int (iv np), .int (iv mo), .ref (b 1), .ref (b 2), .ref (b 3), .ref (b 4), .ref (b 5)])), (b 1, .inl (G 0, 144, .inl (fun y9 => iv (LL (updS S d (dryN (i + 1) st)) y9)))), (b 2, .inl (G 0, 64, .inl (fun y9 => iv (RR (updS S d (dryN (i + 1) st)) y9)))), (b 5, .inl (G 0, 1, .inl (fun y9 => iv (kk day y9))))]) := hD
            refine r_iinc (k := 3) (lv' := [(3, .int (iv ((i : Int) + 1))), (0, .ref (b 0)), (1, .int (iv (d : Int))), (2, .int (iv x))]) hx hb dX3_dayOf_168 hl rfl (by decide) rfl (fun ls hl => ?_)
            refine r_goto hx hb 127 dX3_dayOf_171 (by decide) ?_
            exact ih127 (i + 1) (dryN (i + 1) st) (by omega) (by omega) rfl (Or.inr (by omega)) _ _ hP hD hS _ (lv_sub hl [1, 2, 3, 0] rfl)
    exact K127 7 0 st (by omega) (by omega) rfl (Or.inl rfl) _ _ hP hD hS _ (lv_sub hl [1, 2, 3, 0] rfl)
  have J50 : ∀ (st : DS) (x : Int), st = eatW mo ds → x = has ds - has st → ∀ (H : Heap) (locs : List Loc), va_P D vwCl ([(b 0, .inr (3, [.int (iv th), .int (iv n), .int (iv np), .int (iv mo), .ref (b 1), .ref (b 2), .ref (b 3), .ref (b 4), .ref (b 5)])), (b 1, .inl (G 0, 144, .inl (fun y9 => iv (LL (updS S d st) y9)))), (b 2, .inl (G 0, 64, .inl (fun y9 => iv (RR (updS S d st) y9)))), (b 5, .inl (G 0, 1, .inl (fun y9 => iv (kk day y9))))]) H → va_D A ([(b 0, .inr (3, [.int (iv th), .int (iv n), .int (iv np), .int (iv mo), .ref (b 1), .ref (b 2), .ref (b 3), .ref (b 4), .ref (b 5)])), (b 1, .inl (G 0, 144, .inl (fun y9 => iv (LL (updS S d st) y9)))), (b 2, .inl (G 0, 64, .inl (fun y9 => iv (RR (updS S d st) y9)))), (b 5, .inl (G 0, 1, .inl (fun y9 => iv (kk day y9))))]) → va_S A s.heap H locs → ∀ (ls : Array Slot), lv_has ls 4 [(0, .ref (b 0)), (1, .int (iv (d : Int))), (2, .int (iv x))] → W p l e (rmOf 2 80 0 0) s m ([.ref (b 0), .int (iv (d : Int))] : List Value).toArray below meth c H locs 0 0 (MQ below (qI D (fun r u => r = iv (has ds - has (day1 day mo ds)) ∧ u = [wM0 b th n np mo, wMl G b (LL (updS S d (day1 day mo ds))), wMr G b (RR (updS S d (day1 day mo ds))), wMd G b (kk day)]) A) ([.ref (b 0), .int (iv (d : Int))] : List Value).toArray s 0 0 A) (F0 m 50 ls []) := by
    intro st x es ex H locs hP hD hS ls hl
    have oks : okD st := by rw [es]; exact eatW_ok hmo hok
    obtain ⟨-, -, og, ov, on, ovn, ovn2⟩ := id oks
    have rW := okD_W oks 5 (by omega)
    refine lv_aload_n hx hb dX3_dayOf_50 rfl (lv_at hl 0 rfl) ?_
    refine lv_iload_n hx hb dX3_dayOf_51 rfl (lv_at hl 1 rfl) ?_
    refine r_const hx hb dX3_dayOf_52 ?_
    have hp := wsp ([(b 0, .inr (3, [.int (iv th), .int (iv n), .int (iv np), .int (iv mo), .ref (b 1), .ref (b 2), .ref (b 3), .ref (b 4), .ref (b 5)])), (b 1, .inl (G 0, 144, .inl (fun y9 => iv (LL (updS S d st) y9)))), (b 2, .inl (G 0, 64, .inl (fun y9 => iv (RR (updS S d st) y9)))), (b 5, .inl (G 0, 1, .inl (fun y9 => iv (kk day y9))))]) ([]) 4 (is := [0, 2]) (js := [1, 3]) (wc := [wM0 b th n np mo, wMr G b (RR (updS S d st))]) (wr := [(b 1, .inl (G 0, 144, .inl (fun y9 => iv (LL (updS S d st) y9)))), (b 5, .inl (G 0, 1, .inl (fun y9 => iv (kk day y9))))]) (by decide) rfl rfl rfl
    skip
    refine k_int (g_V (As := [.int (iv (d : Int)), .int (iv 5)]) (rest := []) (q0 := 0) (ci := 3) ⟨hx, hb, hml, hown, hts⟩ (c_X3_ro l D G b th n np mo (RR (updS S d st)) d 5 (by omega) (by omega) (dv st) (by rw [RR_at _ (by omega), updS_s]; rfl)) (cwV 2 hts gX3_dayOf_X3_ro rfl rfl rfl (by decide +kernel) ⟨Nat.le_of_ble_eq_true rfl, Nat.le_of_ble_eq_true rfl⟩) hK hP hD hp rfl rfl rfl rfl hl.1 rfl (Nat.le_of_ble_eq_true rfl) dX3_dayOf_53 ⟨by decide, by decide⟩) hP hD hS hA hp (fun v u H locs hw hP hD hS => ?_)
    obtain ⟨hv, hu⟩ := hw
    replace hv : v = (iv (dv st)) := hv
    subst hv
    subst hu
    have hP : va_P D vwCl ([(b 0, .inr (3, [.int (iv th), .int (iv n), .int (iv np), .int (iv mo), .ref (b 1), .ref (b 2), .ref (b 3), .ref (b 4), .ref (b 5)])), (b 2, .inl (G 0, 64, .inl (fun y9 => iv (RR (updS S d st) y9)))), (b 1, .inl (G 0, 144, .inl (fun y9 => iv (LL (updS S d st) y9)))), (b 5, .inl (G 0, 1, .inl (fun y9 => iv (kk day y9))))]) H := hP
    have hD : va_D A ([(b 0, .inr (3, [.int (iv th), .int (iv n), .int (iv np), .int (iv mo), .ref (b 1), .ref (b 2), .ref (b 3), .ref (b 4), .ref (b 5)])), (b 2, .inl (G 0, 64, .inl (fun y9 => iv (RR (updS S d st) y9)))), (b 1, .inl (G 0, 144, .inl (fun y9 => iv (LL (updS S d st) y9)))), (b 5, .inl (G 0, 1, .inl (fun y9 => iv (kk day y9))))]) := hD
    refine r_if_le hx hb 125 dX3_dayOf_56 (by decide) (by omega) (fun c_56 => ?_) (fun c_56 => ?_)
    · skip
      have hq := wsp ([(b 0, .inr (3, [.int (iv th), .int (iv n), .int (iv np), .int (iv mo), .ref (b 1), .ref (b 2), .ref (b 3), .ref (b 4), .ref (b 5)])), (b 2, .inl (G 0, 64, .inl (fun y9 => iv (RR (updS S d st) y9)))), (b 1, .inl (G 0, 144, .inl (fun y9 => iv (LL (updS S d st) y9)))), (b 5, .inl (G 0, 1, .inl (fun y9 => iv (kk day y9))))]) ([]) 4 (is := [0, 2, 1, 3]) (js := []) (wc := [(b 0, .inr (3, [.int (iv th), .int (iv n), .int (iv np), .int (iv mo), .ref (b 1), .ref (b 2), .ref (b 3), .ref (b 4), .ref (b 5)])), (b 1, .inl (G 0, 144, .inl (fun y9 => iv (LL (updS S d st) y9)))), (b 2, .inl (G 0, 64, .inl (fun y9 => iv (RR (updS S d st) y9)))), (b 5, .inl (G 0, 1, .inl (fun y9 => iv (kk day y9))))]) (wr := []) (by decide) rfl rfl rfl
      have hP := wP_perm hP hq
      have hD := wD_perm hD hq
      have hP : va_P D vwCl ([(b 0, .inr (3, [.int (iv th), .int (iv n), .int (iv np), .int (iv mo), .ref (b 1), .ref (b 2), .ref (b 3), .ref (b 4), .ref (b 5)])), (b 1, .inl (G 0, 144, .inl (fun y9 => iv (LL (updS S d st) y9)))), (b 2, .inl (G 0, 64, .inl (fun y9 => iv (RR (updS S d st) y9)))), (b 5, .inl (G 0, 1, .inl (fun y9 => iv (kk day y9))))]) H := hP
      have hD : va_D A ([(b 0, .inr (3, [.int (iv th), .int (iv n), .int (iv np), .int (iv mo), .ref (b 1), .ref (b 2), .ref (b 3), .ref (b 4), .ref (b 5)])), (b 1, .inl (G 0, 144, .inl (fun y9 => iv (LL (updS S d st) y9)))), (b 2, .inl (G 0, 64, .inl (fun y9 => iv (RR (updS S d st) y9)))), (b 5, .inl (G 0, 1, .inl (fun y9 => iv (kk day y9))))]) := hD
      exact J125 st x (by rw [← es]; unfold loosen; rw [if_pos (by omega)]) ex _ _ hP hD hS _ (lv_sub hl [0, 1, 2] rfl)
    · skip
      refine lv_aload_n hx hb dX3_dayOf_59 rfl (lv_at hl 0 rfl) ?_
      refine lv_iload_n hx hb dX3_dayOf_60 rfl (lv_at hl 1 rfl) ?_
      refine r_const hx hb dX3_dayOf_61 ?_
      refine r_const hx hb dX3_dayOf_62 ?_
      have hp := wsp ([(b 0, .inr (3, [.int (iv th), .int (iv n), .int (iv np), .int (iv mo), .ref (b 1), .ref (b 2), .ref (b 3), .ref (b 4), .ref (b 5)])), (b 2, .inl (G 0, 64, .inl (fun y9 => iv (RR (updS S d st) y9)))), (b 1, .inl (G 0, 144, .inl (fun y9 => iv (LL (updS S d st) y9)))), (b 5, .inl (G 0, 1, .inl (fun y9 => iv (kk day y9))))]) ([]) 4 (is := [0, 2]) (js := [1, 3]) (wc := [wM0 b th n np mo, wMl G b (LL (updS S d st))]) (wr := [(b 2, .inl (G 0, 64, .inl (fun y9 => iv (RR (updS S d st) y9)))), (b 5, .inl (G 0, 1, .inl (fun y9 => iv (kk day y9))))]) (by decide) rfl rfl rfl
      skip
      refine k_int (g_V (As := [.int (iv (d : Int)), .int (iv 5), .int (iv 1)]) (rest := []) (q0 := 0) (ci := 3) ⟨hx, hb, hml, hown, hts⟩ (c_X3_li l D G b th n np mo (LL (updS S d st)) d 5 1 (by omega) (by omega) (by omega) (dW st 5) (by rw [LL_at _ (by omega) (by omega), updS_s]; rfl)) (cwV 3 hts gX3_dayOf_X3_li rfl rfl rfl (by decide +kernel) ⟨Nat.le_of_ble_eq_true rfl, Nat.le_of_ble_eq_true rfl⟩) hK hP hD hp rfl rfl rfl rfl hl.1 rfl (Nat.le_of_ble_eq_true rfl) dX3_dayOf_63 ⟨by decide, by decide⟩) hP hD hS hA hp (fun v u H locs hw hP hD hS => ?_)
      obtain ⟨hv, hu⟩ := hw
      replace hv : v = (iv (dW st 5)) := hv
      subst hv
      subst hu
      have hP : va_P D vwCl ([(b 0, .inr (3, [.int (iv th), .int (iv n), .int (iv np), .int (iv mo), .ref (b 1), .ref (b 2), .ref (b 3), .ref (b 4), .ref (b 5)])), (b 1, .inl (G 0, 144, .inl (fun y9 => iv (LL (updS S d st) y9)))), (b 2, .inl (G 0, 64, .inl (fun y9 => iv (RR (updS S d st) y9)))), (b 5, .inl (G 0, 1, .inl (fun y9 => iv (kk day y9))))]) H := hP
      have hD : va_D A ([(b 0, .inr (3, [.int (iv th), .int (iv n), .int (iv np), .int (iv mo), .ref (b 1), .ref (b 2), .ref (b 3), .ref (b 4), .ref (b 5)])), (b 1, .inl (G 0, 144, .inl (fun y9 => iv (LL (updS S d st) y9)))), (b 2, .inl (G 0, 64, .inl (fun y9 => iv (RR (updS S d st) y9)))), (b 5, .inl (G 0, 1, .inl (fun y9 => iv (kk day y9))))]) := hD
      refine lv_bipush (v := iv 50) hx hb dX3_dayOf_66 (by decide) ?_
      refine r_icmp_lt hx hb 91 dX3_dayOf_68 (by decide) (by omega) (by omega) (fun c_68 => ?_) (fun c_68 => ?_)
      · skip
        refine lv_aload_n hx hb dX3_dayOf_91 rfl (lv_at hl 0 rfl) ?_
        refine lv_iload_n hx hb dX3_dayOf_92 rfl (lv_at hl 1 rfl) ?_
        refine lv_bipush (v := iv 6) hx hb dX3_dayOf_93 (by decide) ?_
        have hp := wsp ([(b 0, .inr (3, [.int (iv th), .int (iv n), .int (iv np), .int (iv mo), .ref (b 1), .ref (b 2), .ref (b 3), .ref (b 4), .ref (b 5)])), (b 1, .inl (G 0, 144, .inl (fun y9 => iv (LL (updS S d st) y9)))), (b 2, .inl (G 0, 64, .inl (fun y9 => iv (RR (updS S d st) y9)))), (b 5, .inl (G 0, 1, .inl (fun y9 => iv (kk day y9))))]) ([]) 4 (is := [0, 2]) (js := [1, 3]) (wc := [wM0 b th n np mo, wMr G b (RR (updS S d st))]) (wr := [(b 1, .inl (G 0, 144, .inl (fun y9 => iv (LL (updS S d st) y9)))), (b 5, .inl (G 0, 1, .inl (fun y9 => iv (kk day y9))))]) (by decide) rfl rfl rfl
        skip
        refine k_int (g_V (As := [.int (iv (d : Int)), .int (iv 6)]) (rest := []) (q0 := 0) (ci := 3) ⟨hx, hb, hml, hown, hts⟩ (c_X3_ro l D G b th n np mo (RR (updS S d st)) d 6 (by omega) (by omega) (dn st) (by rw [RR_at _ (by omega), updS_s]; rfl)) (cwV 2 hts gX3_dayOf_X3_ro rfl rfl rfl (by decide +kernel) ⟨Nat.le_of_ble_eq_true rfl, Nat.le_of_ble_eq_true rfl⟩) hK hP hD hp rfl rfl rfl rfl hl.1 rfl (Nat.le_of_ble_eq_true rfl) dX3_dayOf_95 ⟨by decide, by decide⟩) hP hD hS hA hp (fun v u H locs hw hP hD hS => ?_)
        obtain ⟨hv, hu⟩ := hw
        replace hv : v = (iv (dn st)) := hv
        subst hv
        subst hu
        have hP : va_P D vwCl ([(b 0, .inr (3, [.int (iv th), .int (iv n), .int (iv np), .int (iv mo), .ref (b 1), .ref (b 2), .ref (b 3), .ref (b 4), .ref (b 5)])), (b 2, .inl (G 0, 64, .inl (fun y9 => iv (RR (updS S d st) y9)))), (b 1, .inl (G 0, 144, .inl (fun y9 => iv (LL (updS S d st) y9)))), (b 5, .inl (G 0, 1, .inl (fun y9 => iv (kk day y9))))]) H := hP
        have hD : va_D A ([(b 0, .inr (3, [.int (iv th), .int (iv n), .int (iv np), .int (iv mo), .ref (b 1), .ref (b 2), .ref (b 3), .ref (b 4), .ref (b 5)])), (b 2, .inl (G 0, 64, .inl (fun y9 => iv (RR (updS S d st) y9)))), (b 1, .inl (G 0, 144, .inl (fun y9 => iv (LL (updS S d st) y9)))), (b 5, .inl (G 0, 1, .inl (fun y9 => iv (kk day y9))))]) := hD
        refine lv_aload_n hx hb dX3_dayOf_98 rfl (lv_at hl 0 rfl) ?_
        refine lv_iload_n hx hb dX3_dayOf_99 rfl (lv_at hl 1 rfl) ?_
        refine r_const hx hb dX3_dayOf_100 ?_
        have hp := wsp ([(b 0, .inr (3, [.int (iv th), .int (iv n), .int (iv np), .int (iv mo), .ref (b 1), .ref (b 2), .ref (b 3), .ref (b 4), .ref (b 5)])), (b 2, .inl (G 0, 64, .inl (fun y9 => iv (RR (updS S d st) y9)))), (b 1, .inl (G 0, 144, .inl (fun y9 => iv (LL (updS S d st) y9)))), (b 5, .inl (G 0, 1, .inl (fun y9 => iv (kk day y9))))]) ([]) 4 (is := [0, 1]) (js := [2, 3]) (wc := [wM0 b th n np mo, wMr G b (RR (updS S d st))]) (wr := [(b 1, .inl (G 0, 144, .inl (fun y9 => iv (LL (updS S d st) y9)))), (b 5, .inl (G 0, 1, .inl (fun y9 => iv (kk day y9))))]) (by decide) rfl rfl rfl
        skip
        refine k_int (g_V (As := [.int (iv (d : Int)), .int (iv 5)]) (rest := [.int (iv (dn st))]) (q0 := 0) (ci := 3) ⟨hx, hb, hml, hown, hts⟩ (c_X3_ro l D G b th n np mo (RR (updS S d st)) d 5 (by omega) (by omega) (dv st) (by rw [RR_at _ (by omega), updS_s]; rfl)) (cwV 2 hts gX3_dayOf_X3_ro rfl rfl rfl (by decide +kernel) ⟨Nat.le_of_ble_eq_true rfl, Nat.le_of_ble_eq_true rfl⟩) hK hP hD hp rfl rfl rfl rfl hl.1 rfl (Nat.le_of_ble_eq_true rfl) dX3_dayOf_101 ⟨by decide, by decide⟩) hP hD hS hA hp (fun v u H locs hw hP hD hS => ?_)
        obtain ⟨hv, hu⟩ := hw
        replace hv : v = (iv (dv st)) := hv
        subst hv
        subst hu
        have hP : va_P D vwCl ([(b 0, .inr (3, [.int (iv th), .int (iv n), .int (iv np), .int (iv mo), .ref (b 1), .ref (b 2), .ref (b 3), .ref (b 4), .ref (b 5)])), (b 2, .inl (G 0, 64, .inl (fun y9 => iv (RR (updS S d st) y9)))), (b 1, .inl (G 0, 144, .inl (fun y9 => iv (LL (updS S d st) y9)))), (b 5, .inl (G 0, 1, .inl (fun y9 => iv (kk day y9))))]) H := hP
        have hD : va_D A ([(b 0, .inr (3, [.int (iv th), .int (iv n), .int (iv np), .int (iv mo), .ref (b 1), .ref (b 2), .ref (b 3), .ref (b 4), .ref (b 5)])), (b 2, .inl (G 0, 64, .inl (fun y9 => iv (RR (updS S d st) y9)))), (b 1, .inl (G 0, 144, .inl (fun y9 => iv (LL (updS S d st) y9)))), (b 5, .inl (G 0, 1, .inl (fun y9 => iv (kk day y9))))]) := hD
        refine r_icmp_ge hx hb 125 dX3_dayOf_104 (by decide) (by omega) (by omega) (fun c_104 => ?_) (fun c_104 => ?_)
        · skip
          have hq := wsp ([(b 0, .inr (3, [.int (iv th), .int (iv n), .int (iv np), .int (iv mo), .ref (b 1), .ref (b 2), .ref (b 3), .ref (b 4), .ref (b 5)])), (b 2, .inl (G 0, 64, .inl (fun y9 => iv (RR (updS S d st) y9)))), (b 1, .inl (G 0, 144, .inl (fun y9 => iv (LL (updS S d st) y9)))), (b 5, .inl (G 0, 1, .inl (fun y9 => iv (kk day y9))))]) ([]) 4 (is := [0, 2, 1, 3]) (js := []) (wc := [(b 0, .inr (3, [.int (iv th), .int (iv n), .int (iv np), .int (iv mo), .ref (b 1), .ref (b 2), .ref (b 3), .ref (b 4), .ref (b 5)])), (b 1, .inl (G 0, 144, .inl (fun y9 => iv (LL (updS S d st) y9)))), (b 2, .inl (G 0, 64, .inl (fun y9 => iv (RR (updS S d st) y9)))), (b 5, .inl (G 0, 1, .inl (fun y9 => iv (kk day y9))))]) (wr := []) (by decide) rfl rfl rfl
          have hP := wP_perm hP hq
          have hD := wD_perm hD hq
          have hP : va_P D vwCl ([(b 0, .inr (3, [.int (iv th), .int (iv n), .int (iv np), .int (iv mo), .ref (b 1), .ref (b 2), .ref (b 3), .ref (b 4), .ref (b 5)])), (b 1, .inl (G 0, 144, .inl (fun y9 => iv (LL (updS S d st) y9)))), (b 2, .inl (G 0, 64, .inl (fun y9 => iv (RR (updS S d st) y9)))), (b 5, .inl (G 0, 1, .inl (fun y9 => iv (kk day y9))))]) H := hP
          have hD : va_D A ([(b 0, .inr (3, [.int (iv th), .int (iv n), .int (iv np), .int (iv mo), .ref (b 1), .ref (b 2), .ref (b 3), .ref (b 4), .ref (b 5)])), (b 1, .inl (G 0, 144, .inl (fun y9 => iv (LL (updS S d st) y9)))), (b 2, .inl (G 0, 64, .inl (fun y9 => iv (RR (updS S d st) y9)))), (b 5, .inl (G 0, 1, .inl (fun y9 => iv (kk day y9))))]) := hD
          exact J125 st x (by rw [← es]; unfold loosen; rw [if_pos (by omega)]) ex _ _ hP hD hS _ (lv_sub hl [0, 1, 2] rfl)
        · skip
          exact (by omega : False).elim
      · skip
        refine lv_aload_n hx hb dX3_dayOf_71 rfl (lv_at hl 0 rfl) ?_
        refine lv_iload_n hx hb dX3_dayOf_72 rfl (lv_at hl 1 rfl) ?_
        refine lv_bipush (v := iv 6) hx hb dX3_dayOf_73 (by decide) ?_
        refine r_const hx hb dX3_dayOf_75 ?_
        refine lv_aload_n hx hb dX3_dayOf_76 rfl (lv_at hl 0 rfl) ?_
        refine lv_iload_n hx hb dX3_dayOf_77 rfl (lv_at hl 1 rfl) ?_
        refine lv_bipush (v := iv 6) hx hb dX3_dayOf_78 (by decide) ?_
        have hp := wsp ([(b 0, .inr (3, [.int (iv th), .int (iv n), .int (iv np), .int (iv mo), .ref (b 1), .ref (b 2), .ref (b 3), .ref (b 4), .ref (b 5)])), (b 1, .inl (G 0, 144, .inl (fun y9 => iv (LL (updS S d st) y9)))), (b 2, .inl (G 0, 64, .inl (fun y9 => iv (RR (updS S d st) y9)))), (b 5, .inl (G 0, 1, .inl (fun y9 => iv (kk day y9))))]) ([]) 4 (is := [0, 2]) (js := [1, 3]) (wc := [wM0 b th n np mo, wMr G b (RR (updS S d st))]) (wr := [(b 1, .inl (G 0, 144, .inl (fun y9 => iv (LL (updS S d st) y9)))), (b 5, .inl (G 0, 1, .inl (fun y9 => iv (kk day y9))))]) (by decide) rfl rfl rfl
        skip
        refine k_int (g_V (As := [.int (iv (d : Int)), .int (iv 6)]) (rest := [.int (iv 0), .int (iv 6), .int (iv (d : Int)), .ref (b 0)]) (q0 := 0) (ci := 3) ⟨hx, hb, hml, hown, hts⟩ (c_X3_ro l D G b th n np mo (RR (updS S d st)) d 6 (by omega) (by omega) (dn st) (by rw [RR_at _ (by omega), updS_s]; rfl)) (cwV 2 hts gX3_dayOf_X3_ro rfl rfl rfl (by decide +kernel) ⟨Nat.le_of_ble_eq_true rfl, Nat.le_of_ble_eq_true rfl⟩) hK hP hD hp rfl rfl rfl rfl hl.1 rfl (Nat.le_of_ble_eq_true rfl) dX3_dayOf_80 ⟨by decide, by decide⟩) hP hD hS hA hp (fun v u H locs hw hP hD hS => ?_)
        obtain ⟨hv, hu⟩ := hw
        replace hv : v = (iv (dn st)) := hv
        subst hv
        subst hu
        have hP : va_P D vwCl ([(b 0, .inr (3, [.int (iv th), .int (iv n), .int (iv np), .int (iv mo), .ref (b 1), .ref (b 2), .ref (b 3), .ref (b 4), .ref (b 5)])), (b 2, .inl (G 0, 64, .inl (fun y9 => iv (RR (updS S d st) y9)))), (b 1, .inl (G 0, 144, .inl (fun y9 => iv (LL (updS S d st) y9)))), (b 5, .inl (G 0, 1, .inl (fun y9 => iv (kk day y9))))]) H := hP
        have hD : va_D A ([(b 0, .inr (3, [.int (iv th), .int (iv n), .int (iv np), .int (iv mo), .ref (b 1), .ref (b 2), .ref (b 3), .ref (b 4), .ref (b 5)])), (b 2, .inl (G 0, 64, .inl (fun y9 => iv (RR (updS S d st) y9)))), (b 1, .inl (G 0, 144, .inl (fun y9 => iv (LL (updS S d st) y9)))), (b 5, .inl (G 0, 1, .inl (fun y9 => iv (kk day y9))))]) := hD
        refine r_const hx hb dX3_dayOf_83 ?_
        refine r_sub hx hb dX3_dayOf_84 ?_
        refine r_max hx hb (hml.trans hl.1.symm) hown (hts (.methodLink RX3 120 Lib.Math.max.name) (by decide +kernel)) (hts (.static Lib.Math.max.name) (by decide +kernel)) (hts (.initialized "java/lang/Math") (by decide +kernel)) (hts (.code Lib.Math.max.name Lib.Math.max.code 2 (some .int)) (by decide +kernel)) (Nat.le_of_ble_eq_true rfl) (Nat.le_of_ble_eq_true rfl) (Nat.le_of_ble_eq_true rfl) (Nat.le_of_ble_eq_true rfl) (by omega) (by omega) dX3_dayOf_85 ?_
        have hp := wsp ([(b 0, .inr (3, [.int (iv th), .int (iv n), .int (iv np), .int (iv mo), .ref (b 1), .ref (b 2), .ref (b 3), .ref (b 4), .ref (b 5)])), (b 2, .inl (G 0, 64, .inl (fun y9 => iv (RR (updS S d st) y9)))), (b 1, .inl (G 0, 144, .inl (fun y9 => iv (LL (updS S d st) y9)))), (b 5, .inl (G 0, 1, .inl (fun y9 => iv (kk day y9))))]) ([]) 4 (is := [0, 1]) (js := [2, 3]) (wc := [wM0 b th n np mo, wMr G b (RR (updS S d st))]) (wr := [(b 1, .inl (G 0, 144, .inl (fun y9 => iv (LL (updS S d st) y9)))), (b 5, .inl (G 0, 1, .inl (fun y9 => iv (kk day y9))))]) (by decide) rfl rfl rfl
        skip
        refine k_void (g_V (As := [.int (iv (d : Int)), .int (iv 6), .int (iv (max 0 ((dn st) - 1)))]) (rest := []) (q0 := 0) (ci := 3) ⟨hx, hb, hml, hown, hts⟩ (c_X3_put l D G b th n np mo (RR (updS S d st)) d 6 (by omega) (by omega) (max 0 ((dn st) - 1))) (cwV 3 hts gX3_dayOf_X3_put rfl rfl rfl (by decide +kernel) ⟨Nat.le_of_ble_eq_true rfl, Nat.le_of_ble_eq_true rfl⟩) hK hP hD hp rfl rfl rfl rfl hl.1 rfl (Nat.le_of_ble_eq_true rfl) dX3_dayOf_88 ⟨by decide, by decide⟩) hP hD hS hA hp (fun u H locs hw hP hD hS => ?_)
        subst hw
        rw [put_say (by omega)] at hP hD
        rw [put_LL S d st 6 (max 0 ((dn st) - 1))] at hP hD
        have hP : va_P D vwCl ([(b 0, .inr (3, [.int (iv th), .int (iv n), .int (iv np), .int (iv mo), .ref (b 1), .ref (b 2), .ref (b 3), .ref (b 4), .ref (b 5)])), (b 2, .inl (G 0, 64, .inl (fun y9 => iv (RR (updS S d (setR st 6 (max 0 ((dn st) - 1)))) y9)))), (b 1, .inl (G 0, 144, .inl (fun y9 => iv (LL (updS S d (setR st 6 (max 0 ((dn st) - 1)))) y9)))), (b 5, .inl (G 0, 1, .inl (fun y9 => iv (kk day y9))))]) H := hP
        have hD : va_D A ([(b 0, .inr (3, [.int (iv th), .int (iv n), .int (iv np), .int (iv mo), .ref (b 1), .ref (b 2), .ref (b 3), .ref (b 4), .ref (b 5)])), (b 2, .inl (G 0, 64, .inl (fun y9 => iv (RR (updS S d (setR st 6 (max 0 ((dn st) - 1)))) y9)))), (b 1, .inl (G 0, 144, .inl (fun y9 => iv (LL (updS S d (setR st 6 (max 0 ((dn st) - 1)))) y9)))), (b 5, .inl (G 0, 1, .inl (fun y9 => iv (kk day y9))))]) := hD
        refine lv_aload_n hx hb dX3_dayOf_91 rfl (lv_at hl 0 rfl) ?_
        refine lv_iload_n hx hb dX3_dayOf_92 rfl (lv_at hl 1 rfl) ?_
        refine lv_bipush (v := iv 6) hx hb dX3_dayOf_93 (by decide) ?_
        have hp := wsp ([(b 0, .inr (3, [.int (iv th), .int (iv n), .int (iv np), .int (iv mo), .ref (b 1), .ref (b 2), .ref (b 3), .ref (b 4), .ref (b 5)])), (b 2, .inl (G 0, 64, .inl (fun y9 => iv (RR (updS S d (setR st 6 (max 0 ((dn st) - 1)))) y9)))), (b 1, .inl (G 0, 144, .inl (fun y9 => iv (LL (updS S d (setR st 6 (max 0 ((dn st) - 1)))) y9)))), (b 5, .inl (G 0, 1, .inl (fun y9 => iv (kk day y9))))]) ([]) 4 (is := [0, 1]) (js := [2, 3]) (wc := [wM0 b th n np mo, wMr G b (RR (updS S d (setR st 6 (max 0 ((dn st) - 1)))))]) (wr := [(b 1, .inl (G 0, 144, .inl (fun y9 => iv (LL (updS S d (setR st 6 (max 0 ((dn st) - 1)))) y9)))), (b 5, .inl (G 0, 1, .inl (fun y9 => iv (kk day y9))))]) (by decide) rfl rfl rfl
        skip
        refine k_int (g_V (As := [.int (iv (d : Int)), .int (iv 6)]) (rest := []) (q0 := 0) (ci := 3) ⟨hx, hb, hml, hown, hts⟩ (c_X3_ro l D G b th n np mo (RR (updS S d (setR st 6 (max 0 ((dn st) - 1))))) d 6 (by omega) (by omega) (max 0 ((dn st) - 1)) (by rw [RR_at _ (by omega), updS_s]; rfl)) (cwV 2 hts gX3_dayOf_X3_ro rfl rfl rfl (by decide +kernel) ⟨Nat.le_of_ble_eq_true rfl, Nat.le_of_ble_eq_true rfl⟩) hK hP hD hp rfl rfl rfl rfl hl.1 rfl (Nat.le_of_ble_eq_true rfl) dX3_dayOf_95 ⟨by decide, by decide⟩) hP hD hS hA hp (fun v u H locs hw hP hD hS => ?_)
        obtain ⟨hv, hu⟩ := hw
        replace hv : v = (iv (max 0 ((dn st) - 1))) := hv
        subst hv
        subst hu
        have hP : va_P D vwCl ([(b 0, .inr (3, [.int (iv th), .int (iv n), .int (iv np), .int (iv mo), .ref (b 1), .ref (b 2), .ref (b 3), .ref (b 4), .ref (b 5)])), (b 2, .inl (G 0, 64, .inl (fun y9 => iv (RR (updS S d (setR st 6 (max 0 ((dn st) - 1)))) y9)))), (b 1, .inl (G 0, 144, .inl (fun y9 => iv (LL (updS S d (setR st 6 (max 0 ((dn st) - 1)))) y9)))), (b 5, .inl (G 0, 1, .inl (fun y9 => iv (kk day y9))))]) H := hP
        have hD : va_D A ([(b 0, .inr (3, [.int (iv th), .int (iv n), .int (iv np), .int (iv mo), .ref (b 1), .ref (b 2), .ref (b 3), .ref (b 4), .ref (b 5)])), (b 2, .inl (G 0, 64, .inl (fun y9 => iv (RR (updS S d (setR st 6 (max 0 ((dn st) - 1)))) y9)))), (b 1, .inl (G 0, 144, .inl (fun y9 => iv (LL (updS S d (setR st 6 (max 0 ((dn st) - 1)))) y9)))), (b 5, .inl (G 0, 1, .inl (fun y9 => iv (kk day y9))))]) := hD
        refine lv_aload_n hx hb dX3_dayOf_98 rfl (lv_at hl 0 rfl) ?_
        refine lv_iload_n hx hb dX3_dayOf_99 rfl (lv_at hl 1 rfl) ?_
        refine r_const hx hb dX3_dayOf_100 ?_
        have hp := wsp ([(b 0, .inr (3, [.int (iv th), .int (iv n), .int (iv np), .int (iv mo), .ref (b 1), .ref (b 2), .ref (b 3), .ref (b 4), .ref (b 5)])), (b 2, .inl (G 0, 64, .inl (fun y9 => iv (RR (updS S d (setR st 6 (max 0 ((dn st) - 1)))) y9)))), (b 1, .inl (G 0, 144, .inl (fun y9 => iv (LL (updS S d (setR st 6 (max 0 ((dn st) - 1)))) y9)))), (b 5, .inl (G 0, 1, .inl (fun y9 => iv (kk day y9))))]) ([]) 4 (is := [0, 1]) (js := [2, 3]) (wc := [wM0 b th n np mo, wMr G b (RR (updS S d (setR st 6 (max 0 ((dn st) - 1)))))]) (wr := [(b 1, .inl (G 0, 144, .inl (fun y9 => iv (LL (updS S d (setR st 6 (max 0 ((dn st) - 1)))) y9)))), (b 5, .inl (G 0, 1, .inl (fun y9 => iv (kk day y9))))]) (by decide) rfl rfl rfl
        skip
        refine k_int (g_V (As := [.int (iv (d : Int)), .int (iv 5)]) (rest := [.int (iv (max 0 ((dn st) - 1)))]) (q0 := 0) (ci := 3) ⟨hx, hb, hml, hown, hts⟩ (c_X3_ro l D G b th n np mo (RR (updS S d (setR st 6 (max 0 ((dn st) - 1))))) d 5 (by omega) (by omega) (dv st) (by rw [RR_at _ (by omega), updS_s]; rfl)) (cwV 2 hts gX3_dayOf_X3_ro rfl rfl rfl (by decide +kernel) ⟨Nat.le_of_ble_eq_true rfl, Nat.le_of_ble_eq_true rfl⟩) hK hP hD hp rfl rfl rfl rfl hl.1 rfl (Nat.le_of_ble_eq_true rfl) dX3_dayOf_101 ⟨by decide, by decide⟩) hP hD hS hA hp (fun v u H locs hw hP hD hS => ?_)
        obtain ⟨hv, hu⟩ := hw
        replace hv : v = (iv (dv st)) := hv
        subst hv
        subst hu
        have hP : va_P D vwCl ([(b 0, .inr (3, [.int (iv th), .int (iv n), .int (iv np), .int (iv mo), .ref (b 1), .ref (b 2), .ref (b 3), .ref (b 4), .ref (b 5)])), (b 2, .inl (G 0, 64, .inl (fun y9 => iv (RR (updS S d (setR st 6 (max 0 ((dn st) - 1)))) y9)))), (b 1, .inl (G 0, 144, .inl (fun y9 => iv (LL (updS S d (setR st 6 (max 0 ((dn st) - 1)))) y9)))), (b 5, .inl (G 0, 1, .inl (fun y9 => iv (kk day y9))))]) H := hP
        have hD : va_D A ([(b 0, .inr (3, [.int (iv th), .int (iv n), .int (iv np), .int (iv mo), .ref (b 1), .ref (b 2), .ref (b 3), .ref (b 4), .ref (b 5)])), (b 2, .inl (G 0, 64, .inl (fun y9 => iv (RR (updS S d (setR st 6 (max 0 ((dn st) - 1)))) y9)))), (b 1, .inl (G 0, 144, .inl (fun y9 => iv (LL (updS S d (setR st 6 (max 0 ((dn st) - 1)))) y9)))), (b 5, .inl (G 0, 1, .inl (fun y9 => iv (kk day y9))))]) := hD
        refine r_icmp_ge hx hb 125 dX3_dayOf_104 (by decide) (by omega) (by omega) (fun c_104 => ?_) (fun c_104 => ?_)
        · skip
          have hq := wsp ([(b 0, .inr (3, [.int (iv th), .int (iv n), .int (iv np), .int (iv mo), .ref (b 1), .ref (b 2), .ref (b 3), .ref (b 4), .ref (b 5)])), (b 2, .inl (G 0, 64, .inl (fun y9 => iv (RR (updS S d (setR st 6 (max 0 ((dn st) - 1)))) y9)))), (b 1, .inl (G 0, 144, .inl (fun y9 => iv (LL (updS S d (setR st 6 (max 0 ((dn st) - 1)))) y9)))), (b 5, .inl (G 0, 1, .inl (fun y9 => iv (kk day y9))))]) ([]) 4 (is := [0, 2, 1, 3]) (js := []) (wc := [(b 0, .inr (3, [.int (iv th), .int (iv n), .int (iv np), .int (iv mo), .ref (b 1), .ref (b 2), .ref (b 3), .ref (b 4), .ref (b 5)])), (b 1, .inl (G 0, 144, .inl (fun y9 => iv (LL (updS S d (setR st 6 (max 0 ((dn st) - 1)))) y9)))), (b 2, .inl (G 0, 64, .inl (fun y9 => iv (RR (updS S d (setR st 6 (max 0 ((dn st) - 1)))) y9)))), (b 5, .inl (G 0, 1, .inl (fun y9 => iv (kk day y9))))]) (wr := []) (by decide) rfl rfl rfl
          have hP := wP_perm hP hq
          have hD := wD_perm hD hq
          have hP : va_P D vwCl ([(b 0, .inr (3, [.int (iv th), .int (iv n), .int (iv np), .int (iv mo), .ref (b 1), .ref (b 2), .ref (b 3), .ref (b 4), .ref (b 5)])), (b 1, .inl (G 0, 144, .inl (fun y9 => iv (LL (updS S d (setR st 6 (max 0 ((dn st) - 1)))) y9)))), (b 2, .inl (G 0, 64, .inl (fun y9 => iv (RR (updS S d (setR st 6 (max 0 ((dn st) - 1)))) y9)))), (b 5, .inl (G 0, 1, .inl (fun y9 => iv (kk day y9))))]) H := hP
          have hD : va_D A ([(b 0, .inr (3, [.int (iv th), .int (iv n), .int (iv np), .int (iv mo), .ref (b 1), .ref (b 2), .ref (b 3), .ref (b 4), .ref (b 5)])), (b 1, .inl (G 0, 144, .inl (fun y9 => iv (LL (updS S d (setR st 6 (max 0 ((dn st) - 1)))) y9)))), (b 2, .inl (G 0, 64, .inl (fun y9 => iv (RR (updS S d (setR st 6 (max 0 ((dn st) - 1)))) y9)))), (b 5, .inl (G 0, 1, .inl (fun y9 => iv (kk day y9))))]) := hD
          exact J125 (setR st 6 (max 0 ((dn st) - 1))) x (by rw [← es]; unfold loosen; rw [if_neg (by omega), if_neg (by omega)]; rfl) (by have h1 := has_eq st; have h2 : has (setR st 6 (max 0 ((dn st) - 1))) = (if dg st = -1 then 0 else 1) + (if dv st = 0 then 0 else 1) := has_eq (setR st 6 (max 0 ((dn st) - 1))); rw [ex, h1, h2]; repeat' split; all_goals omega) _ _ hP hD hS _ (lv_sub hl [0, 1, 2] rfl)
        · skip
          refine lv_aload_n hx hb dX3_dayOf_107 rfl (lv_at hl 0 rfl) ?_
          refine lv_iload_n hx hb dX3_dayOf_108 rfl (lv_at hl 1 rfl) ?_
          refine r_const hx hb dX3_dayOf_109 ?_
          refine r_const hx hb dX3_dayOf_110 ?_
          have hp := wsp ([(b 0, .inr (3, [.int (iv th), .int (iv n), .int (iv np), .int (iv mo), .ref (b 1), .ref (b 2), .ref (b 3), .ref (b 4), .ref (b 5)])), (b 2, .inl (G 0, 64, .inl (fun y9 => iv (RR (updS S d (setR st 6 (max 0 ((dn st) - 1)))) y9)))), (b 1, .inl (G 0, 144, .inl (fun y9 => iv (LL (updS S d (setR st 6 (max 0 ((dn st) - 1)))) y9)))), (b 5, .inl (G 0, 1, .inl (fun y9 => iv (kk day y9))))]) ([]) 4 (is := [0, 1]) (js := [2, 3]) (wc := [wM0 b th n np mo, wMr G b (RR (updS S d (setR st 6 (max 0 ((dn st) - 1)))))]) (wr := [(b 1, .inl (G 0, 144, .inl (fun y9 => iv (LL (updS S d (setR st 6 (max 0 ((dn st) - 1)))) y9)))), (b 5, .inl (G 0, 1, .inl (fun y9 => iv (kk day y9))))]) (by decide) rfl rfl rfl
          skip
          refine k_void (g_V (As := [.int (iv (d : Int)), .int (iv 5), .int (iv 0)]) (rest := []) (q0 := 0) (ci := 3) ⟨hx, hb, hml, hown, hts⟩ (c_X3_put l D G b th n np mo (RR (updS S d (setR st 6 (max 0 ((dn st) - 1))))) d 5 (by omega) (by omega) 0) (cwV 3 hts gX3_dayOf_X3_put rfl rfl rfl (by decide +kernel) ⟨Nat.le_of_ble_eq_true rfl, Nat.le_of_ble_eq_true rfl⟩) hK hP hD hp rfl rfl rfl rfl hl.1 rfl (Nat.le_of_ble_eq_true rfl) dX3_dayOf_111 ⟨by decide, by decide⟩) hP hD hS hA hp (fun u H locs hw hP hD hS => ?_)
          subst hw
          rw [put_say (by omega)] at hP hD
          rw [put_LL S d (setR st 6 (max 0 ((dn st) - 1))) 5 0] at hP hD
          have hP : va_P D vwCl ([(b 0, .inr (3, [.int (iv th), .int (iv n), .int (iv np), .int (iv mo), .ref (b 1), .ref (b 2), .ref (b 3), .ref (b 4), .ref (b 5)])), (b 2, .inl (G 0, 64, .inl (fun y9 => iv (RR (updS S d (setR (setR st 6 (max 0 ((dn st) - 1))) 5 0)) y9)))), (b 1, .inl (G 0, 144, .inl (fun y9 => iv (LL (updS S d (setR (setR st 6 (max 0 ((dn st) - 1))) 5 0)) y9)))), (b 5, .inl (G 0, 1, .inl (fun y9 => iv (kk day y9))))]) H := hP
          have hD : va_D A ([(b 0, .inr (3, [.int (iv th), .int (iv n), .int (iv np), .int (iv mo), .ref (b 1), .ref (b 2), .ref (b 3), .ref (b 4), .ref (b 5)])), (b 2, .inl (G 0, 64, .inl (fun y9 => iv (RR (updS S d (setR (setR st 6 (max 0 ((dn st) - 1))) 5 0)) y9)))), (b 1, .inl (G 0, 144, .inl (fun y9 => iv (LL (updS S d (setR (setR st 6 (max 0 ((dn st) - 1))) 5 0)) y9)))), (b 5, .inl (G 0, 1, .inl (fun y9 => iv (kk day y9))))]) := hD
          refine lv_aload_n hx hb dX3_dayOf_114 rfl (lv_at hl 0 rfl) ?_
          refine lv_iload_n hx hb dX3_dayOf_115 rfl (lv_at hl 1 rfl) ?_
          refine lv_bipush (v := iv 6) hx hb dX3_dayOf_116 (by decide) ?_
          refine r_const hx hb dX3_dayOf_118 ?_
          have hp := wsp ([(b 0, .inr (3, [.int (iv th), .int (iv n), .int (iv np), .int (iv mo), .ref (b 1), .ref (b 2), .ref (b 3), .ref (b 4), .ref (b 5)])), (b 2, .inl (G 0, 64, .inl (fun y9 => iv (RR (updS S d (setR (setR st 6 (max 0 ((dn st) - 1))) 5 0)) y9)))), (b 1, .inl (G 0, 144, .inl (fun y9 => iv (LL (updS S d (setR (setR st 6 (max 0 ((dn st) - 1))) 5 0)) y9)))), (b 5, .inl (G 0, 1, .inl (fun y9 => iv (kk day y9))))]) ([]) 4 (is := [0, 1]) (js := [2, 3]) (wc := [wM0 b th n np mo, wMr G b (RR (updS S d (setR (setR st 6 (max 0 ((dn st) - 1))) 5 0)))]) (wr := [(b 1, .inl (G 0, 144, .inl (fun y9 => iv (LL (updS S d (setR (setR st 6 (max 0 ((dn st) - 1))) 5 0)) y9)))), (b 5, .inl (G 0, 1, .inl (fun y9 => iv (kk day y9))))]) (by decide) rfl rfl rfl
          skip
          refine k_void (g_V (As := [.int (iv (d : Int)), .int (iv 6), .int (iv 0)]) (rest := []) (q0 := 0) (ci := 3) ⟨hx, hb, hml, hown, hts⟩ (c_X3_put l D G b th n np mo (RR (updS S d (setR (setR st 6 (max 0 ((dn st) - 1))) 5 0))) d 6 (by omega) (by omega) 0) (cwV 3 hts gX3_dayOf_X3_put rfl rfl rfl (by decide +kernel) ⟨Nat.le_of_ble_eq_true rfl, Nat.le_of_ble_eq_true rfl⟩) hK hP hD hp rfl rfl rfl rfl hl.1 rfl (Nat.le_of_ble_eq_true rfl) dX3_dayOf_119 ⟨by decide, by decide⟩) hP hD hS hA hp (fun u H locs hw hP hD hS => ?_)
          subst hw
          rw [put_say (by omega)] at hP hD
          rw [put_LL S d (setR (setR st 6 (max 0 ((dn st) - 1))) 5 0) 6 0] at hP hD
          have hP : va_P D vwCl ([(b 0, .inr (3, [.int (iv th), .int (iv n), .int (iv np), .int (iv mo), .ref (b 1), .ref (b 2), .ref (b 3), .ref (b 4), .ref (b 5)])), (b 2, .inl (G 0, 64, .inl (fun y9 => iv (RR (updS S d (setR (setR (setR st 6 (max 0 ((dn st) - 1))) 5 0) 6 0)) y9)))), (b 1, .inl (G 0, 144, .inl (fun y9 => iv (LL (updS S d (setR (setR (setR st 6 (max 0 ((dn st) - 1))) 5 0) 6 0)) y9)))), (b 5, .inl (G 0, 1, .inl (fun y9 => iv (kk day y9))))]) H := hP
          have hD : va_D A ([(b 0, .inr (3, [.int (iv th), .int (iv n), .int (iv np), .int (iv mo), .ref (b 1), .ref (b 2), .ref (b 3), .ref (b 4), .ref (b 5)])), (b 2, .inl (G 0, 64, .inl (fun y9 => iv (RR (updS S d (setR (setR (setR st 6 (max 0 ((dn st) - 1))) 5 0) 6 0)) y9)))), (b 1, .inl (G 0, 144, .inl (fun y9 => iv (LL (updS S d (setR (setR (setR st 6 (max 0 ((dn st) - 1))) 5 0) 6 0)) y9)))), (b 5, .inl (G 0, 1, .inl (fun y9 => iv (kk day y9))))]) := hD
          refine r_iinc (k := 2) (lv' := [(2, .int (iv (x + 1))), (0, .ref (b 0)), (1, .int (iv (d : Int)))]) hx hb dX3_dayOf_122 hl rfl (by decide) rfl (fun ls hl => ?_)
          have hq := wsp ([(b 0, .inr (3, [.int (iv th), .int (iv n), .int (iv np), .int (iv mo), .ref (b 1), .ref (b 2), .ref (b 3), .ref (b 4), .ref (b 5)])), (b 2, .inl (G 0, 64, .inl (fun y9 => iv (RR (updS S d (setR (setR (setR st 6 (max 0 ((dn st) - 1))) 5 0) 6 0)) y9)))), (b 1, .inl (G 0, 144, .inl (fun y9 => iv (LL (updS S d (setR (setR (setR st 6 (max 0 ((dn st) - 1))) 5 0) 6 0)) y9)))), (b 5, .inl (G 0, 1, .inl (fun y9 => iv (kk day y9))))]) ([]) 4 (is := [0, 2, 1, 3]) (js := []) (wc := [(b 0, .inr (3, [.int (iv th), .int (iv n), .int (iv np), .int (iv mo), .ref (b 1), .ref (b 2), .ref (b 3), .ref (b 4), .ref (b 5)])), (b 1, .inl (G 0, 144, .inl (fun y9 => iv (LL (updS S d (setR (setR (setR st 6 (max 0 ((dn st) - 1))) 5 0) 6 0)) y9)))), (b 2, .inl (G 0, 64, .inl (fun y9 => iv (RR (updS S d (setR (setR (setR st 6 (max 0 ((dn st) - 1))) 5 0) 6 0)) y9)))), (b 5, .inl (G 0, 1, .inl (fun y9 => iv (kk day y9))))]) (wr := []) (by decide) rfl rfl rfl
          have hP := wP_perm hP hq
          have hD := wD_perm hD hq
          have hP : va_P D vwCl ([(b 0, .inr (3, [.int (iv th), .int (iv n), .int (iv np), .int (iv mo), .ref (b 1), .ref (b 2), .ref (b 3), .ref (b 4), .ref (b 5)])), (b 1, .inl (G 0, 144, .inl (fun y9 => iv (LL (updS S d (setR (setR (setR st 6 (max 0 ((dn st) - 1))) 5 0) 6 0)) y9)))), (b 2, .inl (G 0, 64, .inl (fun y9 => iv (RR (updS S d (setR (setR (setR st 6 (max 0 ((dn st) - 1))) 5 0) 6 0)) y9)))), (b 5, .inl (G 0, 1, .inl (fun y9 => iv (kk day y9))))]) H := hP
          have hD : va_D A ([(b 0, .inr (3, [.int (iv th), .int (iv n), .int (iv np), .int (iv mo), .ref (b 1), .ref (b 2), .ref (b 3), .ref (b 4), .ref (b 5)])), (b 1, .inl (G 0, 144, .inl (fun y9 => iv (LL (updS S d (setR (setR (setR st 6 (max 0 ((dn st) - 1))) 5 0) 6 0)) y9)))), (b 2, .inl (G 0, 64, .inl (fun y9 => iv (RR (updS S d (setR (setR (setR st 6 (max 0 ((dn st) - 1))) 5 0) 6 0)) y9)))), (b 5, .inl (G 0, 1, .inl (fun y9 => iv (kk day y9))))]) := hD
          exact J125 (setR (setR (setR st 6 (max 0 ((dn st) - 1))) 5 0) 6 0) (x + 1) (by rw [← es]; unfold loosen; rw [if_neg (by omega), if_pos (by omega)]; rfl) (by have h1 := has_eq st; have h2 : has (setR (setR (setR st 6 (max 0 ((dn st) - 1))) 5 0) 6 0) = (if dg st = -1 then 0 else 1) + (if 0 = 0 then 0 else 1) := has_eq (setR (setR (setR st 6 (max 0 ((dn st) - 1))) 5 0) 6 0); rw [ex, h1, h2]; repeat' split; all_goals omega) _ _ hP hD hS _ (lv_sub hl [1, 2, 0] rfl)
  refine r_const hx hb dX3_dayOf_0 ?_
  refine lv_istore_n (lv' := [(2, .int (iv 0)), (0, .ref (b 0)), (1, .int (iv (d : Int)))]) hx hb dX3_dayOf_1 rfl hl (by decide) rfl (fun ls hl => ?_)
  refine lv_aload_n hx hb dX3_dayOf_2 rfl (lv_at hl 1 rfl) ?_
  refine lv_iload_n hx hb dX3_dayOf_3 rfl (lv_at hl 2 rfl) ?_
  refine r_const hx hb dX3_dayOf_4 ?_
  have hp := wsp ([(b 0, .inr (3, [.int (iv th), .int (iv n), .int (iv np), .int (iv mo), .ref (b 1), .ref (b 2), .ref (b 3), .ref (b 4), .ref (b 5)])), (b 1, .inl (G 0, 144, .inl (fun y9 => iv (LL (updS S d ds) y9)))), (b 2, .inl (G 0, 64, .inl (fun y9 => iv (RR (updS S d ds) y9)))), (b 5, .inl (G 0, 1, .inl (fun y9 => iv (kk day y9))))]) ([]) 4 (is := [0, 2]) (js := [1, 3]) (wc := [wM0 b th n np mo, wMr G b (RR (updS S d ds))]) (wr := [(b 1, .inl (G 0, 144, .inl (fun y9 => iv (LL (updS S d ds) y9)))), (b 5, .inl (G 0, 1, .inl (fun y9 => iv (kk day y9))))]) (by decide) rfl rfl rfl
  skip
  refine k_int (g_V (As := [.int (iv (d : Int)), .int (iv 4)]) (rest := []) (q0 := 0) (ci := 3) ⟨hx, hb, hml, hown, hts⟩ (c_X3_ro l D G b th n np mo (RR (updS S d ds)) d 4 (by omega) (by omega) (dg ds) (by rw [RR_at _ (by omega), updS_s]; rfl)) (cwV 2 hts gX3_dayOf_X3_ro rfl rfl rfl (by decide +kernel) ⟨Nat.le_of_ble_eq_true rfl, Nat.le_of_ble_eq_true rfl⟩) hK hP hD hp rfl rfl rfl rfl hl.1 rfl (Nat.le_of_ble_eq_true rfl) dX3_dayOf_5 ⟨by decide, by decide⟩) hP hD hS hA hp (fun v u H locs hw hP hD hS => ?_)
  obtain ⟨hv, hu⟩ := hw
  replace hv : v = (iv (dg ds)) := hv
  subst hv
  subst hu
  have hP : va_P D vwCl ([(b 0, .inr (3, [.int (iv th), .int (iv n), .int (iv np), .int (iv mo), .ref (b 1), .ref (b 2), .ref (b 3), .ref (b 4), .ref (b 5)])), (b 2, .inl (G 0, 64, .inl (fun y9 => iv (RR (updS S d ds) y9)))), (b 1, .inl (G 0, 144, .inl (fun y9 => iv (LL (updS S d ds) y9)))), (b 5, .inl (G 0, 1, .inl (fun y9 => iv (kk day y9))))]) H := hP
  have hD : va_D A ([(b 0, .inr (3, [.int (iv th), .int (iv n), .int (iv np), .int (iv mo), .ref (b 1), .ref (b 2), .ref (b 3), .ref (b 4), .ref (b 5)])), (b 2, .inl (G 0, 64, .inl (fun y9 => iv (RR (updS S d ds) y9)))), (b 1, .inl (G 0, 144, .inl (fun y9 => iv (LL (updS S d ds) y9)))), (b 5, .inl (G 0, 1, .inl (fun y9 => iv (kk day y9))))]) := hD
  refine r_const hx hb dX3_dayOf_8 ?_
  refine r_icmp_eq hx hb 50 dX3_dayOf_9 (by decide) (by omega) (by omega) (fun c_9 => ?_) (fun c_9 => ?_)
  · skip
    have hq := wsp ([(b 0, .inr (3, [.int (iv th), .int (iv n), .int (iv np), .int (iv mo), .ref (b 1), .ref (b 2), .ref (b 3), .ref (b 4), .ref (b 5)])), (b 2, .inl (G 0, 64, .inl (fun y9 => iv (RR (updS S d ds) y9)))), (b 1, .inl (G 0, 144, .inl (fun y9 => iv (LL (updS S d ds) y9)))), (b 5, .inl (G 0, 1, .inl (fun y9 => iv (kk day y9))))]) ([]) 4 (is := [0, 2, 1, 3]) (js := []) (wc := [(b 0, .inr (3, [.int (iv th), .int (iv n), .int (iv np), .int (iv mo), .ref (b 1), .ref (b 2), .ref (b 3), .ref (b 4), .ref (b 5)])), (b 1, .inl (G 0, 144, .inl (fun y9 => iv (LL (updS S d ds) y9)))), (b 2, .inl (G 0, 64, .inl (fun y9 => iv (RR (updS S d ds) y9)))), (b 5, .inl (G 0, 1, .inl (fun y9 => iv (kk day y9))))]) (wr := []) (by decide) rfl rfl rfl
    have hP := wP_perm hP hq
    have hD := wD_perm hD hq
    have hP : va_P D vwCl ([(b 0, .inr (3, [.int (iv th), .int (iv n), .int (iv np), .int (iv mo), .ref (b 1), .ref (b 2), .ref (b 3), .ref (b 4), .ref (b 5)])), (b 1, .inl (G 0, 144, .inl (fun y9 => iv (LL (updS S d ds) y9)))), (b 2, .inl (G 0, 64, .inl (fun y9 => iv (RR (updS S d ds) y9)))), (b 5, .inl (G 0, 1, .inl (fun y9 => iv (kk day y9))))]) H := hP
    have hD : va_D A ([(b 0, .inr (3, [.int (iv th), .int (iv n), .int (iv np), .int (iv mo), .ref (b 1), .ref (b 2), .ref (b 3), .ref (b 4), .ref (b 5)])), (b 1, .inl (G 0, 144, .inl (fun y9 => iv (LL (updS S d ds) y9)))), (b 2, .inl (G 0, 64, .inl (fun y9 => iv (RR (updS S d ds) y9)))), (b 5, .inl (G 0, 1, .inl (fun y9 => iv (kk day y9))))]) := hD
    exact J50 ds 0 (by unfold eatW; rw [if_pos (by omega)]) ((Int.sub_self _).symm) _ _ hP hD hS _ (lv_sub hl [1, 2, 0] rfl)
  · skip
    refine lv_aload_n hx hb dX3_dayOf_12 rfl (lv_at hl 1 rfl) ?_
    refine lv_iload_n hx hb dX3_dayOf_13 rfl (lv_at hl 2 rfl) ?_
    refine r_const hx hb dX3_dayOf_14 ?_
    refine lv_aload_n hx hb dX3_dayOf_15 rfl (lv_at hl 1 rfl) ?_
    refine lv_iload_n hx hb dX3_dayOf_16 rfl (lv_at hl 2 rfl) ?_
    refine r_const hx hb dX3_dayOf_17 ?_
    have hp := wsp ([(b 0, .inr (3, [.int (iv th), .int (iv n), .int (iv np), .int (iv mo), .ref (b 1), .ref (b 2), .ref (b 3), .ref (b 4), .ref (b 5)])), (b 2, .inl (G 0, 64, .inl (fun y9 => iv (RR (updS S d ds) y9)))), (b 1, .inl (G 0, 144, .inl (fun y9 => iv (LL (updS S d ds) y9)))), (b 5, .inl (G 0, 1, .inl (fun y9 => iv (kk day y9))))]) ([]) 4 (is := [0, 1]) (js := [2, 3]) (wc := [wM0 b th n np mo, wMr G b (RR (updS S d ds))]) (wr := [(b 1, .inl (G 0, 144, .inl (fun y9 => iv (LL (updS S d ds) y9)))), (b 5, .inl (G 0, 1, .inl (fun y9 => iv (kk day y9))))]) (by decide) rfl rfl rfl
    skip
    refine k_int (g_V (As := [.int (iv (d : Int)), .int (iv 4)]) (rest := [.int (iv 4), .int (iv (d : Int)), .ref (b 0)]) (q0 := 0) (ci := 3) ⟨hx, hb, hml, hown, hts⟩ (c_X3_ro l D G b th n np mo (RR (updS S d ds)) d 4 (by omega) (by omega) (dg ds) (by rw [RR_at _ (by omega), updS_s]; rfl)) (cwV 2 hts gX3_dayOf_X3_ro rfl rfl rfl (by decide +kernel) ⟨Nat.le_of_ble_eq_true rfl, Nat.le_of_ble_eq_true rfl⟩) hK hP hD hp rfl rfl rfl rfl hl.1 rfl (Nat.le_of_ble_eq_true rfl) dX3_dayOf_18 ⟨by decide, by decide⟩) hP hD hS hA hp (fun v u H locs hw hP hD hS => ?_)
    obtain ⟨hv, hu⟩ := hw
    replace hv : v = (iv (dg ds)) := hv
    subst hv
    subst hu
    have hP : va_P D vwCl ([(b 0, .inr (3, [.int (iv th), .int (iv n), .int (iv np), .int (iv mo), .ref (b 1), .ref (b 2), .ref (b 3), .ref (b 4), .ref (b 5)])), (b 2, .inl (G 0, 64, .inl (fun y9 => iv (RR (updS S d ds) y9)))), (b 1, .inl (G 0, 144, .inl (fun y9 => iv (LL (updS S d ds) y9)))), (b 5, .inl (G 0, 1, .inl (fun y9 => iv (kk day y9))))]) H := hP
    have hD : va_D A ([(b 0, .inr (3, [.int (iv th), .int (iv n), .int (iv np), .int (iv mo), .ref (b 1), .ref (b 2), .ref (b 3), .ref (b 4), .ref (b 5)])), (b 2, .inl (G 0, 64, .inl (fun y9 => iv (RR (updS S d ds) y9)))), (b 1, .inl (G 0, 144, .inl (fun y9 => iv (LL (updS S d ds) y9)))), (b 5, .inl (G 0, 1, .inl (fun y9 => iv (kk day y9))))]) := hD
    refine lv_aload_n hx hb dX3_dayOf_21 rfl (lv_at hl 1 rfl) ?_
    refine va_get (D := D) (ci := 3) (v := .int (iv mo)) (C := RX3) (T := TX3) (N := 9) hx hb hts in_X3 hown hK hP 0 rfl rfl 3 (by decide) lk7 (fun _ h9 => h9) rfl dX3_dayOf_22 ?_
    refine r_add hx hb dX3_dayOf_25 ?_
    have hp := wsp ([(b 0, .inr (3, [.int (iv th), .int (iv n), .int (iv np), .int (iv mo), .ref (b 1), .ref (b 2), .ref (b 3), .ref (b 4), .ref (b 5)])), (b 2, .inl (G 0, 64, .inl (fun y9 => iv (RR (updS S d ds) y9)))), (b 1, .inl (G 0, 144, .inl (fun y9 => iv (LL (updS S d ds) y9)))), (b 5, .inl (G 0, 1, .inl (fun y9 => iv (kk day y9))))]) ([]) 4 (is := [0, 1]) (js := [2, 3]) (wc := [wM0 b th n np mo, wMr G b (RR (updS S d ds))]) (wr := [(b 1, .inl (G 0, 144, .inl (fun y9 => iv (LL (updS S d ds) y9)))), (b 5, .inl (G 0, 1, .inl (fun y9 => iv (kk day y9))))]) (by decide) rfl rfl rfl
    skip
    refine k_void (g_V (As := [.int (iv (d : Int)), .int (iv 4), .int (iv ((dg ds) + mo))]) (rest := []) (q0 := 0) (ci := 3) ⟨hx, hb, hml, hown, hts⟩ (c_X3_put l D G b th n np mo (RR (updS S d ds)) d 4 (by omega) (by omega) ((dg ds) + mo)) (cwV 3 hts gX3_dayOf_X3_put rfl rfl rfl (by decide +kernel) ⟨Nat.le_of_ble_eq_true rfl, Nat.le_of_ble_eq_true rfl⟩) hK hP hD hp rfl rfl rfl rfl hl.1 rfl (Nat.le_of_ble_eq_true rfl) dX3_dayOf_26 ⟨by decide, by decide⟩) hP hD hS hA hp (fun u H locs hw hP hD hS => ?_)
    subst hw
    rw [put_say (by omega)] at hP hD
    rw [put_LL S d ds 4 ((dg ds) + mo)] at hP hD
    have hP : va_P D vwCl ([(b 0, .inr (3, [.int (iv th), .int (iv n), .int (iv np), .int (iv mo), .ref (b 1), .ref (b 2), .ref (b 3), .ref (b 4), .ref (b 5)])), (b 2, .inl (G 0, 64, .inl (fun y9 => iv (RR (updS S d (setR ds 4 ((dg ds) + mo))) y9)))), (b 1, .inl (G 0, 144, .inl (fun y9 => iv (LL (updS S d (setR ds 4 ((dg ds) + mo))) y9)))), (b 5, .inl (G 0, 1, .inl (fun y9 => iv (kk day y9))))]) H := hP
    have hD : va_D A ([(b 0, .inr (3, [.int (iv th), .int (iv n), .int (iv np), .int (iv mo), .ref (b 1), .ref (b 2), .ref (b 3), .ref (b 4), .ref (b 5)])), (b 2, .inl (G 0, 64, .inl (fun y9 => iv (RR (updS S d (setR ds 4 ((dg ds) + mo))) y9)))), (b 1, .inl (G 0, 144, .inl (fun y9 => iv (LL (updS S d (setR ds 4 ((dg ds) + mo))) y9)))), (b 5, .inl (G 0, 1, .inl (fun y9 => iv (kk day y9))))]) := hD
    refine lv_aload_n hx hb dX3_dayOf_29 rfl (lv_at hl 1 rfl) ?_
    refine lv_iload_n hx hb dX3_dayOf_30 rfl (lv_at hl 2 rfl) ?_
    refine r_const hx hb dX3_dayOf_31 ?_
    have hp := wsp ([(b 0, .inr (3, [.int (iv th), .int (iv n), .int (iv np), .int (iv mo), .ref (b 1), .ref (b 2), .ref (b 3), .ref (b 4), .ref (b 5)])), (b 2, .inl (G 0, 64, .inl (fun y9 => iv (RR (updS S d (setR ds 4 ((dg ds) + mo))) y9)))), (b 1, .inl (G 0, 144, .inl (fun y9 => iv (LL (updS S d (setR ds 4 ((dg ds) + mo))) y9)))), (b 5, .inl (G 0, 1, .inl (fun y9 => iv (kk day y9))))]) ([]) 4 (is := [0, 1]) (js := [2, 3]) (wc := [wM0 b th n np mo, wMr G b (RR (updS S d (setR ds 4 ((dg ds) + mo))))]) (wr := [(b 1, .inl (G 0, 144, .inl (fun y9 => iv (LL (updS S d (setR ds 4 ((dg ds) + mo))) y9)))), (b 5, .inl (G 0, 1, .inl (fun y9 => iv (kk day y9))))]) (by decide) rfl rfl rfl
    skip
    refine k_int (g_V (As := [.int (iv (d : Int)), .int (iv 4)]) (rest := []) (q0 := 0) (ci := 3) ⟨hx, hb, hml, hown, hts⟩ (c_X3_ro l D G b th n np mo (RR (updS S d (setR ds 4 ((dg ds) + mo)))) d 4 (by omega) (by omega) ((dg ds) + mo) (by rw [RR_at _ (by omega), updS_s]; rfl)) (cwV 2 hts gX3_dayOf_X3_ro rfl rfl rfl (by decide +kernel) ⟨Nat.le_of_ble_eq_true rfl, Nat.le_of_ble_eq_true rfl⟩) hK hP hD hp rfl rfl rfl rfl hl.1 rfl (Nat.le_of_ble_eq_true rfl) dX3_dayOf_32 ⟨by decide, by decide⟩) hP hD hS hA hp (fun v u H locs hw hP hD hS => ?_)
    obtain ⟨hv, hu⟩ := hw
    replace hv : v = (iv ((dg ds) + mo)) := hv
    subst hv
    subst hu
    have hP : va_P D vwCl ([(b 0, .inr (3, [.int (iv th), .int (iv n), .int (iv np), .int (iv mo), .ref (b 1), .ref (b 2), .ref (b 3), .ref (b 4), .ref (b 5)])), (b 2, .inl (G 0, 64, .inl (fun y9 => iv (RR (updS S d (setR ds 4 ((dg ds) + mo))) y9)))), (b 1, .inl (G 0, 144, .inl (fun y9 => iv (LL (updS S d (setR ds 4 ((dg ds) + mo))) y9)))), (b 5, .inl (G 0, 1, .inl (fun y9 => iv (kk day y9))))]) H := hP
    have hD : va_D A ([(b 0, .inr (3, [.int (iv th), .int (iv n), .int (iv np), .int (iv mo), .ref (b 1), .ref (b 2), .ref (b 3), .ref (b 4), .ref (b 5)])), (b 2, .inl (G 0, 64, .inl (fun y9 => iv (RR (updS S d (setR ds 4 ((dg ds) + mo))) y9)))), (b 1, .inl (G 0, 144, .inl (fun y9 => iv (LL (updS S d (setR ds 4 ((dg ds) + mo))) y9)))), (b 5, .inl (G 0, 1, .inl (fun y9 => iv (kk day y9))))]) := hD
    refine lv_bipush (v := iv 10) hx hb dX3_dayOf_35 (by decide) ?_
    refine r_icmp_lt hx hb 50 dX3_dayOf_37 (by decide) (by omega) (by omega) (fun c_37 => ?_) (fun c_37 => ?_)
    · skip
      have hq := wsp ([(b 0, .inr (3, [.int (iv th), .int (iv n), .int (iv np), .int (iv mo), .ref (b 1), .ref (b 2), .ref (b 3), .ref (b 4), .ref (b 5)])), (b 2, .inl (G 0, 64, .inl (fun y9 => iv (RR (updS S d (setR ds 4 ((dg ds) + mo))) y9)))), (b 1, .inl (G 0, 144, .inl (fun y9 => iv (LL (updS S d (setR ds 4 ((dg ds) + mo))) y9)))), (b 5, .inl (G 0, 1, .inl (fun y9 => iv (kk day y9))))]) ([]) 4 (is := [0, 2, 1, 3]) (js := []) (wc := [(b 0, .inr (3, [.int (iv th), .int (iv n), .int (iv np), .int (iv mo), .ref (b 1), .ref (b 2), .ref (b 3), .ref (b 4), .ref (b 5)])), (b 1, .inl (G 0, 144, .inl (fun y9 => iv (LL (updS S d (setR ds 4 ((dg ds) + mo))) y9)))), (b 2, .inl (G 0, 64, .inl (fun y9 => iv (RR (updS S d (setR ds 4 ((dg ds) + mo))) y9)))), (b 5, .inl (G 0, 1, .inl (fun y9 => iv (kk day y9))))]) (wr := []) (by decide) rfl rfl rfl
      have hP := wP_perm hP hq
      have hD := wD_perm hD hq
      have hP : va_P D vwCl ([(b 0, .inr (3, [.int (iv th), .int (iv n), .int (iv np), .int (iv mo), .ref (b 1), .ref (b 2), .ref (b 3), .ref (b 4), .ref (b 5)])), (b 1, .inl (G 0, 144, .inl (fun y9 => iv (LL (updS S d (setR ds 4 ((dg ds) + mo))) y9)))), (b 2, .inl (G 0, 64, .inl (fun y9 => iv (RR (updS S d (setR ds 4 ((dg ds) + mo))) y9)))), (b 5, .inl (G 0, 1, .inl (fun y9 => iv (kk day y9))))]) H := hP
      have hD : va_D A ([(b 0, .inr (3, [.int (iv th), .int (iv n), .int (iv np), .int (iv mo), .ref (b 1), .ref (b 2), .ref (b 3), .ref (b 4), .ref (b 5)])), (b 1, .inl (G 0, 144, .inl (fun y9 => iv (LL (updS S d (setR ds 4 ((dg ds) + mo))) y9)))), (b 2, .inl (G 0, 64, .inl (fun y9 => iv (RR (updS S d (setR ds 4 ((dg ds) + mo))) y9)))), (b 5, .inl (G 0, 1, .inl (fun y9 => iv (kk day y9))))]) := hD
      exact J50 (setR ds 4 ((dg ds) + mo)) 0 (by unfold eatW; rw [if_neg (by omega), if_neg (by omega)]; rfl) (by have h1 := has_eq ds; have h2 : has (setR ds 4 ((dg ds) + mo)) = (if (dg ds) + mo = -1 then 0 else 1) + (if dv ds = 0 then 0 else 1) := has_eq (setR ds 4 ((dg ds) + mo)); rw [h1, h2]; repeat' split; all_goals omega) _ _ hP hD hS _ (lv_sub hl [1, 2, 0] rfl)
    · skip
      refine lv_aload_n hx hb dX3_dayOf_40 rfl (lv_at hl 1 rfl) ?_
      refine lv_iload_n hx hb dX3_dayOf_41 rfl (lv_at hl 2 rfl) ?_
      refine r_const hx hb dX3_dayOf_42 ?_
      refine r_const hx hb dX3_dayOf_43 ?_
      have hp := wsp ([(b 0, .inr (3, [.int (iv th), .int (iv n), .int (iv np), .int (iv mo), .ref (b 1), .ref (b 2), .ref (b 3), .ref (b 4), .ref (b 5)])), (b 2, .inl (G 0, 64, .inl (fun y9 => iv (RR (updS S d (setR ds 4 ((dg ds) + mo))) y9)))), (b 1, .inl (G 0, 144, .inl (fun y9 => iv (LL (updS S d (setR ds 4 ((dg ds) + mo))) y9)))), (b 5, .inl (G 0, 1, .inl (fun y9 => iv (kk day y9))))]) ([]) 4 (is := [0, 1]) (js := [2, 3]) (wc := [wM0 b th n np mo, wMr G b (RR (updS S d (setR ds 4 ((dg ds) + mo))))]) (wr := [(b 1, .inl (G 0, 144, .inl (fun y9 => iv (LL (updS S d (setR ds 4 ((dg ds) + mo))) y9)))), (b 5, .inl (G 0, 1, .inl (fun y9 => iv (kk day y9))))]) (by decide) rfl rfl rfl
      skip
      refine k_void (g_V (As := [.int (iv (d : Int)), .int (iv 4), .int (iv (-1))]) (rest := []) (q0 := 0) (ci := 3) ⟨hx, hb, hml, hown, hts⟩ (c_X3_put l D G b th n np mo (RR (updS S d (setR ds 4 ((dg ds) + mo)))) d 4 (by omega) (by omega) (-1)) (cwV 3 hts gX3_dayOf_X3_put rfl rfl rfl (by decide +kernel) ⟨Nat.le_of_ble_eq_true rfl, Nat.le_of_ble_eq_true rfl⟩) hK hP hD hp rfl rfl rfl rfl hl.1 rfl (Nat.le_of_ble_eq_true rfl) dX3_dayOf_44 ⟨by decide, by decide⟩) hP hD hS hA hp (fun u H locs hw hP hD hS => ?_)
      subst hw
      rw [put_say (by omega)] at hP hD
      rw [put_LL S d (setR ds 4 ((dg ds) + mo)) 4 (-1)] at hP hD
      have hP : va_P D vwCl ([(b 0, .inr (3, [.int (iv th), .int (iv n), .int (iv np), .int (iv mo), .ref (b 1), .ref (b 2), .ref (b 3), .ref (b 4), .ref (b 5)])), (b 2, .inl (G 0, 64, .inl (fun y9 => iv (RR (updS S d (setR (setR ds 4 ((dg ds) + mo)) 4 (-1))) y9)))), (b 1, .inl (G 0, 144, .inl (fun y9 => iv (LL (updS S d (setR (setR ds 4 ((dg ds) + mo)) 4 (-1))) y9)))), (b 5, .inl (G 0, 1, .inl (fun y9 => iv (kk day y9))))]) H := hP
      have hD : va_D A ([(b 0, .inr (3, [.int (iv th), .int (iv n), .int (iv np), .int (iv mo), .ref (b 1), .ref (b 2), .ref (b 3), .ref (b 4), .ref (b 5)])), (b 2, .inl (G 0, 64, .inl (fun y9 => iv (RR (updS S d (setR (setR ds 4 ((dg ds) + mo)) 4 (-1))) y9)))), (b 1, .inl (G 0, 144, .inl (fun y9 => iv (LL (updS S d (setR (setR ds 4 ((dg ds) + mo)) 4 (-1))) y9)))), (b 5, .inl (G 0, 1, .inl (fun y9 => iv (kk day y9))))]) := hD
      refine r_iinc (k := 0) (lv' := [(2, .int (iv (0 + 1))), (0, .ref (b 0)), (1, .int (iv (d : Int)))]) hx hb dX3_dayOf_47 hl rfl (by decide) rfl (fun ls hl => ?_)
      have hq := wsp ([(b 0, .inr (3, [.int (iv th), .int (iv n), .int (iv np), .int (iv mo), .ref (b 1), .ref (b 2), .ref (b 3), .ref (b 4), .ref (b 5)])), (b 2, .inl (G 0, 64, .inl (fun y9 => iv (RR (updS S d (setR (setR ds 4 ((dg ds) + mo)) 4 (-1))) y9)))), (b 1, .inl (G 0, 144, .inl (fun y9 => iv (LL (updS S d (setR (setR ds 4 ((dg ds) + mo)) 4 (-1))) y9)))), (b 5, .inl (G 0, 1, .inl (fun y9 => iv (kk day y9))))]) ([]) 4 (is := [0, 2, 1, 3]) (js := []) (wc := [(b 0, .inr (3, [.int (iv th), .int (iv n), .int (iv np), .int (iv mo), .ref (b 1), .ref (b 2), .ref (b 3), .ref (b 4), .ref (b 5)])), (b 1, .inl (G 0, 144, .inl (fun y9 => iv (LL (updS S d (setR (setR ds 4 ((dg ds) + mo)) 4 (-1))) y9)))), (b 2, .inl (G 0, 64, .inl (fun y9 => iv (RR (updS S d (setR (setR ds 4 ((dg ds) + mo)) 4 (-1))) y9)))), (b 5, .inl (G 0, 1, .inl (fun y9 => iv (kk day y9))))]) (wr := []) (by decide) rfl rfl rfl
      have hP := wP_perm hP hq
      have hD := wD_perm hD hq
      have hP : va_P D vwCl ([(b 0, .inr (3, [.int (iv th), .int (iv n), .int (iv np), .int (iv mo), .ref (b 1), .ref (b 2), .ref (b 3), .ref (b 4), .ref (b 5)])), (b 1, .inl (G 0, 144, .inl (fun y9 => iv (LL (updS S d (setR (setR ds 4 ((dg ds) + mo)) 4 (-1))) y9)))), (b 2, .inl (G 0, 64, .inl (fun y9 => iv (RR (updS S d (setR (setR ds 4 ((dg ds) + mo)) 4 (-1))) y9)))), (b 5, .inl (G 0, 1, .inl (fun y9 => iv (kk day y9))))]) H := hP
      have hD : va_D A ([(b 0, .inr (3, [.int (iv th), .int (iv n), .int (iv np), .int (iv mo), .ref (b 1), .ref (b 2), .ref (b 3), .ref (b 4), .ref (b 5)])), (b 1, .inl (G 0, 144, .inl (fun y9 => iv (LL (updS S d (setR (setR ds 4 ((dg ds) + mo)) 4 (-1))) y9)))), (b 2, .inl (G 0, 64, .inl (fun y9 => iv (RR (updS S d (setR (setR ds 4 ((dg ds) + mo)) 4 (-1))) y9)))), (b 5, .inl (G 0, 1, .inl (fun y9 => iv (kk day y9))))]) := hD
      exact J50 (setR (setR ds 4 ((dg ds) + mo)) 4 (-1)) (0 + 1) (by unfold eatW; rw [if_neg (by omega), if_pos (by omega)]; rfl) (by have h1 := has_eq ds; have h2 : has (setR (setR ds 4 ((dg ds) + mo)) 4 (-1)) = (if (-1) = -1 then 0 else 1) + (if dv ds = 0 then 0 else 1) := has_eq (setR (setR ds 4 ((dg ds) + mo)) 4 (-1)); rw [h1, h2]; repeat' split; all_goals omega) _ _ hP hD hS _ (lv_sub hl [1, 2, 0] rfl)
