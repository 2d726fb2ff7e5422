set_option maxHeartbeats 4000000 in
set_option maxRecDepth 100000 in
theorem c_X3_thrown (l : Launch) (D : va_G) (G : Nat → ClassId) (b : Nat → Nat) (th n np mo : Int)  : MtG l yX3_thrown wsX3_thrown 0 0 0 0 D (TY G) [.ref (b 0)] ([wM0 b th n np mo]) (qI D (fun r u => r = iv th ∧ u = [wM0 b th n np mo])) := by
  refine MtG.mk (cc := cX3_thrown) (maxL := 1) (ret := some .int) (by decide) rfl (Nat.le_of_ble_eq_true rfl) ?_
  intro p e s m below meth c A ls hx hb hr hlk hml hown hin hts hK hA hP hD hS hl
  replace hown : s.vm.findClass RX3 = some m.cls := hown
  have hl : lv_has ls 1 [(0, .ref (b 0))] := hl
  skip
  have hP : va_P D vwCl ([(b 0, .inr (3, [.int (iv th), .int (iv n), .int (iv np), .int (iv mo), .ref (b 1), .ref (b 2), .ref (b 3), .ref (b 4), .ref (b 5)]))]) s.heap := hP
  have hD : va_D A ([(b 0, .inr (3, [.int (iv th), .int (iv n), .int (iv np), .int (iv mo), .ref (b 1), .ref (b 2), .ref (b 3), .ref (b 4), .ref (b 5)]))]) := hD
  have lk29 := hts (.fieldLink RX3 29 "DollCitadelModel" "thrown" "I") (by decide +kernel)
  have in_X3 : ∀ w ∈ u_ws RX3 TX3 9, w ∈ wsX3_thrown := by decide +kernel
  refine lv_aload_n hx hb dX3_thrown_0 rfl (lv_at hl 0 rfl) ?_
  refine va_get (D := D) (ci := 3) (v := .int (iv th)) (C := RX3) (T := TX3) (N := 9) hx hb hts in_X3 hown hK hP 0 rfl rfl 0 (by decide) lk29 (fun _ h9 => h9) rfl dX3_thrown_1 ?_
  exact e_int hx hb hr hlk dX3_thrown_4 hS hP hD (by decide) (by decide) (⟨rfl, rfl⟩)
set_option maxHeartbeats 4000000 in
set_option maxRecDepth 100000 in
theorem c_X3_fail (l : Launch) (D : va_G) (G : Nat → ClassId) (b : Nat → Nat) (th n np mo : Int) (k : Int)  : MtG l yX3_fail wsX3_fail 0 0 0 0 D (TY G) [.ref (b 0), .int (iv k)] ([wM0 b th n np mo]) (qI D (fun r u => r = iv 0 ∧ u = [wM0 b k n np mo])) := by
  refine MtG.mk (cc := cX3_fail) (maxL := 2) (ret := some .int) (by decide) rfl (Nat.le_of_ble_eq_true rfl) ?_
  intro p e s m below meth c A ls hx hb hr hlk hml hown hin hts hK hA hP hD hS hl
  replace hown : s.vm.findClass RX3 = some m.cls := hown
  have hl : lv_has ls 2 [(0, .ref (b 0)), (1, .int (iv k))] := hl
  skip
  have hP : va_P D vwCl ([(b 0, .inr (3, [.int (iv th), .int (iv n), .int (iv np), .int (iv mo), .ref (b 1), .ref (b 2), .ref (b 3), .ref (b 4), .ref (b 5)]))]) s.heap := hP
  have hD : va_D A ([(b 0, .inr (3, [.int (iv th), .int (iv n), .int (iv np), .int (iv mo), .ref (b 1), .ref (b 2), .ref (b 3), .ref (b 4), .ref (b 5)]))]) := hD
  have lk29 := hts (.fieldLink RX3 29 "DollCitadelModel" "thrown" "I") (by decide +kernel)
  have in_X3 : ∀ w ∈ u_ws RX3 TX3 9, w ∈ wsX3_fail := by decide +kernel
  refine lv_aload_n hx hb dX3_fail_0 rfl (lv_at hl 0 rfl) ?_
  refine lv_iload_n hx hb dX3_fail_1 rfl (lv_at hl 1 rfl) ?_
  refine va_put (D := D) (ci := 3) (v := .int (iv k)) (ty := .int) (C := RX3) (T := TX3) (N := 9) hx hb hts in_X3 tyX3 tyX3_ok nmX3 hown hK hP hD hS 0 rfl rfl 0 (by decide) lk29 (fun _ h9 => h9) rfl (by decide +kernel) rfl rfl (Nat.le_of_ble_eq_true rfl) dX3_fail_2 (fun H locs hP hD hS => ?_)
  have hP : va_P D vwCl ([(b 0, .inr (3, [.int (iv k), .int (iv n), .int (iv np), .int (iv mo), .ref (b 1), .ref (b 2), .ref (b 3), .ref (b 4), .ref (b 5)]))]) H := hP
  have hD : va_D A ([(b 0, .inr (3, [.int (iv k), .int (iv n), .int (iv np), .int (iv mo), .ref (b 1), .ref (b 2), .ref (b 3), .ref (b 4), .ref (b 5)]))]) := hD
  refine r_const hx hb dX3_fail_5 ?_
  exact e_int hx hb hr hlk dX3_fail_6 hS hP hD (by decide) (by decide) (⟨rfl, rfl⟩)
set_option maxHeartbeats 4000000 in
set_option maxRecDepth 100000 in
theorem c_X3_isIn (l : Launch) (D : va_G) (G : Nat → ClassId) (x lo hi : Int) (h1 : -2147483648 ≤ x ∧ x < 2147483648) (h2 : -2147483648 ≤ lo ∧ lo < 2147483648) (h3 : -2147483648 ≤ hi ∧ hi < 2147483648)  : MtG l yX3_isIn wsX3_isIn 0 0 0 0 D (TY G) [.int (iv x), .int (iv lo), .int (iv hi)] ([]) (qI D (fun r u => r = iv (b2i (decide (lo ≤ x ∧ x ≤ hi))) ∧ u = [])) := by
  refine MtG.mk (cc := cX3_isIn) (maxL := 3) (ret := some .boolean) (by decide) rfl (Nat.le_of_ble_eq_true rfl) ?_
  intro p e s m below meth c A ls hx hb hr hlk hml hown hin hts hK hA hP hD hS hl
  replace hown : s.vm.findClass RX3 = some m.cls := hown
  have hl : lv_has ls 3 [(0, .int (iv x)), (1, .int (iv lo)), (2, .int (iv hi))] := hl
  skip
  have hP : va_P D vwCl ([]) s.heap := hP
  have hD : va_D A ([]) := hD
  refine lv_iload_n hx hb dX3_isIn_0 rfl (lv_at hl 0 rfl) ?_
  refine lv_iload_n hx hb dX3_isIn_1 rfl (lv_at hl 1 rfl) ?_
  refine r_icmp_lt hx hb 14 dX3_isIn_2 (by decide) (by omega) (by omega) (fun c_2 => ?_) (fun c_2 => ?_)
  · skip
    refine r_const hx hb dX3_isIn_14 ?_
    exact e_b01 hx hb hr (by omega) hlk dX3_isIn_15 hS hP hD (by decide) (by decide) (⟨by rw [show decide (lo ≤ x ∧ x ≤ hi) = false from decide_eq_false (by omega)]; rfl, rfl⟩)
  · skip
    refine lv_iload_n hx hb dX3_isIn_5 rfl (lv_at hl 0 rfl) ?_
    refine lv_iload_n hx hb dX3_isIn_6 rfl (lv_at hl 2 rfl) ?_
    refine r_icmp_gt hx hb 14 dX3_isIn_7 (by decide) (by omega) (by omega) (fun c_7 => ?_) (fun c_7 => ?_)
    · skip
      refine r_const hx hb dX3_isIn_14 ?_
      exact e_b01 hx hb hr (by omega) hlk dX3_isIn_15 hS hP hD (by decide) (by decide) (⟨by rw [show decide (lo ≤ x ∧ x ≤ hi) = false from decide_eq_false (by omega)]; rfl, rfl⟩)
    · skip
      refine r_const hx hb dX3_isIn_10 ?_
      refine r_goto hx hb 15 dX3_isIn_11 (by decide) ?_
      exact e_b01 hx hb hr (by omega) hlk dX3_isIn_15 hS hP hD (by decide) (by decide) (⟨by rw [show decide (lo ≤ x ∧ x ≤ hi) = true from decide_eq_true (by omega)]; rfl, rfl⟩)
set_option maxHeartbeats 4000000 in
set_option maxRecDepth 100000 in
theorem c_X3_isDoll (l : Launch) (D : va_G) (G : Nat → ClassId) (b : Nat → Nat) (th n np mo : Int) (d : Int) (hn : 0 ≤ n ∧ n ≤ 8) (hd : -2147483648 ≤ d ∧ d < 2147483648)  : MtG l yX3_isDoll wsX3_isDoll 1 40 0 0 D (TY G) [.ref (b 0), .int (iv d)] ([wM0 b th n np mo]) (qI D (fun r u => r = iv (b2i (decide (0 ≤ d ∧ d ≤ n - 1))) ∧ u = [wM0 b th n np mo])) := by
  refine MtG.mk (cc := cX3_isDoll) (maxL := 2) (ret := some .boolean) (by decide) rfl (Nat.le_of_ble_eq_true rfl) ?_
  intro p e s m below meth c A ls hx hb hr hlk hml hown hin hts hK hA hP hD hS hl
  replace hown : s.vm.findClass RX3 = some m.cls := hown
  have hl : lv_has ls 2 [(0, .ref (b 0)), (1, .int (iv d))] := hl
  skip
  have hP : va_P D vwCl ([(b 0, .inr (3, [.int (iv th), .int (iv n), .int (iv np), .int (iv mo), .ref (b 1), .ref (b 2), .ref (b 3), .ref (b 4), .ref (b 5)]))]) s.heap := hP
  have hD : va_D A ([(b 0, .inr (3, [.int (iv th), .int (iv n), .int (iv np), .int (iv mo), .ref (b 1), .ref (b 2), .ref (b 3), .ref (b 4), .ref (b 5)]))]) := hD
  have lk32 := hts (.fieldLink RX3 32 "DollCitadelModel" "dolls" "I") (by decide +kernel)
  have in_X3 : ∀ w ∈ u_ws RX3 TX3 9, w ∈ wsX3_isDoll := by decide +kernel
  refine lv_iload_n hx hb dX3_isDoll_0 rfl (lv_at hl 1 rfl) ?_
  refine r_const hx hb dX3_isDoll_1 ?_
  refine lv_aload_n hx hb dX3_isDoll_2 rfl (lv_at hl 0 rfl) ?_
  refine va_get (D := D) (ci := 3) (v := .int (iv n)) (C := RX3) (T := TX3) (N := 9) hx hb hts in_X3 hown hK hP 0 rfl rfl 1 (by decide) lk32 (fun _ h9 => h9) rfl dX3_isDoll_3 ?_
  refine r_const hx hb dX3_isDoll_6 ?_
  refine r_sub hx hb dX3_isDoll_7 ?_
  have hp := wsp ([(b 0, .inr (3, [.int (iv th), .int (iv n), .int (iv np), .int (iv mo), .ref (b 1), .ref (b 2), .ref (b 3), .ref (b 4), .ref (b 5)]))]) ([]) 1 (is := []) (js := [0]) (wc := []) (wr := [(b 0, .inr (3, [.int (iv th), .int (iv n), .int (iv np), .int (iv mo), .ref (b 1), .ref (b 2), .ref (b 3), .ref (b 4), .ref (b 5)]))]) (by decide) rfl rfl rfl
  skip
  refine k_int (g_S (As := [.int (iv d), .int (iv 0), .int (iv (n - 1))]) (rest := []) ⟨hx, hb, hml, hown, hts⟩ (c_X3_isIn l D G d 0 (n - 1) (by omega) (by omega) (by omega)) (va_cwS 3 hts gX3_isDoll_X3_isIn rfl rfl rfl (by decide +kernel) ⟨Nat.le_of_ble_eq_true rfl, Nat.le_of_ble_eq_true rfl⟩) hK hP hD hp rfl hl.1 rfl (Nat.le_of_ble_eq_true rfl) dX3_isDoll_8 ⟨by decide, by decide⟩) hP hD hS hA hp (fun v u H locs hw hP hD hS => ?_)
  obtain ⟨hv, hu⟩ := hw
  replace hv : v = (iv (b2i (decide (0 ≤ d ∧ d ≤ (n - 1))))) := hv
  subst hv
  subst hu
  have hP : va_P D vwCl ([(b 0, .inr (3, [.int (iv th), .int (iv n), .int (iv np), .int (iv mo), .ref (b 1), .ref (b 2), .ref (b 3), .ref (b 4), .ref (b 5)]))]) H := hP
  have hD : va_D A ([(b 0, .inr (3, [.int (iv th), .int (iv n), .int (iv np), .int (iv mo), .ref (b 1), .ref (b 2), .ref (b 3), .ref (b 4), .ref (b 5)]))]) := hD
  exact e_bool hx hb hr hlk dX3_isDoll_11 hS hP hD (by decide) (by decide) (⟨rfl, rfl⟩)
set_option maxHeartbeats 4000000 in
set_option maxRecDepth 100000 in
theorem c_X3_isPose (l : Launch) (D : va_G) (G : Nat → ClassId) (b : Nat → Nat) (th n np mo : Int) (p0 : Int) (hn : 0 ≤ np ∧ np ≤ 8) (hd : -2147483648 ≤ p0 ∧ p0 < 2147483648)  : MtG l yX3_isPose wsX3_isPose 1 40 0 0 D (TY G) [.ref (b 0), .int (iv p0)] ([wM0 b th n np mo]) (qI D (fun r u => r = iv (b2i (decide (0 ≤ p0 ∧ p0 ≤ np - 1))) ∧ u = [wM0 b th n np mo])) := by
  refine MtG.mk (cc := cX3_isPose) (maxL := 2) (ret := some .boolean) (by decide) rfl (Nat.le_of_ble_eq_true rfl) ?_
  intro p e s m below meth c A ls hx hb hr hlk hml hown hin hts hK hA hP hD hS hl
  replace hown : s.vm.findClass RX3 = some m.cls := hown
  have hl : lv_has ls 2 [(0, .ref (b 0)), (1, .int (iv p0))] := hl
  skip
  have hP : va_P D vwCl ([(b 0, .inr (3, [.int (iv th), .int (iv n), .int (iv np), .int (iv mo), .ref (b 1), .ref (b 2), .ref (b 3), .ref (b 4), .ref (b 5)]))]) s.heap := hP
  have hD : va_D A ([(b 0, .inr (3, [.int (iv th), .int (iv n), .int (iv np), .int (iv mo), .ref (b 1), .ref (b 2), .ref (b 3), .ref (b 4), .ref (b 5)]))]) := hD
  have lk39 := hts (.fieldLink RX3 39 "DollCitadelModel" "poses" "I") (by decide +kernel)
  have in_X3 : ∀ w ∈ u_ws RX3 TX3 9, w ∈ wsX3_isPose := by decide +kernel
  refine lv_iload_n hx hb dX3_isPose_0 rfl (lv_at hl 1 rfl) ?_
  refine r_const hx hb dX3_isPose_1 ?_
  refine lv_aload_n hx hb dX3_isPose_2 rfl (lv_at hl 0 rfl) ?_
  refine va_get (D := D) (ci := 3) (v := .int (iv np)) (C := RX3) (T := TX3) (N := 9) hx hb hts in_X3 hown hK hP 0 rfl rfl 2 (by decide) lk39 (fun _ h9 => h9) rfl dX3_isPose_3 ?_
  refine r_const hx hb dX3_isPose_6 ?_
  refine r_sub hx hb dX3_isPose_7 ?_
  have hp := wsp ([(b 0, .inr (3, [.int (iv th), .int (iv n), .int (iv np), .int (iv mo), .ref (b 1), .ref (b 2), .ref (b 3), .ref (b 4), .ref (b 5)]))]) ([]) 1 (is := []) (js := [0]) (wc := []) (wr := [(b 0, .inr (3, [.int (iv th), .int (iv n), .int (iv np), .int (iv mo), .ref (b 1), .ref (b 2), .ref (b 3), .ref (b 4), .ref (b 5)]))]) (by decide) rfl rfl rfl
  skip
  refine k_int (g_S (As := [.int (iv p0), .int (iv 0), .int (iv (np - 1))]) (rest := []) ⟨hx, hb, hml, hown, hts⟩ (c_X3_isIn l D G p0 0 (np - 1) (by omega) (by omega) (by omega)) (va_cwS 3 hts gX3_isPose_X3_isIn rfl rfl rfl (by decide +kernel) ⟨Nat.le_of_ble_eq_true rfl, Nat.le_of_ble_eq_true rfl⟩) hK hP hD hp rfl hl.1 rfl (Nat.le_of_ble_eq_true rfl) dX3_isPose_8 ⟨by decide, by decide⟩) hP hD hS hA hp (fun v u H locs hw hP hD hS => ?_)
  obtain ⟨hv, hu⟩ := hw
  replace hv : v = (iv (b2i (decide (0 ≤ p0 ∧ p0 ≤ (np - 1))))) := hv
  subst hv
  subst hu
  have hP : va_P D vwCl ([(b 0, .inr (3, [.int (iv th), .int (iv n), .int (iv np), .int (iv mo), .ref (b 1), .ref (b 2), .ref (b 3), .ref (b 4), .ref (b 5)]))]) H := hP
  have hD : va_D A ([(b 0, .inr (3, [.int (iv th), .int (iv n), .int (iv np), .int (iv mo), .ref (b 1), .ref (b 2), .ref (b 3), .ref (b 4), .ref (b 5)]))]) := hD
  exact e_bool hx hb hr hlk dX3_isPose_11 hS hP hD (by decide) (by decide) (⟨rfl, rfl⟩)
set_option maxHeartbeats 4000000 in
set_option maxRecDepth 100000 in
theorem c_X3_at (l : Launch) (D : va_G) (G : Nat → ClassId) (d j w : Nat)  : MtG l yX3_at wsX3_at 0 0 0 0 D (TY G) [.int (iv (d : Int)), .int (iv (j : Int)), .int (iv (w : Int))] ([]) (qI D (fun r u => r = iv ((3 * (6 * d + j) + w : Nat) : Int) ∧ u = [])) := by
  refine MtG.mk (cc := cX3_at) (maxL := 3) (ret := some .int) (by decide) rfl (Nat.le_of_ble_eq_true rfl) ?_
  intro p e s m below meth c A ls hx hb hr hlk hml hown hin hts hK hA hP hD hS hl
  replace hown : s.vm.findClass RX3 = some m.cls := hown
  have hl : lv_has ls 3 [(0, .int (iv (d : Int))), (1, .int (iv (j : Int))), (2, .int (iv (w : Int)))] := hl
  skip
  have hP : va_P D vwCl ([]) s.heap := hP
  have hD : va_D A ([]) := hD
  refine r_const hx hb dX3_at_0 ?_
  refine lv_bipush (v := iv 6) hx hb dX3_at_1 (by decide) ?_
  refine lv_iload_n hx hb dX3_at_3 rfl (lv_at hl 0 rfl) ?_
  refine r_mul hx hb dX3_at_4 ?_
  refine lv_iload_n hx hb dX3_at_5 rfl (lv_at hl 1 rfl) ?_
  refine r_add hx hb dX3_at_6 ?_
  refine r_mul hx hb dX3_at_7 ?_
  refine lv_iload_n hx hb dX3_at_8 rfl (lv_at hl 2 rfl) ?_
  refine r_add hx hb dX3_at_9 ?_
  exact e_int hx hb hr hlk dX3_at_10 hS hP hD (by decide) (by decide) (⟨by congr 1, rfl⟩)
set_option maxHeartbeats 4000000 in
set_option maxRecDepth 100000 in
theorem c_X3_li (l : Launch) (D : va_G) (G : Nat → ClassId) (b : Nat → Nat) (th n np mo : Int) (F : Nat → Int) (d j w : Nat) (hd : d < 8) (hj : j < 6) (hw : w < 3) (x : Int) (hF : F (3 * (6 * d + j) + w) = x)  : MtG l yX3_li wsX3_li 1 40 0 0 D (TY G) [.ref (b 0), .int (iv (d : Int)), .int (iv (j : Int)), .int (iv (w : Int))] ([wM0 b th n np mo, wMl G b F]) (qI D (fun r u => r = iv x ∧ u = [wM0 b th n np mo, wMl G b F])) := by
  refine MtG.mk (cc := cX3_li) (maxL := 4) (ret := some .int) (by decide) rfl (Nat.le_of_ble_eq_true rfl) ?_
  intro p e s m below meth c A ls hx hb hr hlk hml hown hin hts hK hA hP hD hS hl
  replace hown : s.vm.findClass RX3 = some m.cls := hown
  have hl : lv_has ls 4 [(0, .ref (b 0)), (1, .int (iv (d : Int))), (2, .int (iv (j : Int))), (3, .int (iv (w : Int)))] := hl
  skip
  have hP : va_P D vwCl ([(b 0, .inr (3, [.int (iv th), .int (iv n), .int (iv np), .int (iv mo), .ref (b 1), .ref (b 2), .ref (b 3), .ref (b 4), .ref (b 5)])), (b 1, .inl (G 0, 144, .inl (fun j => iv (F j))))]) s.heap := hP
  have hD : va_D A ([(b 0, .inr (3, [.int (iv th), .int (iv n), .int (iv np), .int (iv mo), .ref (b 1), .ref (b 2), .ref (b 3), .ref (b 4), .ref (b 5)])), (b 1, .inl (G 0, 144, .inl (fun j => iv (F j))))]) := hD
  have lk13 := hts (.fieldLink RX3 13 "DollCitadelModel" "limbs" "[I") (by decide +kernel)
  have in_X3 : ∀ w ∈ u_ws RX3 TX3 9, w ∈ wsX3_li := by decide +kernel
  refine lv_aload_n hx hb dX3_li_0 rfl (lv_at hl 0 rfl) ?_
  refine va_get (D := D) (ci := 3) (v := .ref (b 1)) (C := RX3) (T := TX3) (N := 9) hx hb hts in_X3 hown hK hP 0 rfl rfl 4 (by decide) lk13 (fun _ h9 => h9) rfl dX3_li_1 ?_
  refine lv_iload_n hx hb dX3_li_4 rfl (lv_at hl 1 rfl) ?_
  refine lv_iload_n hx hb dX3_li_5 rfl (lv_at hl 2 rfl) ?_
  refine lv_iload_n hx hb dX3_li_6 rfl (lv_at hl 3 rfl) ?_
  have hp := wsp ([(b 0, .inr (3, [.int (iv th), .int (iv n), .int (iv np), .int (iv mo), .ref (b 1), .ref (b 2), .ref (b 3), .ref (b 4), .ref (b 5)])), (b 1, .inl (G 0, 144, .inl (fun j => iv (F j))))]) ([]) 2 (is := []) (js := [0, 1]) (wc := []) (wr := [(b 0, .inr (3, [.int (iv th), .int (iv n), .int (iv np), .int (iv mo), .ref (b 1), .ref (b 2), .ref (b 3), .ref (b 4), .ref (b 5)])), (b 1, .inl (G 0, 144, .inl (fun j => iv (F j))))]) (by decide) rfl rfl rfl
  skip
  refine k_int (g_S (As := [.int (iv (d : Int)), .int (iv (j : Int)), .int (iv (w : Int))]) (rest := [.ref (b 1)]) ⟨hx, hb, hml, hown, hts⟩ (c_X3_at l D G d j w) (va_cwS 3 hts gX3_li_X3_at rfl rfl rfl (by decide +kernel) ⟨Nat.le_of_ble_eq_true rfl, Nat.le_of_ble_eq_true rfl⟩) hK hP hD hp rfl hl.1 rfl (Nat.le_of_ble_eq_true rfl) dX3_li_7 ⟨by decide, by decide⟩) hP hD hS hA hp (fun v u H locs hw hP hD hS => ?_)
  obtain ⟨hv, hu⟩ := hw
  replace hv : v = (iv ((3 * (6 * d + j) + w : Nat) : Int)) := hv
  subst hv
  subst hu
  have hP : va_P D vwCl ([(b 0, .inr (3, [.int (iv th), .int (iv n), .int (iv np), .int (iv mo), .ref (b 1), .ref (b 2), .ref (b 3), .ref (b 4), .ref (b 5)])), (b 1, .inl (G 0, 144, .inl (fun j => iv (F j))))]) H := hP
  have hD : va_D A ([(b 0, .inr (3, [.int (iv th), .int (iv n), .int (iv np), .int (iv mo), .ref (b 1), .ref (b 2), .ref (b 3), .ref (b 4), .ref (b 5)])), (b 1, .inl (G 0, 144, .inl (fun j => iv (F j))))]) := hD
  refine r_iald (F := F) hx hb hK hP 1 0 rfl rfl (3 * (6 * d + j) + w) (by omega) (by omega) (by decide) dX3_li_10 ?_
  exact e_int hx hb hr hlk dX3_li_11 hS hP hD (by decide) (by decide) (⟨by rw [hF], rfl⟩)
set_option maxHeartbeats 4000000 in
set_option maxRecDepth 100000 in
theorem c_X3_ro (l : Launch) (D : va_G) (G : Nat → ClassId) (b : Nat → Nat) (th n np mo : Int) (F : Nat → Int) (d k : Nat) (hd : d < 8) (hk : k < 8) (x : Int) (hF : F (8 * d + k) = x)  : MtG l yX3_ro wsX3_ro 0 0 0 0 D (TY G) [.ref (b 0), .int (iv (d : Int)), .int (iv (k : Int))] ([wM0 b th n np mo, wMr G b F]) (qI D (fun r u => r = iv x ∧ u = [wM0 b th n np mo, wMr G b F])) := by
  refine MtG.mk (cc := cX3_ro) (maxL := 3) (ret := some .int) (by decide) rfl (Nat.le_of_ble_eq_true rfl) ?_
  intro p e s m below meth c A ls hx hb hr hlk hml hown hin hts hK hA hP hD hS hl
  replace hown : s.vm.findClass RX3 = some m.cls := hown
  have hl : lv_has ls 3 [(0, .ref (b 0)), (1, .int (iv (d : Int))), (2, .int (iv (k : Int)))] := hl
  skip
  have hP : va_P D vwCl ([(b 0, .inr (3, [.int (iv th), .int (iv n), .int (iv np), .int (iv mo), .ref (b 1), .ref (b 2), .ref (b 3), .ref (b 4), .ref (b 5)])), (b 2, .inl (G 0, 64, .inl (fun j => iv (F j))))]) s.heap := hP
  have hD : va_D A ([(b 0, .inr (3, [.int (iv th), .int (iv n), .int (iv np), .int (iv mo), .ref (b 1), .ref (b 2), .ref (b 3), .ref (b 4), .ref (b 5)])), (b 2, .inl (G 0, 64, .inl (fun j => iv (F j))))]) := hD
  have lk17 := hts (.fieldLink RX3 17 "DollCitadelModel" "rooms" "[I") (by decide +kernel)
  have in_X3 : ∀ w ∈ u_ws RX3 TX3 9, w ∈ wsX3_ro := by decide +kernel
  refine lv_aload_n hx hb dX3_ro_0 rfl (lv_at hl 0 rfl) ?_
  refine va_get (D := D) (ci := 3) (v := .ref (b 2)) (C := RX3) (T := TX3) (N := 9) hx hb hts in_X3 hown hK hP 0 rfl rfl 5 (by decide) lk17 (fun _ h9 => h9) rfl dX3_ro_1 ?_
  refine lv_bipush (v := iv 8) hx hb dX3_ro_4 (by decide) ?_
  refine lv_iload_n hx hb dX3_ro_6 rfl (lv_at hl 1 rfl) ?_
  refine r_mul hx hb dX3_ro_7 ?_
  refine lv_iload_n hx hb dX3_ro_8 rfl (lv_at hl 2 rfl) ?_
  refine r_add hx hb dX3_ro_9 ?_
  refine r_iald (F := F) hx hb hK hP 1 0 rfl rfl ((8 * d) + k) (by omega) (by omega) (by decide) dX3_ro_10 ?_
  exact e_int hx hb hr hlk dX3_ro_11 hS hP hD (by decide) (by decide) (⟨by rw [hF], rfl⟩)
set_option maxHeartbeats 4000000 in
set_option maxRecDepth 100000 in
theorem c_X3_put (l : Launch) (D : va_G) (G : Nat → ClassId) (b : Nat → Nat) (th n np mo : Int) (F : Nat → Int) (d k : Nat) (hd : d < 8) (hk : k < 8) (x : Int)  : MtG l yX3_put wsX3_put 0 0 0 0 D (TY G) [.ref (b 0), .int (iv (d : Int)), .int (iv (k : Int)), .int (iv x)] ([wM0 b th n np mo, wMr G b F]) (qV D (fun u => u = [wM0 b th n np mo, wMr G b (updI F (8 * d + k) x)])) := by
  refine MtG.mk (cc := cX3_put) (maxL := 4) (ret := none) (by decide) rfl (Nat.le_of_ble_eq_true rfl) ?_
  intro p e s m below meth c A ls hx hb hr hlk hml hown hin hts hK hA hP hD hS hl
  replace hown : s.vm.findClass RX3 = some m.cls := hown
  have hl : lv_has ls 4 [(0, .ref (b 0)), (1, .int (iv (d : Int))), (2, .int (iv (k : Int))), (3, .int (iv x))] := hl
  skip
  have hP : va_P D vwCl ([(b 0, .inr (3, [.int (iv th), .int (iv n), .int (iv np), .int (iv mo), .ref (b 1), .ref (b 2), .ref (b 3), .ref (b 4), .ref (b 5)])), (b 2, .inl (G 0, 64, .inl (fun j => iv (F j))))]) s.heap := hP
  have hD : va_D A ([(b 0, .inr (3, [.int (iv th), .int (iv n), .int (iv np), .int (iv mo), .ref (b 1), .ref (b 2), .ref (b 3), .ref (b 4), .ref (b 5)])), (b 2, .inl (G 0, 64, .inl (fun j => iv (F j))))]) := hD
  have lk17 := hts (.fieldLink RX3 17 "DollCitadelModel" "rooms" "[I") (by decide +kernel)
  have in_X3 : ∀ w ∈ u_ws RX3 TX3 9, w ∈ wsX3_put := by decide +kernel
  refine lv_aload_n hx hb dX3_put_0 rfl (lv_at hl 0 rfl) ?_
  refine va_get (D := D) (ci := 3) (v := .ref (b 2)) (C := RX3) (T := TX3) (N := 9) hx hb hts in_X3 hown hK hP 0 rfl rfl 5 (by decide) lk17 (fun _ h9 => h9) rfl dX3_put_1 ?_
  refine lv_bipush (v := iv 8) hx hb dX3_put_4 (by decide) ?_
  refine lv_iload_n hx hb dX3_put_6 rfl (lv_at hl 1 rfl) ?_
  refine r_mul hx hb dX3_put_7 ?_
  refine lv_iload_n hx hb dX3_put_8 rfl (lv_at hl 2 rfl) ?_
  refine r_add hx hb dX3_put_9 ?_
  refine lv_iload_n hx hb dX3_put_10 rfl (lv_at hl 3 rfl) ?_
  refine r_iast (F := F) hx hb hK hP hD hS 1 0 rfl rfl ((8 * d) + k) (by omega) (by omega) (by decide) dX3_put_11 (fun H locs hP hD hS => ?_)
  have hP : va_P D vwCl ([(b 0, .inr (3, [.int (iv th), .int (iv n), .int (iv np), .int (iv mo), .ref (b 1), .ref (b 2), .ref (b 3), .ref (b 4), .ref (b 5)])), (b 2, .inl (G 0, 64, .inl (fun j => iv (updI F ((8 * d) + k) x j))))]) H := hP
  have hD : va_D A ([(b 0, .inr (3, [.int (iv th), .int (iv n), .int (iv np), .int (iv mo), .ref (b 1), .ref (b 2), .ref (b 3), .ref (b 4), .ref (b 5)])), (b 2, .inl (G 0, 64, .inl (fun j => iv (updI F ((8 * d) + k) x j))))]) := hD
  exact e_void hx hb hr hlk dX3_put_12 hS hP hD (by decide) (by decide) rfl
set_option maxHeartbeats 4000000 in
set_option maxRecDepth 100000 in
theorem c_X3_isBroken (l : Launch) (D : va_G) (G : Nat → ClassId) (b : Nat → Nat) (th n np mo : Int) (F : Nat → Int) (d j : Nat) (hd : d < 8) (hj : j < 6) (x : Int) (hF : F (3 * (6 * d + j) + 1) = x) (hx0 : 0 ≤ x ∧ x ≤ 100)  : MtG l yX3_isBroken wsX3_isBroken 2 80 0 0 D (TY G) [.ref (b 0), .int (iv (d : Int)), .int (iv (j : Int))] ([wM0 b th n np mo, wMl G b F]) (qI D (fun r u => r = iv (b2i (decide (x = 100))) ∧ u = [wM0 b th n np mo, wMl G b F])) := by
  refine MtG.mk (cc := cX3_isBroken) (maxL := 3) (ret := some .boolean) (by decide) rfl (Nat.le_of_ble_eq_true rfl) ?_
  intro p e s m below meth c A ls hx hb hr hlk hml hown hin hts hK hA hP hD hS hl
  replace hown : s.vm.findClass RX3 = some m.cls := hown
  have hl : lv_has ls 3 [(0, .ref (b 0)), (1, .int (iv (d : Int))), (2, .int (iv (j : Int)))] := hl
  skip
  have hP : va_P D vwCl ([(b 0, .inr (3, [.int (iv th), .int (iv n), .int (iv np), .int (iv mo), .ref (b 1), .ref (b 2), .ref (b 3), .ref (b 4), .ref (b 5)])), (b 1, .inl (G 0, 144, .inl (fun j => iv (F j))))]) s.heap := hP
  have hD : va_D A ([(b 0, .inr (3, [.int (iv th), .int (iv n), .int (iv np), .int (iv mo), .ref (b 1), .ref (b 2), .ref (b 3), .ref (b 4), .ref (b 5)])), (b 1, .inl (G 0, 144, .inl (fun j => iv (F j))))]) := hD
  refine lv_aload_n hx hb dX3_isBroken_0 rfl (lv_at hl 0 rfl) ?_
  refine lv_iload_n hx hb dX3_isBroken_1 rfl (lv_at hl 1 rfl) ?_
  refine lv_iload_n hx hb dX3_isBroken_2 rfl (lv_at hl 2 rfl) ?_
  refine r_const hx hb dX3_isBroken_3 ?_
  have hp := wsp ([(b 0, .inr (3, [.int (iv th), .int (iv n), .int (iv np), .int (iv mo), .ref (b 1), .ref (b 2), .ref (b 3), .ref (b 4), .ref (b 5)])), (b 1, .inl (G 0, 144, .inl (fun j => iv (F j))))]) ([]) 2 (is := [0, 1]) (js := []) (wc := [wM0 b th n np mo, wMl G b F]) (wr := []) (by decide) rfl rfl rfl
  skip
  refine k_int (g_V (As := [.int (iv (d : Int)), .int (iv (j : Int)), .int (iv 1)]) (rest := []) (q0 := 0) (ci := 3) ⟨hx, hb, hml, hown, hts⟩ (c_X3_li l D G b th n np mo F d j 1 (by omega) (by omega) (by omega) x hF) (cwV 3 hts gX3_isBroken_X3_li rfl rfl rfl (by decide +kernel) ⟨Nat.le_of_ble_eq_true rfl, Nat.le_of_ble_eq_true rfl⟩) hK hP hD hp rfl rfl rfl rfl hl.1 rfl (Nat.le_of_ble_eq_true rfl) dX3_isBroken_4 ⟨by decide, by decide⟩) hP hD hS hA hp (fun v u H locs hw hP hD hS => ?_)
  obtain ⟨hv, hu⟩ := hw
  replace hv : v = (iv x) := hv
  subst hv
  subst hu
  have hP : va_P D vwCl ([(b 0, .inr (3, [.int (iv th), .int (iv n), .int (iv np), .int (iv mo), .ref (b 1), .ref (b 2), .ref (b 3), .ref (b 4), .ref (b 5)])), (b 1, .inl (G 0, 144, .inl (fun j => iv (F j))))]) H := hP
  have hD : va_D A ([(b 0, .inr (3, [.int (iv th), .int (iv n), .int (iv np), .int (iv mo), .ref (b 1), .ref (b 2), .ref (b 3), .ref (b 4), .ref (b 5)])), (b 1, .inl (G 0, 144, .inl (fun j => iv (F j))))]) := hD
  refine lv_bipush (v := iv 100) hx hb dX3_isBroken_7 (by decide) ?_
  refine r_icmp_ne hx hb 16 dX3_isBroken_9 (by decide) (by omega) (by omega) (fun c_9 => ?_) (fun c_9 => ?_)
  · skip
    refine r_const hx hb dX3_isBroken_16 ?_
    exact e_b01 hx hb hr (by omega) hlk dX3_isBroken_17 hS hP hD (by decide) (by decide) (⟨by rw [show decide (x = 100) = false from decide_eq_false (by omega)]; rfl, rfl⟩)
  · skip
    refine r_const hx hb dX3_isBroken_12 ?_
    refine r_goto hx hb 17 dX3_isBroken_13 (by decide) ?_
    exact e_b01 hx hb hr (by omega) hlk dX3_isBroken_17 hS hP hD (by decide) (by decide) (⟨by rw [show decide (x = 100) = true from decide_eq_true (by omega)]; rfl, rfl⟩)
