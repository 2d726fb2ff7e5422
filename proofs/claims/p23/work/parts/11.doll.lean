set_option maxHeartbeats 4000000 in
set_option maxRecDepth 100000 in
theorem c_X0_wearBehindTurn (l : Launch) (D : va_G) (G : Nat → ClassId) (w q d : Int) (hw : 0 ≤ w ∧ w ≤ 100) (hq : 0 ≤ q ∧ q ≤ 20) (hd : 0 ≤ d ∧ d ≤ 90) : MtG l yX0_wearBehindTurn wsX0_wearBehindTurn 1 40 0 0 D (TY G) [.int (iv w), .int (iv q), .int (iv d)] ([]) (qI D (fun r u => r = iv (wearBT w q d) ∧ u = [])) := by
  refine MtG.mk (cc := cX0_wearBehindTurn) (maxL := 4) (ret := some .int) (by decide) rfl (Nat.le_of_ble_eq_true rfl) ?_
  intro p e s m below meth c A ls hx hb hr hlk hml hown hin hts hK hA hP hD hS hl
  replace hown : s.vm.findClass RX0 = some m.cls := hown
  have hl : lv_has ls 4 [(0, .int (iv w)), (1, .int (iv q)), (2, .int (iv d))] := hl
  skip
  have hP : va_P D vwCl ([]) s.heap := hP
  have hD : va_D A ([]) := hD
  refine lv_iload_n hx hb dX0_wearBehindTurn_0 rfl (lv_at hl 1 rfl) ?_
  refine r_if_le hx hb 11 dX0_wearBehindTurn_1 (by decide) (by omega) (fun c_1 => ?_) (fun c_1 => ?_)
  · skip
    refine lv_iload_n hx hb dX0_wearBehindTurn_11 rfl (lv_at hl 2 rfl) ?_
    refine lv_bipush (v := iv 10) hx hb dX0_wearBehindTurn_12 (by decide) ?_
    refine r_div hx hb dX0_wearBehindTurn_14 (by omega) (by omega) ?_
    refine r_const hx hb dX0_wearBehindTurn_15 ?_
    refine r_add hx hb dX0_wearBehindTurn_16 ?_
    refine lv_istore_n (lv' := [(3, .int (iv ((d / 10) + 1))), (0, .int (iv w)), (1, .int (iv q)), (2, .int (iv d))]) hx hb dX0_wearBehindTurn_17 rfl hl (by decide) rfl (fun ls hl => ?_)
    refine lv_bipush (v := iv 100) hx hb dX0_wearBehindTurn_18 (by decide) ?_
    refine lv_iload_n hx hb dX0_wearBehindTurn_20 rfl (lv_at hl 1 rfl) ?_
    refine lv_iload_n hx hb dX0_wearBehindTurn_21 rfl (lv_at hl 0 rfl) ?_
    refine r_add hx hb dX0_wearBehindTurn_22 ?_
    refine r_min hx hb (hml.trans hl.1.symm) hown (hts (.methodLink RX0 58 Lib.Math.min.name) (by decide +kernel)) (hts (.static Lib.Math.min.name) (by decide +kernel)) (hts (.initialized "java/lang/Math") (by decide +kernel)) (hts (.code Lib.Math.min.name Lib.Math.min.code 2 (some .int)) (by decide +kernel)) (Nat.le_of_ble_eq_true rfl) (Nat.le_of_ble_eq_true rfl) (Nat.le_of_ble_eq_true rfl) (Nat.le_of_ble_eq_true rfl) (by omega) (by omega) dX0_wearBehindTurn_23 ?_
    exact e_int hx hb hr hlk dX0_wearBehindTurn_26 hS hP hD (by decide) (by decide) (⟨by unfold wearBT wearMore; first | rw [if_pos (by omega)] | rw [if_neg (by omega)], rfl⟩)
  · skip
    refine lv_iload_n hx hb dX0_wearBehindTurn_4 rfl (lv_at hl 2 rfl) ?_
    refine lv_bipush (v := iv 20) hx hb dX0_wearBehindTurn_5 (by decide) ?_
    refine r_div hx hb dX0_wearBehindTurn_7 (by omega) (by omega) ?_
    refine r_goto hx hb 17 dX0_wearBehindTurn_8 (by decide) ?_
    refine lv_istore_n (lv' := [(3, .int (iv (d / 20))), (0, .int (iv w)), (1, .int (iv q)), (2, .int (iv d))]) hx hb dX0_wearBehindTurn_17 rfl hl (by decide) rfl (fun ls hl => ?_)
    refine lv_bipush (v := iv 100) hx hb dX0_wearBehindTurn_18 (by decide) ?_
    refine lv_iload_n hx hb dX0_wearBehindTurn_20 rfl (lv_at hl 1 rfl) ?_
    refine lv_iload_n hx hb dX0_wearBehindTurn_21 rfl (lv_at hl 0 rfl) ?_
    refine r_add hx hb dX0_wearBehindTurn_22 ?_
    refine r_min hx hb (hml.trans hl.1.symm) hown (hts (.methodLink RX0 58 Lib.Math.min.name) (by decide +kernel)) (hts (.static Lib.Math.min.name) (by decide +kernel)) (hts (.initialized "java/lang/Math") (by decide +kernel)) (hts (.code Lib.Math.min.name Lib.Math.min.code 2 (some .int)) (by decide +kernel)) (Nat.le_of_ble_eq_true rfl) (Nat.le_of_ble_eq_true rfl) (Nat.le_of_ble_eq_true rfl) (Nat.le_of_ble_eq_true rfl) (by omega) (by omega) dX0_wearBehindTurn_23 ?_
    exact e_int hx hb hr hlk dX0_wearBehindTurn_26 hS hP hD (by decide) (by decide) (⟨by unfold wearBT wearMore; first | rw [if_pos (by omega)] | rw [if_neg (by omega)], rfl⟩)
set_option maxHeartbeats 4000000 in
set_option maxRecDepth 100000 in
theorem c_X0_jointsWornBy (l : Launch) (D : va_G) (G : Nat → ClassId) (a : Nat → Nat) (ds : DS) (hok : okD ds) (least : Int) (hle : 0 ≤ least ∧ least ≤ 100) : MtG l yX0_jointsWornBy wsX0_jointsWornBy 0 0 0 0 D (TY G) [.ref (a 0), .int (iv least)] (wDoll G a ds) (qI D (fun r u => r = iv (cntW least ds) ∧ u = wDoll G a ds)) := by
  refine MtG.mk (cc := cX0_jointsWornBy) (maxL := 7) (ret := some .int) (by decide) rfl (Nat.le_of_ble_eq_true rfl) ?_
  intro p e s m below meth c A ls hx hb hr hlk hml hown hin hts hK hA hP hD hS hl
  replace hown : s.vm.findClass RX0 = some m.cls := hown
  have hl : lv_has ls 7 [(0, .ref (a 0)), (1, .int (iv least))] := hl
  skip
  have hP : va_P D vwCl ([(a 0, .inr (0, [.ref (a 1), .ref (a 2), .ref (a 3), .ref (a 4), .ref (a 5), .int (iv (dg ds)), .int (iv (dv ds)), .int (iv (dn ds)), .int (iv (dt ds))])), (a 1, .inl (G 0, 6, .inl (fun j => iv (dA ds j)))), (a 2, .inl (G 0, 6, .inl (fun j => iv (dW ds j)))), (a 3, .inl (G 0, 6, .inl (fun j => iv (dQ ds j)))), (a 4, .inl (G 1, 2, .inl (fun j => iv (dO ds j)))), (a 5, .inl (G 0, 2, .inl (fun j => iv (dU ds j))))]) s.heap := hP
  have hD : va_D A ([(a 0, .inr (0, [.ref (a 1), .ref (a 2), .ref (a 3), .ref (a 4), .ref (a 5), .int (iv (dg ds)), .int (iv (dv ds)), .int (iv (dn ds)), .int (iv (dt ds))])), (a 1, .inl (G 0, 6, .inl (fun j => iv (dA ds j)))), (a 2, .inl (G 0, 6, .inl (fun j => iv (dW ds j)))), (a 3, .inl (G 0, 6, .inl (fun j => iv (dQ ds j)))), (a 4, .inl (G 1, 2, .inl (fun j => iv (dO ds j)))), (a 5, .inl (G 0, 2, .inl (fun j => iv (dU ds j))))]) := hD
  have lk15 := hts (.fieldLink RX0 15 "DollCitadel$Doll" "wears" "[I") (by decide +kernel)
  have in_X0 : ∀ w ∈ u_ws RX0 TX0 9, w ∈ wsX0_jointsWornBy := by decide +kernel
  have hx6 : (0 : Int) ≤ 0 := by decide
  refine r_const hx hb dX0_jointsWornBy_0 ?_
  refine lv_istore_n (lv' := [(2, .int (iv 0)), (0, .ref (a 0)), (1, .int (iv least))]) hx hb dX0_jointsWornBy_1 rfl hl (by decide) rfl (fun ls hl => ?_)
  refine lv_aload_n hx hb dX0_jointsWornBy_2 rfl (lv_at hl 1 rfl) ?_
  refine va_get (D := D) (ci := 0) (v := .ref (a 2)) (C := RX0) (T := TX0) (N := 9) hx hb hts in_X0 hown hK hP 0 rfl rfl 1 (by decide) lk15 (fun _ h9 => h9) rfl dX0_jointsWornBy_3 ?_
  refine lv_astore_n (lv' := [(3, .ref (a 2)), (2, .int (iv 0)), (0, .ref (a 0)), (1, .int (iv least))]) hx hb dX0_jointsWornBy_6 rfl hl (by decide) rfl (fun ls hl => ?_)
  refine lv_aload_n hx hb dX0_jointsWornBy_7 rfl (lv_at hl 0 rfl) ?_
  refine va_alen (v := iv 6) hx hb hK hP 2 0 rfl (ty := _) rfl rfl dX0_jointsWornBy_8 ?_
  refine lv_istore (lv' := [(4, .int (iv 6)), (3, .ref (a 2)), (2, .int (iv 0)), (0, .ref (a 0)), (1, .int (iv least))]) hx hb dX0_jointsWornBy_9 hl (by decide) rfl (fun ls hl => ?_)
  refine r_const hx hb dX0_jointsWornBy_11 ?_
  refine lv_istore (lv' := [(5, .int (iv 0)), (4, .int (iv 6)), (3, .ref (a 2)), (2, .int (iv 0)), (0, .ref (a 0)), (1, .int (iv least))]) hx hb dX0_jointsWornBy_12 hl (by decide) rfl (fun ls hl => ?_)
  have K14 : ∀ (n i : Nat) (x : Int), i ≤ 6 → 6 < i + n → x = cnt (fun j => decide (least ≤ dW ds j)) i → ∀ (H : Heap) (locs : List Loc), va_P D vwCl ([(a 0, .inr (0, [.ref (a 1), .ref (a 2), .ref (a 3), .ref (a 4), .ref (a 5), .int (iv (dg ds)), .int (iv (dv ds)), .int (iv (dn ds)), .int (iv (dt ds))])), (a 1, .inl (G 0, 6, .inl (fun j => iv (dA ds j)))), (a 2, .inl (G 0, 6, .inl (fun j => iv (dW ds j)))), (a 3, .inl (G 0, 6, .inl (fun j => iv (dQ ds j)))), (a 4, .inl (G 1, 2, .inl (fun j => iv (dO ds j)))), (a 5, .inl (G 0, 2, .inl (fun j => iv (dU ds j))))]) H → va_D A ([(a 0, .inr (0, [.ref (a 1), .ref (a 2), .ref (a 3), .ref (a 4), .ref (a 5), .int (iv (dg ds)), .int (iv (dv ds)), .int (iv (dn ds)), .int (iv (dt ds))])), (a 1, .inl (G 0, 6, .inl (fun j => iv (dA ds j)))), (a 2, .inl (G 0, 6, .inl (fun j => iv (dW ds j)))), (a 3, .inl (G 0, 6, .inl (fun j => iv (dQ ds j)))), (a 4, .inl (G 1, 2, .inl (fun j => iv (dO ds j)))), (a 5, .inl (G 0, 2, .inl (fun j => iv (dU ds j))))]) → va_S A s.heap H locs → ∀ (ls : Array Slot), lv_has ls 7 [(0, .ref (a 0)), (1, .int (iv least)), (2, .int (iv x)), (3, .ref (a 2)), (4, .int (iv 6)), (5, .int (iv (i : Int)))] → W p l e (rmOf 0 0 0 0) s m ([.ref (a 0), .int (iv least)] : List Value).toArray below meth c H locs 0 0 (MQ below (qI D (fun r u => r = iv (cntW least ds) ∧ u = wDoll G a ds) A) ([.ref (a 0), .int (iv least)] : List Value).toArray s 0 0 A) (F0 m 14 ls []) := by
    intro n
    induction n with
    | zero => intro i x h1 h2; exact absurd h2 (by omega)
    | succ n ih14 =>
      intro i x hi_14 hn_14 ex H locs hP hD hS ls hl
      refine lv_iload hx hb dX0_jointsWornBy_14 (lv_at hl 5 rfl) ?_
      refine lv_iload hx hb dX0_jointsWornBy_16 (lv_at hl 4 rfl) ?_
      refine r_icmp_ge hx hb 42 dX0_jointsWornBy_18 (by decide) (by omega) (by omega) (fun c_18 => ?_) (fun c_18 => ?_)
      · skip
        refine lv_iload_n hx hb dX0_jointsWornBy_42 rfl (lv_at hl 2 rfl) ?_
        exact e_int hx hb hr hlk dX0_jointsWornBy_43 hS hP hD (by decide) (by decide) (⟨by rw [ex, show i = 6 by omega]; rfl, rfl⟩)
      · skip
        refine lv_aload_n hx hb dX0_jointsWornBy_21 rfl (lv_at hl 3 rfl) ?_
        refine lv_iload hx hb dX0_jointsWornBy_22 (lv_at hl 5 rfl) ?_
        refine r_iald (F := dW ds) hx hb hK hP 2 0 rfl rfl i (by omega) (by omega) (by decide) dX0_jointsWornBy_24 ?_
        have b_24 := okD_W hok i (by omega)
        refine lv_istore (lv' := [(6, .int (iv (dW ds i))), (0, .ref (a 0)), (1, .int (iv least)), (2, .int (iv x)), (3, .ref (a 2)), (4, .int (iv 6)), (5, .int (iv (i : Int)))]) hx hb dX0_jointsWornBy_25 hl (by decide) rfl (fun ls hl => ?_)
        refine lv_iload hx hb dX0_jointsWornBy_27 (lv_at hl 0 rfl) ?_
        refine lv_iload_n hx hb dX0_jointsWornBy_29 rfl (lv_at hl 2 rfl) ?_
        refine r_icmp_lt hx hb 36 dX0_jointsWornBy_30 (by decide) (by omega) (by omega) (fun c_30 => ?_) (fun c_30 => ?_)
        · skip
          refine r_iinc (k := 6) (lv' := [(5, .int (iv ((i : Int) + 1))), (6, .int (iv (dW ds i))), (0, .ref (a 0)), (1, .int (iv least)), (2, .int (iv x)), (3, .ref (a 2)), (4, .int (iv 6))]) hx hb dX0_jointsWornBy_36 hl rfl (by decide) rfl (fun ls hl => ?_)
          refine r_goto hx hb 14 dX0_jointsWornBy_39 (by decide) ?_
          exact ih14 (i + 1) x (by omega) (by omega) (ex ▸ cnt_no (decide_eq_false (by omega))) _ _ hP hD hS _ (lv_sub hl [2, 3, 4, 5, 6, 0] rfl)
        · skip
          refine r_iinc (k := 3) (lv' := [(2, .int (iv (x + 1))), (6, .int (iv (dW ds i))), (0, .ref (a 0)), (1, .int (iv least)), (3, .ref (a 2)), (4, .int (iv 6)), (5, .int (iv (i : Int)))]) hx hb dX0_jointsWornBy_33 hl rfl (by decide) rfl (fun ls hl => ?_)
          refine r_iinc (k := 6) (lv' := [(5, .int (iv ((i : Int) + 1))), (2, .int (iv (x + 1))), (6, .int (iv (dW ds i))), (0, .ref (a 0)), (1, .int (iv least)), (3, .ref (a 2)), (4, .int (iv 6))]) hx hb dX0_jointsWornBy_36 hl rfl (by decide) rfl (fun ls hl => ?_)
          refine r_goto hx hb 14 dX0_jointsWornBy_39 (by decide) ?_
          exact ih14 (i + 1) (x + 1) (by omega) (by omega) (ex ▸ cnt_yes (decide_eq_true c_30)) _ _ hP hD hS _ (lv_sub hl [3, 4, 1, 5, 6, 0] rfl)
  exact K14 7 0 0 (by omega) (by omega) rfl _ _ hP hD hS _ (lv_sub hl [4, 5, 3, 2, 1, 0] rfl)
set_option maxHeartbeats 4000000 in
set_option maxRecDepth 100000 in
theorem c_X0_eyesWithDust (l : Launch) (D : va_G) (G : Nat → ClassId) (a : Nat → Nat) (ds : DS) (hok : okD ds) (least : Int) (hle : 0 ≤ least ∧ least ≤ 100) : MtG l yX0_eyesWithDust wsX0_eyesWithDust 0 0 0 0 D (TY G) [.ref (a 0), .int (iv least)] (wDoll G a ds) (qI D (fun r u => r = iv (cntU least ds) ∧ u = wDoll G a ds)) := by
  refine MtG.mk (cc := cX0_eyesWithDust) (maxL := 7) (ret := some .int) (by decide) rfl (Nat.le_of_ble_eq_true rfl) ?_
  intro p e s m below meth c A ls hx hb hr hlk hml hown hin hts hK hA hP hD hS hl
  replace hown : s.vm.findClass RX0 = some m.cls := hown
  have hl : lv_has ls 7 [(0, .ref (a 0)), (1, .int (iv least))] := hl
  skip
  have hP : va_P D vwCl ([(a 0, .inr (0, [.ref (a 1), .ref (a 2), .ref (a 3), .ref (a 4), .ref (a 5), .int (iv (dg ds)), .int (iv (dv ds)), .int (iv (dn ds)), .int (iv (dt ds))])), (a 1, .inl (G 0, 6, .inl (fun j => iv (dA ds j)))), (a 2, .inl (G 0, 6, .inl (fun j => iv (dW ds j)))), (a 3, .inl (G 0, 6, .inl (fun j => iv (dQ ds j)))), (a 4, .inl (G 1, 2, .inl (fun j => iv (dO ds j)))), (a 5, .inl (G 0, 2, .inl (fun j => iv (dU ds j))))]) s.heap := hP
  have hD : va_D A ([(a 0, .inr (0, [.ref (a 1), .ref (a 2), .ref (a 3), .ref (a 4), .ref (a 5), .int (iv (dg ds)), .int (iv (dv ds)), .int (iv (dn ds)), .int (iv (dt ds))])), (a 1, .inl (G 0, 6, .inl (fun j => iv (dA ds j)))), (a 2, .inl (G 0, 6, .inl (fun j => iv (dW ds j)))), (a 3, .inl (G 0, 6, .inl (fun j => iv (dQ ds j)))), (a 4, .inl (G 1, 2, .inl (fun j => iv (dO ds j)))), (a 5, .inl (G 0, 2, .inl (fun j => iv (dU ds j))))]) := hD
  have lk25 := hts (.fieldLink RX0 25 "DollCitadel$Doll" "dusts" "[I") (by decide +kernel)
  have in_X0 : ∀ w ∈ u_ws RX0 TX0 9, w ∈ wsX0_eyesWithDust := by decide +kernel
  have hx6 : (0 : Int) ≤ 0 := by decide
  refine r_const hx hb dX0_eyesWithDust_0 ?_
  refine lv_istore_n (lv' := [(2, .int (iv 0)), (0, .ref (a 0)), (1, .int (iv least))]) hx hb dX0_eyesWithDust_1 rfl hl (by decide) rfl (fun ls hl => ?_)
  refine lv_aload_n hx hb dX0_eyesWithDust_2 rfl (lv_at hl 1 rfl) ?_
  refine va_get (D := D) (ci := 0) (v := .ref (a 5)) (C := RX0) (T := TX0) (N := 9) hx hb hts in_X0 hown hK hP 0 rfl rfl 4 (by decide) lk25 (fun _ h9 => h9) rfl dX0_eyesWithDust_3 ?_
  refine lv_astore_n (lv' := [(3, .ref (a 5)), (2, .int (iv 0)), (0, .ref (a 0)), (1, .int (iv least))]) hx hb dX0_eyesWithDust_6 rfl hl (by decide) rfl (fun ls hl => ?_)
  refine lv_aload_n hx hb dX0_eyesWithDust_7 rfl (lv_at hl 0 rfl) ?_
  refine va_alen (v := iv 2) hx hb hK hP 5 0 rfl (ty := _) rfl rfl dX0_eyesWithDust_8 ?_
  refine lv_istore (lv' := [(4, .int (iv 2)), (3, .ref (a 5)), (2, .int (iv 0)), (0, .ref (a 0)), (1, .int (iv least))]) hx hb dX0_eyesWithDust_9 hl (by decide) rfl (fun ls hl => ?_)
  refine r_const hx hb dX0_eyesWithDust_11 ?_
  refine lv_istore (lv' := [(5, .int (iv 0)), (4, .int (iv 2)), (3, .ref (a 5)), (2, .int (iv 0)), (0, .ref (a 0)), (1, .int (iv least))]) hx hb dX0_eyesWithDust_12 hl (by decide) rfl (fun ls hl => ?_)
  have K14 : ∀ (n i : Nat) (x : Int), i ≤ 2 → 2 < i + n → x = cnt (fun j => decide (least ≤ dU ds j)) i → ∀ (H : Heap) (locs : List Loc), va_P D vwCl ([(a 0, .inr (0, [.ref (a 1), .ref (a 2), .ref (a 3), .ref (a 4), .ref (a 5), .int (iv (dg ds)), .int (iv (dv ds)), .int (iv (dn ds)), .int (iv (dt ds))])), (a 1, .inl (G 0, 6, .inl (fun j => iv (dA ds j)))), (a 2, .inl (G 0, 6, .inl (fun j => iv (dW ds j)))), (a 3, .inl (G 0, 6, .inl (fun j => iv (dQ ds j)))), (a 4, .inl (G 1, 2, .inl (fun j => iv (dO ds j)))), (a 5, .inl (G 0, 2, .inl (fun j => iv (dU ds j))))]) H → va_D A ([(a 0, .inr (0, [.ref (a 1), .ref (a 2), .ref (a 3), .ref (a 4), .ref (a 5), .int (iv (dg ds)), .int (iv (dv ds)), .int (iv (dn ds)), .int (iv (dt ds))])), (a 1, .inl (G 0, 6, .inl (fun j => iv (dA ds j)))), (a 2, .inl (G 0, 6, .inl (fun j => iv (dW ds j)))), (a 3, .inl (G 0, 6, .inl (fun j => iv (dQ ds j)))), (a 4, .inl (G 1, 2, .inl (fun j => iv (dO ds j)))), (a 5, .inl (G 0, 2, .inl (fun j => iv (dU ds j))))]) → va_S A s.heap H locs → ∀ (ls : Array Slot), lv_has ls 7 [(0, .ref (a 0)), (1, .int (iv least)), (2, .int (iv x)), (3, .ref (a 5)), (4, .int (iv 2)), (5, .int (iv (i : Int)))] → W p l e (rmOf 0 0 0 0) s m ([.ref (a 0), .int (iv least)] : List Value).toArray below meth c H locs 0 0 (MQ below (qI D (fun r u => r = iv (cntU least ds) ∧ u = wDoll G a ds) A) ([.ref (a 0), .int (iv least)] : List Value).toArray s 0 0 A) (F0 m 14 ls []) := by
    intro n
    induction n with
    | zero => intro i x h1 h2; exact absurd h2 (by omega)
    | succ n ih14 =>
      intro i x hi_14 hn_14 ex H locs hP hD hS ls hl
      refine lv_iload hx hb dX0_eyesWithDust_14 (lv_at hl 5 rfl) ?_
      refine lv_iload hx hb dX0_eyesWithDust_16 (lv_at hl 4 rfl) ?_
      refine r_icmp_ge hx hb 42 dX0_eyesWithDust_18 (by decide) (by omega) (by omega) (fun c_18 => ?_) (fun c_18 => ?_)
      · skip
        refine lv_iload_n hx hb dX0_eyesWithDust_42 rfl (lv_at hl 2 rfl) ?_
        exact e_int hx hb hr hlk dX0_eyesWithDust_43 hS hP hD (by decide) (by decide) (⟨by rw [ex, show i = 2 by omega]; rfl, rfl⟩)
      · skip
        refine lv_aload_n hx hb dX0_eyesWithDust_21 rfl (lv_at hl 3 rfl) ?_
        refine lv_iload hx hb dX0_eyesWithDust_22 (lv_at hl 5 rfl) ?_
        refine r_iald (F := dU ds) hx hb hK hP 5 0 rfl rfl i (by omega) (by omega) (by decide) dX0_eyesWithDust_24 ?_
        have b_24 := okD_U hok i (by omega)
        refine lv_istore (lv' := [(6, .int (iv (dU ds i))), (0, .ref (a 0)), (1, .int (iv least)), (2, .int (iv x)), (3, .ref (a 5)), (4, .int (iv 2)), (5, .int (iv (i : Int)))]) hx hb dX0_eyesWithDust_25 hl (by decide) rfl (fun ls hl => ?_)
        refine lv_iload hx hb dX0_eyesWithDust_27 (lv_at hl 0 rfl) ?_
        refine lv_iload_n hx hb dX0_eyesWithDust_29 rfl (lv_at hl 2 rfl) ?_
        refine r_icmp_lt hx hb 36 dX0_eyesWithDust_30 (by decide) (by omega) (by omega) (fun c_30 => ?_) (fun c_30 => ?_)
        · skip
          refine r_iinc (k := 6) (lv' := [(5, .int (iv ((i : Int) + 1))), (6, .int (iv (dU ds i))), (0, .ref (a 0)), (1, .int (iv least)), (2, .int (iv x)), (3, .ref (a 5)), (4, .int (iv 2))]) hx hb dX0_eyesWithDust_36 hl rfl (by decide) rfl (fun ls hl => ?_)
          refine r_goto hx hb 14 dX0_eyesWithDust_39 (by decide) ?_
          exact ih14 (i + 1) x (by omega) (by omega) (ex ▸ cnt_no (decide_eq_false (by omega))) _ _ hP hD hS _ (lv_sub hl [2, 3, 4, 5, 6, 0] rfl)
        · skip
          refine r_iinc (k := 3) (lv' := [(2, .int (iv (x + 1))), (6, .int (iv (dU ds i))), (0, .ref (a 0)), (1, .int (iv least)), (3, .ref (a 5)), (4, .int (iv 2)), (5, .int (iv (i : Int)))]) hx hb dX0_eyesWithDust_33 hl rfl (by decide) rfl (fun ls hl => ?_)
          refine r_iinc (k := 6) (lv' := [(5, .int (iv ((i : Int) + 1))), (2, .int (iv (x + 1))), (6, .int (iv (dU ds i))), (0, .ref (a 0)), (1, .int (iv least)), (3, .ref (a 5)), (4, .int (iv 2))]) hx hb dX0_eyesWithDust_36 hl rfl (by decide) rfl (fun ls hl => ?_)
          refine r_goto hx hb 14 dX0_eyesWithDust_39 (by decide) ?_
          exact ih14 (i + 1) (x + 1) (by omega) (by omega) (ex ▸ cnt_yes (decide_eq_true c_30)) _ _ hP hD hS _ (lv_sub hl [3, 4, 1, 5, 6, 0] rfl)
  exact K14 3 0 0 (by omega) (by omega) rfl _ _ hP hD hS _ (lv_sub hl [4, 5, 3, 2, 1, 0] rfl)
set_option maxHeartbeats 4000000 in
set_option maxRecDepth 100000 in
theorem c_X0_brokenJoints (l : Launch) (D : va_G) (G : Nat → ClassId) (a : Nat → Nat) (ds : DS) (hok : okD ds)  : MtG l yX0_brokenJoints wsX0_brokenJoints 1 40 0 0 D (TY G) [.ref (a 0)] (wDoll G a ds) (qI D (fun r u => r = iv (cntW 100 ds) ∧ u = wDoll G a ds)) := by
  refine MtG.mk (cc := cX0_brokenJoints) (maxL := 1) (ret := some .int) (by decide) rfl (Nat.le_of_ble_eq_true rfl) ?_
  intro p e s m below meth c A ls hx hb hr hlk hml hown hin hts hK hA hP hD hS hl
  replace hown : s.vm.findClass RX0 = some m.cls := hown
  have hl : lv_has ls 1 [(0, .ref (a 0))] := hl
  skip
  have hP : va_P D vwCl ([(a 0, .inr (0, [.ref (a 1), .ref (a 2), .ref (a 3), .ref (a 4), .ref (a 5), .int (iv (dg ds)), .int (iv (dv ds)), .int (iv (dn ds)), .int (iv (dt ds))])), (a 1, .inl (G 0, 6, .inl (fun j => iv (dA ds j)))), (a 2, .inl (G 0, 6, .inl (fun j => iv (dW ds j)))), (a 3, .inl (G 0, 6, .inl (fun j => iv (dQ ds j)))), (a 4, .inl (G 1, 2, .inl (fun j => iv (dO ds j)))), (a 5, .inl (G 0, 2, .inl (fun j => iv (dU ds j))))]) s.heap := hP
  have hD : va_D A ([(a 0, .inr (0, [.ref (a 1), .ref (a 2), .ref (a 3), .ref (a 4), .ref (a 5), .int (iv (dg ds)), .int (iv (dv ds)), .int (iv (dn ds)), .int (iv (dt ds))])), (a 1, .inl (G 0, 6, .inl (fun j => iv (dA ds j)))), (a 2, .inl (G 0, 6, .inl (fun j => iv (dW ds j)))), (a 3, .inl (G 0, 6, .inl (fun j => iv (dQ ds j)))), (a 4, .inl (G 1, 2, .inl (fun j => iv (dO ds j)))), (a 5, .inl (G 0, 2, .inl (fun j => iv (dU ds j))))]) := hD
  refine lv_aload_n hx hb dX0_brokenJoints_0 rfl (lv_at hl 0 rfl) ?_
  refine lv_bipush (v := iv 100) hx hb dX0_brokenJoints_1 (by decide) ?_
  have hp := wsp ([(a 0, .inr (0, [.ref (a 1), .ref (a 2), .ref (a 3), .ref (a 4), .ref (a 5), .int (iv (dg ds)), .int (iv (dv ds)), .int (iv (dn ds)), .int (iv (dt ds))])), (a 1, .inl (G 0, 6, .inl (fun j => iv (dA ds j)))), (a 2, .inl (G 0, 6, .inl (fun j => iv (dW ds j)))), (a 3, .inl (G 0, 6, .inl (fun j => iv (dQ ds j)))), (a 4, .inl (G 1, 2, .inl (fun j => iv (dO ds j)))), (a 5, .inl (G 0, 2, .inl (fun j => iv (dU ds j))))]) ([]) 6 (is := [0, 1, 2, 3, 4, 5]) (js := []) (wc := wDoll G a ds) (wr := []) (by decide) rfl rfl rfl
  skip
  refine k_int (g_V (As := [.int (iv 100)]) (rest := []) (q0 := 0) (ci := 0) ⟨hx, hb, hml, hown, hts⟩ (c_X0_jointsWornBy l D G a ds hok 100 (by decide)) (cwV 1 hts gX0_brokenJoints_X0_jointsWornBy rfl rfl rfl (by decide +kernel) ⟨Nat.le_of_ble_eq_true rfl, Nat.le_of_ble_eq_true rfl⟩) hK hP hD hp rfl rfl rfl rfl hl.1 rfl (Nat.le_of_ble_eq_true rfl) dX0_brokenJoints_3 ⟨by decide, by decide⟩) hP hD hS hA hp (fun v u H locs hw hP hD hS => ?_)
  obtain ⟨rfl, rfl⟩ := hw
  have hP : va_P D vwCl ([(a 0, .inr (0, [.ref (a 1), .ref (a 2), .ref (a 3), .ref (a 4), .ref (a 5), .int (iv (dg ds)), .int (iv (dv ds)), .int (iv (dn ds)), .int (iv (dt ds))])), (a 1, .inl (G 0, 6, .inl (fun j => iv (dA ds j)))), (a 2, .inl (G 0, 6, .inl (fun j => iv (dW ds j)))), (a 3, .inl (G 0, 6, .inl (fun j => iv (dQ ds j)))), (a 4, .inl (G 1, 2, .inl (fun j => iv (dO ds j)))), (a 5, .inl (G 0, 2, .inl (fun j => iv (dU ds j))))]) H := hP
  have hD : va_D A ([(a 0, .inr (0, [.ref (a 1), .ref (a 2), .ref (a 3), .ref (a 4), .ref (a 5), .int (iv (dg ds)), .int (iv (dv ds)), .int (iv (dn ds)), .int (iv (dt ds))])), (a 1, .inl (G 0, 6, .inl (fun j => iv (dA ds j)))), (a 2, .inl (G 0, 6, .inl (fun j => iv (dW ds j)))), (a 3, .inl (G 0, 6, .inl (fun j => iv (dQ ds j)))), (a 4, .inl (G 1, 2, .inl (fun j => iv (dO ds j)))), (a 5, .inl (G 0, 2, .inl (fun j => iv (dU ds j))))]) := hD
  exact e_int hx hb hr hlk dX0_brokenJoints_6 hS hP hD (by decide) (by decide) (⟨rfl, rfl⟩)
set_option maxHeartbeats 4000000 in
set_option maxRecDepth 100000 in
theorem c_X0_hasRoomForPin (l : Launch) (D : va_G) (G : Nat → ClassId) (a : Nat → Nat) (ds : DS) (hok : okD ds)  : MtG l yX0_hasRoomForPin wsX0_hasRoomForPin 0 0 0 0 D (TY G) [.ref (a 0)] (wDoll G a ds) (qI D (fun r u => r = iv (b2i (decide (¬ dv ds = 0 ∧ dn ds < 12))) ∧ u = wDoll G a ds)) := by
  refine MtG.mk (cc := cX0_hasRoomForPin) (maxL := 1) (ret := some .boolean) (by decide) rfl (Nat.le_of_ble_eq_true rfl) ?_
  intro p e s m below meth c A ls hx hb hr hlk hml hown hin hts hK hA hP hD hS hl
  replace hown : s.vm.findClass RX0 = some m.cls := hown
  have hl : lv_has ls 1 [(0, .ref (a 0))] := hl
  skip
  have hP : va_P D vwCl ([(a 0, .inr (0, [.ref (a 1), .ref (a 2), .ref (a 3), .ref (a 4), .ref (a 5), .int (iv (dg ds)), .int (iv (dv ds)), .int (iv (dn ds)), .int (iv (dt ds))])), (a 1, .inl (G 0, 6, .inl (fun j => iv (dA ds j)))), (a 2, .inl (G 0, 6, .inl (fun j => iv (dW ds j)))), (a 3, .inl (G 0, 6, .inl (fun j => iv (dQ ds j)))), (a 4, .inl (G 1, 2, .inl (fun j => iv (dO ds j)))), (a 5, .inl (G 0, 2, .inl (fun j => iv (dU ds j))))]) s.heap := hP
  have hD : va_D A ([(a 0, .inr (0, [.ref (a 1), .ref (a 2), .ref (a 3), .ref (a 4), .ref (a 5), .int (iv (dg ds)), .int (iv (dv ds)), .int (iv (dn ds)), .int (iv (dt ds))])), (a 1, .inl (G 0, 6, .inl (fun j => iv (dA ds j)))), (a 2, .inl (G 0, 6, .inl (fun j => iv (dW ds j)))), (a 3, .inl (G 0, 6, .inl (fun j => iv (dQ ds j)))), (a 4, .inl (G 1, 2, .inl (fun j => iv (dO ds j)))), (a 5, .inl (G 0, 2, .inl (fun j => iv (dU ds j))))]) := hD
  have lk32 := hts (.fieldLink RX0 32 "DollCitadel$Doll" "weight" "I") (by decide +kernel)
  have in_X0 : ∀ w ∈ u_ws RX0 TX0 9, w ∈ wsX0_hasRoomForPin := by decide +kernel
  have lk35 := hts (.fieldLink RX0 35 "DollCitadel$Doll" "pins" "I") (by decide +kernel)
  obtain ⟨-, -, og, ov, on, ovn, ovn2⟩ := id hok
  refine lv_aload_n hx hb dX0_hasRoomForPin_0 rfl (lv_at hl 0 rfl) ?_
  refine va_get (D := D) (ci := 0) (v := .int (iv (dv ds))) (C := RX0) (T := TX0) (N := 9) hx hb hts in_X0 hown hK hP 0 rfl rfl 6 (by decide) lk32 (fun _ h9 => h9) rfl dX0_hasRoomForPin_1 ?_
  refine r_if_eq hx hb 20 dX0_hasRoomForPin_4 (by decide) (by omega) (fun c_4 => ?_) (fun c_4 => ?_)
  · skip
    refine r_const hx hb dX0_hasRoomForPin_20 ?_
    exact e_b01 hx hb hr (by omega) hlk dX0_hasRoomForPin_21 hS hP hD (by decide) (by decide) (⟨by rw [show decide (¬ dv ds = 0 ∧ dn ds < 12) = false from decide_eq_false (by omega)]; rfl, rfl⟩)
  · skip
    refine lv_aload_n hx hb dX0_hasRoomForPin_7 rfl (lv_at hl 0 rfl) ?_
    refine va_get (D := D) (ci := 0) (v := .int (iv (dn ds))) (C := RX0) (T := TX0) (N := 9) hx hb hts in_X0 hown hK hP 0 rfl rfl 7 (by decide) lk35 (fun _ h9 => h9) rfl dX0_hasRoomForPin_8 ?_
    refine lv_bipush (v := iv 12) hx hb dX0_hasRoomForPin_11 (by decide) ?_
    refine r_icmp_ge hx hb 20 dX0_hasRoomForPin_13 (by decide) (by omega) (by omega) (fun c_13 => ?_) (fun c_13 => ?_)
    · skip
      refine r_const hx hb dX0_hasRoomForPin_20 ?_
      exact e_b01 hx hb hr (by omega) hlk dX0_hasRoomForPin_21 hS hP hD (by decide) (by decide) (⟨by rw [show decide (¬ dv ds = 0 ∧ dn ds < 12) = false from decide_eq_false (by omega)]; rfl, rfl⟩)
    · skip
      refine r_const hx hb dX0_hasRoomForPin_16 ?_
      refine r_goto hx hb 21 dX0_hasRoomForPin_17 (by decide) ?_
      exact e_b01 hx hb hr (by omega) hlk dX0_hasRoomForPin_21 hS hP hD (by decide) (by decide) (⟨by rw [show decide (¬ dv ds = 0 ∧ dn ds < 12) = true from decide_eq_true (by omega)]; rfl, rfl⟩)
set_option maxHeartbeats 4000000 in
set_option maxRecDepth 100000 in
theorem c_X0_tally (l : Launch) (D : va_G) (G : Nat → ClassId) (a : Nat → Nat) (ds : DS) (hok : okD ds) (what : Int) (hwh : 4 ≤ what ∧ what ≤ 7) : MtG l yX0_tally wsX0_tally 2 80 0 0 D (TY G) [.ref (a 0), .int (iv what)] (wDoll G a ds) (qI D (fun r u => r = iv (tally what ds) ∧ u = wDoll G a ds)) := by
  refine MtG.mk (cc := cX0_tally) (maxL := 2) (ret := some .int) (by decide) rfl (Nat.le_of_ble_eq_true rfl) ?_
  intro p e s m below meth c A ls hx hb hr hlk hml hown hin hts hK hA hP hD hS hl
  replace hown : s.vm.findClass RX0 = some m.cls := hown
  have hl : lv_has ls 2 [(0, .ref (a 0)), (1, .int (iv what))] := hl
  skip
  have hP : va_P D vwCl ([(a 0, .inr (0, [.ref (a 1), .ref (a 2), .ref (a 3), .ref (a 4), .ref (a 5), .int (iv (dg ds)), .int (iv (dv ds)), .int (iv (dn ds)), .int (iv (dt ds))])), (a 1, .inl (G 0, 6, .inl (fun j => iv (dA ds j)))), (a 2, .inl (G 0, 6, .inl (fun j => iv (dW ds j)))), (a 3, .inl (G 0, 6, .inl (fun j => iv (dQ ds j)))), (a 4, .inl (G 1, 2, .inl (fun j => iv (dO ds j)))), (a 5, .inl (G 0, 2, .inl (fun j => iv (dU ds j))))]) s.heap := hP
  have hD : va_D A ([(a 0, .inr (0, [.ref (a 1), .ref (a 2), .ref (a 3), .ref (a 4), .ref (a 5), .int (iv (dg ds)), .int (iv (dv ds)), .int (iv (dn ds)), .int (iv (dt ds))])), (a 1, .inl (G 0, 6, .inl (fun j => iv (dA ds j)))), (a 2, .inl (G 0, 6, .inl (fun j => iv (dW ds j)))), (a 3, .inl (G 0, 6, .inl (fun j => iv (dQ ds j)))), (a 4, .inl (G 1, 2, .inl (fun j => iv (dO ds j)))), (a 5, .inl (G 0, 2, .inl (fun j => iv (dU ds j))))]) := hD
  have lk28 := hts (.fieldLink RX0 28 "DollCitadel$Doll" "wigEaten" "I") (by decide +kernel)
  have in_X0 : ∀ w ∈ u_ws RX0 TX0 9, w ∈ wsX0_tally := by decide +kernel
  have lk32 := hts (.fieldLink RX0 32 "DollCitadel$Doll" "weight" "I") (by decide +kernel)
  obtain ⟨-, -, og, ov, on, ovn, ovn2⟩ := id hok
  refine lv_iload_n hx hb dX0_tally_0 rfl (lv_at hl 1 rfl) ?_
  rcases (show what = 4 ∨ what = 5 ∨ what = 6 ∨ what = 7 by omega) with rfl | rfl | rfl | rfl
  · skip
    refine lv_tableIn (off := 27) (tgt := 28) hx hb dX0_tally_1 (by decide) (by decide) (by decide) (by decide) ?_
    refine lv_aload_n hx hb dX0_tally_28 rfl (lv_at hl 0 rfl) ?_
    have hp := wsp ([(a 0, .inr (0, [.ref (a 1), .ref (a 2), .ref (a 3), .ref (a 4), .ref (a 5), .int (iv (dg ds)), .int (iv (dv ds)), .int (iv (dn ds)), .int (iv (dt ds))])), (a 1, .inl (G 0, 6, .inl (fun j => iv (dA ds j)))), (a 2, .inl (G 0, 6, .inl (fun j => iv (dW ds j)))), (a 3, .inl (G 0, 6, .inl (fun j => iv (dQ ds j)))), (a 4, .inl (G 1, 2, .inl (fun j => iv (dO ds j)))), (a 5, .inl (G 0, 2, .inl (fun j => iv (dU ds j))))]) ([]) 6 (is := [0, 1, 2, 3, 4, 5]) (js := []) (wc := wDoll G a ds) (wr := []) (by decide) rfl rfl rfl
    skip
    refine k_int (g_V (As := []) (rest := []) (q0 := 0) (ci := 0) ⟨hx, hb, hml, hown, hts⟩ (c_X0_brokenJoints l D G a ds hok ) (cwV 0 hts gX0_tally_X0_brokenJoints rfl rfl rfl (by decide +kernel) ⟨Nat.le_of_ble_eq_true rfl, Nat.le_of_ble_eq_true rfl⟩) hK hP hD hp rfl rfl rfl rfl hl.1 rfl (Nat.le_of_ble_eq_true rfl) dX0_tally_29 ⟨by decide, by decide⟩) hP hD hS hA hp (fun v u H locs hw hP hD hS => ?_)
    obtain ⟨rfl, rfl⟩ := hw
    have hP : va_P D vwCl ([(a 0, .inr (0, [.ref (a 1), .ref (a 2), .ref (a 3), .ref (a 4), .ref (a 5), .int (iv (dg ds)), .int (iv (dv ds)), .int (iv (dn ds)), .int (iv (dt ds))])), (a 1, .inl (G 0, 6, .inl (fun j => iv (dA ds j)))), (a 2, .inl (G 0, 6, .inl (fun j => iv (dW ds j)))), (a 3, .inl (G 0, 6, .inl (fun j => iv (dQ ds j)))), (a 4, .inl (G 1, 2, .inl (fun j => iv (dO ds j)))), (a 5, .inl (G 0, 2, .inl (fun j => iv (dU ds j))))]) H := hP
    have hD : va_D A ([(a 0, .inr (0, [.ref (a 1), .ref (a 2), .ref (a 3), .ref (a 4), .ref (a 5), .int (iv (dg ds)), .int (iv (dv ds)), .int (iv (dn ds)), .int (iv (dt ds))])), (a 1, .inl (G 0, 6, .inl (fun j => iv (dA ds j)))), (a 2, .inl (G 0, 6, .inl (fun j => iv (dW ds j)))), (a 3, .inl (G 0, 6, .inl (fun j => iv (dQ ds j)))), (a 4, .inl (G 1, 2, .inl (fun j => iv (dO ds j)))), (a 5, .inl (G 0, 2, .inl (fun j => iv (dU ds j))))]) := hD
    exact e_int hx hb hr hlk dX0_tally_32 hS hP hD (by decide) (by decide) (⟨by unfold tally; simp only [reduceIte, show ¬ (5 : Int) = 4 by decide, show ¬ (6 : Int) = 4 by decide, show ¬ (6 : Int) = 5 by decide, show ¬ (7 : Int) = 4 by decide, show ¬ (7 : Int) = 5 by decide, show ¬ (7 : Int) = 6 by decide, show ¬ (1 : Int) = 0 by decide, show ¬ (2 : Int) = 0 by decide, show ¬ (2 : Int) = 1 by decide, show ¬ (3 : Int) = 0 by decide, show ¬ (3 : Int) = 1 by decide, show ¬ (3 : Int) = 2 by decide, show ¬ (4 : Int) = 0 by decide, show ¬ (4 : Int) = 1 by decide, show ¬ (4 : Int) = 2 by decide, show ¬ (4 : Int) = 3 by decide, if_true, if_false]; try first | rfl | (rw [if_pos (by omega)]) | (rw [if_neg (by omega)]) | (rw [if_neg (by omega), if_neg (by omega)]), rfl⟩)
  · skip
    refine lv_tableIn (off := 32) (tgt := 33) hx hb dX0_tally_1 (by decide) (by decide) (by decide) (by decide) ?_
    refine lv_aload_n hx hb dX0_tally_33 rfl (lv_at hl 0 rfl) ?_
    refine va_get (D := D) (ci := 0) (v := .int (iv (dg ds))) (C := RX0) (T := TX0) (N := 9) hx hb hts in_X0 hown hK hP 0 rfl rfl 5 (by decide) lk28 (fun _ h9 => h9) rfl dX0_tally_34 ?_
    refine r_const hx hb dX0_tally_37 ?_
    refine r_icmp_ne hx hb 45 dX0_tally_38 (by decide) (by omega) (by omega) (fun c_38 => ?_) (fun c_38 => ?_)
    · skip
      refine r_const hx hb dX0_tally_45 ?_
      exact e_int hx hb hr hlk dX0_tally_46 hS hP hD (by decide) (by decide) (⟨by unfold tally; simp only [reduceIte, show ¬ (5 : Int) = 4 by decide, show ¬ (6 : Int) = 4 by decide, show ¬ (6 : Int) = 5 by decide, show ¬ (7 : Int) = 4 by decide, show ¬ (7 : Int) = 5 by decide, show ¬ (7 : Int) = 6 by decide, show ¬ (1 : Int) = 0 by decide, show ¬ (2 : Int) = 0 by decide, show ¬ (2 : Int) = 1 by decide, show ¬ (3 : Int) = 0 by decide, show ¬ (3 : Int) = 1 by decide, show ¬ (3 : Int) = 2 by decide, show ¬ (4 : Int) = 0 by decide, show ¬ (4 : Int) = 1 by decide, show ¬ (4 : Int) = 2 by decide, show ¬ (4 : Int) = 3 by decide, if_true, if_false]; try first | rfl | (rw [if_pos (by omega)]) | (rw [if_neg (by omega)]) | (rw [if_neg (by omega), if_neg (by omega)]), rfl⟩)
    · skip
      refine r_const hx hb dX0_tally_41 ?_
      refine r_goto hx hb 46 dX0_tally_42 (by decide) ?_
      exact e_int hx hb hr hlk dX0_tally_46 hS hP hD (by decide) (by decide) (⟨by unfold tally; simp only [reduceIte, show ¬ (5 : Int) = 4 by decide, show ¬ (6 : Int) = 4 by decide, show ¬ (6 : Int) = 5 by decide, show ¬ (7 : Int) = 4 by decide, show ¬ (7 : Int) = 5 by decide, show ¬ (7 : Int) = 6 by decide, show ¬ (1 : Int) = 0 by decide, show ¬ (2 : Int) = 0 by decide, show ¬ (2 : Int) = 1 by decide, show ¬ (3 : Int) = 0 by decide, show ¬ (3 : Int) = 1 by decide, show ¬ (3 : Int) = 2 by decide, show ¬ (4 : Int) = 0 by decide, show ¬ (4 : Int) = 1 by decide, show ¬ (4 : Int) = 2 by decide, show ¬ (4 : Int) = 3 by decide, if_true, if_false]; try first | rfl | (rw [if_pos (by omega)]) | (rw [if_neg (by omega)]) | (rw [if_neg (by omega), if_neg (by omega)]), rfl⟩)
  · skip
    refine lv_tableIn (off := 46) (tgt := 47) hx hb dX0_tally_1 (by decide) (by decide) (by decide) (by decide) ?_
    refine lv_aload_n hx hb dX0_tally_47 rfl (lv_at hl 0 rfl) ?_
    refine va_get (D := D) (ci := 0) (v := .int (iv (dv ds))) (C := RX0) (T := TX0) (N := 9) hx hb hts in_X0 hown hK hP 0 rfl rfl 6 (by decide) lk32 (fun _ h9 => h9) rfl dX0_tally_48 ?_
    refine r_if_ne hx hb 58 dX0_tally_51 (by decide) (by omega) (fun c_51 => ?_) (fun c_51 => ?_)
    · skip
      refine r_const hx hb dX0_tally_58 ?_
      exact e_int hx hb hr hlk dX0_tally_59 hS hP hD (by decide) (by decide) (⟨by unfold tally; simp only [reduceIte, show ¬ (5 : Int) = 4 by decide, show ¬ (6 : Int) = 4 by decide, show ¬ (6 : Int) = 5 by decide, show ¬ (7 : Int) = 4 by decide, show ¬ (7 : Int) = 5 by decide, show ¬ (7 : Int) = 6 by decide, show ¬ (1 : Int) = 0 by decide, show ¬ (2 : Int) = 0 by decide, show ¬ (2 : Int) = 1 by decide, show ¬ (3 : Int) = 0 by decide, show ¬ (3 : Int) = 1 by decide, show ¬ (3 : Int) = 2 by decide, show ¬ (4 : Int) = 0 by decide, show ¬ (4 : Int) = 1 by decide, show ¬ (4 : Int) = 2 by decide, show ¬ (4 : Int) = 3 by decide, if_true, if_false]; try first | rfl | (rw [if_pos (by omega)]) | (rw [if_neg (by omega)]) | (rw [if_neg (by omega), if_neg (by omega)]), rfl⟩)
    · skip
      refine r_const hx hb dX0_tally_54 ?_
      refine r_goto hx hb 59 dX0_tally_55 (by decide) ?_
      exact e_int hx hb hr hlk dX0_tally_59 hS hP hD (by decide) (by decide) (⟨by unfold tally; simp only [reduceIte, show ¬ (5 : Int) = 4 by decide, show ¬ (6 : Int) = 4 by decide, show ¬ (6 : Int) = 5 by decide, show ¬ (7 : Int) = 4 by decide, show ¬ (7 : Int) = 5 by decide, show ¬ (7 : Int) = 6 by decide, show ¬ (1 : Int) = 0 by decide, show ¬ (2 : Int) = 0 by decide, show ¬ (2 : Int) = 1 by decide, show ¬ (3 : Int) = 0 by decide, show ¬ (3 : Int) = 1 by decide, show ¬ (3 : Int) = 2 by decide, show ¬ (4 : Int) = 0 by decide, show ¬ (4 : Int) = 1 by decide, show ¬ (4 : Int) = 2 by decide, show ¬ (4 : Int) = 3 by decide, if_true, if_false]; try first | rfl | (rw [if_pos (by omega)]) | (rw [if_neg (by omega)]) | (rw [if_neg (by omega), if_neg (by omega)]), rfl⟩)
  · skip
    refine lv_tableOut (tgt := 60) hx hb dX0_tally_1 (by decide) (by decide) ?_
    refine lv_aload_n hx hb dX0_tally_60 rfl (lv_at hl 0 rfl) ?_
    refine lv_bipush (v := iv 9) hx hb dX0_tally_61 (by decide) ?_
    have hp := wsp ([(a 0, .inr (0, [.ref (a 1), .ref (a 2), .ref (a 3), .ref (a 4), .ref (a 5), .int (iv (dg ds)), .int (iv (dv ds)), .int (iv (dn ds)), .int (iv (dt ds))])), (a 1, .inl (G 0, 6, .inl (fun j => iv (dA ds j)))), (a 2, .inl (G 0, 6, .inl (fun j => iv (dW ds j)))), (a 3, .inl (G 0, 6, .inl (fun j => iv (dQ ds j)))), (a 4, .inl (G 1, 2, .inl (fun j => iv (dO ds j)))), (a 5, .inl (G 0, 2, .inl (fun j => iv (dU ds j))))]) ([]) 6 (is := [0, 1, 2, 3, 4, 5]) (js := []) (wc := wDoll G a ds) (wr := []) (by decide) rfl rfl rfl
    skip
    refine k_int (g_V (As := [.int (iv 9)]) (rest := []) (q0 := 0) (ci := 0) ⟨hx, hb, hml, hown, hts⟩ (c_X0_eyesWithDust l D G a ds hok 9 (by decide)) (cwV 1 hts gX0_tally_X0_eyesWithDust rfl rfl rfl (by decide +kernel) ⟨Nat.le_of_ble_eq_true rfl, Nat.le_of_ble_eq_true rfl⟩) hK hP hD hp rfl rfl rfl rfl hl.1 rfl (Nat.le_of_ble_eq_true rfl) dX0_tally_63 ⟨by decide, by decide⟩) hP hD hS hA hp (fun v u H locs hw hP hD hS => ?_)
    obtain ⟨rfl, rfl⟩ := hw
    have hP : va_P D vwCl ([(a 0, .inr (0, [.ref (a 1), .ref (a 2), .ref (a 3), .ref (a 4), .ref (a 5), .int (iv (dg ds)), .int (iv (dv ds)), .int (iv (dn ds)), .int (iv (dt ds))])), (a 1, .inl (G 0, 6, .inl (fun j => iv (dA ds j)))), (a 2, .inl (G 0, 6, .inl (fun j => iv (dW ds j)))), (a 3, .inl (G 0, 6, .inl (fun j => iv (dQ ds j)))), (a 4, .inl (G 1, 2, .inl (fun j => iv (dO ds j)))), (a 5, .inl (G 0, 2, .inl (fun j => iv (dU ds j))))]) H := hP
    have hD : va_D A ([(a 0, .inr (0, [.ref (a 1), .ref (a 2), .ref (a 3), .ref (a 4), .ref (a 5), .int (iv (dg ds)), .int (iv (dv ds)), .int (iv (dn ds)), .int (iv (dt ds))])), (a 1, .inl (G 0, 6, .inl (fun j => iv (dA ds j)))), (a 2, .inl (G 0, 6, .inl (fun j => iv (dW ds j)))), (a 3, .inl (G 0, 6, .inl (fun j => iv (dQ ds j)))), (a 4, .inl (G 1, 2, .inl (fun j => iv (dO ds j)))), (a 5, .inl (G 0, 2, .inl (fun j => iv (dU ds j))))]) := hD
    exact e_int hx hb hr hlk dX0_tally_66 hS hP hD (by decide) (by decide) (⟨by unfold tally; simp only [reduceIte, show ¬ (5 : Int) = 4 by decide, show ¬ (6 : Int) = 4 by decide, show ¬ (6 : Int) = 5 by decide, show ¬ (7 : Int) = 4 by decide, show ¬ (7 : Int) = 5 by decide, show ¬ (7 : Int) = 6 by decide, show ¬ (1 : Int) = 0 by decide, show ¬ (2 : Int) = 0 by decide, show ¬ (2 : Int) = 1 by decide, show ¬ (3 : Int) = 0 by decide, show ¬ (3 : Int) = 1 by decide, show ¬ (3 : Int) = 2 by decide, show ¬ (4 : Int) = 0 by decide, show ¬ (4 : Int) = 1 by decide, show ¬ (4 : Int) = 2 by decide, show ¬ (4 : Int) = 3 by decide, if_true, if_false]; try first | rfl | (rw [if_pos (by omega)]) | (rw [if_neg (by omega)]) | (rw [if_neg (by omega), if_neg (by omega)]), rfl⟩)
set_option maxHeartbeats 4000000 in
set_option maxRecDepth 100000 in
theorem c_X0_turnTo (l : Launch) (D : va_G) (G : Nat → ClassId) (a : Nat → Nat) (ds : DS) (hok : okD ds) (b : Nat → Nat) (P : Nat → Int) (hP0 : okP P) : MtG l yX0_turnTo wsX0_turnTo 2 80 0 0 D (TY G) [.ref (a 0), .ref (b 0)] (wDoll G a ds ++ wPose G b P) (qV D (fun u => u = wDoll G a (turnN P 6 ds) ++ wPose G b P)) := by
  refine MtG.mk (cc := cX0_turnTo) (maxL := 4) (ret := none) (by decide) rfl (Nat.le_of_ble_eq_true rfl) ?_
  intro p e s m below meth c A ls hx hb hr hlk hml hown hin hts hK hA hP hD hS hl
  replace hown : s.vm.findClass RX0 = some m.cls := hown
  have hl : lv_has ls 4 [(0, .ref (a 0)), (1, .ref (b 0))] := hl
  skip
  have hP : va_P D vwCl ([(a 0, .inr (0, [.ref (a 1), .ref (a 2), .ref (a 3), .ref (a 4), .ref (a 5), .int (iv (dg ds)), .int (iv (dv ds)), .int (iv (dn ds)), .int (iv (dt ds))])), (a 1, .inl (G 0, 6, .inl (fun j => iv (dA ds j)))), (a 2, .inl (G 0, 6, .inl (fun j => iv (dW ds j)))), (a 3, .inl (G 0, 6, .inl (fun j => iv (dQ ds j)))), (a 4, .inl (G 1, 2, .inl (fun j => iv (dO ds j)))), (a 5, .inl (G 0, 2, .inl (fun j => iv (dU ds j)))), (b 0, .inr (1, [.ref (b 1)])), (b 1, .inl (G 0, 6, .inl (fun j => iv (P j))))]) s.heap := hP
  have hD : va_D A ([(a 0, .inr (0, [.ref (a 1), .ref (a 2), .ref (a 3), .ref (a 4), .ref (a 5), .int (iv (dg ds)), .int (iv (dv ds)), .int (iv (dn ds)), .int (iv (dt ds))])), (a 1, .inl (G 0, 6, .inl (fun j => iv (dA ds j)))), (a 2, .inl (G 0, 6, .inl (fun j => iv (dW ds j)))), (a 3, .inl (G 0, 6, .inl (fun j => iv (dQ ds j)))), (a 4, .inl (G 1, 2, .inl (fun j => iv (dO ds j)))), (a 5, .inl (G 0, 2, .inl (fun j => iv (dU ds j)))), (b 0, .inr (1, [.ref (b 1)])), (b 1, .inl (G 0, 6, .inl (fun j => iv (P j))))]) := hD
  have lk41 := hts (.fieldLink RX0 41 "DollCitadel$Pose" "angles" "[I") (by decide +kernel)
  have in_X1 : ∀ w ∈ u_ws RX1 TX1 1, w ∈ wsX0_turnTo := by decide +kernel
  have lk9 := hts (.fieldLink RX0 9 "DollCitadel$Doll" "angles" "[I") (by decide +kernel)
  have in_X0 : ∀ w ∈ u_ws RX0 TX0 9, w ∈ wsX0_turnTo := by decide +kernel
  have lk15 := hts (.fieldLink RX0 15 "DollCitadel$Doll" "wears" "[I") (by decide +kernel)
  have lk18 := hts (.fieldLink RX0 18 "DollCitadel$Doll" "lacquers" "[I") (by decide +kernel)
  refine r_const hx hb dX0_turnTo_0 ?_
  refine lv_istore_n (lv' := [(2, .int (iv 0)), (0, .ref (a 0)), (1, .ref (b 0))]) hx hb dX0_turnTo_1 rfl hl (by decide) rfl (fun ls hl => ?_)
  have K2 : ∀ (n i : Nat) (st : DS), i ≤ 6 → 6 < i + n → st = turnN P i ds → ∀ (H : Heap) (locs : List Loc), va_P D vwCl ([(a 0, .inr (0, [.ref (a 1), .ref (a 2), .ref (a 3), .ref (a 4), .ref (a 5), .int (iv (dg st)), .int (iv (dv st)), .int (iv (dn st)), .int (iv (dt st))])), (a 1, .inl (G 0, 6, .inl (fun j => iv (dA st j)))), (a 2, .inl (G 0, 6, .inl (fun j => iv (dW st j)))), (a 3, .inl (G 0, 6, .inl (fun j => iv (dQ st j)))), (a 4, .inl (G 1, 2, .inl (fun j => iv (dO st j)))), (a 5, .inl (G 0, 2, .inl (fun j => iv (dU st j)))), (b 0, .inr (1, [.ref (b 1)])), (b 1, .inl (G 0, 6, .inl (fun j => iv (P j))))]) H → va_D A ([(a 0, .inr (0, [.ref (a 1), .ref (a 2), .ref (a 3), .ref (a 4), .ref (a 5), .int (iv (dg st)), .int (iv (dv st)), .int (iv (dn st)), .int (iv (dt st))])), (a 1, .inl (G 0, 6, .inl (fun j => iv (dA st j)))), (a 2, .inl (G 0, 6, .inl (fun j => iv (dW st j)))), (a 3, .inl (G 0, 6, .inl (fun j => iv (dQ st j)))), (a 4, .inl (G 1, 2, .inl (fun j => iv (dO st j)))), (a 5, .inl (G 0, 2, .inl (fun j => iv (dU st j)))), (b 0, .inr (1, [.ref (b 1)])), (b 1, .inl (G 0, 6, .inl (fun j => iv (P j))))]) → va_S A s.heap H locs → ∀ (ls : Array Slot), lv_has ls 4 [(0, .ref (a 0)), (1, .ref (b 0)), (2, .int (iv (i : Int)))] → W p l e (rmOf 2 80 0 0) s m ([.ref (a 0), .ref (b 0)] : List Value).toArray below meth c H locs 0 0 (MQ below (qV D (fun u => u = wDoll G a (turnN P 6 ds) ++ wPose G b P) A) ([.ref (a 0), .ref (b 0)] : List Value).toArray s 0 0 A) (F0 m 2 ls []) := by
    intro n
    induction n with
    | zero => intro i st h1 h2; exact absurd h2 (by omega)
    | succ n ih2 =>
      intro i st hi_2 hn_2 es H locs hP hD hS ls hl
      have oks : okD st := by rw [es]; exact turnN_ok hP0 hok i (by omega)
      refine lv_iload_n hx hb dX0_turnTo_2 rfl (lv_at hl 2 rfl) ?_
      refine lv_bipush (v := iv 6) hx hb dX0_turnTo_3 (by decide) ?_
      refine r_icmp_ge hx hb 98 dX0_turnTo_5 (by decide) (by omega) (by omega) (fun c_5 => ?_) (fun c_5 => ?_)
      · skip
        obtain rfl : i = 6 := by omega
        subst es
        exact e_void hx hb hr hlk dX0_turnTo_98 hS hP hD (by decide) (by decide) rfl
      · skip
        refine lv_aload_n hx hb dX0_turnTo_8 rfl (lv_at hl 1 rfl) ?_
        refine va_get (D := D) (ci := 1) (v := .ref (b 1)) (C := RX1) (T := TX1) (N := 1) hx hb hts in_X1 hown hK hP 6 rfl rfl 0 (by decide) lk41 (fun _ h9 => h9) rfl dX0_turnTo_9 ?_
        refine lv_iload_n hx hb dX0_turnTo_12 rfl (lv_at hl 2 rfl) ?_
        refine r_iald (F := P) hx hb hK hP 7 0 rfl rfl i (by omega) (by omega) (by decide) dX0_turnTo_13 ?_
        have b_13 := hP0 i (by omega)
        refine lv_aload_n hx hb dX0_turnTo_14 rfl (lv_at hl 0 rfl) ?_
        refine va_get (D := D) (ci := 0) (v := .ref (a 1)) (C := RX0) (T := TX0) (N := 9) hx hb hts in_X0 hown hK hP 0 rfl rfl 0 (by decide) lk9 (fun _ h9 => h9) rfl dX0_turnTo_15 ?_
        refine lv_iload_n hx hb dX0_turnTo_18 rfl (lv_at hl 2 rfl) ?_
        refine r_iald (F := dA st) hx hb hK hP 1 0 rfl rfl i (by omega) (by omega) (by decide) dX0_turnTo_19 ?_
        have b_19 := okD_A oks i (by omega)
        refine r_sub hx hb dX0_turnTo_20 ?_
        refine r_abs hx hb (hml.trans hl.1.symm) hown (hts (.methodLink RX0 44 Lib.Math.abs.name) (by decide +kernel)) (hts (.static Lib.Math.abs.name) (by decide +kernel)) (hts (.initialized "java/lang/Math") (by decide +kernel)) (hts (.code Lib.Math.abs.name Lib.Math.abs.code 1 (some .int)) (by decide +kernel)) (Nat.le_of_ble_eq_true rfl) (Nat.le_of_ble_eq_true rfl) (Nat.le_of_ble_eq_true rfl) (Nat.le_of_ble_eq_true rfl) (by omega) dX0_turnTo_21 ?_
        refine lv_istore_n (lv' := [(3, .int (iv (max ((P i) - (dA st i)) (-((P i) - (dA st i)))))), (0, .ref (a 0)), (1, .ref (b 0)), (2, .int (iv (i : Int)))]) hx hb dX0_turnTo_24 rfl hl (by decide) rfl (fun ls hl => ?_)
        refine lv_iload_n hx hb dX0_turnTo_25 rfl (lv_at hl 0 rfl) ?_
        refine r_if_le hx hb 92 dX0_turnTo_26 (by decide) (by omega) (fun c_26 => ?_) (fun c_26 => ?_)
        · skip
          refine r_iinc (k := 3) (lv' := [(2, .int (iv ((i : Int) + 1))), (3, .int (iv (max ((P i) - (dA st i)) (-((P i) - (dA st i)))))), (0, .ref (a 0)), (1, .ref (b 0))]) hx hb dX0_turnTo_92 hl rfl (by decide) rfl (fun ls hl => ?_)
          refine r_goto hx hb 2 dX0_turnTo_95 (by decide) ?_
          exact ih2 (i + 1) st (by omega) (by omega) (by show _ = turn1 P i (turnN P i ds); rw [← es]; exact turn1_t (by omega)) _ _ hP hD hS _ (lv_sub hl [2, 3, 0] rfl)
        · skip
          refine lv_aload_n hx hb dX0_turnTo_29 rfl (lv_at hl 1 rfl) ?_
          refine va_get (D := D) (ci := 0) (v := .ref (a 2)) (C := RX0) (T := TX0) (N := 9) hx hb hts in_X0 hown hK hP 0 rfl rfl 1 (by decide) lk15 (fun _ h9 => h9) rfl dX0_turnTo_30 ?_
          refine lv_iload_n hx hb dX0_turnTo_33 rfl (lv_at hl 3 rfl) ?_
          refine r_iald (F := dW st) hx hb hK hP 2 0 rfl rfl i (by omega) (by omega) (by decide) dX0_turnTo_34 ?_
          have b_34 := okD_W oks i (by omega)
          refine lv_bipush (v := iv 100) hx hb dX0_turnTo_35 (by decide) ?_
          refine r_icmp_ge hx hb 92 dX0_turnTo_37 (by decide) (by omega) (by omega) (fun c_37 => ?_) (fun c_37 => ?_)
          · skip
            refine r_iinc (k := 3) (lv' := [(2, .int (iv ((i : Int) + 1))), (3, .int (iv (max ((P i) - (dA st i)) (-((P i) - (dA st i)))))), (0, .ref (a 0)), (1, .ref (b 0))]) hx hb dX0_turnTo_92 hl rfl (by decide) rfl (fun ls hl => ?_)
            refine r_goto hx hb 2 dX0_turnTo_95 (by decide) ?_
            exact ih2 (i + 1) st (by omega) (by omega) (by show _ = turn1 P i (turnN P i ds); rw [← es]; exact turn1_t (by omega)) _ _ hP hD hS _ (lv_sub hl [2, 3, 0] rfl)
          · skip
            refine lv_aload_n hx hb dX0_turnTo_40 rfl (lv_at hl 1 rfl) ?_
            refine va_get (D := D) (ci := 0) (v := .ref (a 2)) (C := RX0) (T := TX0) (N := 9) hx hb hts in_X0 hown hK hP 0 rfl rfl 1 (by decide) lk15 (fun _ h9 => h9) rfl dX0_turnTo_41 ?_
            refine lv_iload_n hx hb dX0_turnTo_44 rfl (lv_at hl 3 rfl) ?_
            refine lv_aload_n hx hb dX0_turnTo_45 rfl (lv_at hl 1 rfl) ?_
            refine va_get (D := D) (ci := 0) (v := .ref (a 2)) (C := RX0) (T := TX0) (N := 9) hx hb hts in_X0 hown hK hP 0 rfl rfl 1 (by decide) lk15 (fun _ h9 => h9) rfl dX0_turnTo_46 ?_
            refine lv_iload_n hx hb dX0_turnTo_49 rfl (lv_at hl 3 rfl) ?_
            refine r_iald (F := dW st) hx hb hK hP 2 0 rfl rfl i (by omega) (by omega) (by decide) dX0_turnTo_50 ?_
            have b_50 := okD_W oks i (by omega)
            refine lv_aload_n hx hb dX0_turnTo_51 rfl (lv_at hl 1 rfl) ?_
            refine va_get (D := D) (ci := 0) (v := .ref (a 3)) (C := RX0) (T := TX0) (N := 9) hx hb hts in_X0 hown hK hP 0 rfl rfl 2 (by decide) lk18 (fun _ h9 => h9) rfl dX0_turnTo_52 ?_
            refine lv_iload_n hx hb dX0_turnTo_55 rfl (lv_at hl 3 rfl) ?_
            refine r_iald (F := dQ st) hx hb hK hP 3 0 rfl rfl i (by omega) (by omega) (by decide) dX0_turnTo_56 ?_
            have b_56 := okD_Q oks i (by omega)
            refine lv_iload_n hx hb dX0_turnTo_57 rfl (lv_at hl 0 rfl) ?_
            have hp := wsp ([(a 0, .inr (0, [.ref (a 1), .ref (a 2), .ref (a 3), .ref (a 4), .ref (a 5), .int (iv (dg st)), .int (iv (dv st)), .int (iv (dn st)), .int (iv (dt st))])), (a 1, .inl (G 0, 6, .inl (fun j => iv (dA st j)))), (a 2, .inl (G 0, 6, .inl (fun j => iv (dW st j)))), (a 3, .inl (G 0, 6, .inl (fun j => iv (dQ st j)))), (a 4, .inl (G 1, 2, .inl (fun j => iv (dO st j)))), (a 5, .inl (G 0, 2, .inl (fun j => iv (dU st j)))), (b 0, .inr (1, [.ref (b 1)])), (b 1, .inl (G 0, 6, .inl (fun j => iv (P j))))]) ([]) 8 (is := []) (js := [0, 1, 2, 3, 4, 5, 6, 7]) (wc := []) (wr := [(a 0, .inr (0, [.ref (a 1), .ref (a 2), .ref (a 3), .ref (a 4), .ref (a 5), .int (iv (dg st)), .int (iv (dv st)), .int (iv (dn st)), .int (iv (dt st))])), (a 1, .inl (G 0, 6, .inl (fun j => iv (dA st j)))), (a 2, .inl (G 0, 6, .inl (fun j => iv (dW st j)))), (a 3, .inl (G 0, 6, .inl (fun j => iv (dQ st j)))), (a 4, .inl (G 1, 2, .inl (fun j => iv (dO st j)))), (a 5, .inl (G 0, 2, .inl (fun j => iv (dU st j)))), (b 0, .inr (1, [.ref (b 1)])), (b 1, .inl (G 0, 6, .inl (fun j => iv (P j))))]) (by decide) rfl rfl rfl
            skip
            refine k_int (g_S (As := [.int (iv (dW st i)), .int (iv (dQ st i)), .int (iv (max ((P i) - (dA st i)) (-((P i) - (dA st i)))))]) (rest := [.int (iv (i : Int)), .ref (a 2)]) ⟨hx, hb, hml, hown, hts⟩ (c_X0_wearBehindTurn l D G (dW st i) (dQ st i) (max ((P i) - (dA st i)) (-((P i) - (dA st i)))) (by omega) (by omega) (by omega)) (va_cwS 3 hts gX0_turnTo_X0_wearBehindTurn rfl rfl rfl (by decide +kernel) ⟨Nat.le_of_ble_eq_true rfl, Nat.le_of_ble_eq_true rfl⟩) hK hP hD hp rfl hl.1 rfl (Nat.le_of_ble_eq_true rfl) dX0_turnTo_58 ⟨by decide, by decide⟩) hP hD hS hA hp (fun v u H locs hw hP hD hS => ?_)
            obtain ⟨rfl, rfl⟩ := hw
            have hP : va_P D vwCl ([(a 0, .inr (0, [.ref (a 1), .ref (a 2), .ref (a 3), .ref (a 4), .ref (a 5), .int (iv (dg st)), .int (iv (dv st)), .int (iv (dn st)), .int (iv (dt st))])), (a 1, .inl (G 0, 6, .inl (fun j => iv (dA st j)))), (a 2, .inl (G 0, 6, .inl (fun j => iv (dW st j)))), (a 3, .inl (G 0, 6, .inl (fun j => iv (dQ st j)))), (a 4, .inl (G 1, 2, .inl (fun j => iv (dO st j)))), (a 5, .inl (G 0, 2, .inl (fun j => iv (dU st j)))), (b 0, .inr (1, [.ref (b 1)])), (b 1, .inl (G 0, 6, .inl (fun j => iv (P j))))]) H := hP
            have hD : va_D A ([(a 0, .inr (0, [.ref (a 1), .ref (a 2), .ref (a 3), .ref (a 4), .ref (a 5), .int (iv (dg st)), .int (iv (dv st)), .int (iv (dn st)), .int (iv (dt st))])), (a 1, .inl (G 0, 6, .inl (fun j => iv (dA st j)))), (a 2, .inl (G 0, 6, .inl (fun j => iv (dW st j)))), (a 3, .inl (G 0, 6, .inl (fun j => iv (dQ st j)))), (a 4, .inl (G 1, 2, .inl (fun j => iv (dO st j)))), (a 5, .inl (G 0, 2, .inl (fun j => iv (dU st j)))), (b 0, .inr (1, [.ref (b 1)])), (b 1, .inl (G 0, 6, .inl (fun j => iv (P j))))]) := hD
            refine r_iast (F := dW st) hx hb hK hP hD hS 2 0 rfl rfl i (by omega) (by omega) (by decide) dX0_turnTo_61 (fun H locs hP hD hS => ?_)
            have hP : va_P D vwCl ([(a 0, .inr (0, [.ref (a 1), .ref (a 2), .ref (a 3), .ref (a 4), .ref (a 5), .int (iv (dg st)), .int (iv (dv st)), .int (iv (dn st)), .int (iv (dt st))])), (a 1, .inl (G 0, 6, .inl (fun j => iv (dA st j)))), (a 2, .inl (G 0, 6, .inl (fun j => iv (updI (dW st) i (wearBT (dW st i) (dQ st i) (max ((P i) - (dA st i)) (-((P i) - (dA st i))))) j)))), (a 3, .inl (G 0, 6, .inl (fun j => iv (dQ st j)))), (a 4, .inl (G 1, 2, .inl (fun j => iv (dO st j)))), (a 5, .inl (G 0, 2, .inl (fun j => iv (dU st j)))), (b 0, .inr (1, [.ref (b 1)])), (b 1, .inl (G 0, 6, .inl (fun j => iv (P j))))]) H := hP
            have hD : va_D A ([(a 0, .inr (0, [.ref (a 1), .ref (a 2), .ref (a 3), .ref (a 4), .ref (a 5), .int (iv (dg st)), .int (iv (dv st)), .int (iv (dn st)), .int (iv (dt st))])), (a 1, .inl (G 0, 6, .inl (fun j => iv (dA st j)))), (a 2, .inl (G 0, 6, .inl (fun j => iv (updI (dW st) i (wearBT (dW st i) (dQ st i) (max ((P i) - (dA st i)) (-((P i) - (dA st i))))) j)))), (a 3, .inl (G 0, 6, .inl (fun j => iv (dQ st j)))), (a 4, .inl (G 1, 2, .inl (fun j => iv (dO st j)))), (a 5, .inl (G 0, 2, .inl (fun j => iv (dU st j)))), (b 0, .inr (1, [.ref (b 1)])), (b 1, .inl (G 0, 6, .inl (fun j => iv (P j))))]) := hD
            refine lv_aload_n hx hb dX0_turnTo_62 rfl (lv_at hl 1 rfl) ?_
            refine va_get (D := D) (ci := 0) (v := .ref (a 3)) (C := RX0) (T := TX0) (N := 9) hx hb hts in_X0 hown hK hP 0 rfl rfl 2 (by decide) lk18 (fun _ h9 => h9) rfl dX0_turnTo_63 ?_
            refine lv_iload_n hx hb dX0_turnTo_66 rfl (lv_at hl 3 rfl) ?_
            refine r_const hx hb dX0_turnTo_67 ?_
            refine lv_aload_n hx hb dX0_turnTo_68 rfl (lv_at hl 1 rfl) ?_
            refine va_get (D := D) (ci := 0) (v := .ref (a 3)) (C := RX0) (T := TX0) (N := 9) hx hb hts in_X0 hown hK hP 0 rfl rfl 2 (by decide) lk18 (fun _ h9 => h9) rfl dX0_turnTo_69 ?_
            refine lv_iload_n hx hb dX0_turnTo_72 rfl (lv_at hl 3 rfl) ?_
            refine r_iald (F := dQ st) hx hb hK hP 3 0 rfl rfl i (by omega) (by omega) (by decide) dX0_turnTo_73 ?_
            have b_73 := okD_Q oks i (by omega)
            refine r_const hx hb dX0_turnTo_74 ?_
            refine r_sub hx hb dX0_turnTo_75 ?_
            refine r_max hx hb (hml.trans hl.1.symm) hown (hts (.methodLink RX0 54 Lib.Math.max.name) (by decide +kernel)) (hts (.static Lib.Math.max.name) (by decide +kernel)) (hts (.initialized "java/lang/Math") (by decide +kernel)) (hts (.code Lib.Math.max.name Lib.Math.max.code 2 (some .int)) (by decide +kernel)) (Nat.le_of_ble_eq_true rfl) (Nat.le_of_ble_eq_true rfl) (Nat.le_of_ble_eq_true rfl) (Nat.le_of_ble_eq_true rfl) (by omega) (by omega) dX0_turnTo_76 ?_
            refine r_iast (F := dQ st) hx hb hK hP hD hS 3 0 rfl rfl i (by omega) (by omega) (by decide) dX0_turnTo_79 (fun H locs hP hD hS => ?_)
            have hP : va_P D vwCl ([(a 0, .inr (0, [.ref (a 1), .ref (a 2), .ref (a 3), .ref (a 4), .ref (a 5), .int (iv (dg st)), .int (iv (dv st)), .int (iv (dn st)), .int (iv (dt st))])), (a 1, .inl (G 0, 6, .inl (fun j => iv (dA st j)))), (a 2, .inl (G 0, 6, .inl (fun j => iv (updI (dW st) i (wearBT (dW st i) (dQ st i) (max ((P i) - (dA st i)) (-((P i) - (dA st i))))) j)))), (a 3, .inl (G 0, 6, .inl (fun j => iv (updI (dQ st) i (max 0 ((dQ st i) - 1)) j)))), (a 4, .inl (G 1, 2, .inl (fun j => iv (dO st j)))), (a 5, .inl (G 0, 2, .inl (fun j => iv (dU st j)))), (b 0, .inr (1, [.ref (b 1)])), (b 1, .inl (G 0, 6, .inl (fun j => iv (P j))))]) H := hP
            have hD : va_D A ([(a 0, .inr (0, [.ref (a 1), .ref (a 2), .ref (a 3), .ref (a 4), .ref (a 5), .int (iv (dg st)), .int (iv (dv st)), .int (iv (dn st)), .int (iv (dt st))])), (a 1, .inl (G 0, 6, .inl (fun j => iv (dA st j)))), (a 2, .inl (G 0, 6, .inl (fun j => iv (updI (dW st) i (wearBT (dW st i) (dQ st i) (max ((P i) - (dA st i)) (-((P i) - (dA st i))))) j)))), (a 3, .inl (G 0, 6, .inl (fun j => iv (updI (dQ st) i (max 0 ((dQ st i) - 1)) j)))), (a 4, .inl (G 1, 2, .inl (fun j => iv (dO st j)))), (a 5, .inl (G 0, 2, .inl (fun j => iv (dU st j)))), (b 0, .inr (1, [.ref (b 1)])), (b 1, .inl (G 0, 6, .inl (fun j => iv (P j))))]) := hD
            refine lv_aload_n hx hb dX0_turnTo_80 rfl (lv_at hl 1 rfl) ?_
            refine va_get (D := D) (ci := 0) (v := .ref (a 1)) (C := RX0) (T := TX0) (N := 9) hx hb hts in_X0 hown hK hP 0 rfl rfl 0 (by decide) lk9 (fun _ h9 => h9) rfl dX0_turnTo_81 ?_
            refine lv_iload_n hx hb dX0_turnTo_84 rfl (lv_at hl 3 rfl) ?_
            refine lv_aload_n hx hb dX0_turnTo_85 rfl (lv_at hl 2 rfl) ?_
            refine va_get (D := D) (ci := 1) (v := .ref (b 1)) (C := RX1) (T := TX1) (N := 1) hx hb hts in_X1 hown hK hP 6 rfl rfl 0 (by decide) lk41 (fun _ h9 => h9) rfl dX0_turnTo_86 ?_
            refine lv_iload_n hx hb dX0_turnTo_89 rfl (lv_at hl 3 rfl) ?_
            refine r_iald (F := P) hx hb hK hP 7 0 rfl rfl i (by omega) (by omega) (by decide) dX0_turnTo_90 ?_
            have b_90 := hP0 i (by omega)
            refine r_iast (F := dA st) hx hb hK hP hD hS 1 0 rfl rfl i (by omega) (by omega) (by decide) dX0_turnTo_91 (fun H locs hP hD hS => ?_)
            have hP : va_P D vwCl ([(a 0, .inr (0, [.ref (a 1), .ref (a 2), .ref (a 3), .ref (a 4), .ref (a 5), .int (iv (dg st)), .int (iv (dv st)), .int (iv (dn st)), .int (iv (dt st))])), (a 1, .inl (G 0, 6, .inl (fun j => iv (updI (dA st) i (P i) j)))), (a 2, .inl (G 0, 6, .inl (fun j => iv (updI (dW st) i (wearBT (dW st i) (dQ st i) (max ((P i) - (dA st i)) (-((P i) - (dA st i))))) j)))), (a 3, .inl (G 0, 6, .inl (fun j => iv (updI (dQ st) i (max 0 ((dQ st i) - 1)) j)))), (a 4, .inl (G 1, 2, .inl (fun j => iv (dO st j)))), (a 5, .inl (G 0, 2, .inl (fun j => iv (dU st j)))), (b 0, .inr (1, [.ref (b 1)])), (b 1, .inl (G 0, 6, .inl (fun j => iv (P j))))]) H := hP
            have hD : va_D A ([(a 0, .inr (0, [.ref (a 1), .ref (a 2), .ref (a 3), .ref (a 4), .ref (a 5), .int (iv (dg st)), .int (iv (dv st)), .int (iv (dn st)), .int (iv (dt st))])), (a 1, .inl (G 0, 6, .inl (fun j => iv (updI (dA st) i (P i) j)))), (a 2, .inl (G 0, 6, .inl (fun j => iv (updI (dW st) i (wearBT (dW st i) (dQ st i) (max ((P i) - (dA st i)) (-((P i) - (dA st i))))) j)))), (a 3, .inl (G 0, 6, .inl (fun j => iv (updI (dQ st) i (max 0 ((dQ st i) - 1)) j)))), (a 4, .inl (G 1, 2, .inl (fun j => iv (dO st j)))), (a 5, .inl (G 0, 2, .inl (fun j => iv (dU st j)))), (b 0, .inr (1, [.ref (b 1)])), (b 1, .inl (G 0, 6, .inl (fun j => iv (P j))))]) := hD
            refine r_iinc (k := 3) (lv' := [(2, .int (iv ((i : Int) + 1))), (3, .int (iv (max ((P i) - (dA st i)) (-((P i) - (dA st i)))))), (0, .ref (a 0)), (1, .ref (b 0))]) hx hb dX0_turnTo_92 hl rfl (by decide) rfl (fun ls hl => ?_)
            refine r_goto hx hb 2 dX0_turnTo_95 (by decide) ?_
            exact ih2 (i + 1) (dset st i (P i) (wearBT (dW st i) (dQ st i) (max (P i - dA st i) (-(P i - dA st i)))) (max 0 (dQ st i - 1))) (by omega) (by omega) (by show _ = turn1 P i (turnN P i ds); rw [← es]; exact turn1_f (by omega)) _ _ hP hD hS _ (lv_sub hl [2, 3, 0] rfl)
  exact K2 7 0 ds (by omega) (by omega) rfl _ _ hP hD hS _ (lv_sub hl [1, 2, 0] rfl)
set_option maxHeartbeats 4000000 in
set_option maxRecDepth 100000 in
theorem c_X0_dryLacquer (l : Launch) (D : va_G) (G : Nat → ClassId) (a : Nat → Nat) (ds : DS) (hok : okD ds)  : MtG l yX0_dryLacquer wsX0_dryLacquer 1 40 0 0 D (TY G) [.ref (a 0)] (wDoll G a ds) (qV D (fun u => u = wDoll G a (dryN 6 ds))) := by
  refine MtG.mk (cc := cX0_dryLacquer) (maxL := 2) (ret := none) (by decide) rfl (Nat.le_of_ble_eq_true rfl) ?_
  intro p e s m below meth c A ls hx hb hr hlk hml hown hin hts hK hA hP hD hS hl
  replace hown : s.vm.findClass RX0 = some m.cls := hown
  have hl : lv_has ls 2 [(0, .ref (a 0))] := hl
  skip
  have hP : va_P D vwCl ([(a 0, .inr (0, [.ref (a 1), .ref (a 2), .ref (a 3), .ref (a 4), .ref (a 5), .int (iv (dg ds)), .int (iv (dv ds)), .int (iv (dn ds)), .int (iv (dt ds))])), (a 1, .inl (G 0, 6, .inl (fun j => iv (dA ds j)))), (a 2, .inl (G 0, 6, .inl (fun j => iv (dW ds j)))), (a 3, .inl (G 0, 6, .inl (fun j => iv (dQ ds j)))), (a 4, .inl (G 1, 2, .inl (fun j => iv (dO ds j)))), (a 5, .inl (G 0, 2, .inl (fun j => iv (dU ds j))))]) s.heap := hP
  have hD : va_D A ([(a 0, .inr (0, [.ref (a 1), .ref (a 2), .ref (a 3), .ref (a 4), .ref (a 5), .int (iv (dg ds)), .int (iv (dv ds)), .int (iv (dn ds)), .int (iv (dt ds))])), (a 1, .inl (G 0, 6, .inl (fun j => iv (dA ds j)))), (a 2, .inl (G 0, 6, .inl (fun j => iv (dW ds j)))), (a 3, .inl (G 0, 6, .inl (fun j => iv (dQ ds j)))), (a 4, .inl (G 1, 2, .inl (fun j => iv (dO ds j)))), (a 5, .inl (G 0, 2, .inl (fun j => iv (dU ds j))))]) := hD
  have lk18 := hts (.fieldLink RX0 18 "DollCitadel$Doll" "lacquers" "[I") (by decide +kernel)
  have in_X0 : ∀ w ∈ u_ws RX0 TX0 9, w ∈ wsX0_dryLacquer := by decide +kernel
  refine r_const hx hb dX0_dryLacquer_0 ?_
  refine lv_istore_n (lv' := [(1, .int (iv 0)), (0, .ref (a 0))]) hx hb dX0_dryLacquer_1 rfl hl (by decide) rfl (fun ls hl => ?_)
  have K2 : ∀ (n i : Nat) (st : DS), i ≤ 6 → 6 < i + n → st = dryN i ds → ∀ (H : Heap) (locs : List Loc), va_P D vwCl ([(a 0, .inr (0, [.ref (a 1), .ref (a 2), .ref (a 3), .ref (a 4), .ref (a 5), .int (iv (dg st)), .int (iv (dv st)), .int (iv (dn st)), .int (iv (dt st))])), (a 1, .inl (G 0, 6, .inl (fun j => iv (dA st j)))), (a 2, .inl (G 0, 6, .inl (fun j => iv (dW st j)))), (a 3, .inl (G 0, 6, .inl (fun j => iv (dQ st j)))), (a 4, .inl (G 1, 2, .inl (fun j => iv (dO st j)))), (a 5, .inl (G 0, 2, .inl (fun j => iv (dU st j))))]) H → va_D A ([(a 0, .inr (0, [.ref (a 1), .ref (a 2), .ref (a 3), .ref (a 4), .ref (a 5), .int (iv (dg st)), .int (iv (dv st)), .int (iv (dn st)), .int (iv (dt st))])), (a 1, .inl (G 0, 6, .inl (fun j => iv (dA st j)))), (a 2, .inl (G 0, 6, .inl (fun j => iv (dW st j)))), (a 3, .inl (G 0, 6, .inl (fun j => iv (dQ st j)))), (a 4, .inl (G 1, 2, .inl (fun j => iv (dO st j)))), (a 5, .inl (G 0, 2, .inl (fun j => iv (dU st j))))]) → va_S A s.heap H locs → ∀ (ls : Array Slot), lv_has ls 2 [(0, .ref (a 0)), (1, .int (iv (i : Int)))] → W p l e (rmOf 1 40 0 0) s m ([.ref (a 0)] : List Value).toArray below meth c H locs 0 0 (MQ below (qV D (fun u => u = wDoll G a (dryN 6 ds)) A) ([.ref (a 0)] : List Value).toArray s 0 0 A) (F0 m 2 ls []) := by
    intro n
    induction n with
    | zero => intro i st h1 h2; exact absurd h2 (by omega)
    | succ n ih2 =>
      intro i st hi_2 hn_2 es H locs hP hD hS ls hl
      have oks : okD st := by rw [es]; exact dryN_ok hok i (by omega)
      refine lv_iload_n hx hb dX0_dryLacquer_2 rfl (lv_at hl 1 rfl) ?_
      refine lv_bipush (v := iv 6) hx hb dX0_dryLacquer_3 (by decide) ?_
      refine r_icmp_ge hx hb 32 dX0_dryLacquer_5 (by decide) (by omega) (by omega) (fun c_5 => ?_) (fun c_5 => ?_)
      · skip
        obtain rfl : i = 6 := by omega
        subst es
        exact e_void hx hb hr hlk dX0_dryLacquer_32 hS hP hD (by decide) (by decide) rfl
      · skip
        refine lv_aload_n hx hb dX0_dryLacquer_8 rfl (lv_at hl 0 rfl) ?_
        refine va_get (D := D) (ci := 0) (v := .ref (a 3)) (C := RX0) (T := TX0) (N := 9) hx hb hts in_X0 hown hK hP 0 rfl rfl 2 (by decide) lk18 (fun _ h9 => h9) rfl dX0_dryLacquer_9 ?_
        refine lv_iload_n hx hb dX0_dryLacquer_12 rfl (lv_at hl 1 rfl) ?_
        refine r_const hx hb dX0_dryLacquer_13 ?_
        refine lv_aload_n hx hb dX0_dryLacquer_14 rfl (lv_at hl 0 rfl) ?_
        refine va_get (D := D) (ci := 0) (v := .ref (a 3)) (C := RX0) (T := TX0) (N := 9) hx hb hts in_X0 hown hK hP 0 rfl rfl 2 (by decide) lk18 (fun _ h9 => h9) rfl dX0_dryLacquer_15 ?_
        refine lv_iload_n hx hb dX0_dryLacquer_18 rfl (lv_at hl 1 rfl) ?_
        refine r_iald (F := dQ st) hx hb hK hP 3 0 rfl rfl i (by omega) (by omega) (by decide) dX0_dryLacquer_19 ?_
        have b_19 := okD_Q oks i (by omega)
        refine r_const hx hb dX0_dryLacquer_20 ?_
        refine r_sub hx hb dX0_dryLacquer_21 ?_
        refine r_max hx hb (hml.trans hl.1.symm) hown (hts (.methodLink RX0 54 Lib.Math.max.name) (by decide +kernel)) (hts (.static Lib.Math.max.name) (by decide +kernel)) (hts (.initialized "java/lang/Math") (by decide +kernel)) (hts (.code Lib.Math.max.name Lib.Math.max.code 2 (some .int)) (by decide +kernel)) (Nat.le_of_ble_eq_true rfl) (Nat.le_of_ble_eq_true rfl) (Nat.le_of_ble_eq_true rfl) (Nat.le_of_ble_eq_true rfl) (by omega) (by omega) dX0_dryLacquer_22 ?_
        refine r_iast (F := dQ st) hx hb hK hP hD hS 3 0 rfl rfl i (by omega) (by omega) (by decide) dX0_dryLacquer_25 (fun H locs hP hD hS => ?_)
        have hP : va_P D vwCl ([(a 0, .inr (0, [.ref (a 1), .ref (a 2), .ref (a 3), .ref (a 4), .ref (a 5), .int (iv (dg st)), .int (iv (dv st)), .int (iv (dn st)), .int (iv (dt st))])), (a 1, .inl (G 0, 6, .inl (fun j => iv (dA st j)))), (a 2, .inl (G 0, 6, .inl (fun j => iv (dW st j)))), (a 3, .inl (G 0, 6, .inl (fun j => iv (updI (dQ st) i (max 0 ((dQ st i) - 1)) j)))), (a 4, .inl (G 1, 2, .inl (fun j => iv (dO st j)))), (a 5, .inl (G 0, 2, .inl (fun j => iv (dU st j))))]) H := hP
        have hD : va_D A ([(a 0, .inr (0, [.ref (a 1), .ref (a 2), .ref (a 3), .ref (a 4), .ref (a 5), .int (iv (dg st)), .int (iv (dv st)), .int (iv (dn st)), .int (iv (dt st))])), (a 1, .inl (G 0, 6, .inl (fun j => iv (dA st j)))), (a 2, .inl (G 0, 6, .inl (fun j => iv (dW st j)))), (a 3, .inl (G 0, 6, .inl (fun j => iv (updI (dQ st) i (max 0 ((dQ st i) - 1)) j)))), (a 4, .inl (G 1, 2, .inl (fun j => iv (dO st j)))), (a 5, .inl (G 0, 2, .inl (fun j => iv (dU st j))))]) := hD
        refine r_iinc (k := 1) (lv' := [(1, .int (iv ((i : Int) + 1))), (0, .ref (a 0))]) hx hb dX0_dryLacquer_26 hl rfl (by decide) rfl (fun ls hl => ?_)
        refine r_goto hx hb 2 dX0_dryLacquer_29 (by decide) ?_
        exact ih2 (i + 1) (dA st, dW st, updI (dQ st) i (max 0 (dQ st i - 1)), dO st, dU st, dg st, dv st, dn st, dt st) (by omega) (by omega) (dset_same.trans (dryN_s es)) _ _ hP hD hS _ (lv_sub hl [1, 0] rfl)
  exact K2 7 0 ds (by omega) (by omega) rfl _ _ hP hD hS _ (lv_sub hl [1, 0] rfl)
set_option maxHeartbeats 4000000 in
set_option maxRecDepth 100000 in
theorem c_X0_gatherDust (l : Launch) (D : va_G) (G : Nat → ClassId) (a : Nat → Nat) (ds : DS) (hok : okD ds)  : MtG l yX0_gatherDust wsX0_gatherDust 1 40 0 0 D (TY G) [.ref (a 0)] (wDoll G a ds) (qV D (fun u => u = wDoll G a (gatN 2 ds))) := by
  refine MtG.mk (cc := cX0_gatherDust) (maxL := 2) (ret := none) (by decide) rfl (Nat.le_of_ble_eq_true rfl) ?_
  intro p e s m below meth c A ls hx hb hr hlk hml hown hin hts hK hA hP hD hS hl
  replace hown : s.vm.findClass RX0 = some m.cls := hown
  have hl : lv_has ls 2 [(0, .ref (a 0))] := hl
  skip
  have hP : va_P D vwCl ([(a 0, .inr (0, [.ref (a 1), .ref (a 2), .ref (a 3), .ref (a 4), .ref (a 5), .int (iv (dg ds)), .int (iv (dv ds)), .int (iv (dn ds)), .int (iv (dt ds))])), (a 1, .inl (G 0, 6, .inl (fun j => iv (dA ds j)))), (a 2, .inl (G 0, 6, .inl (fun j => iv (dW ds j)))), (a 3, .inl (G 0, 6, .inl (fun j => iv (dQ ds j)))), (a 4, .inl (G 1, 2, .inl (fun j => iv (dO ds j)))), (a 5, .inl (G 0, 2, .inl (fun j => iv (dU ds j))))]) s.heap := hP
  have hD : va_D A ([(a 0, .inr (0, [.ref (a 1), .ref (a 2), .ref (a 3), .ref (a 4), .ref (a 5), .int (iv (dg ds)), .int (iv (dv ds)), .int (iv (dn ds)), .int (iv (dt ds))])), (a 1, .inl (G 0, 6, .inl (fun j => iv (dA ds j)))), (a 2, .inl (G 0, 6, .inl (fun j => iv (dW ds j)))), (a 3, .inl (G 0, 6, .inl (fun j => iv (dQ ds j)))), (a 4, .inl (G 1, 2, .inl (fun j => iv (dO ds j)))), (a 5, .inl (G 0, 2, .inl (fun j => iv (dU ds j))))]) := hD
  have lk21 := hts (.fieldLink RX0 21 "DollCitadel$Doll" "open" "[Z") (by decide +kernel)
  have in_X0 : ∀ w ∈ u_ws RX0 TX0 9, w ∈ wsX0_gatherDust := by decide +kernel
  have lk25 := hts (.fieldLink RX0 25 "DollCitadel$Doll" "dusts" "[I") (by decide +kernel)
  refine r_const hx hb dX0_gatherDust_0 ?_
  refine lv_istore_n (lv' := [(1, .int (iv 0)), (0, .ref (a 0))]) hx hb dX0_gatherDust_1 rfl hl (by decide) rfl (fun ls hl => ?_)
  have K2 : ∀ (n i : Nat) (st : DS), i ≤ 2 → 2 < i + n → st = gatN i ds → ∀ (H : Heap) (locs : List Loc), va_P D vwCl ([(a 0, .inr (0, [.ref (a 1), .ref (a 2), .ref (a 3), .ref (a 4), .ref (a 5), .int (iv (dg st)), .int (iv (dv st)), .int (iv (dn st)), .int (iv (dt st))])), (a 1, .inl (G 0, 6, .inl (fun j => iv (dA st j)))), (a 2, .inl (G 0, 6, .inl (fun j => iv (dW st j)))), (a 3, .inl (G 0, 6, .inl (fun j => iv (dQ st j)))), (a 4, .inl (G 1, 2, .inl (fun j => iv (dO st j)))), (a 5, .inl (G 0, 2, .inl (fun j => iv (dU st j))))]) H → va_D A ([(a 0, .inr (0, [.ref (a 1), .ref (a 2), .ref (a 3), .ref (a 4), .ref (a 5), .int (iv (dg st)), .int (iv (dv st)), .int (iv (dn st)), .int (iv (dt st))])), (a 1, .inl (G 0, 6, .inl (fun j => iv (dA st j)))), (a 2, .inl (G 0, 6, .inl (fun j => iv (dW st j)))), (a 3, .inl (G 0, 6, .inl (fun j => iv (dQ st j)))), (a 4, .inl (G 1, 2, .inl (fun j => iv (dO st j)))), (a 5, .inl (G 0, 2, .inl (fun j => iv (dU st j))))]) → va_S A s.heap H locs → ∀ (ls : Array Slot), lv_has ls 2 [(0, .ref (a 0)), (1, .int (iv (i : Int)))] → W p l e (rmOf 1 40 0 0) s m ([.ref (a 0)] : List Value).toArray below meth c H locs 0 0 (MQ below (qV D (fun u => u = wDoll G a (gatN 2 ds)) A) ([.ref (a 0)] : List Value).toArray s 0 0 A) (F0 m 2 ls []) := by
    intro n
    induction n with
    | zero => intro i st h1 h2; exact absurd h2 (by omega)
    | succ n ih2 =>
      intro i st hi_2 hn_2 es H locs hP hD hS ls hl
      have oks : okD st := by rw [es]; exact gatN_ok hok i (by omega)
      refine lv_iload_n hx hb dX0_gatherDust_2 rfl (lv_at hl 1 rfl) ?_
      refine r_const hx hb dX0_gatherDust_3 ?_
      refine r_icmp_ge hx hb 41 dX0_gatherDust_4 (by decide) (by omega) (by omega) (fun c_4 => ?_) (fun c_4 => ?_)
      · skip
        obtain rfl : i = 2 := by omega
        subst es
        exact e_void hx hb hr hlk dX0_gatherDust_41 hS hP hD (by decide) (by decide) rfl
      · skip
        refine lv_aload_n hx hb dX0_gatherDust_7 rfl (lv_at hl 0 rfl) ?_
        refine va_get (D := D) (ci := 0) (v := .ref (a 4)) (C := RX0) (T := TX0) (N := 9) hx hb hts in_X0 hown hK hP 0 rfl rfl 3 (by decide) lk21 (fun _ h9 => h9) rfl dX0_gatherDust_8 ?_
        refine lv_iload_n hx hb dX0_gatherDust_11 rfl (lv_at hl 1 rfl) ?_
        refine r_zald (F := dO st) hx hb hK hP 4 1 rfl rfl i (by omega) (by omega) (by decide) dX0_gatherDust_12 ?_
        have b_12 := okD_O oks i (by omega)
        refine r_if_eq hx hb 35 dX0_gatherDust_13 (by decide) (by omega) (fun c_13 => ?_) (fun c_13 => ?_)
        · skip
          refine r_iinc (k := 1) (lv' := [(1, .int (iv ((i : Int) + 1))), (0, .ref (a 0))]) hx hb dX0_gatherDust_35 hl rfl (by decide) rfl (fun ls hl => ?_)
          refine r_goto hx hb 2 dX0_gatherDust_38 (by decide) ?_
          exact ih2 (i + 1) st (by omega) (by omega) (gatN_0 es c_13) _ _ hP hD hS _ (lv_sub hl [1, 0] rfl)
        · skip
          refine lv_aload_n hx hb dX0_gatherDust_16 rfl (lv_at hl 0 rfl) ?_
          refine va_get (D := D) (ci := 0) (v := .ref (a 5)) (C := RX0) (T := TX0) (N := 9) hx hb hts in_X0 hown hK hP 0 rfl rfl 4 (by decide) lk25 (fun _ h9 => h9) rfl dX0_gatherDust_17 ?_
          refine lv_iload_n hx hb dX0_gatherDust_20 rfl (lv_at hl 1 rfl) ?_
          refine lv_bipush (v := iv 9) hx hb dX0_gatherDust_21 (by decide) ?_
          refine lv_aload_n hx hb dX0_gatherDust_23 rfl (lv_at hl 0 rfl) ?_
          refine va_get (D := D) (ci := 0) (v := .ref (a 5)) (C := RX0) (T := TX0) (N := 9) hx hb hts in_X0 hown hK hP 0 rfl rfl 4 (by decide) lk25 (fun _ h9 => h9) rfl dX0_gatherDust_24 ?_
          refine lv_iload_n hx hb dX0_gatherDust_27 rfl (lv_at hl 1 rfl) ?_
          refine r_iald (F := dU st) hx hb hK hP 5 0 rfl rfl i (by omega) (by omega) (by decide) dX0_gatherDust_28 ?_
          have b_28 := okD_U oks i (by omega)
          refine r_const hx hb dX0_gatherDust_29 ?_
          refine r_add hx hb dX0_gatherDust_30 ?_
          refine r_min hx hb (hml.trans hl.1.symm) hown (hts (.methodLink RX0 58 Lib.Math.min.name) (by decide +kernel)) (hts (.static Lib.Math.min.name) (by decide +kernel)) (hts (.initialized "java/lang/Math") (by decide +kernel)) (hts (.code Lib.Math.min.name Lib.Math.min.code 2 (some .int)) (by decide +kernel)) (Nat.le_of_ble_eq_true rfl) (Nat.le_of_ble_eq_true rfl) (Nat.le_of_ble_eq_true rfl) (Nat.le_of_ble_eq_true rfl) (by omega) (by omega) dX0_gatherDust_31 ?_
          refine r_iast (F := dU st) hx hb hK hP hD hS 5 0 rfl rfl i (by omega) (by omega) (by decide) dX0_gatherDust_34 (fun H locs hP hD hS => ?_)
          have hP : va_P D vwCl ([(a 0, .inr (0, [.ref (a 1), .ref (a 2), .ref (a 3), .ref (a 4), .ref (a 5), .int (iv (dg st)), .int (iv (dv st)), .int (iv (dn st)), .int (iv (dt st))])), (a 1, .inl (G 0, 6, .inl (fun j => iv (dA st j)))), (a 2, .inl (G 0, 6, .inl (fun j => iv (dW st j)))), (a 3, .inl (G 0, 6, .inl (fun j => iv (dQ st j)))), (a 4, .inl (G 1, 2, .inl (fun j => iv (dO st j)))), (a 5, .inl (G 0, 2, .inl (fun j => iv (updI (dU st) i (min 9 ((dU st i) + 1)) j))))]) H := hP
          have hD : va_D A ([(a 0, .inr (0, [.ref (a 1), .ref (a 2), .ref (a 3), .ref (a 4), .ref (a 5), .int (iv (dg st)), .int (iv (dv st)), .int (iv (dn st)), .int (iv (dt st))])), (a 1, .inl (G 0, 6, .inl (fun j => iv (dA st j)))), (a 2, .inl (G 0, 6, .inl (fun j => iv (dW st j)))), (a 3, .inl (G 0, 6, .inl (fun j => iv (dQ st j)))), (a 4, .inl (G 1, 2, .inl (fun j => iv (dO st j)))), (a 5, .inl (G 0, 2, .inl (fun j => iv (updI (dU st) i (min 9 ((dU st i) + 1)) j))))]) := hD
          refine r_iinc (k := 1) (lv' := [(1, .int (iv ((i : Int) + 1))), (0, .ref (a 0))]) hx hb dX0_gatherDust_35 hl rfl (by decide) rfl (fun ls hl => ?_)
          refine r_goto hx hb 2 dX0_gatherDust_38 (by decide) ?_
          exact ih2 (i + 1) (dsetU st i (min 9 (dU st i + 1))) (by omega) (by omega) (gatN_1 es c_13) _ _ hP hD hS _ (lv_sub hl [1, 0] rfl)
  exact K2 3 0 ds (by omega) (by omega) rfl _ _ hP hD hS _ (lv_sub hl [1, 0] rfl)
set_option maxHeartbeats 4000000 in
set_option maxRecDepth 100000 in
theorem c_X0_canTurnTo (l : Launch) (D : va_G) (G : Nat → ClassId) (a : Nat → Nat) (ds : DS) (hok : okD ds) (b : Nat → Nat) (P : Nat → Int) (hP0 : okP P) : MtG l yX0_canTurnTo wsX0_canTurnTo 0 0 0 0 D (TY G) [.ref (a 0), .ref (b 0)] (wDoll G a ds ++ wPose G b P) (qI D (fun r u => r = iv (b2i (canT P ds)) ∧ u = wDoll G a ds ++ wPose G b P)) := by
  refine MtG.mk (cc := cX0_canTurnTo) (maxL := 3) (ret := some .boolean) (by decide) rfl (Nat.le_of_ble_eq_true rfl) ?_
  intro p e s m below meth c A ls hx hb hr hlk hml hown hin hts hK hA hP hD hS hl
  replace hown : s.vm.findClass RX0 = some m.cls := hown
  have hl : lv_has ls 3 [(0, .ref (a 0)), (1, .ref (b 0))] := hl
  skip
  have hP : va_P D vwCl ([(a 0, .inr (0, [.ref (a 1), .ref (a 2), .ref (a 3), .ref (a 4), .ref (a 5), .int (iv (dg ds)), .int (iv (dv ds)), .int (iv (dn ds)), .int (iv (dt ds))])), (a 1, .inl (G 0, 6, .inl (fun j => iv (dA ds j)))), (a 2, .inl (G 0, 6, .inl (fun j => iv (dW ds j)))), (a 3, .inl (G 0, 6, .inl (fun j => iv (dQ ds j)))), (a 4, .inl (G 1, 2, .inl (fun j => iv (dO ds j)))), (a 5, .inl (G 0, 2, .inl (fun j => iv (dU ds j)))), (b 0, .inr (1, [.ref (b 1)])), (b 1, .inl (G 0, 6, .inl (fun j => iv (P j))))]) s.heap := hP
  have hD : va_D A ([(a 0, .inr (0, [.ref (a 1), .ref (a 2), .ref (a 3), .ref (a 4), .ref (a 5), .int (iv (dg ds)), .int (iv (dv ds)), .int (iv (dn ds)), .int (iv (dt ds))])), (a 1, .inl (G 0, 6, .inl (fun j => iv (dA ds j)))), (a 2, .inl (G 0, 6, .inl (fun j => iv (dW ds j)))), (a 3, .inl (G 0, 6, .inl (fun j => iv (dQ ds j)))), (a 4, .inl (G 1, 2, .inl (fun j => iv (dO ds j)))), (a 5, .inl (G 0, 2, .inl (fun j => iv (dU ds j)))), (b 0, .inr (1, [.ref (b 1)])), (b 1, .inl (G 0, 6, .inl (fun j => iv (P j))))]) := hD
  have lk15 := hts (.fieldLink RX0 15 "DollCitadel$Doll" "wears" "[I") (by decide +kernel)
  have in_X0 : ∀ w ∈ u_ws RX0 TX0 9, w ∈ wsX0_canTurnTo := by decide +kernel
  have lk9 := hts (.fieldLink RX0 9 "DollCitadel$Doll" "angles" "[I") (by decide +kernel)
  have lk41 := hts (.fieldLink RX0 41 "DollCitadel$Pose" "angles" "[I") (by decide +kernel)
  have in_X1 : ∀ w ∈ u_ws RX1 TX1 1, w ∈ wsX0_canTurnTo := by decide +kernel
  refine r_const hx hb dX0_canTurnTo_0 ?_
  refine lv_istore_n (lv' := [(2, .int (iv 0)), (0, .ref (a 0)), (1, .ref (b 0))]) hx hb dX0_canTurnTo_1 rfl hl (by decide) rfl (fun ls hl => ?_)
  have K2 : ∀ (n i : Nat), i ≤ 6 → 6 < i + n → (∀ j, j < i → dW ds j < 100 ∨ dA ds j = P j) → ∀ (H : Heap) (locs : List Loc), va_P D vwCl ([(a 0, .inr (0, [.ref (a 1), .ref (a 2), .ref (a 3), .ref (a 4), .ref (a 5), .int (iv (dg ds)), .int (iv (dv ds)), .int (iv (dn ds)), .int (iv (dt ds))])), (a 1, .inl (G 0, 6, .inl (fun j => iv (dA ds j)))), (a 2, .inl (G 0, 6, .inl (fun j => iv (dW ds j)))), (a 3, .inl (G 0, 6, .inl (fun j => iv (dQ ds j)))), (a 4, .inl (G 1, 2, .inl (fun j => iv (dO ds j)))), (a 5, .inl (G 0, 2, .inl (fun j => iv (dU ds j)))), (b 0, .inr (1, [.ref (b 1)])), (b 1, .inl (G 0, 6, .inl (fun j => iv (P j))))]) H → va_D A ([(a 0, .inr (0, [.ref (a 1), .ref (a 2), .ref (a 3), .ref (a 4), .ref (a 5), .int (iv (dg ds)), .int (iv (dv ds)), .int (iv (dn ds)), .int (iv (dt ds))])), (a 1, .inl (G 0, 6, .inl (fun j => iv (dA ds j)))), (a 2, .inl (G 0, 6, .inl (fun j => iv (dW ds j)))), (a 3, .inl (G 0, 6, .inl (fun j => iv (dQ ds j)))), (a 4, .inl (G 1, 2, .inl (fun j => iv (dO ds j)))), (a 5, .inl (G 0, 2, .inl (fun j => iv (dU ds j)))), (b 0, .inr (1, [.ref (b 1)])), (b 1, .inl (G 0, 6, .inl (fun j => iv (P j))))]) → va_S A s.heap H locs → ∀ (ls : Array Slot), lv_has ls 3 [(0, .ref (a 0)), (1, .ref (b 0)), (2, .int (iv (i : Int)))] → W p l e (rmOf 0 0 0 0) s m ([.ref (a 0), .ref (b 0)] : List Value).toArray below meth c H locs 0 0 (MQ below (qI D (fun r u => r = iv (b2i (canT P ds)) ∧ u = wDoll G a ds ++ wPose G b P) A) ([.ref (a 0), .ref (b 0)] : List Value).toArray s 0 0 A) (F0 m 2 ls []) := by
    intro n
    induction n with
    | zero => intro i h1 h2; exact absurd h2 (by omega)
    | succ n ih2 =>
      intro i hi_2 hn_2 hc H locs hP hD hS ls hl
      refine lv_iload_n hx hb dX0_canTurnTo_2 rfl (lv_at hl 2 rfl) ?_
      refine lv_bipush (v := iv 6) hx hb dX0_canTurnTo_3 (by decide) ?_
      refine r_icmp_ge hx hb 42 dX0_canTurnTo_5 (by decide) (by omega) (by omega) (fun c_5 => ?_) (fun c_5 => ?_)
      · skip
        refine r_const hx hb dX0_canTurnTo_42 ?_
        exact e_b01 hx hb hr (by omega) hlk dX0_canTurnTo_43 hS hP hD (by decide) (by decide) (⟨by rw [← canT_yes (fun j hj => hc j (by omega))]; rfl, rfl⟩)
      · skip
        refine lv_aload_n hx hb dX0_canTurnTo_8 rfl (lv_at hl 0 rfl) ?_
        refine va_get (D := D) (ci := 0) (v := .ref (a 2)) (C := RX0) (T := TX0) (N := 9) hx hb hts in_X0 hown hK hP 0 rfl rfl 1 (by decide) lk15 (fun _ h9 => h9) rfl dX0_canTurnTo_9 ?_
        refine lv_iload_n hx hb dX0_canTurnTo_12 rfl (lv_at hl 2 rfl) ?_
        refine r_iald (F := dW ds) hx hb hK hP 2 0 rfl rfl i (by omega) (by omega) (by decide) dX0_canTurnTo_13 ?_
        have b_13 := okD_W hok i (by omega)
        refine lv_bipush (v := iv 100) hx hb dX0_canTurnTo_14 (by decide) ?_
        refine r_icmp_lt hx hb 36 dX0_canTurnTo_16 (by decide) (by omega) (by omega) (fun c_16 => ?_) (fun c_16 => ?_)
        · skip
          refine r_iinc (k := 2) (lv' := [(2, .int (iv ((i : Int) + 1))), (0, .ref (a 0)), (1, .ref (b 0))]) hx hb dX0_canTurnTo_36 hl rfl (by decide) rfl (fun ls hl => ?_)
          refine r_goto hx hb 2 dX0_canTurnTo_39 (by decide) ?_
          exact ih2 (i + 1) (by omega) (by omega) (lt_s hc (by omega)) _ _ hP hD hS _ (lv_sub hl [1, 2, 0] rfl)
        · skip
          refine lv_aload_n hx hb dX0_canTurnTo_19 rfl (lv_at hl 0 rfl) ?_
          refine va_get (D := D) (ci := 0) (v := .ref (a 1)) (C := RX0) (T := TX0) (N := 9) hx hb hts in_X0 hown hK hP 0 rfl rfl 0 (by decide) lk9 (fun _ h9 => h9) rfl dX0_canTurnTo_20 ?_
          refine lv_iload_n hx hb dX0_canTurnTo_23 rfl (lv_at hl 2 rfl) ?_
          refine r_iald (F := dA ds) hx hb hK hP 1 0 rfl rfl i (by omega) (by omega) (by decide) dX0_canTurnTo_24 ?_
          have b_24 := okD_A hok i (by omega)
          refine lv_aload_n hx hb dX0_canTurnTo_25 rfl (lv_at hl 1 rfl) ?_
          refine va_get (D := D) (ci := 1) (v := .ref (b 1)) (C := RX1) (T := TX1) (N := 1) hx hb hts in_X1 hown hK hP 6 rfl rfl 0 (by decide) lk41 (fun _ h9 => h9) rfl dX0_canTurnTo_26 ?_
          refine lv_iload_n hx hb dX0_canTurnTo_29 rfl (lv_at hl 2 rfl) ?_
          refine r_iald (F := P) hx hb hK hP 7 0 rfl rfl i (by omega) (by omega) (by decide) dX0_canTurnTo_30 ?_
          have b_30 := hP0 i (by omega)
          refine r_icmp_eq hx hb 36 dX0_canTurnTo_31 (by decide) (by omega) (by omega) (fun c_31 => ?_) (fun c_31 => ?_)
          · skip
            refine r_iinc (k := 2) (lv' := [(2, .int (iv ((i : Int) + 1))), (0, .ref (a 0)), (1, .ref (b 0))]) hx hb dX0_canTurnTo_36 hl rfl (by decide) rfl (fun ls hl => ?_)
            refine r_goto hx hb 2 dX0_canTurnTo_39 (by decide) ?_
            exact ih2 (i + 1) (by omega) (by omega) (lt_s hc (by omega)) _ _ hP hD hS _ (lv_sub hl [1, 2, 0] rfl)
          · skip
            refine r_const hx hb dX0_canTurnTo_34 ?_
            exact e_b01 hx hb hr (by omega) hlk dX0_canTurnTo_35 hS hP hD (by decide) (by decide) (⟨by rw [← canT_no (j := i) (by omega) c_16 c_31]; rfl, rfl⟩)
  exact K2 7 0 (by omega) (by omega) lt_0 _ _ hP hD hS _ (lv_sub hl [1, 2, 0] rfl)
set_option maxHeartbeats 4000000 in
set_option maxRecDepth 100000 in
theorem c_X0_wearOfAllJoints (l : Launch) (D : va_G) (G : Nat → ClassId) (a : Nat → Nat) (ds : DS) (hok : okD ds)  : MtG l yX0_wearOfAllJoints wsX0_wearOfAllJoints 0 0 0 0 D (TY G) [.ref (a 0)] (wDoll G a ds) (qI D (fun r u => r = iv (sm (dW ds) 6) ∧ u = wDoll G a ds)) := by
  refine MtG.mk (cc := cX0_wearOfAllJoints) (maxL := 6) (ret := some .int) (by decide) rfl (Nat.le_of_ble_eq_true rfl) ?_
  intro p e s m below meth c A ls hx hb hr hlk hml hown hin hts hK hA hP hD hS hl
  replace hown : s.vm.findClass RX0 = some m.cls := hown
  have hl : lv_has ls 6 [(0, .ref (a 0))] := hl
  skip
  have hP : va_P D vwCl ([(a 0, .inr (0, [.ref (a 1), .ref (a 2), .ref (a 3), .ref (a 4), .ref (a 5), .int (iv (dg ds)), .int (iv (dv ds)), .int (iv (dn ds)), .int (iv (dt ds))])), (a 1, .inl (G 0, 6, .inl (fun j => iv (dA ds j)))), (a 2, .inl (G 0, 6, .inl (fun j => iv (dW ds j)))), (a 3, .inl (G 0, 6, .inl (fun j => iv (dQ ds j)))), (a 4, .inl (G 1, 2, .inl (fun j => iv (dO ds j)))), (a 5, .inl (G 0, 2, .inl (fun j => iv (dU ds j))))]) s.heap := hP
  have hD : va_D A ([(a 0, .inr (0, [.ref (a 1), .ref (a 2), .ref (a 3), .ref (a 4), .ref (a 5), .int (iv (dg ds)), .int (iv (dv ds)), .int (iv (dn ds)), .int (iv (dt ds))])), (a 1, .inl (G 0, 6, .inl (fun j => iv (dA ds j)))), (a 2, .inl (G 0, 6, .inl (fun j => iv (dW ds j)))), (a 3, .inl (G 0, 6, .inl (fun j => iv (dQ ds j)))), (a 4, .inl (G 1, 2, .inl (fun j => iv (dO ds j)))), (a 5, .inl (G 0, 2, .inl (fun j => iv (dU ds j))))]) := hD
  have lk15 := hts (.fieldLink RX0 15 "DollCitadel$Doll" "wears" "[I") (by decide +kernel)
  have in_X0 : ∀ w ∈ u_ws RX0 TX0 9, w ∈ wsX0_wearOfAllJoints := by decide +kernel
  refine r_const hx hb dX0_wearOfAllJoints_0 ?_
  refine lv_istore_n (lv' := [(1, .int (iv 0)), (0, .ref (a 0))]) hx hb dX0_wearOfAllJoints_1 rfl hl (by decide) rfl (fun ls hl => ?_)
  refine lv_aload_n hx hb dX0_wearOfAllJoints_2 rfl (lv_at hl 1 rfl) ?_
  refine va_get (D := D) (ci := 0) (v := .ref (a 2)) (C := RX0) (T := TX0) (N := 9) hx hb hts in_X0 hown hK hP 0 rfl rfl 1 (by decide) lk15 (fun _ h9 => h9) rfl dX0_wearOfAllJoints_3 ?_
  refine lv_astore_n (lv' := [(2, .ref (a 2)), (1, .int (iv 0)), (0, .ref (a 0))]) hx hb dX0_wearOfAllJoints_6 rfl hl (by decide) rfl (fun ls hl => ?_)
  refine lv_aload_n hx hb dX0_wearOfAllJoints_7 rfl (lv_at hl 0 rfl) ?_
  refine va_alen (v := iv 6) hx hb hK hP 2 0 rfl (ty := _) rfl rfl dX0_wearOfAllJoints_8 ?_
  refine lv_istore_n (lv' := [(3, .int (iv 6)), (2, .ref (a 2)), (1, .int (iv 0)), (0, .ref (a 0))]) hx hb dX0_wearOfAllJoints_9 rfl hl (by decide) rfl (fun ls hl => ?_)
  refine r_const hx hb dX0_wearOfAllJoints_10 ?_
  refine lv_istore (lv' := [(4, .int (iv 0)), (3, .int (iv 6)), (2, .ref (a 2)), (1, .int (iv 0)), (0, .ref (a 0))]) hx hb dX0_wearOfAllJoints_11 hl (by decide) rfl (fun ls hl => ?_)
  have K13 : ∀ (n i : Nat) (x : Int), i ≤ 6 → 6 < i + n → x = sm (dW ds) i → ∀ (H : Heap) (locs : List Loc), va_P D vwCl ([(a 0, .inr (0, [.ref (a 1), .ref (a 2), .ref (a 3), .ref (a 4), .ref (a 5), .int (iv (dg ds)), .int (iv (dv ds)), .int (iv (dn ds)), .int (iv (dt ds))])), (a 1, .inl (G 0, 6, .inl (fun j => iv (dA ds j)))), (a 2, .inl (G 0, 6, .inl (fun j => iv (dW ds j)))), (a 3, .inl (G 0, 6, .inl (fun j => iv (dQ ds j)))), (a 4, .inl (G 1, 2, .inl (fun j => iv (dO ds j)))), (a 5, .inl (G 0, 2, .inl (fun j => iv (dU ds j))))]) H → va_D A ([(a 0, .inr (0, [.ref (a 1), .ref (a 2), .ref (a 3), .ref (a 4), .ref (a 5), .int (iv (dg ds)), .int (iv (dv ds)), .int (iv (dn ds)), .int (iv (dt ds))])), (a 1, .inl (G 0, 6, .inl (fun j => iv (dA ds j)))), (a 2, .inl (G 0, 6, .inl (fun j => iv (dW ds j)))), (a 3, .inl (G 0, 6, .inl (fun j => iv (dQ ds j)))), (a 4, .inl (G 1, 2, .inl (fun j => iv (dO ds j)))), (a 5, .inl (G 0, 2, .inl (fun j => iv (dU ds j))))]) → va_S A s.heap H locs → ∀ (ls : Array Slot), lv_has ls 6 [(0, .ref (a 0)), (1, .int (iv x)), (2, .ref (a 2)), (3, .int (iv 6)), (4, .int (iv (i : Int)))] → W p l e (rmOf 0 0 0 0) s m ([.ref (a 0)] : List Value).toArray below meth c H locs 0 0 (MQ below (qI D (fun r u => r = iv (sm (dW ds) 6) ∧ u = wDoll G a ds) A) ([.ref (a 0)] : List Value).toArray s 0 0 A) (F0 m 13 ls []) := by
    intro n
    induction n with
    | zero => intro i x h1 h2; exact absurd h2 (by omega)
    | succ n ih13 =>
      intro i x hi_13 hn_13 ex H locs hP hD hS ls hl
      refine lv_iload hx hb dX0_wearOfAllJoints_13 (lv_at hl 4 rfl) ?_
      refine lv_iload_n hx hb dX0_wearOfAllJoints_15 rfl (lv_at hl 3 rfl) ?_
      refine r_icmp_ge hx hb 36 dX0_wearOfAllJoints_16 (by decide) (by omega) (by omega) (fun c_16 => ?_) (fun c_16 => ?_)
      · skip
        refine lv_iload_n hx hb dX0_wearOfAllJoints_36 rfl (lv_at hl 1 rfl) ?_
        exact e_int hx hb hr hlk dX0_wearOfAllJoints_37 hS hP hD (by decide) (by decide) (⟨by rw [ex, show i = 6 by omega], rfl⟩)
      · skip
        refine lv_aload_n hx hb dX0_wearOfAllJoints_19 rfl (lv_at hl 2 rfl) ?_
        refine lv_iload hx hb dX0_wearOfAllJoints_20 (lv_at hl 4 rfl) ?_
        refine r_iald (F := dW ds) hx hb hK hP 2 0 rfl rfl i (by omega) (by omega) (by decide) dX0_wearOfAllJoints_22 ?_
        have b_22 := okD_W hok i (by omega)
        refine lv_istore (lv' := [(5, .int (iv (dW ds i))), (0, .ref (a 0)), (1, .int (iv x)), (2, .ref (a 2)), (3, .int (iv 6)), (4, .int (iv (i : Int)))]) hx hb dX0_wearOfAllJoints_23 hl (by decide) rfl (fun ls hl => ?_)
        refine lv_iload_n hx hb dX0_wearOfAllJoints_25 rfl (lv_at hl 2 rfl) ?_
        refine lv_iload hx hb dX0_wearOfAllJoints_26 (lv_at hl 0 rfl) ?_
        refine r_add hx hb dX0_wearOfAllJoints_28 ?_
        refine lv_istore_n (lv' := [(1, .int (iv (x + (dW ds i)))), (5, .int (iv (dW ds i))), (0, .ref (a 0)), (2, .ref (a 2)), (3, .int (iv 6)), (4, .int (iv (i : Int)))]) hx hb dX0_wearOfAllJoints_29 rfl hl (by decide) rfl (fun ls hl => ?_)
        refine r_iinc (k := 5) (lv' := [(4, .int (iv ((i : Int) + 1))), (1, .int (iv (x + (dW ds i)))), (5, .int (iv (dW ds i))), (0, .ref (a 0)), (2, .ref (a 2)), (3, .int (iv 6))]) hx hb dX0_wearOfAllJoints_30 hl rfl (by decide) rfl (fun ls hl => ?_)
        refine r_goto hx hb 13 dX0_wearOfAllJoints_33 (by decide) ?_
        exact ih13 (i + 1) (x + dW ds i) (by omega) (by omega) (sm_s ex rfl) _ _ hP hD hS _ (lv_sub hl [3, 1, 4, 5, 0] rfl)
  exact K13 7 0 0 (by omega) (by omega) rfl _ _ hP hD hS _ (lv_sub hl [4, 3, 2, 1, 0] rfl)
set_option maxHeartbeats 4000000 in
set_option maxRecDepth 100000 in
theorem c_X0_eatWig (l : Launch) (D : va_G) (G : Nat → ClassId) (a : Nat → Nat) (ds : DS) (hok : okD ds) (mo : Int) (hmo : 0 ≤ mo ∧ mo ≤ 3) : MtG l yX0_eatWig wsX0_eatWig 0 0 0 0 D (TY G) [.ref (a 0), .int (iv mo)] (wDoll G a ds) (qV D (fun u => u = wDoll G a (eatW mo ds))) := by
  refine MtG.mk (cc := cX0_eatWig) (maxL := 2) (ret := none) (by decide) rfl (Nat.le_of_ble_eq_true rfl) ?_
  intro p e s m below meth c A ls hx hb hr hlk hml hown hin hts hK hA hP hD hS hl
  replace hown : s.vm.findClass RX0 = some m.cls := hown
  have hl : lv_has ls 2 [(0, .ref (a 0)), (1, .int (iv mo))] := hl
  skip
  have hP : va_P D vwCl ([(a 0, .inr (0, [.ref (a 1), .ref (a 2), .ref (a 3), .ref (a 4), .ref (a 5), .int (iv (dg ds)), .int (iv (dv ds)), .int (iv (dn ds)), .int (iv (dt ds))])), (a 1, .inl (G 0, 6, .inl (fun j => iv (dA ds j)))), (a 2, .inl (G 0, 6, .inl (fun j => iv (dW ds j)))), (a 3, .inl (G 0, 6, .inl (fun j => iv (dQ ds j)))), (a 4, .inl (G 1, 2, .inl (fun j => iv (dO ds j)))), (a 5, .inl (G 0, 2, .inl (fun j => iv (dU ds j))))]) s.heap := hP
  have hD : va_D A ([(a 0, .inr (0, [.ref (a 1), .ref (a 2), .ref (a 3), .ref (a 4), .ref (a 5), .int (iv (dg ds)), .int (iv (dv ds)), .int (iv (dn ds)), .int (iv (dt ds))])), (a 1, .inl (G 0, 6, .inl (fun j => iv (dA ds j)))), (a 2, .inl (G 0, 6, .inl (fun j => iv (dW ds j)))), (a 3, .inl (G 0, 6, .inl (fun j => iv (dQ ds j)))), (a 4, .inl (G 1, 2, .inl (fun j => iv (dO ds j)))), (a 5, .inl (G 0, 2, .inl (fun j => iv (dU ds j))))]) := hD
  have lk28 := hts (.fieldLink RX0 28 "DollCitadel$Doll" "wigEaten" "I") (by decide +kernel)
  have in_X0 : ∀ w ∈ u_ws RX0 TX0 9, w ∈ wsX0_eatWig := by decide +kernel
  obtain ⟨-, -, og, ov, on, ovn, ovn2⟩ := id hok
  refine lv_aload_n hx hb dX0_eatWig_0 rfl (lv_at hl 0 rfl) ?_
  refine va_get (D := D) (ci := 0) (v := .int (iv (dg ds))) (C := RX0) (T := TX0) (N := 9) hx hb hts in_X0 hown hK hP 0 rfl rfl 5 (by decide) lk28 (fun _ h9 => h9) rfl dX0_eatWig_1 ?_
  refine r_const hx hb dX0_eatWig_4 ?_
  refine r_icmp_ne hx hb 9 dX0_eatWig_5 (by decide) (by omega) (by omega) (fun c_5 => ?_) (fun c_5 => ?_)
  · skip
    refine lv_aload_n hx hb dX0_eatWig_9 rfl (lv_at hl 0 rfl) ?_
    refine lv_dup hx hb dX0_eatWig_10 rfl ?_
    refine va_get (D := D) (ci := 0) (v := .int (iv (dg ds))) (C := RX0) (T := TX0) (N := 9) hx hb hts in_X0 hown hK hP 0 rfl rfl 5 (by decide) lk28 (fun _ h9 => h9) rfl dX0_eatWig_11 ?_
    refine lv_iload_n hx hb dX0_eatWig_14 rfl (lv_at hl 1 rfl) ?_
    refine r_add hx hb dX0_eatWig_15 ?_
    refine va_put (D := D) (ci := 0) (v := .int (iv ((dg ds) + mo))) (ty := .int) (C := RX0) (T := TX0) (N := 9) hx hb hts in_X0 tyX0 tyX0_ok nmX0 hown hK hP hD hS 0 rfl rfl 5 (by decide) lk28 (fun _ h9 => h9) rfl (by decide +kernel) rfl rfl (Nat.le_of_ble_eq_true rfl) dX0_eatWig_16 (fun H locs hP hD hS => ?_)
    have hP : va_P D vwCl ([(a 0, .inr (0, [.ref (a 1), .ref (a 2), .ref (a 3), .ref (a 4), .ref (a 5), .int (iv ((dg ds) + mo)), .int (iv (dv ds)), .int (iv (dn ds)), .int (iv (dt ds))])), (a 1, .inl (G 0, 6, .inl (fun j => iv (dA ds j)))), (a 2, .inl (G 0, 6, .inl (fun j => iv (dW ds j)))), (a 3, .inl (G 0, 6, .inl (fun j => iv (dQ ds j)))), (a 4, .inl (G 1, 2, .inl (fun j => iv (dO ds j)))), (a 5, .inl (G 0, 2, .inl (fun j => iv (dU ds j))))]) H := hP
    have hD : va_D A ([(a 0, .inr (0, [.ref (a 1), .ref (a 2), .ref (a 3), .ref (a 4), .ref (a 5), .int (iv ((dg ds) + mo)), .int (iv (dv ds)), .int (iv (dn ds)), .int (iv (dt ds))])), (a 1, .inl (G 0, 6, .inl (fun j => iv (dA ds j)))), (a 2, .inl (G 0, 6, .inl (fun j => iv (dW ds j)))), (a 3, .inl (G 0, 6, .inl (fun j => iv (dQ ds j)))), (a 4, .inl (G 1, 2, .inl (fun j => iv (dO ds j)))), (a 5, .inl (G 0, 2, .inl (fun j => iv (dU ds j))))]) := hD
    refine lv_aload_n hx hb dX0_eatWig_19 rfl (lv_at hl 0 rfl) ?_
    refine va_get (D := D) (ci := 0) (v := .int (iv ((dg ds) + mo))) (C := RX0) (T := TX0) (N := 9) hx hb hts in_X0 hown hK hP 0 rfl rfl 5 (by decide) lk28 (fun _ h9 => h9) rfl dX0_eatWig_20 ?_
    refine lv_bipush (v := iv 10) hx hb dX0_eatWig_23 (by decide) ?_
    refine r_icmp_lt hx hb 33 dX0_eatWig_25 (by decide) (by omega) (by omega) (fun c_25 => ?_) (fun c_25 => ?_)
    · skip
      exact e_void hx hb hr hlk dX0_eatWig_33 hS hP hD (by decide) (by decide) (by unfold eatW; rw [if_neg c_5, if_neg (by omega)]; rfl)
    · skip
      refine lv_aload_n hx hb dX0_eatWig_28 rfl (lv_at hl 0 rfl) ?_
      refine r_const hx hb dX0_eatWig_29 ?_
      refine va_put (D := D) (ci := 0) (v := .int (iv (-1))) (ty := .int) (C := RX0) (T := TX0) (N := 9) hx hb hts in_X0 tyX0 tyX0_ok nmX0 hown hK hP hD hS 0 rfl rfl 5 (by decide) lk28 (fun _ h9 => h9) rfl (by decide +kernel) rfl rfl (Nat.le_of_ble_eq_true rfl) dX0_eatWig_30 (fun H locs hP hD hS => ?_)
      have hP : va_P D vwCl ([(a 0, .inr (0, [.ref (a 1), .ref (a 2), .ref (a 3), .ref (a 4), .ref (a 5), .int (iv (-1)), .int (iv (dv ds)), .int (iv (dn ds)), .int (iv (dt ds))])), (a 1, .inl (G 0, 6, .inl (fun j => iv (dA ds j)))), (a 2, .inl (G 0, 6, .inl (fun j => iv (dW ds j)))), (a 3, .inl (G 0, 6, .inl (fun j => iv (dQ ds j)))), (a 4, .inl (G 1, 2, .inl (fun j => iv (dO ds j)))), (a 5, .inl (G 0, 2, .inl (fun j => iv (dU ds j))))]) H := hP
      have hD : va_D A ([(a 0, .inr (0, [.ref (a 1), .ref (a 2), .ref (a 3), .ref (a 4), .ref (a 5), .int (iv (-1)), .int (iv (dv ds)), .int (iv (dn ds)), .int (iv (dt ds))])), (a 1, .inl (G 0, 6, .inl (fun j => iv (dA ds j)))), (a 2, .inl (G 0, 6, .inl (fun j => iv (dW ds j)))), (a 3, .inl (G 0, 6, .inl (fun j => iv (dQ ds j)))), (a 4, .inl (G 1, 2, .inl (fun j => iv (dO ds j)))), (a 5, .inl (G 0, 2, .inl (fun j => iv (dU ds j))))]) := hD
      exact e_void hx hb hr hlk dX0_eatWig_33 hS hP hD (by decide) (by decide) (by unfold eatW; rw [if_neg c_5, if_pos (by omega)]; rfl)
  · skip
    exact e_void hx hb hr hlk dX0_eatWig_8 hS hP hD (by decide) (by decide) (by unfold eatW; rw [if_pos c_5]; rfl)
set_option maxHeartbeats 4000000 in
set_option maxRecDepth 100000 in
theorem c_X0_loosenDress (l : Launch) (D : va_G) (G : Nat → ClassId) (a : Nat → Nat) (ds : DS) (hok : okD ds)  : MtG l yX0_loosenDress wsX0_loosenDress 1 40 0 0 D (TY G) [.ref (a 0)] (wDoll G a ds) (qV D (fun u => u = wDoll G a (loosen ds))) := by
  refine MtG.mk (cc := cX0_loosenDress) (maxL := 1) (ret := none) (by decide) rfl (Nat.le_of_ble_eq_true rfl) ?_
  intro p e s m below meth c A ls hx hb hr hlk hml hown hin hts hK hA hP hD hS hl
  replace hown : s.vm.findClass RX0 = some m.cls := hown
  have hl : lv_has ls 1 [(0, .ref (a 0))] := hl
  skip
  have hP : va_P D vwCl ([(a 0, .inr (0, [.ref (a 1), .ref (a 2), .ref (a 3), .ref (a 4), .ref (a 5), .int (iv (dg ds)), .int (iv (dv ds)), .int (iv (dn ds)), .int (iv (dt ds))])), (a 1, .inl (G 0, 6, .inl (fun j => iv (dA ds j)))), (a 2, .inl (G 0, 6, .inl (fun j => iv (dW ds j)))), (a 3, .inl (G 0, 6, .inl (fun j => iv (dQ ds j)))), (a 4, .inl (G 1, 2, .inl (fun j => iv (dO ds j)))), (a 5, .inl (G 0, 2, .inl (fun j => iv (dU ds j))))]) s.heap := hP
  have hD : va_D A ([(a 0, .inr (0, [.ref (a 1), .ref (a 2), .ref (a 3), .ref (a 4), .ref (a 5), .int (iv (dg ds)), .int (iv (dv ds)), .int (iv (dn ds)), .int (iv (dt ds))])), (a 1, .inl (G 0, 6, .inl (fun j => iv (dA ds j)))), (a 2, .inl (G 0, 6, .inl (fun j => iv (dW ds j)))), (a 3, .inl (G 0, 6, .inl (fun j => iv (dQ ds j)))), (a 4, .inl (G 1, 2, .inl (fun j => iv (dO ds j)))), (a 5, .inl (G 0, 2, .inl (fun j => iv (dU ds j))))]) := hD
  have lk32 := hts (.fieldLink RX0 32 "DollCitadel$Doll" "weight" "I") (by decide +kernel)
  have in_X0 : ∀ w ∈ u_ws RX0 TX0 9, w ∈ wsX0_loosenDress := by decide +kernel
  have lk15 := hts (.fieldLink RX0 15 "DollCitadel$Doll" "wears" "[I") (by decide +kernel)
  have lk35 := hts (.fieldLink RX0 35 "DollCitadel$Doll" "pins" "I") (by decide +kernel)
  obtain ⟨-, -, og, ov, on, ovn, ovn2⟩ := id hok
  refine lv_aload_n hx hb dX0_loosenDress_0 rfl (lv_at hl 0 rfl) ?_
  refine va_get (D := D) (ci := 0) (v := .int (iv (dv ds))) (C := RX0) (T := TX0) (N := 9) hx hb hts in_X0 hown hK hP 0 rfl rfl 6 (by decide) lk32 (fun _ h9 => h9) rfl dX0_loosenDress_1 ?_
  refine r_if_eq hx hb 18 dX0_loosenDress_4 (by decide) (by omega) (fun c_4 => ?_) (fun c_4 => ?_)
  · skip
    exact e_void hx hb hr hlk dX0_loosenDress_18 hS hP hD (by decide) (by decide) (by unfold loosen; rw [if_pos (by omega)]; rfl)
  · skip
    refine lv_aload_n hx hb dX0_loosenDress_7 rfl (lv_at hl 0 rfl) ?_
    refine va_get (D := D) (ci := 0) (v := .ref (a 2)) (C := RX0) (T := TX0) (N := 9) hx hb hts in_X0 hown hK hP 0 rfl rfl 1 (by decide) lk15 (fun _ h9 => h9) rfl dX0_loosenDress_8 ?_
    refine r_const hx hb dX0_loosenDress_11 ?_
    refine r_iald (F := dW ds) hx hb hK hP 2 0 rfl rfl 5 (by omega) (by omega) (by decide) dX0_loosenDress_12 ?_
    have b_12 := okD_W hok 5 (by omega)
    refine lv_bipush (v := iv 50) hx hb dX0_loosenDress_13 (by decide) ?_
    refine r_icmp_ge hx hb 19 dX0_loosenDress_15 (by decide) (by omega) (by omega) (fun c_15 => ?_) (fun c_15 => ?_)
    · skip
      refine lv_aload_n hx hb dX0_loosenDress_19 rfl (lv_at hl 0 rfl) ?_
      refine r_const hx hb dX0_loosenDress_20 ?_
      refine lv_aload_n hx hb dX0_loosenDress_21 rfl (lv_at hl 0 rfl) ?_
      refine va_get (D := D) (ci := 0) (v := .int (iv (dn ds))) (C := RX0) (T := TX0) (N := 9) hx hb hts in_X0 hown hK hP 0 rfl rfl 7 (by decide) lk35 (fun _ h9 => h9) rfl dX0_loosenDress_22 ?_
      refine r_const hx hb dX0_loosenDress_25 ?_
      refine r_sub hx hb dX0_loosenDress_26 ?_
      refine r_max hx hb (hml.trans hl.1.symm) hown (hts (.methodLink RX0 54 Lib.Math.max.name) (by decide +kernel)) (hts (.static Lib.Math.max.name) (by decide +kernel)) (hts (.initialized "java/lang/Math") (by decide +kernel)) (hts (.code Lib.Math.max.name Lib.Math.max.code 2 (some .int)) (by decide +kernel)) (Nat.le_of_ble_eq_true rfl) (Nat.le_of_ble_eq_true rfl) (Nat.le_of_ble_eq_true rfl) (Nat.le_of_ble_eq_true rfl) (by omega) (by omega) dX0_loosenDress_27 ?_
      refine va_put (D := D) (ci := 0) (v := .int (iv (max 0 ((dn ds) - 1)))) (ty := .int) (C := RX0) (T := TX0) (N := 9) hx hb hts in_X0 tyX0 tyX0_ok nmX0 hown hK hP hD hS 0 rfl rfl 7 (by decide) lk35 (fun _ h9 => h9) rfl (by decide +kernel) rfl rfl (Nat.le_of_ble_eq_true rfl) dX0_loosenDress_30 (fun H locs hP hD hS => ?_)
      have hP : va_P D vwCl ([(a 0, .inr (0, [.ref (a 1), .ref (a 2), .ref (a 3), .ref (a 4), .ref (a 5), .int (iv (dg ds)), .int (iv (dv ds)), .int (iv (max 0 ((dn ds) - 1))), .int (iv (dt ds))])), (a 1, .inl (G 0, 6, .inl (fun j => iv (dA ds j)))), (a 2, .inl (G 0, 6, .inl (fun j => iv (dW ds j)))), (a 3, .inl (G 0, 6, .inl (fun j => iv (dQ ds j)))), (a 4, .inl (G 1, 2, .inl (fun j => iv (dO ds j)))), (a 5, .inl (G 0, 2, .inl (fun j => iv (dU ds j))))]) H := hP
      have hD : va_D A ([(a 0, .inr (0, [.ref (a 1), .ref (a 2), .ref (a 3), .ref (a 4), .ref (a 5), .int (iv (dg ds)), .int (iv (dv ds)), .int (iv (max 0 ((dn ds) - 1))), .int (iv (dt ds))])), (a 1, .inl (G 0, 6, .inl (fun j => iv (dA ds j)))), (a 2, .inl (G 0, 6, .inl (fun j => iv (dW ds j)))), (a 3, .inl (G 0, 6, .inl (fun j => iv (dQ ds j)))), (a 4, .inl (G 1, 2, .inl (fun j => iv (dO ds j)))), (a 5, .inl (G 0, 2, .inl (fun j => iv (dU ds j))))]) := hD
      refine lv_aload_n hx hb dX0_loosenDress_33 rfl (lv_at hl 0 rfl) ?_
      refine va_get (D := D) (ci := 0) (v := .int (iv (max 0 ((dn ds) - 1)))) (C := RX0) (T := TX0) (N := 9) hx hb hts in_X0 hown hK hP 0 rfl rfl 7 (by decide) lk35 (fun _ h9 => h9) rfl dX0_loosenDress_34 ?_
      refine lv_aload_n hx hb dX0_loosenDress_37 rfl (lv_at hl 0 rfl) ?_
      refine va_get (D := D) (ci := 0) (v := .int (iv (dv ds))) (C := RX0) (T := TX0) (N := 9) hx hb hts in_X0 hown hK hP 0 rfl rfl 6 (by decide) lk32 (fun _ h9 => h9) rfl dX0_loosenDress_38 ?_
      refine r_icmp_ge hx hb 54 dX0_loosenDress_41 (by decide) (by omega) (by omega) (fun c_41 => ?_) (fun c_41 => ?_)
      · skip
        exact e_void hx hb hr hlk dX0_loosenDress_54 hS hP hD (by decide) (by decide) (by unfold loosen; rw [if_neg (by omega), if_neg (by omega)]; rfl)
      · skip
        refine lv_aload_n hx hb dX0_loosenDress_44 rfl (lv_at hl 0 rfl) ?_
        refine r_const hx hb dX0_loosenDress_45 ?_
        refine va_put (D := D) (ci := 0) (v := .int (iv 0)) (ty := .int) (C := RX0) (T := TX0) (N := 9) hx hb hts in_X0 tyX0 tyX0_ok nmX0 hown hK hP hD hS 0 rfl rfl 6 (by decide) lk32 (fun _ h9 => h9) rfl (by decide +kernel) rfl rfl (Nat.le_of_ble_eq_true rfl) dX0_loosenDress_46 (fun H locs hP hD hS => ?_)
        have hP : va_P D vwCl ([(a 0, .inr (0, [.ref (a 1), .ref (a 2), .ref (a 3), .ref (a 4), .ref (a 5), .int (iv (dg ds)), .int (iv 0), .int (iv (max 0 ((dn ds) - 1))), .int (iv (dt ds))])), (a 1, .inl (G 0, 6, .inl (fun j => iv (dA ds j)))), (a 2, .inl (G 0, 6, .inl (fun j => iv (dW ds j)))), (a 3, .inl (G 0, 6, .inl (fun j => iv (dQ ds j)))), (a 4, .inl (G 1, 2, .inl (fun j => iv (dO ds j)))), (a 5, .inl (G 0, 2, .inl (fun j => iv (dU ds j))))]) H := hP
        have hD : va_D A ([(a 0, .inr (0, [.ref (a 1), .ref (a 2), .ref (a 3), .ref (a 4), .ref (a 5), .int (iv (dg ds)), .int (iv 0), .int (iv (max 0 ((dn ds) - 1))), .int (iv (dt ds))])), (a 1, .inl (G 0, 6, .inl (fun j => iv (dA ds j)))), (a 2, .inl (G 0, 6, .inl (fun j => iv (dW ds j)))), (a 3, .inl (G 0, 6, .inl (fun j => iv (dQ ds j)))), (a 4, .inl (G 1, 2, .inl (fun j => iv (dO ds j)))), (a 5, .inl (G 0, 2, .inl (fun j => iv (dU ds j))))]) := hD
        refine lv_aload_n hx hb dX0_loosenDress_49 rfl (lv_at hl 0 rfl) ?_
        refine r_const hx hb dX0_loosenDress_50 ?_
        refine va_put (D := D) (ci := 0) (v := .int (iv 0)) (ty := .int) (C := RX0) (T := TX0) (N := 9) hx hb hts in_X0 tyX0 tyX0_ok nmX0 hown hK hP hD hS 0 rfl rfl 7 (by decide) lk35 (fun _ h9 => h9) rfl (by decide +kernel) rfl rfl (Nat.le_of_ble_eq_true rfl) dX0_loosenDress_51 (fun H locs hP hD hS => ?_)
        have hP : va_P D vwCl ([(a 0, .inr (0, [.ref (a 1), .ref (a 2), .ref (a 3), .ref (a 4), .ref (a 5), .int (iv (dg ds)), .int (iv 0), .int (iv 0), .int (iv (dt ds))])), (a 1, .inl (G 0, 6, .inl (fun j => iv (dA ds j)))), (a 2, .inl (G 0, 6, .inl (fun j => iv (dW ds j)))), (a 3, .inl (G 0, 6, .inl (fun j => iv (dQ ds j)))), (a 4, .inl (G 1, 2, .inl (fun j => iv (dO ds j)))), (a 5, .inl (G 0, 2, .inl (fun j => iv (dU ds j))))]) H := hP
        have hD : va_D A ([(a 0, .inr (0, [.ref (a 1), .ref (a 2), .ref (a 3), .ref (a 4), .ref (a 5), .int (iv (dg ds)), .int (iv 0), .int (iv 0), .int (iv (dt ds))])), (a 1, .inl (G 0, 6, .inl (fun j => iv (dA ds j)))), (a 2, .inl (G 0, 6, .inl (fun j => iv (dW ds j)))), (a 3, .inl (G 0, 6, .inl (fun j => iv (dQ ds j)))), (a 4, .inl (G 1, 2, .inl (fun j => iv (dO ds j)))), (a 5, .inl (G 0, 2, .inl (fun j => iv (dU ds j))))]) := hD
        exact e_void hx hb hr hlk dX0_loosenDress_54 hS hP hD (by decide) (by decide) (by unfold loosen; rw [if_neg (by omega), if_pos (by omega)]; rfl)
    · skip
      exact e_void hx hb hr hlk dX0_loosenDress_18 hS hP hD (by decide) (by decide) (by unfold loosen; rw [if_pos (by omega)]; rfl)
set_option maxHeartbeats 4000000 in
set_option maxRecDepth 100000 in
theorem c_X0_wipeEyes (l : Launch) (D : va_G) (G : Nat → ClassId) (a : Nat → Nat) (ds : DS) (hok : okD ds)  : MtG l yX0_wipeEyes wsX0_wipeEyes 0 0 0 0 D (TY G) [.ref (a 0)] (wDoll G a ds) (qV D (fun u => u = wDoll G a (dA ds, dW ds, dQ ds, dO ds, zz, dg ds, dv ds, dn ds, dt ds))) := by
  refine MtG.mk (cc := cX0_wipeEyes) (maxL := 2) (ret := none) (by decide) rfl (Nat.le_of_ble_eq_true rfl) ?_
  intro p e s m below meth c A ls hx hb hr hlk hml hown hin hts hK hA hP hD hS hl
  replace hown : s.vm.findClass RX0 = some m.cls := hown
  have hl : lv_has ls 2 [(0, .ref (a 0))] := hl
  skip
  have hP : va_P D vwCl ([(a 0, .inr (0, [.ref (a 1), .ref (a 2), .ref (a 3), .ref (a 4), .ref (a 5), .int (iv (dg ds)), .int (iv (dv ds)), .int (iv (dn ds)), .int (iv (dt ds))])), (a 1, .inl (G 0, 6, .inl (fun j => iv (dA ds j)))), (a 2, .inl (G 0, 6, .inl (fun j => iv (dW ds j)))), (a 3, .inl (G 0, 6, .inl (fun j => iv (dQ ds j)))), (a 4, .inl (G 1, 2, .inl (fun j => iv (dO ds j)))), (a 5, .inl (G 0, 2, .inl (fun j => iv (dU ds j))))]) s.heap := hP
  have hD : va_D A ([(a 0, .inr (0, [.ref (a 1), .ref (a 2), .ref (a 3), .ref (a 4), .ref (a 5), .int (iv (dg ds)), .int (iv (dv ds)), .int (iv (dn ds)), .int (iv (dt ds))])), (a 1, .inl (G 0, 6, .inl (fun j => iv (dA ds j)))), (a 2, .inl (G 0, 6, .inl (fun j => iv (dW ds j)))), (a 3, .inl (G 0, 6, .inl (fun j => iv (dQ ds j)))), (a 4, .inl (G 1, 2, .inl (fun j => iv (dO ds j)))), (a 5, .inl (G 0, 2, .inl (fun j => iv (dU ds j))))]) := hD
  have lk25 := hts (.fieldLink RX0 25 "DollCitadel$Doll" "dusts" "[I") (by decide +kernel)
  have in_X0 : ∀ w ∈ u_ws RX0 TX0 9, w ∈ wsX0_wipeEyes := by decide +kernel
  refine r_const hx hb dX0_wipeEyes_0 ?_
  refine lv_istore_n (lv' := [(1, .int (iv 0)), (0, .ref (a 0))]) hx hb dX0_wipeEyes_1 rfl hl (by decide) rfl (fun ls hl => ?_)
  have K2 : ∀ (n i : Nat) (FU : Nat → Int), i ≤ 2 → 2 < i + n → (∀ j, j < i → FU j = 0) → ∀ (H : Heap) (locs : List Loc), va_P D vwCl ([(a 0, .inr (0, [.ref (a 1), .ref (a 2), .ref (a 3), .ref (a 4), .ref (a 5), .int (iv (dg ds)), .int (iv (dv ds)), .int (iv (dn ds)), .int (iv (dt ds))])), (a 1, .inl (G 0, 6, .inl (fun j => iv (dA ds j)))), (a 2, .inl (G 0, 6, .inl (fun j => iv (dW ds j)))), (a 3, .inl (G 0, 6, .inl (fun j => iv (dQ ds j)))), (a 4, .inl (G 1, 2, .inl (fun j => iv (dO ds j)))), (a 5, .inl (G 0, 2, .inl (fun j => iv (FU j))))]) H → va_D A ([(a 0, .inr (0, [.ref (a 1), .ref (a 2), .ref (a 3), .ref (a 4), .ref (a 5), .int (iv (dg ds)), .int (iv (dv ds)), .int (iv (dn ds)), .int (iv (dt ds))])), (a 1, .inl (G 0, 6, .inl (fun j => iv (dA ds j)))), (a 2, .inl (G 0, 6, .inl (fun j => iv (dW ds j)))), (a 3, .inl (G 0, 6, .inl (fun j => iv (dQ ds j)))), (a 4, .inl (G 1, 2, .inl (fun j => iv (dO ds j)))), (a 5, .inl (G 0, 2, .inl (fun j => iv (FU j))))]) → va_S A s.heap H locs → ∀ (ls : Array Slot), lv_has ls 2 [(0, .ref (a 0)), (1, .int (iv (i : Int)))] → W p l e (rmOf 0 0 0 0) s m ([.ref (a 0)] : List Value).toArray below meth c H locs 0 0 (MQ below (qV D (fun u => u = wDoll G a (dA ds, dW ds, dQ ds, dO ds, zz, dg ds, dv ds, dn ds, dt ds)) A) ([.ref (a 0)] : List Value).toArray s 0 0 A) (F0 m 2 ls []) := by
    intro n
    induction n with
    | zero => intro i FU h1 h2; exact absurd h2 (by omega)
    | succ n ih2 =>
      intro i FU hi_2 hn_2 hu H locs hP hD hS ls hl
      refine lv_iload_n hx hb dX0_wipeEyes_2 rfl (lv_at hl 1 rfl) ?_
      refine r_const hx hb dX0_wipeEyes_3 ?_
      refine r_icmp_ge hx hb 20 dX0_wipeEyes_4 (by decide) (by omega) (by omega) (fun c_4 => ?_) (fun c_4 => ?_)
      · skip
        have hP := wP_say 5 zz hP rfl (fun j hj => hu j (by omega))
        have hD := wD_say 5 (.inl (G 0, 2, .inl (fun j => iv (zz j)))) hD rfl
        exact e_void hx hb hr hlk dX0_wipeEyes_20 hS hP hD (by decide) (by decide) rfl
      · skip
        refine lv_aload_n hx hb dX0_wipeEyes_7 rfl (lv_at hl 0 rfl) ?_
        refine va_get (D := D) (ci := 0) (v := .ref (a 5)) (C := RX0) (T := TX0) (N := 9) hx hb hts in_X0 hown hK hP 0 rfl rfl 4 (by decide) lk25 (fun _ h9 => h9) rfl dX0_wipeEyes_8 ?_
        refine lv_iload_n hx hb dX0_wipeEyes_11 rfl (lv_at hl 1 rfl) ?_
        refine r_const hx hb dX0_wipeEyes_12 ?_
        refine r_iast (F := FU) hx hb hK hP hD hS 5 0 rfl rfl i (by omega) (by omega) (by decide) dX0_wipeEyes_13 (fun H locs hP hD hS => ?_)
        have hP : va_P D vwCl ([(a 0, .inr (0, [.ref (a 1), .ref (a 2), .ref (a 3), .ref (a 4), .ref (a 5), .int (iv (dg ds)), .int (iv (dv ds)), .int (iv (dn ds)), .int (iv (dt ds))])), (a 1, .inl (G 0, 6, .inl (fun j => iv (dA ds j)))), (a 2, .inl (G 0, 6, .inl (fun j => iv (dW ds j)))), (a 3, .inl (G 0, 6, .inl (fun j => iv (dQ ds j)))), (a 4, .inl (G 1, 2, .inl (fun j => iv (dO ds j)))), (a 5, .inl (G 0, 2, .inl (fun j => iv (updI FU i 0 j))))]) H := hP
        have hD : va_D A ([(a 0, .inr (0, [.ref (a 1), .ref (a 2), .ref (a 3), .ref (a 4), .ref (a 5), .int (iv (dg ds)), .int (iv (dv ds)), .int (iv (dn ds)), .int (iv (dt ds))])), (a 1, .inl (G 0, 6, .inl (fun j => iv (dA ds j)))), (a 2, .inl (G 0, 6, .inl (fun j => iv (dW ds j)))), (a 3, .inl (G 0, 6, .inl (fun j => iv (dQ ds j)))), (a 4, .inl (G 1, 2, .inl (fun j => iv (dO ds j)))), (a 5, .inl (G 0, 2, .inl (fun j => iv (updI FU i 0 j))))]) := hD
        refine r_iinc (k := 1) (lv' := [(1, .int (iv ((i : Int) + 1))), (0, .ref (a 0))]) hx hb dX0_wipeEyes_14 hl rfl (by decide) rfl (fun ls hl => ?_)
        refine r_goto hx hb 2 dX0_wipeEyes_17 (by decide) ?_
        exact ih2 (i + 1) (updI FU i 0) (by omega) (by omega) (fun j hj => by by_cases q : j = i; (rw [q, updI_s]); (rw [updI_n _ _ q]; exact hu j (by omega))) _ _ hP hD hS _ (lv_sub hl [1, 0] rfl)
  exact K2 3 0 (dU ds) (by omega) (by omega) lt_0 _ _ hP hD hS _ (lv_sub hl [1, 0] rfl)