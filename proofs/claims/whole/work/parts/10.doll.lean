set_option maxHeartbeats 4000000 in
set_option maxRecDepth 100000 in
theorem c_X0_wearBehindTurn (l : Launch) (D : va_G) (G : Nat → ClassId) (w q d : Int) (hw : 0 ≤ w ∧ w ≤ 100) (hq : 0 ≤ q ∧ q ≤ 20) (hd : 0 ≤ d ∧ d ≤ 90) : MtG l yX0_wearBehindTurn wsX0_wearBehindTurn 1 40 0 0 D (TY G) [.int (iv w), .int (iv q), .int (iv d)] ([]) (qI D (fun r u => r = iv (wearBT w q d) ∧ u = [])) := by
  refine MtG.mk (cc := cX0_wearBehindTurn) (maxL := 4) (ret := some .int) (by decide) rfl (Nat.le_of_ble_eq_true rfl) ?_
  intro p e s m below meth c A ls hx hb hr hlk hml hown hin hts hK hA hP hD hS hl
  replace hown : s.vm.findClass RX0 = some m.cls := hown
  have hl : lv_has ls 4 [(0, .int (iv w)), (1, .int (iv q)), (2, .int (iv d))] := hl
  skip
  have hP : va_P D vwCl ([]) s.heap := hP
  have hD : va_D A ([]) := hD
  refine lv_iload_n hx hb dX0_wearBehindTurn_0 rfl (lv_at hl 1 rfl) ?_
  refine r_if_le hx hb 11 dX0_wearBehindTurn_1 (by decide) (by omega) (fun c_1 => ?_) (fun c_1 => ?_)
  · skip
    refine lv_iload_n hx hb dX0_wearBehindTurn_11 rfl (lv_at hl 2 rfl) ?_
    refine lv_bipush (v := iv 10) hx hb dX0_wearBehindTurn_12 (by decide) ?_
    refine r_div hx hb dX0_wearBehindTurn_14 (by omega) (by omega) ?_
    refine r_const hx hb dX0_wearBehindTurn_15 ?_
    refine r_add hx hb dX0_wearBehindTurn_16 ?_
    refine lv_istore_n (lv' := [(3, .int (iv ((d / 10) + 1))), (0, .int (iv w)), (1, .int (iv q)), (2, .int (iv d))]) hx hb dX0_wearBehindTurn_17 rfl hl (by decide) rfl (fun ls hl => ?_)
    refine lv_bipush (v := iv 100) hx hb dX0_wearBehindTurn_18 (by decide) ?_
    refine lv_iload_n hx hb dX0_wearBehindTurn_20 rfl (lv_at hl 1 rfl) ?_
    refine lv_iload_n hx hb dX0_wearBehindTurn_21 rfl (lv_at hl 0 rfl) ?_
    refine r_add hx hb dX0_wearBehindTurn_22 ?_
    refine r_min hx hb (hml.trans hl.1.symm) hown (hts (.methodLink RX0 58 Lib.Math.min.name) (by decide +kernel)) (hts (.static Lib.Math.min.name) (by decide +kernel)) (hts (.initialized "java/lang/Math") (by decide +kernel)) (hts (.code Lib.Math.min.name Lib.Math.min.code 2 (some .int)) (by decide +kernel)) (by decide) (by decide) (by decide) (by decide) (by omega) (by omega) dX0_wearBehindTurn_23 ?_
    exact e_int hx hb hr hlk dX0_wearBehindTurn_26 hS hP hD (by decide) (by decide) (⟨by unfold wearBT wearMore; first | rw [if_pos (by omega)] | rw [if_neg (by omega)], rfl⟩)
  · skip
    refine lv_iload_n hx hb dX0_wearBehindTurn_4 rfl (lv_at hl 2 rfl) ?_
    refine lv_bipush (v := iv 20) hx hb dX0_wearBehindTurn_5 (by decide) ?_
    refine r_div hx hb dX0_wearBehindTurn_7 (by omega) (by omega) ?_
    refine r_goto hx hb 17 dX0_wearBehindTurn_8 (by decide) ?_
    refine lv_istore_n (lv' := [(3, .int (iv (d / 20))), (0, .int (iv w)), (1, .int (iv q)), (2, .int (iv d))]) hx hb dX0_wearBehindTurn_17 rfl hl (by decide) rfl (fun ls hl => ?_)
    refine lv_bipush (v := iv 100) hx hb dX0_wearBehindTurn_18 (by decide) ?_
    refine lv_iload_n hx hb dX0_wearBehindTurn_20 rfl (lv_at hl 1 rfl) ?_
    refine lv_iload_n hx hb dX0_wearBehindTurn_21 rfl (lv_at hl 0 rfl) ?_
    refine r_add hx hb dX0_wearBehindTurn_22 ?_
    refine r_min hx hb (hml.trans hl.1.symm) hown (hts (.methodLink RX0 58 Lib.Math.min.name) (by decide +kernel)) (hts (.static Lib.Math.min.name) (by decide +kernel)) (hts (.initialized "java/lang/Math") (by decide +kernel)) (hts (.code Lib.Math.min.name Lib.Math.min.code 2 (some .int)) (by decide +kernel)) (by decide) (by decide) (by decide) (by decide) (by omega) (by omega) dX0_wearBehindTurn_23 ?_
    exact e_int hx hb hr hlk dX0_wearBehindTurn_26 hS hP hD (by decide) (by decide) (⟨by unfold wearBT wearMore; first | rw [if_pos (by omega)] | rw [if_neg (by omega)], rfl⟩)
set_option maxHeartbeats 4000000 in
set_option maxRecDepth 100000 in
theorem c_X0_jointsWornBy (l : Launch) (D : va_G) (G : Nat → ClassId) (a : Nat → Nat) (ds : DS) (hok : okD ds) (least : Int) (hle : 0 ≤ least ∧ least ≤ 100) : MtG l yX0_jointsWornBy wsX0_jointsWornBy 0 0 0 0 D (TY G) [.ref (a 0), .int (iv least)] (wDoll G a ds) (qI D (fun r u => r = iv (cntW least ds) ∧ u = wDoll G a ds)) := by
  refine MtG.mk (cc := cX0_jointsWornBy) (maxL := 7) (ret := some .int) (by decide) rfl (Nat.le_of_ble_eq_true rfl) ?_
  intro p e s m below meth c A ls hx hb hr hlk hml hown hin hts hK hA hP hD hS hl
  replace hown : s.vm.findClass RX0 = some m.cls := hown
  have hl : lv_has ls 7 [(0, .ref (a 0)), (1, .int (iv least))] := hl
  skip
  have hP : va_P D vwCl ([(a 0, .inr (0, [.ref (a 1), .ref (a 2), .ref (a 3), .ref (a 4), .ref (a 5), .int (iv (dg ds)), .int (iv (dv ds)), .int (iv (dn ds)), .int (iv (dt ds))])), (a 1, .inl (G 0, 6, .inl (fun j => iv (dA ds j)))), (a 2, .inl (G 0, 6, .inl (fun j => iv (dW ds j)))), (a 3, .inl (G 0, 6, .inl (fun j => iv (dQ ds j)))), (a 4, .inl (G 1, 2, .inl (fun j => iv (dO ds j)))), (a 5, .inl (G 0, 2, .inl (fun j => iv (dU ds j))))]) s.heap := hP
  have hD : va_D A ([(a 0, .inr (0, [.ref (a 1), .ref (a 2), .ref (a 3), .ref (a 4), .ref (a 5), .int (iv (dg ds)), .int (iv (dv ds)), .int (iv (dn ds)), .int (iv (dt ds))])), (a 1, .inl (G 0, 6, .inl (fun j => iv (dA ds j)))), (a 2, .inl (G 0, 6, .inl (fun j => iv (dW ds j)))), (a 3, .inl (G 0, 6, .inl (fun j => iv (dQ ds j)))), (a 4, .inl (G 1, 2, .inl (fun j => iv (dO ds j)))), (a 5, .inl (G 0, 2, .inl (fun j => iv (dU ds j))))]) := hD
  have lk15 := hts (.fieldLink RX0 15 "DollCitadel$Doll" "wears" "[I") (by decide +kernel)
  have in_X0 : ∀ w ∈ u_ws RX0 TX0 9, w ∈ wsX0_jointsWornBy := by decide +kernel
  have hx6 : (0 : Int) ≤ 0 := by decide
  refine r_const hx hb dX0_jointsWornBy_0 ?_
  refine lv_istore_n (lv' := [(2, .int (iv 0)), (0, .ref (a 0)), (1, .int (iv least))]) hx hb dX0_jointsWornBy_1 rfl hl (by decide) rfl (fun ls hl => ?_)
  refine lv_aload_n hx hb dX0_jointsWornBy_2 rfl (lv_at hl 1 rfl) ?_
  refine va_get (D := D) (ci := 0) (v := .ref (a 2)) (C := RX0) (T := TX0) (N := 9) hx hb hts in_X0 hown hK hP 0 rfl rfl 1 (by decide) lk15 (fun _ h9 => h9) rfl dX0_jointsWornBy_3 ?_
  refine lv_astore_n (lv' := [(3, .ref (a 2)), (2, .int (iv 0)), (0, .ref (a 0)), (1, .int (iv least))]) hx hb dX0_jointsWornBy_6 rfl hl (by decide) rfl (fun ls hl => ?_)
  refine lv_aload_n hx hb dX0_jointsWornBy_7 rfl (lv_at hl 0 rfl) ?_
  refine va_alen (v := iv 6) hx hb hK hP 2 0 rfl (ty := _) rfl rfl dX0_jointsWornBy_8 ?_
  refine lv_istore (lv' := [(4, .int (iv 6)), (3, .ref (a 2)), (2, .int (iv 0)), (0, .ref (a 0)), (1, .int (iv least))]) hx hb dX0_jointsWornBy_9 hl (by decide) rfl (fun ls hl => ?_)
  refine r_const hx hb dX0_jointsWornBy_11 ?_
  refine lv_istore (lv' := [(5, .int (iv 0)), (4, .int (iv 6)), (3, .ref (a 2)), (2, .int (iv 0)), (0, .ref (a 0)), (1, .int (iv least))]) hx hb dX0_jointsWornBy_12 hl (by decide) rfl (fun ls hl => ?_)
  have K14 : ∀ (n i : Nat) (x : Int), i ≤ 6 → 6 < i + n → x = cnt (fun j => decide (least ≤ dW ds j)) i → ∀ (H : Heap) (locs : List Loc), va_P D vwCl ([(a 0, .inr (0, [.ref (a 1), .ref (a 2), .ref (a 3), .ref (a 4), .ref (a 5), .int (iv (dg ds)), .int (iv (dv ds)), .int (iv (dn ds)), .int (iv (dt ds))])), (a 1, .inl (G 0, 6, .inl (fun j => iv (dA ds j)))), (a 2, .inl (G 0, 6, .inl (fun j => iv (dW ds j)))), (a 3, .inl (G 0, 6, .inl (fun j => iv (dQ ds j)))), (a 4, .inl (G 1, 2, .inl (fun j => iv (dO ds j)))), (a 5, .inl (G 0, 2, .inl (fun j => iv (dU ds j))))]) H → va_D A ([(a 0, .inr (0, [.ref (a 1), .ref (a 2), .ref (a 3), .ref (a 4), .ref (a 5), .int (iv (dg ds)), .int (iv (dv ds)), .int (iv (dn ds)), .int (iv (dt ds))])), (a 1, .inl (G 0, 6, .inl (fun j => iv (dA ds j)))), (a 2, .inl (G 0, 6, .inl (fun j => iv (dW ds j)))), (a 3, .inl (G 0, 6, .inl (fun j => iv (dQ ds j)))), (a 4, .inl (G 1, 2, .inl (fun j => iv (dO ds j)))), (a 5, .inl (G 0, 2, .inl (fun j => iv (dU ds j))))]) → va_S A s.heap H locs → ∀ (ls : Array Slot), lv_has ls 7 [(0, .ref (a 0)), (1, .int (iv least)), (2, .int (iv x)), (3, .ref (a 2)), (4, .int (iv 6)), (5, .int (iv (i : Int)))] → W p l e (rmOf 0 0 0 0) s m ([.ref (a 0), .int (iv least)] : List Value).toArray below meth c H locs 0 0 (MQ below (qI D (fun r u => r = iv (cntW least ds) ∧ u = wDoll G a ds) A) ([.ref (a 0), .int (iv least)] : List Value).toArray s 0 0 A) (F0 m 14 ls []) := by
    intro n
    induction n with
    | zero => intro i x h1 h2; exact absurd h2 (by omega)
    | succ n ih14 =>
      intro i x hi_14 hn_14 ex H locs hP hD hS ls hl
      refine lv_iload hx hb dX0_jointsWornBy_14 (lv_at hl 5 rfl) ?_
      refine lv_iload hx hb dX0_jointsWornBy_16 (lv_at hl 4 rfl) ?_
      refine r_icmp_ge hx hb 42 dX0_jointsWornBy_18 (by decide) (by omega) (by omega) (fun c_18 => ?_) (fun c_18 => ?_)
      · skip
        refine lv_iload_n hx hb dX0_jointsWornBy_42 rfl (lv_at hl 2 rfl) ?_
        exact e_int hx hb hr hlk dX0_jointsWornBy_43 hS hP hD (by decide) (by decide) (⟨by rw [ex, show i = 6 by omega]; rfl, rfl⟩)
      · skip
        refine lv_aload_n hx hb dX0_jointsWornBy_21 rfl (lv_at hl 3 rfl) ?_
        refine lv_iload hx hb dX0_jointsWornBy_22 (lv_at hl 5 rfl) ?_
        refine r_iald (F := dW ds) hx hb hK hP 2 0 rfl rfl i (by omega) (by omega) (by decide) dX0_jointsWornBy_24 ?_
        have b_24 := okD_W hok i (by omega)
        refine lv_istore (lv' := [(6, .int (iv (dW ds i))), (0, .ref (a 0)), (1, .int (iv least)), (2, .int (iv x)), (3, .ref (a 2)), (4, .int (iv 6)), (5, .int (iv (i : Int)))]) hx hb dX0_jointsWornBy_25 hl (by decide) rfl (fun ls hl => ?_)
        refine lv_iload hx hb dX0_jointsWornBy_27 (lv_at hl 0 rfl) ?_
        refine lv_iload_n hx hb dX0_jointsWornBy_29 rfl (lv_at hl 2 rfl) ?_
        refine r_icmp_lt hx hb 36 dX0_jointsWornBy_30 (by decide) (by omega) (by omega) (fun c_30 => ?_) (fun c_30 => ?_)
        · skip
          refine r_iinc (k := 6) (lv' := [(5, .int (iv ((i : Int) + 1))), (6, .int (iv (dW ds i))), (0, .ref (a 0)), (1, .int (iv least)), (2, .int (iv x)), (3, .ref (a 2)), (4, .int (iv 6))]) hx hb dX0_jointsWornBy_36 hl rfl (by decide) rfl (fun ls hl => ?_)
          refine r_goto hx hb 14 dX0_jointsWornBy_39 (by decide) ?_
          exact ih14 (i + 1) x (by omega) (by omega) (ex ▸ cnt_no (decide_eq_false (by omega))) _ _ hP hD hS _ (lv_sub hl [2, 3, 4, 5, 6, 0] rfl)
        · skip
          refine r_iinc (k := 3) (lv' := [(2, .int (iv (x + 1))), (6, .int (iv (dW ds i))), (0, .ref (a 0)), (1, .int (iv least)), (3, .ref (a 2)), (4, .int (iv 6)), (5, .int (iv (i : Int)))]) hx hb dX0_jointsWornBy_33 hl rfl (by decide) rfl (fun ls hl => ?_)
          refine r_iinc (k := 6) (lv' := [(5, .int (iv ((i : Int) + 1))), (2, .int (iv (x + 1))), (6, .int (iv (dW ds i))), (0, .ref (a 0)), (1, .int (iv least)), (3, .ref (a 2)), (4, .int (iv 6))]) hx hb dX0_jointsWornBy_36 hl rfl (by decide) rfl (fun ls hl => ?_)
          refine r_goto hx hb 14 dX0_jointsWornBy_39 (by decide) ?_
          exact ih14 (i + 1) (x + 1) (by omega) (by omega) (ex ▸ cnt_yes (decide_eq_true c_30)) _ _ hP hD hS _ (lv_sub hl [3, 4, 1, 5, 6, 0] rfl)
  exact K14 7 0 0 (by omega) (by omega) rfl _ _ hP hD hS _ (lv_sub hl [4, 5, 3, 2, 1, 0] rfl)
set_option maxHeartbeats 4000000 in
set_option maxRecDepth 100000 in
theorem c_X0_eyesWithDust (l : Launch) (D : va_G) (G : Nat → ClassId) (a : Nat → Nat) (ds : DS) (hok : okD ds) (least : Int) (hle : 0 ≤ least ∧ least ≤ 100) : MtG l yX0_eyesWithDust wsX0_eyesWithDust 0 0 0 0 D (TY G) [.ref (a 0), .int (iv least)] (wDoll G a ds) (qI D (fun r u => r = iv (cntU least ds) ∧ u = wDoll G a ds)) := by
  refine MtG.mk (cc := cX0_eyesWithDust) (maxL := 7) (ret := some .int) (by decide) rfl (Nat.le_of_ble_eq_true rfl) ?_
  intro p e s m below meth c A ls hx hb hr hlk hml hown hin hts hK hA hP hD hS hl
  replace hown : s.vm.findClass RX0 = some m.cls := hown
  have hl : lv_has ls 7 [(0, .ref (a 0)), (1, .int (iv least))] := hl
  skip
  have hP : va_P D vwCl ([(a 0, .inr (0, [.ref (a 1), .ref (a 2), .ref (a 3), .ref (a 4), .ref (a 5), .int (iv (dg ds)), .int (iv (dv ds)), .int (iv (dn ds)), .int (iv (dt ds))])), (a 1, .inl (G 0, 6, .inl (fun j => iv (dA ds j)))), (a 2, .inl (G 0, 6, .inl (fun j => iv (dW ds j)))), (a 3, .inl (G 0, 6, .inl (fun j => iv (dQ ds j)))), (a 4, .inl (G 1, 2, .inl (fun j => iv (dO ds j)))), (a 5, .inl (G 0, 2, .inl (fun j => iv (dU ds j))))]) s.heap := hP
  have hD : va_D A ([(a 0, .inr (0, [.ref (a 1), .ref (a 2), .ref (a 3), .ref (a 4), .ref (a 5), .int (iv (dg ds)), .int (iv (dv ds)), .int (iv (dn ds)), .int (iv (dt ds))])), (a 1, .inl (G 0, 6, .inl (fun j => iv (dA ds j)))), (a 2, .inl (G 0, 6, .inl (fun j => iv (dW ds j)))), (a 3, .inl (G 0, 6, .inl (fun j => iv (dQ ds j)))), (a 4, .inl (G 1, 2, .inl (fun j => iv (dO ds j)))), (a 5, .inl (G 0, 2, .inl (fun j => iv (dU ds j))))]) := hD
  have lk25 := hts (.fieldLink RX0 25 "DollCitadel$Doll" "dusts" "[I") (by decide +kernel)
  have in_X0 : ∀ w ∈ u_ws RX0 TX0 9, w ∈ wsX0_eyesWithDust := by decide +kernel
  have hx6 : (0 : Int) ≤ 0 := by decide
  refine r_const hx hb dX0_eyesWithDust_0 ?_
  refine lv_istore_n (lv' := [(2, .int (iv 0)), (0, .ref (a 0)), (1, .int (iv least))]) hx hb dX0_eyesWithDust_1 rfl hl (by decide) rfl (fun ls hl => ?_)
  refine lv_aload_n hx hb dX0_eyesWithDust_2 rfl (lv_at hl 1 rfl) ?_
  refine va_get (D := D) (ci := 0) (v := .ref (a 5)) (C := RX0) (T := TX0) (N := 9) hx hb hts in_X0 hown hK hP 0 rfl rfl 4 (by decide) lk25 (fun _ h9 => h9) rfl dX0_eyesWithDust_3 ?_
  refine lv_astore_n (lv' := [(3, .ref (a 5)), (2, .int (iv 0)), (0, .ref (a 0)), (1, .int (iv least))]) hx hb dX0_eyesWithDust_6 rfl hl (by decide) rfl (fun ls hl => ?_)
  refine lv_aload_n hx hb dX0_eyesWithDust_7 rfl (lv_at hl 0 rfl) ?_
  refine va_alen (v := iv 2) hx hb hK hP 5 0 rfl (ty := _) rfl rfl dX0_eyesWithDust_8 ?_
  refine lv_istore (lv' := [(4, .int (iv 2)), (3, .ref (a 5)), (2, .int (iv 0)), (0, .ref (a 0)), (1, .int (iv least))]) hx hb dX0_eyesWithDust_9 hl (by decide) rfl (fun ls hl => ?_)
  refine r_const hx hb dX0_eyesWithDust_11 ?_
  refine lv_istore (lv' := [(5, .int (iv 0)), (4, .int (iv 2)), (3, .ref (a 5)), (2, .int (iv 0)), (0, .ref (a 0)), (1, .int (iv least))]) hx hb dX0_eyesWithDust_12 hl (by decide) rfl (fun ls hl => ?_)
  have K14 : ∀ (n i : Nat) (x : Int), i ≤ 2 → 2 < i + n → x = cnt (fun j => decide (least ≤ dU ds j)) i → ∀ (H : Heap) (locs : List Loc), va_P D vwCl ([(a 0, .inr (0, [.ref (a 1), .ref (a 2), .ref (a 3), .ref (a 4), .ref (a 5), .int (iv (dg ds)), .int (iv (dv ds)), .int (iv (dn ds)), .int (iv (dt ds))])), (a 1, .inl (G 0, 6, .inl (fun j => iv (dA ds j)))), (a 2, .inl (G 0, 6, .inl (fun j => iv (dW ds j)))), (a 3, .inl (G 0, 6, .inl (fun j => iv (dQ ds j)))), (a 4, .inl (G 1, 2, .inl (fun j => iv (dO ds j)))), (a 5, .inl (G 0, 2, .inl (fun j => iv (dU ds j))))]) H → va_D A ([(a 0, .inr (0, [.ref (a 1), .ref (a 2), .ref (a 3), .ref (a 4), .ref (a 5), .int (iv (dg ds)), .int (iv (dv ds)), .int (iv (dn ds)), .int (iv (dt ds))])), (a 1, .inl (G 0, 6, .inl (fun j => iv (dA ds j)))), (a 2, .inl (G 0, 6, .inl (fun j => iv (dW ds j)))), (a 3, .inl (G 0, 6, .inl (fun j => iv (dQ ds j)))), (a 4, .inl (G 1, 2, .inl (fun j => iv (dO ds j)))), (a 5, .inl (G 0, 2, .inl (fun j => iv (dU ds j))))]) → va_S A s.heap H locs → ∀ (ls : Array Slot), lv_has ls 7 [(0, .ref (a 0)), (1, .int (iv least)), (2, .int (iv x)), (3, .ref (a 5)), (4, .int (iv 2)), (5, .int (iv (i : Int)))] → W p l e (rmOf 0 0 0 0) s m ([.ref (a 0), .int (iv least)] : List Value).toArray below meth c H locs 0 0 (MQ below (qI D (fun r u => r = iv (cntU least ds) ∧ u = wDoll G a ds) A) ([.ref (a 0), .int (iv least)] : List Value).toArray s 0 0 A) (F0 m 14 ls []) := by
    intro n
    induction n with
    | zero => intro i x h1 h2; exact absurd h2 (by omega)
    | succ n ih14 =>
      intro i x hi_14 hn_14 ex H locs hP hD hS ls hl
      refine lv_iload hx hb dX0_eyesWithDust_14 (lv_at hl 5 rfl) ?_
      refine lv_iload hx hb dX0_eyesWithDust_16 (lv_at hl 4 rfl) ?_
      refine r_icmp_ge hx hb 42 dX0_eyesWithDust_18 (by decide) (by omega) (by omega) (fun c_18 => ?_) (fun c_18 => ?_)
      · skip
        refine lv_iload_n hx hb dX0_eyesWithDust_42 rfl (lv_at hl 2 rfl) ?_
        exact e_int hx hb hr hlk dX0_eyesWithDust_43 hS hP hD (by decide) (by decide) (⟨by rw [ex, show i = 2 by omega]; rfl, rfl⟩)
      · skip
        refine lv_aload_n hx hb dX0_eyesWithDust_21 rfl (lv_at hl 3 rfl) ?_
        refine lv_iload hx hb dX0_eyesWithDust_22 (lv_at hl 5 rfl) ?_
        refine r_iald (F := dU ds) hx hb hK hP 5 0 rfl rfl i (by omega) (by omega) (by decide) dX0_eyesWithDust_24 ?_
        have b_24 := okD_U hok i (by omega)
        refine lv_istore (lv' := [(6, .int (iv (dU ds i))), (0, .ref (a 0)), (1, .int (iv least)), (2, .int (iv x)), (3, .ref (a 5)), (4, .int (iv 2)), (5, .int (iv (i : Int)))]) hx hb dX0_eyesWithDust_25 hl (by decide) rfl (fun ls hl => ?_)
        refine lv_iload hx hb dX0_eyesWithDust_27 (lv_at hl 0 rfl) ?_
        refine lv_iload_n hx hb dX0_eyesWithDust_29 rfl (lv_at hl 2 rfl) ?_
        refine r_icmp_lt hx hb 36 dX0_eyesWithDust_30 (by decide) (by omega) (by omega) (fun c_30 => ?_) (fun c_30 => ?_)
        · skip
          refine r_iinc (k := 6) (lv' := [(5, .int (iv ((i : Int) + 1))), (6, .int (iv (dU ds i))), (0, .ref (a 0)), (1, .int (iv least)), (2, .int (iv x)), (3, .ref (a 5)), (4, .int (iv 2))]) hx hb dX0_eyesWithDust_36 hl rfl (by decide) rfl (fun ls hl => ?_)
          refine r_goto hx hb 14 dX0_eyesWithDust_39 (by decide) ?_
          exact ih14 (i + 1) x (by omega) (by omega) (ex ▸ cnt_no (decide_eq_false (by omega))) _ _ hP hD hS _ (lv_sub hl [2, 3, 4, 5, 6, 0] rfl)
        · skip
          refine r_iinc (k := 3) (lv' := [(2, .int (iv (x + 1))), (6, .int (iv (dU ds i))), (0, .ref (a 0)), (1, .int (iv least)), (3, .ref (a 5)), (4, .int (iv 2)), (5, .int (iv (i : Int)))]) hx hb dX0_eyesWithDust_33 hl rfl (by decide) rfl (fun ls hl => ?_)
          refine r_iinc (k := 6) (lv' := [(5, .int (iv ((i : Int) + 1))), (2, .int (iv (x + 1))), (6, .int (iv (dU ds i))), (0, .ref (a 0)), (1, .int (iv least)), (3, .ref (a 5)), (4, .int (iv 2))]) hx hb dX0_eyesWithDust_36 hl rfl (by decide) rfl (fun ls hl => ?_)
          refine r_goto hx hb 14 dX0_eyesWithDust_39 (by decide) ?_
          exact ih14 (i + 1) (x + 1) (by omega) (by omega) (ex ▸ cnt_yes (decide_eq_true c_30)) _ _ hP hD hS _ (lv_sub hl [3, 4, 1, 5, 6, 0] rfl)
  exact K14 3 0 0 (by omega) (by omega) rfl _ _ hP hD hS _ (lv_sub hl [4, 5, 3, 2, 1, 0] rfl)
set_option maxHeartbeats 4000000 in
set_option maxRecDepth 100000 in
theorem c_X0_jointsWithoutLacquer (l : Launch) (D : va_G) (G : Nat → ClassId) (a : Nat → Nat) (ds : DS) (hok : okD ds)  : MtG l yX0_jointsWithoutLacquer wsX0_jointsWithoutLacquer 0 0 0 0 D (TY G) [.ref (a 0)] (wDoll G a ds) (qI D (fun r u => r = iv (cntQ ds) ∧ u = wDoll G a ds)) := by
  refine MtG.mk (cc := cX0_jointsWithoutLacquer) (maxL := 6) (ret := some .int) (by decide) rfl (Nat.le_of_ble_eq_true rfl) ?_
  intro p e s m below meth c A ls hx hb hr hlk hml hown hin hts hK hA hP hD hS hl
  replace hown : s.vm.findClass RX0 = some m.cls := hown
  have hl : lv_has ls 6 [(0, .ref (a 0))] := hl
  skip
  have hP : va_P D vwCl ([(a 0, .inr (0, [.ref (a 1), .ref (a 2), .ref (a 3), .ref (a 4), .ref (a 5), .int (iv (dg ds)), .int (iv (dv ds)), .int (iv (dn ds)), .int (iv (dt ds))])), (a 1, .inl (G 0, 6, .inl (fun j => iv (dA ds j)))), (a 2, .inl (G 0, 6, .inl (fun j => iv (dW ds j)))), (a 3, .inl (G 0, 6, .inl (fun j => iv (dQ ds j)))), (a 4, .inl (G 1, 2, .inl (fun j => iv (dO ds j)))), (a 5, .inl (G 0, 2, .inl (fun j => iv (dU ds j))))]) s.heap := hP
  have hD : va_D A ([(a 0, .inr (0, [.ref (a 1), .ref (a 2), .ref (a 3), .ref (a 4), .ref (a 5), .int (iv (dg ds)), .int (iv (dv ds)), .int (iv (dn ds)), .int (iv (dt ds))])), (a 1, .inl (G 0, 6, .inl (fun j => iv (dA ds j)))), (a 2, .inl (G 0, 6, .inl (fun j => iv (dW ds j)))), (a 3, .inl (G 0, 6, .inl (fun j => iv (dQ ds j)))), (a 4, .inl (G 1, 2, .inl (fun j => iv (dO ds j)))), (a 5, .inl (G 0, 2, .inl (fun j => iv (dU ds j))))]) := hD
  have lk18 := hts (.fieldLink RX0 18 "DollCitadel$Doll" "lacquers" "[I") (by decide +kernel)
  have in_X0 : ∀ w ∈ u_ws RX0 TX0 9, w ∈ wsX0_jointsWithoutLacquer := by decide +kernel
  have hx6 : (0 : Int) ≤ 0 := by decide
  refine r_const hx hb dX0_jointsWithoutLacquer_0 ?_
  refine lv_istore_n (lv' := [(1, .int (iv 0)), (0, .ref (a 0))]) hx hb dX0_jointsWithoutLacquer_1 rfl hl (by decide) rfl (fun ls hl => ?_)
  refine lv_aload_n hx hb dX0_jointsWithoutLacquer_2 rfl (lv_at hl 1 rfl) ?_
  refine va_get (D := D) (ci := 0) (v := .ref (a 3)) (C := RX0) (T := TX0) (N := 9) hx hb hts in_X0 hown hK hP 0 rfl rfl 2 (by decide) lk18 (fun _ h9 => h9) rfl dX0_jointsWithoutLacquer_3 ?_
  refine lv_astore_n (lv' := [(2, .ref (a 3)), (1, .int (iv 0)), (0, .ref (a 0))]) hx hb dX0_jointsWithoutLacquer_6 rfl hl (by decide) rfl (fun ls hl => ?_)
  refine lv_aload_n hx hb dX0_jointsWithoutLacquer_7 rfl (lv_at hl 0 rfl) ?_
  refine va_alen (v := iv 6) hx hb hK hP 3 0 rfl (ty := _) rfl rfl dX0_jointsWithoutLacquer_8 ?_
  refine lv_istore_n (lv' := [(3, .int (iv 6)), (2, .ref (a 3)), (1, .int (iv 0)), (0, .ref (a 0))]) hx hb dX0_jointsWithoutLacquer_9 rfl hl (by decide) rfl (fun ls hl => ?_)
  refine r_const hx hb dX0_jointsWithoutLacquer_10 ?_
  refine lv_istore (lv' := [(4, .int (iv 0)), (3, .int (iv 6)), (2, .ref (a 3)), (1, .int (iv 0)), (0, .ref (a 0))]) hx hb dX0_jointsWithoutLacquer_11 hl (by decide) rfl (fun ls hl => ?_)
  have K13 : ∀ (n i : Nat) (x : Int), i ≤ 6 → 6 < i + n → x = cnt (fun j => decide (dQ ds j = 0)) i → ∀ (H : Heap) (locs : List Loc), va_P D vwCl ([(a 0, .inr (0, [.ref (a 1), .ref (a 2), .ref (a 3), .ref (a 4), .ref (a 5), .int (iv (dg ds)), .int (iv (dv ds)), .int (iv (dn ds)), .int (iv (dt ds))])), (a 1, .inl (G 0, 6, .inl (fun j => iv (dA ds j)))), (a 2, .inl (G 0, 6, .inl (fun j => iv (dW ds j)))), (a 3, .inl (G 0, 6, .inl (fun j => iv (dQ ds j)))), (a 4, .inl (G 1, 2, .inl (fun j => iv (dO ds j)))), (a 5, .inl (G 0, 2, .inl (fun j => iv (dU ds j))))]) H → va_D A ([(a 0, .inr (0, [.ref (a 1), .ref (a 2), .ref (a 3), .ref (a 4), .ref (a 5), .int (iv (dg ds)), .int (iv (dv ds)), .int (iv (dn ds)), .int (iv (dt ds))])), (a 1, .inl (G 0, 6, .inl (fun j => iv (dA ds j)))), (a 2, .inl (G 0, 6, .inl (fun j => iv (dW ds j)))), (a 3, .inl (G 0, 6, .inl (fun j => iv (dQ ds j)))), (a 4, .inl (G 1, 2, .inl (fun j => iv (dO ds j)))), (a 5, .inl (G 0, 2, .inl (fun j => iv (dU ds j))))]) → va_S A s.heap H locs → ∀ (ls : Array Slot), lv_has ls 6 [(0, .ref (a 0)), (1, .int (iv x)), (2, .ref (a 3)), (3, .int (iv 6)), (4, .int (iv (i : Int)))] → W p l e (rmOf 0 0 0 0) s m ([.ref (a 0)] : List Value).toArray below meth c H locs 0 0 (MQ below (qI D (fun r u => r = iv (cntQ ds) ∧ u = wDoll G a ds) A) ([.ref (a 0)] : List Value).toArray s 0 0 A) (F0 m 13 ls []) := by
    intro n
    induction n with
    | zero => intro i x h1 h2; exact absurd h2 (by omega)
    | succ n ih13 =>
      intro i x hi_13 hn_13 ex H locs hP hD hS ls hl
      refine lv_iload hx hb dX0_jointsWithoutLacquer_13 (lv_at hl 4 rfl) ?_
      refine lv_iload_n hx hb dX0_jointsWithoutLacquer_15 rfl (lv_at hl 3 rfl) ?_
      refine r_icmp_ge hx hb 39 dX0_jointsWithoutLacquer_16 (by decide) (by omega) (by omega) (fun c_16 => ?_) (fun c_16 => ?_)
      · skip
        refine lv_iload_n hx hb dX0_jointsWithoutLacquer_39 rfl (lv_at hl 1 rfl) ?_
        exact e_int hx hb hr hlk dX0_jointsWithoutLacquer_40 hS hP hD (by decide) (by decide) (⟨by rw [ex, show i = 6 by omega]; rfl, rfl⟩)
      · skip
        refine lv_aload_n hx hb dX0_jointsWithoutLacquer_19 rfl (lv_at hl 2 rfl) ?_
        refine lv_iload hx hb dX0_jointsWithoutLacquer_20 (lv_at hl 4 rfl) ?_
        refine r_iald (F := dQ ds) hx hb hK hP 3 0 rfl rfl i (by omega) (by omega) (by decide) dX0_jointsWithoutLacquer_22 ?_
        have b_22 := okD_Q hok i (by omega)
        refine lv_istore (lv' := [(5, .int (iv (dQ ds i))), (0, .ref (a 0)), (1, .int (iv x)), (2, .ref (a 3)), (3, .int (iv 6)), (4, .int (iv (i : Int)))]) hx hb dX0_jointsWithoutLacquer_23 hl (by decide) rfl (fun ls hl => ?_)
        refine lv_iload hx hb dX0_jointsWithoutLacquer_25 (lv_at hl 0 rfl) ?_
        refine r_if_ne hx hb 33 dX0_jointsWithoutLacquer_27 (by decide) (by omega) (fun c_27 => ?_) (fun c_27 => ?_)
        · skip
          refine r_iinc (k := 5) (lv' := [(4, .int (iv ((i : Int) + 1))), (5, .int (iv (dQ ds i))), (0, .ref (a 0)), (1, .int (iv x)), (2, .ref (a 3)), (3, .int (iv 6))]) hx hb dX0_jointsWithoutLacquer_33 hl rfl (by decide) rfl (fun ls hl => ?_)
          refine r_goto hx hb 13 dX0_jointsWithoutLacquer_36 (by decide) ?_
          exact ih13 (i + 1) x (by omega) (by omega) (ex ▸ cnt_no (decide_eq_false (by omega))) _ _ hP hD hS _ (lv_sub hl [2, 3, 4, 5, 0] rfl)
        · skip
          refine r_iinc (k := 2) (lv' := [(1, .int (iv (x + 1))), (5, .int (iv (dQ ds i))), (0, .ref (a 0)), (2, .ref (a 3)), (3, .int (iv 6)), (4, .int (iv (i : Int)))]) hx hb dX0_jointsWithoutLacquer_30 hl rfl (by decide) rfl (fun ls hl => ?_)
          refine r_iinc (k := 5) (lv' := [(4, .int (iv ((i : Int) + 1))), (1, .int (iv (x + 1))), (5, .int (iv (dQ ds i))), (0, .ref (a 0)), (2, .ref (a 3)), (3, .int (iv 6))]) hx hb dX0_jointsWithoutLacquer_33 hl rfl (by decide) rfl (fun ls hl => ?_)
          refine r_goto hx hb 13 dX0_jointsWithoutLacquer_36 (by decide) ?_
          exact ih13 (i + 1) (x + 1) (by omega) (by omega) (ex ▸ cnt_yes (decide_eq_true c_27)) _ _ hP hD hS _ (lv_sub hl [3, 1, 4, 5, 0] rfl)
  exact K13 7 0 0 (by omega) (by omega) rfl _ _ hP hD hS _ (lv_sub hl [4, 3, 2, 1, 0] rfl)
