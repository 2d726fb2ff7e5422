set_option maxHeartbeats 4000000 in
set_option maxRecDepth 100000 in
theorem c_L_make (l : Launch) (D : va_G) (G : Nat → ClassId) (hl0 : l.stackTraces = false) (a ar az : Nat → Nat) (ad ap : AD) (ts : DS) (cs : CS) (hok : okC cs) (w : Nat) (F : Nat → Int64)  : MtH l yL_make wsL_make 8 185 6 31 D (TY G) [.ref (a 0), .ref w] (wOut G w F ++ wC G a ar az ad ap ts cs) (qI D (PH G a ar az w (opMake cs))) := by
  refine MtH.mk (cc := cL_make) (maxL := 3) (ret := some .int) (hh := [(0, 8, 11, 13)]) (by decide) rfl (Nat.le_of_ble_eq_true rfl) ?_
  intro p e s m below meth c A ls hx hb hr hlk hml hown hts hK hA hT hN hP hD hS hl htab
  replace hown : s.vm.findClass RL = some m.cls := hown
  have hl : lv_has ls 3 [(0, .ref (a 0)), (1, .ref w)] := hl
  skip
  have hP : va_P D vwCl ([(w, .inl (G 5, 1, .inr (.inl (F))))] ++ wC G a ar az ad ap ts cs) s.heap := hP
  have hD : va_D A ([(w, .inl (G 5, 1, .inr (.inl (F))))] ++ wC G a ar az ad ap ts cs) := hD
  refine lv_aload_n hx hb dL_make_0 rfl (lv_at hl 1 rfl) ?_
  refine r_const hx hb dL_make_1 ?_
  refine lv_aload_n hx hb dL_make_2 rfl (lv_at hl 0 rfl) ?_
  have hp : List.Perm ([(w, .inl (G 5, 1, .inr (.inl (F))))] ++ wC G a ar az ad ap ts cs) (wC G a ar az ad ap ts cs ++ [(w, .inl (G 5, 1, .inr (.inl (F))))]) := List.perm_append_comm
  refine kx_int (g_VX (As := []) (rest := [.int (iv 0), .ref w]) (q0 := 1) (ci := 2) ⟨hx, hb, hml, hown, hts⟩ (c_X2_make l D G hl0 a ar az ad ap ts cs hok  ) (cwV 0 hts gL_make_X2_make rfl rfl rfl (by decide +kernel) ⟨Nat.le_of_ble_eq_true rfl, Nat.le_of_ble_eq_true rfl⟩) hK hT hA hP hD hS hp rfl rfl rfl rfl hl.1 rfl (Nat.le_of_ble_eq_true rfl) dL_make_3 ⟨by decide, by decide⟩) hP hD hS hA hp (fun E ce q9 H locs hpx hP hD hS h1 h2 h3 => ?_) (fun v u H locs hw hP hD hS => ?_)
  · obtain ⟨q8, hq8, rfl, ho1, ho2⟩ := hpx
    simp only [List.mem_cons, List.not_mem_nil, or_false] at hq8
    rcases hq8 with rfl
    · skip
      refine vx_catch (own := RL) (name := xI) hown [] ⟨0, 8, 11, 13⟩ [] (htab.trans rfl) (fun z hz => nomatch hz) (by decide) (by decide) (hts (.classLink RL 13 "java/lang/IllegalStateException") (by decide +kernel)) (va_Nw.use rfl (hT.2.2.2.1 (xI, xI) (by decide))) h1 h2 h3 ?_
      refine lv_astore_n (lv' := [(2, .ref q9), (0, .ref (a 0)), (1, .ref w)]) hx hb dL_make_11 rfl hl (by decide) rfl (fun ls hl => ?_)
      refine r_const hx hb dL_make_12 ?_
      exact e_int hx hb hr hlk dL_make_13 hS hP hD (by decide) (by decide) (PH_x ho1 ho2 (by decide))
  · obtain ⟨ho, rfl, ad2, ap2, ts2, rfl⟩ := hw
    have hP : va_P D vwCl ([(w, .inl (G 5, 1, .inr (.inl (F))))] ++ wC G a ar az ad2 ap2 ts2 (opMake cs).2.2) H := wP_perm hP List.perm_append_comm
    have hD : va_D A ([(w, .inl (G 5, 1, .inr (.inl (F))))] ++ wC G a ar az ad2 ap2 ts2 (opMake cs).2.2) := wD_perm hD List.perm_append_comm
    refine lv_i2l (v := ((iv ((opMake cs).2.1))).toInt64) hx hb dL_make_6 rfl ?_
    refine r_last0 (F := F) hx hb hK hP hD hS 0 rfl dL_make_7 (fun H locs hP hD hS => ?_)
    have hP : va_P D vwCl ([(w, .inl (G 5, 1, .inr (.inl (vp_updL F 0 (((iv ((opMake cs).2.1))).toInt64)))))] ++ wC G a ar az ad2 ap2 ts2 (opMake cs).2.2) H := hP
    have hD : va_D A ([(w, .inl (G 5, 1, .inr (.inl (vp_updL F 0 (((iv ((opMake cs).2.1))).toInt64)))))] ++ wC G a ar az ad2 ap2 ts2 (opMake cs).2.2) := hD
    refine r_goto hx hb 14 dL_make_8 (by decide) ?_
    refine r_const hx hb dL_make_14 ?_
    exact e_int hx hb hr hlk dL_make_15 hS hP hD (by decide) (by decide) (PH_v ho rfl)
set_option maxHeartbeats 4000000 in
set_option maxRecDepth 100000 in
theorem c_L_pose (l : Launch) (D : va_G) (G : Nat → ClassId) (hl0 : l.stackTraces = false) (a ar az : Nat → Nat) (ad ap : AD) (ts : DS) (cs : CS) (hok : okC cs) (w : Nat) (F : Nat → Int64) (x0 x1 x2 x3 x4 x5 : Int) (rx0 : -2147483648 ≤ x0 ∧ x0 < 2147483648) (rx1 : -2147483648 ≤ x1 ∧ x1 < 2147483648) (rx2 : -2147483648 ≤ x2 ∧ x2 < 2147483648) (rx3 : -2147483648 ≤ x3 ∧ x3 < 2147483648) (rx4 : -2147483648 ≤ x4 ∧ x4 < 2147483648) (rx5 : -2147483648 ≤ x5 ∧ x5 < 2147483648)  : MtH l yL_pose wsL_pose 8 185 3 13 D (TY G) [.ref (a 0), .int (iv x0), .int (iv x1), .int (iv x2), .int (iv x3), .int (iv x4), .int (iv x5), .ref w] (wOut G w F ++ wC G a ar az ad ap ts cs) (qI D (PH G a ar az w (opPose cs x0 x1 x2 x3 x4 x5))) := by
  refine MtH.mk (cc := cL_pose) (maxL := 9) (ret := some .int) (hh := [(0, 18, 21, 19), (0, 18, 25, 13)]) (by decide) rfl (Nat.le_of_ble_eq_true rfl) ?_
  intro p e s m below meth c A ls hx hb hr hlk hml hown hts hK hA hT hN hP hD hS hl htab
  replace hown : s.vm.findClass RL = some m.cls := hown
  have hl : lv_has ls 9 [(0, .ref (a 0)), (1, .int (iv x0)), (2, .int (iv x1)), (3, .int (iv x2)), (4, .int (iv x3)), (5, .int (iv x4)), (6, .int (iv x5)), (7, .ref w)] := hl
  skip
  have hP : va_P D vwCl ([(w, .inl (G 5, 1, .inr (.inl (F))))] ++ wC G a ar az ad ap ts cs) s.heap := hP
  have hD : va_D A ([(w, .inl (G 5, 1, .inr (.inl (F))))] ++ wC G a ar az ad ap ts cs) := hD
  refine lv_aload hx hb dL_pose_0 (lv_at hl 7 rfl) ?_
  refine r_const hx hb dL_pose_2 ?_
  refine lv_aload_n hx hb dL_pose_3 rfl (lv_at hl 0 rfl) ?_
  refine lv_iload_n hx hb dL_pose_4 rfl (lv_at hl 1 rfl) ?_
  refine lv_iload_n hx hb dL_pose_5 rfl (lv_at hl 2 rfl) ?_
  refine lv_iload_n hx hb dL_pose_6 rfl (lv_at hl 3 rfl) ?_
  refine lv_iload hx hb dL_pose_7 (lv_at hl 4 rfl) ?_
  refine lv_iload hx hb dL_pose_9 (lv_at hl 5 rfl) ?_
  refine lv_iload hx hb dL_pose_11 (lv_at hl 6 rfl) ?_
  have hp : List.Perm ([(w, .inl (G 5, 1, .inr (.inl (F))))] ++ wC G a ar az ad ap ts cs) (wC G a ar az ad ap ts cs ++ [(w, .inl (G 5, 1, .inr (.inl (F))))]) := List.perm_append_comm
  refine kx_int (g_VX (As := [.int (iv x0), .int (iv x1), .int (iv x2), .int (iv x3), .int (iv x4), .int (iv x5)]) (rest := [.int (iv 0), .ref w]) (q0 := 1) (ci := 2) ⟨hx, hb, hml, hown, hts⟩ (c_X2_pose l D G hl0 a ar az ad ap ts cs hok x0 x1 x2 x3 x4 x5 rx0 rx1 rx2 rx3 rx4 rx5) (cwV 6 hts gL_pose_X2_pose rfl rfl rfl (by decide +kernel) ⟨Nat.le_of_ble_eq_true rfl, Nat.le_of_ble_eq_true rfl⟩) hK hT hA hP hD hS hp rfl rfl rfl rfl hl.1 rfl (Nat.le_of_ble_eq_true rfl) dL_pose_13 ⟨by decide, by decide⟩) hP hD hS hA hp (fun E ce q9 H locs hpx hP hD hS h1 h2 h3 => ?_) (fun v u H locs hw hP hD hS => ?_)
  · obtain ⟨q8, hq8, rfl, ho1, ho2⟩ := hpx
    simp only [List.mem_cons, List.not_mem_nil, or_false] at hq8
    rcases hq8 with rfl | rfl
    · skip
      refine vx_catch (own := RL) (name := xA) hown [] ⟨0, 18, 21, 19⟩ [⟨0, 18, 25, 13⟩] (htab.trans rfl) (fun z hz => nomatch hz) (by decide) (by decide) (hts (.classLink RL 19 "java/lang/IllegalArgumentException") (by decide +kernel)) (va_Nw.use rfl (hT.2.2.2.1 (xA, xA) (by decide))) h1 h2 h3 ?_
      refine lv_astore (lv' := [(8, .ref q9), (0, .ref (a 0)), (1, .int (iv x0)), (2, .int (iv x1)), (3, .int (iv x2)), (4, .int (iv x3)), (5, .int (iv x4)), (6, .int (iv x5)), (7, .ref w)]) hx hb dL_pose_21 hl (by decide) rfl (fun ls hl => ?_)
      refine r_const hx hb dL_pose_23 ?_
      exact e_int hx hb hr hlk dL_pose_24 hS hP hD (by decide) (by decide) (PH_x ho1 ho2 (by decide))
    · skip
      refine vx_catch (own := RL) (name := xI) hown [⟨0, 18, 21, 19⟩] ⟨0, 18, 25, 13⟩ [] (htab.trans rfl) (fun z hz => by simp only [List.mem_cons, List.not_mem_nil, or_false] at hz; subst hz; exact Or.inr ⟨by decide, xA, hts (.classLink RL 19 "java/lang/IllegalArgumentException") (by decide +kernel), hN (xI, xA) (by decide)⟩) (by decide) (by decide) (hts (.classLink RL 13 "java/lang/IllegalStateException") (by decide +kernel)) (va_Nw.use rfl (hT.2.2.2.1 (xI, xI) (by decide))) h1 h2 h3 ?_
      refine lv_astore (lv' := [(8, .ref q9), (0, .ref (a 0)), (1, .int (iv x0)), (2, .int (iv x1)), (3, .int (iv x2)), (4, .int (iv x3)), (5, .int (iv x4)), (6, .int (iv x5)), (7, .ref w)]) hx hb dL_pose_25 hl (by decide) rfl (fun ls hl => ?_)
      refine r_const hx hb dL_pose_27 ?_
      exact e_int hx hb hr hlk dL_pose_28 hS hP hD (by decide) (by decide) (PH_x ho1 ho2 (by decide))
  · obtain ⟨ho, rfl, ad2, ap2, ts2, rfl⟩ := hw
    have hP : va_P D vwCl ([(w, .inl (G 5, 1, .inr (.inl (F))))] ++ wC G a ar az ad2 ap2 ts2 (opPose cs x0 x1 x2 x3 x4 x5).2.2) H := wP_perm hP List.perm_append_comm
    have hD : va_D A ([(w, .inl (G 5, 1, .inr (.inl (F))))] ++ wC G a ar az ad2 ap2 ts2 (opPose cs x0 x1 x2 x3 x4 x5).2.2) := wD_perm hD List.perm_append_comm
    refine lv_i2l (v := ((iv ((opPose cs x0 x1 x2 x3 x4 x5).2.1))).toInt64) hx hb dL_pose_16 rfl ?_
    refine r_last0 (F := F) hx hb hK hP hD hS 0 rfl dL_pose_17 (fun H locs hP hD hS => ?_)
    have hP : va_P D vwCl ([(w, .inl (G 5, 1, .inr (.inl (vp_updL F 0 (((iv ((opPose cs x0 x1 x2 x3 x4 x5).2.1))).toInt64)))))] ++ wC G a ar az ad2 ap2 ts2 (opPose cs x0 x1 x2 x3 x4 x5).2.2) H := hP
    have hD : va_D A ([(w, .inl (G 5, 1, .inr (.inl (vp_updL F 0 (((iv ((opPose cs x0 x1 x2 x3 x4 x5).2.1))).toInt64)))))] ++ wC G a ar az ad2 ap2 ts2 (opPose cs x0 x1 x2 x3 x4 x5).2.2) := hD
    refine r_goto hx hb 29 dL_pose_18 (by decide) ?_
    refine r_const hx hb dL_pose_29 ?_
    exact e_int hx hb hr hlk dL_pose_30 hS hP hD (by decide) (by decide) (PH_v ho rfl)
set_option maxHeartbeats 4000000 in
set_option maxRecDepth 100000 in
theorem c_L_take (l : Launch) (D : va_G) (G : Nat → ClassId) (hl0 : l.stackTraces = false) (a ar az : Nat → Nat) (ad ap : AD) (ts : DS) (cs : CS) (hok : okC cs) (w : Nat) (F : Nat → Int64) (xd xq : Int) (rxd : -2147483648 ≤ xd ∧ xd < 2147483648) (rxq : -2147483648 ≤ xq ∧ xq < 2147483648)  : MtH l yL_take wsL_take 8 185 3 18 D (TY G) [.ref (a 0), .int (iv xd), .int (iv xq), .ref w] (wOut G w F ++ wC G a ar az ad ap ts cs) (qI D (PH G a ar az w (opTake cs xd xq))) := by
  refine MtH.mk (cc := cL_take) (maxL := 5) (ret := some .int) (hh := [(0, 10, 13, 25), (0, 10, 17, 13)]) (by decide) rfl (Nat.le_of_ble_eq_true rfl) ?_
  intro p e s m below meth c A ls hx hb hr hlk hml hown hts hK hA hT hN hP hD hS hl htab
  replace hown : s.vm.findClass RL = some m.cls := hown
  have hl : lv_has ls 5 [(0, .ref (a 0)), (1, .int (iv xd)), (2, .int (iv xq)), (3, .ref w)] := hl
  skip
  have hP : va_P D vwCl ([(w, .inl (G 5, 1, .inr (.inl (F))))] ++ wC G a ar az ad ap ts cs) s.heap := hP
  have hD : va_D A ([(w, .inl (G 5, 1, .inr (.inl (F))))] ++ wC G a ar az ad ap ts cs) := hD
  refine lv_aload_n hx hb dL_take_0 rfl (lv_at hl 3 rfl) ?_
  refine r_const hx hb dL_take_1 ?_
  refine lv_aload_n hx hb dL_take_2 rfl (lv_at hl 0 rfl) ?_
  refine lv_iload_n hx hb dL_take_3 rfl (lv_at hl 1 rfl) ?_
  refine lv_iload_n hx hb dL_take_4 rfl (lv_at hl 2 rfl) ?_
  have hp : List.Perm ([(w, .inl (G 5, 1, .inr (.inl (F))))] ++ wC G a ar az ad ap ts cs) (wC G a ar az ad ap ts cs ++ [(w, .inl (G 5, 1, .inr (.inl (F))))]) := List.perm_append_comm
  refine kx_int (g_VX (As := [.int (iv xd), .int (iv xq)]) (rest := [.int (iv 0), .ref w]) (q0 := 1) (ci := 2) ⟨hx, hb, hml, hown, hts⟩ (c_X2_take l D G hl0 a ar az ad ap ts cs hok xd xq rxd rxq) (cwV 2 hts gL_take_X2_take rfl rfl rfl (by decide +kernel) ⟨Nat.le_of_ble_eq_true rfl, Nat.le_of_ble_eq_true rfl⟩) hK hT hA hP hD hS hp rfl rfl rfl rfl hl.1 rfl (Nat.le_of_ble_eq_true rfl) dL_take_5 ⟨by decide, by decide⟩) hP hD hS hA hp (fun E ce q9 H locs hpx hP hD hS h1 h2 h3 => ?_) (fun v u H locs hw hP hD hS => ?_)
  · obtain ⟨q8, hq8, rfl, ho1, ho2⟩ := hpx
    simp only [List.mem_cons, List.not_mem_nil, or_false] at hq8
    rcases hq8 with rfl | rfl
    · skip
      refine vx_catch (own := RL) (name := xB) hown [] ⟨0, 10, 13, 25⟩ [⟨0, 10, 17, 13⟩] (htab.trans rfl) (fun z hz => nomatch hz) (by decide) (by decide) (hts (.classLink RL 25 "java/lang/IndexOutOfBoundsException") (by decide +kernel)) (va_Nw.use rfl (hT.2.2.2.1 (xB, xB) (by decide))) h1 h2 h3 ?_
      refine lv_astore (lv' := [(4, .ref q9), (0, .ref (a 0)), (1, .int (iv xd)), (2, .int (iv xq)), (3, .ref w)]) hx hb dL_take_13 hl (by decide) rfl (fun ls hl => ?_)
      refine r_const hx hb dL_take_15 ?_
      exact e_int hx hb hr hlk dL_take_16 hS hP hD (by decide) (by decide) (PH_x ho1 ho2 (by decide))
    · skip
      refine vx_catch (own := RL) (name := xI) hown [⟨0, 10, 13, 25⟩] ⟨0, 10, 17, 13⟩ [] (htab.trans rfl) (fun z hz => by simp only [List.mem_cons, List.not_mem_nil, or_false] at hz; subst hz; exact Or.inr ⟨by decide, xB, hts (.classLink RL 25 "java/lang/IndexOutOfBoundsException") (by decide +kernel), hN (xI, xB) (by decide)⟩) (by decide) (by decide) (hts (.classLink RL 13 "java/lang/IllegalStateException") (by decide +kernel)) (va_Nw.use rfl (hT.2.2.2.1 (xI, xI) (by decide))) h1 h2 h3 ?_
      refine lv_astore (lv' := [(4, .ref q9), (0, .ref (a 0)), (1, .int (iv xd)), (2, .int (iv xq)), (3, .ref w)]) hx hb dL_take_17 hl (by decide) rfl (fun ls hl => ?_)
      refine r_const hx hb dL_take_19 ?_
      exact e_int hx hb hr hlk dL_take_20 hS hP hD (by decide) (by decide) (PH_x ho1 ho2 (by decide))
  · obtain ⟨ho, rfl, ad2, ap2, ts2, rfl⟩ := hw
    have hP : va_P D vwCl ([(w, .inl (G 5, 1, .inr (.inl (F))))] ++ wC G a ar az ad2 ap2 ts2 (opTake cs xd xq).2.2) H := wP_perm hP List.perm_append_comm
    have hD : va_D A ([(w, .inl (G 5, 1, .inr (.inl (F))))] ++ wC G a ar az ad2 ap2 ts2 (opTake cs xd xq).2.2) := wD_perm hD List.perm_append_comm
    refine lv_i2l (v := ((iv ((opTake cs xd xq).2.1))).toInt64) hx hb dL_take_8 rfl ?_
    refine r_last0 (F := F) hx hb hK hP hD hS 0 rfl dL_take_9 (fun H locs hP hD hS => ?_)
    have hP : va_P D vwCl ([(w, .inl (G 5, 1, .inr (.inl (vp_updL F 0 (((iv ((opTake cs xd xq).2.1))).toInt64)))))] ++ wC G a ar az ad2 ap2 ts2 (opTake cs xd xq).2.2) H := hP
    have hD : va_D A ([(w, .inl (G 5, 1, .inr (.inl (vp_updL F 0 (((iv ((opTake cs xd xq).2.1))).toInt64)))))] ++ wC G a ar az ad2 ap2 ts2 (opTake cs xd xq).2.2) := hD
    refine r_goto hx hb 21 dL_take_10 (by decide) ?_
    refine r_const hx hb dL_take_21 ?_
    exact e_int hx hb hr hlk dL_take_22 hS hP hD (by decide) (by decide) (PH_v ho rfl)
set_option maxHeartbeats 4000000 in
set_option maxRecDepth 100000 in
theorem c_L_blink (l : Launch) (D : va_G) (G : Nat → ClassId) (hl0 : l.stackTraces = false) (a ar az : Nat → Nat) (ad ap : AD) (ts : DS) (cs : CS) (hok : okC cs) (w : Nat) (F : Nat → Int64) (xd xe : Int) (rxd : -2147483648 ≤ xd ∧ xd < 2147483648) (rxe : -2147483648 ≤ xe ∧ xe < 2147483648)  : MtH l yL_blink wsL_blink 8 185 2 12 D (TY G) [.ref (a 0), .int (iv xd), .int (iv xe), .ref w] (wOut G w F ++ wC G a ar az ad ap ts cs) (qI D (PH G a ar az w (opBlink cs xd xe))) := by
  refine MtH.mk (cc := cL_blink) (maxL := 5) (ret := some .int) (hh := [(0, 17, 20, 25), (0, 17, 24, 13)]) (by decide) rfl (Nat.le_of_ble_eq_true rfl) ?_
  intro p e s m below meth c A ls hx hb hr hlk hml hown hts hK hA hT hN hP hD hS hl htab
  replace hown : s.vm.findClass RL = some m.cls := hown
  have hl : lv_has ls 5 [(0, .ref (a 0)), (1, .int (iv xd)), (2, .int (iv xe)), (3, .ref w)] := hl
  skip
  have hP : va_P D vwCl ([(w, .inl (G 5, 1, .inr (.inl (F))))] ++ wC G a ar az ad ap ts cs) s.heap := hP
  have hD : va_D A ([(w, .inl (G 5, 1, .inr (.inl (F))))] ++ wC G a ar az ad ap ts cs) := hD
  refine lv_aload_n hx hb dL_blink_0 rfl (lv_at hl 3 rfl) ?_
  refine r_const hx hb dL_blink_1 ?_
  refine lv_aload_n hx hb dL_blink_2 rfl (lv_at hl 0 rfl) ?_
  refine lv_iload_n hx hb dL_blink_3 rfl (lv_at hl 1 rfl) ?_
  refine lv_iload_n hx hb dL_blink_4 rfl (lv_at hl 2 rfl) ?_
  have hp : List.Perm ([(w, .inl (G 5, 1, .inr (.inl (F))))] ++ wC G a ar az ad ap ts cs) (wC G a ar az ad ap ts cs ++ [(w, .inl (G 5, 1, .inr (.inl (F))))]) := List.perm_append_comm
  refine kx_int (g_VX (As := [.int (iv xd), .int (iv xe)]) (rest := [.int (iv 0), .ref w]) (q0 := 1) (ci := 2) ⟨hx, hb, hml, hown, hts⟩ (c_X2_blink l D G hl0 a ar az ad ap ts cs hok xd xe rxd rxe) (cwV 2 hts gL_blink_X2_blink rfl rfl rfl (by decide +kernel) ⟨Nat.le_of_ble_eq_true rfl, Nat.le_of_ble_eq_true rfl⟩) hK hT hA hP hD hS hp rfl rfl rfl rfl hl.1 rfl (Nat.le_of_ble_eq_true rfl) dL_blink_5 ⟨by decide, by decide⟩) hP hD hS hA hp (fun E ce q9 H locs hpx hP hD hS h1 h2 h3 => ?_) (fun v u H locs hw hP hD hS => ?_)
  · obtain ⟨q8, hq8, rfl, ho1, ho2⟩ := hpx
    simp only [List.mem_cons, List.not_mem_nil, or_false] at hq8
    rcases hq8 with rfl | rfl
    · skip
      refine vx_catch (own := RL) (name := xB) hown [] ⟨0, 17, 20, 25⟩ [⟨0, 17, 24, 13⟩] (htab.trans rfl) (fun z hz => nomatch hz) (by decide) (by decide) (hts (.classLink RL 25 "java/lang/IndexOutOfBoundsException") (by decide +kernel)) (va_Nw.use rfl (hT.2.2.2.1 (xB, xB) (by decide))) h1 h2 h3 ?_
      refine lv_astore (lv' := [(4, .ref q9), (0, .ref (a 0)), (1, .int (iv xd)), (2, .int (iv xe)), (3, .ref w)]) hx hb dL_blink_20 hl (by decide) rfl (fun ls hl => ?_)
      refine r_const hx hb dL_blink_22 ?_
      exact e_int hx hb hr hlk dL_blink_23 hS hP hD (by decide) (by decide) (PH_x ho1 ho2 (by decide))
    · skip
      refine vx_catch (own := RL) (name := xI) hown [⟨0, 17, 20, 25⟩] ⟨0, 17, 24, 13⟩ [] (htab.trans rfl) (fun z hz => by simp only [List.mem_cons, List.not_mem_nil, or_false] at hz; subst hz; exact Or.inr ⟨by decide, xB, hts (.classLink RL 25 "java/lang/IndexOutOfBoundsException") (by decide +kernel), hN (xI, xB) (by decide)⟩) (by decide) (by decide) (hts (.classLink RL 13 "java/lang/IllegalStateException") (by decide +kernel)) (va_Nw.use rfl (hT.2.2.2.1 (xI, xI) (by decide))) h1 h2 h3 ?_
      refine lv_astore (lv' := [(4, .ref q9), (0, .ref (a 0)), (1, .int (iv xd)), (2, .int (iv xe)), (3, .ref w)]) hx hb dL_blink_24 hl (by decide) rfl (fun ls hl => ?_)
      refine r_const hx hb dL_blink_26 ?_
      exact e_int hx hb hr hlk dL_blink_27 hS hP hD (by decide) (by decide) (PH_x ho1 ho2 (by decide))
  · obtain ⟨ho, rfl, ad2, ap2, ts2, rfl⟩ := hw
    have hP : va_P D vwCl ([(w, .inl (G 5, 1, .inr (.inl (F))))] ++ wC G a ar az ad2 ap2 ts2 (opBlink cs xd xe).2.2) H := wP_perm hP List.perm_append_comm
    have hD : va_D A ([(w, .inl (G 5, 1, .inr (.inl (F))))] ++ wC G a ar az ad2 ap2 ts2 (opBlink cs xd xe).2.2) := wD_perm hD List.perm_append_comm
    have vb := v_blink hok xd xe
    refine r_if_eq hx hb 15 dL_blink_8 (by decide) (by omega) (fun c_8 => ?_) (fun c_8 => ?_)
    · skip
      refine lv_lconst (v := 0) hx hb dL_blink_15 (by decide) ?_
      refine r_last0 (F := F) hx hb hK hP hD hS 0 rfl dL_blink_16 (fun H locs hP hD hS => ?_)
      have hP : va_P D vwCl ([(w, .inl (G 5, 1, .inr (.inl (vp_updL F 0 0))))] ++ wC G a ar az ad2 ap2 ts2 (opBlink cs xd xe).2.2) H := hP
      have hD : va_D A ([(w, .inl (G 5, 1, .inr (.inl (vp_updL F 0 0))))] ++ wC G a ar az ad2 ap2 ts2 (opBlink cs xd xe).2.2) := hD
      refine r_goto hx hb 28 dL_blink_17 (by decide) ?_
      refine r_const hx hb dL_blink_28 ?_
      exact e_int hx hb hr hlk dL_blink_29 hS hP hD (by decide) (by decide) (PH_v ho (by rw [show (opBlink cs xd xe).2.1 = 0 by omega]; rfl))
    · skip
      refine lv_lconst (v := 1) hx hb dL_blink_11 (by decide) ?_
      refine r_goto hx hb 16 dL_blink_12 (by decide) ?_
      refine r_last0 (F := F) hx hb hK hP hD hS 0 rfl dL_blink_16 (fun H locs hP hD hS => ?_)
      have hP : va_P D vwCl ([(w, .inl (G 5, 1, .inr (.inl (vp_updL F 0 1))))] ++ wC G a ar az ad2 ap2 ts2 (opBlink cs xd xe).2.2) H := hP
      have hD : va_D A ([(w, .inl (G 5, 1, .inr (.inl (vp_updL F 0 1))))] ++ wC G a ar az ad2 ap2 ts2 (opBlink cs xd xe).2.2) := hD
      refine r_goto hx hb 28 dL_blink_17 (by decide) ?_
      refine r_const hx hb dL_blink_28 ?_
      exact e_int hx hb hr hlk dL_blink_29 hS hP hD (by decide) (by decide) (PH_v ho (by rw [show (opBlink cs xd xe).2.1 = 1 by omega]; rfl))
set_option maxHeartbeats 4000000 in
set_option maxRecDepth 100000 in
theorem c_L_dress (l : Launch) (D : va_G) (G : Nat → ClassId) (hl0 : l.stackTraces = false) (a ar az : Nat → Nat) (ad ap : AD) (ts : DS) (cs : CS) (hok : okC cs) (w : Nat) (F : Nat → Int64) (xd xw xq : Int) (rxd : -2147483648 ≤ xd ∧ xd < 2147483648) (rxw : -2147483648 ≤ xw ∧ xw < 2147483648) (rxq : -2147483648 ≤ xq ∧ xq < 2147483648)  : MtH l yL_dress wsL_dress 8 185 2 12 D (TY G) [.ref (a 0), .int (iv xd), .int (iv xw), .int (iv xq), .ref w] (wOut G w F ++ wC G a ar az ad ap ts cs) (qI D (PH G a ar az w (opDress cs xd xw xq))) := by
  refine MtH.mk (cc := cL_dress) (maxL := 6) (ret := some .int) (hh := [(0, 12, 15, 25), (0, 12, 19, 19), (0, 12, 23, 13)]) (by decide) rfl (Nat.le_of_ble_eq_true rfl) ?_
  intro p e s m below meth c A ls hx hb hr hlk hml hown hts hK hA hT hN hP hD hS hl htab
  replace hown : s.vm.findClass RL = some m.cls := hown
  have hl : lv_has ls 6 [(0, .ref (a 0)), (1, .int (iv xd)), (2, .int (iv xw)), (3, .int (iv xq)), (4, .ref w)] := hl
  skip
  have hP : va_P D vwCl ([(w, .inl (G 5, 1, .inr (.inl (F))))] ++ wC G a ar az ad ap ts cs) s.heap := hP
  have hD : va_D A ([(w, .inl (G 5, 1, .inr (.inl (F))))] ++ wC G a ar az ad ap ts cs) := hD
  refine lv_aload hx hb dL_dress_0 (lv_at hl 4 rfl) ?_
  refine r_const hx hb dL_dress_2 ?_
  refine lv_aload_n hx hb dL_dress_3 rfl (lv_at hl 0 rfl) ?_
  refine lv_iload_n hx hb dL_dress_4 rfl (lv_at hl 1 rfl) ?_
  refine lv_iload_n hx hb dL_dress_5 rfl (lv_at hl 2 rfl) ?_
  refine lv_iload_n hx hb dL_dress_6 rfl (lv_at hl 3 rfl) ?_
  have hp : List.Perm ([(w, .inl (G 5, 1, .inr (.inl (F))))] ++ wC G a ar az ad ap ts cs) (wC G a ar az ad ap ts cs ++ [(w, .inl (G 5, 1, .inr (.inl (F))))]) := List.perm_append_comm
  refine kx_int (g_VX (As := [.int (iv xd), .int (iv xw), .int (iv xq)]) (rest := [.int (iv 0), .ref w]) (q0 := 1) (ci := 2) ⟨hx, hb, hml, hown, hts⟩ (c_X2_dress l D G hl0 a ar az ad ap ts cs hok xd xw xq rxd rxw rxq) (cwV 3 hts gL_dress_X2_dress rfl rfl rfl (by decide +kernel) ⟨Nat.le_of_ble_eq_true rfl, Nat.le_of_ble_eq_true rfl⟩) hK hT hA hP hD hS hp rfl rfl rfl rfl hl.1 rfl (Nat.le_of_ble_eq_true rfl) dL_dress_7 ⟨by decide, by decide⟩) hP hD hS hA hp (fun E ce q9 H locs hpx hP hD hS h1 h2 h3 => ?_) (fun v u H locs hw hP hD hS => ?_)
  · obtain ⟨q8, hq8, rfl, ho1, ho2⟩ := hpx
    simp only [List.mem_cons, List.not_mem_nil, or_false] at hq8
    rcases hq8 with rfl | rfl | rfl
    · skip
      refine vx_catch (own := RL) (name := xB) hown [] ⟨0, 12, 15, 25⟩ [⟨0, 12, 19, 19⟩, ⟨0, 12, 23, 13⟩] (htab.trans rfl) (fun z hz => nomatch hz) (by decide) (by decide) (hts (.classLink RL 25 "java/lang/IndexOutOfBoundsException") (by decide +kernel)) (va_Nw.use rfl (hT.2.2.2.1 (xB, xB) (by decide))) h1 h2 h3 ?_
      refine lv_astore (lv' := [(5, .ref q9), (0, .ref (a 0)), (1, .int (iv xd)), (2, .int (iv xw)), (3, .int (iv xq)), (4, .ref w)]) hx hb dL_dress_15 hl (by decide) rfl (fun ls hl => ?_)
      refine r_const hx hb dL_dress_17 ?_
      exact e_int hx hb hr hlk dL_dress_18 hS hP hD (by decide) (by decide) (PH_x ho1 ho2 (by decide))
    · skip
      refine vx_catch (own := RL) (name := xA) hown [⟨0, 12, 15, 25⟩] ⟨0, 12, 19, 19⟩ [⟨0, 12, 23, 13⟩] (htab.trans rfl) (fun z hz => by simp only [List.mem_cons, List.not_mem_nil, or_false] at hz; subst hz; exact Or.inr ⟨by decide, xB, hts (.classLink RL 25 "java/lang/IndexOutOfBoundsException") (by decide +kernel), hN (xA, xB) (by decide)⟩) (by decide) (by decide) (hts (.classLink RL 19 "java/lang/IllegalArgumentException") (by decide +kernel)) (va_Nw.use rfl (hT.2.2.2.1 (xA, xA) (by decide))) h1 h2 h3 ?_
      refine lv_astore (lv' := [(5, .ref q9), (0, .ref (a 0)), (1, .int (iv xd)), (2, .int (iv xw)), (3, .int (iv xq)), (4, .ref w)]) hx hb dL_dress_19 hl (by decide) rfl (fun ls hl => ?_)
      refine r_const hx hb dL_dress_21 ?_
      exact e_int hx hb hr hlk dL_dress_22 hS hP hD (by decide) (by decide) (PH_x ho1 ho2 (by decide))
    · skip
      refine vx_catch (own := RL) (name := xI) hown [⟨0, 12, 15, 25⟩, ⟨0, 12, 19, 19⟩] ⟨0, 12, 23, 13⟩ [] (htab.trans rfl) (fun z hz => by simp only [List.mem_cons, List.not_mem_nil, or_false] at hz; rcases hz with rfl | rfl <;> first | exact Or.inr ⟨by decide, xB, hts (.classLink RL 25 "java/lang/IndexOutOfBoundsException") (by decide +kernel), hN (xI, xB) (by decide)⟩ | exact Or.inr ⟨by decide, xA, hts (.classLink RL 19 "java/lang/IllegalArgumentException") (by decide +kernel), hN (xI, xA) (by decide)⟩) (by decide) (by decide) (hts (.classLink RL 13 "java/lang/IllegalStateException") (by decide +kernel)) (va_Nw.use rfl (hT.2.2.2.1 (xI, xI) (by decide))) h1 h2 h3 ?_
      refine lv_astore (lv' := [(5, .ref q9), (0, .ref (a 0)), (1, .int (iv xd)), (2, .int (iv xw)), (3, .int (iv xq)), (4, .ref w)]) hx hb dL_dress_23 hl (by decide) rfl (fun ls hl => ?_)
      refine r_const hx hb dL_dress_25 ?_
      exact e_int hx hb hr hlk dL_dress_26 hS hP hD (by decide) (by decide) (PH_x ho1 ho2 (by decide))
  · obtain ⟨ho, rfl, ad2, ap2, ts2, rfl⟩ := hw
    have hP : va_P D vwCl ([(w, .inl (G 5, 1, .inr (.inl (F))))] ++ wC G a ar az ad2 ap2 ts2 (opDress cs xd xw xq).2.2) H := wP_perm hP List.perm_append_comm
    have hD : va_D A ([(w, .inl (G 5, 1, .inr (.inl (F))))] ++ wC G a ar az ad2 ap2 ts2 (opDress cs xd xw xq).2.2) := wD_perm hD List.perm_append_comm
    refine lv_i2l (v := ((iv ((opDress cs xd xw xq).2.1))).toInt64) hx hb dL_dress_10 rfl ?_
    refine r_last0 (F := F) hx hb hK hP hD hS 0 rfl dL_dress_11 (fun H locs hP hD hS => ?_)
    have hP : va_P D vwCl ([(w, .inl (G 5, 1, .inr (.inl (vp_updL F 0 (((iv ((opDress cs xd xw xq).2.1))).toInt64)))))] ++ wC G a ar az ad2 ap2 ts2 (opDress cs xd xw xq).2.2) H := hP
    have hD : va_D A ([(w, .inl (G 5, 1, .inr (.inl (vp_updL F 0 (((iv ((opDress cs xd xw xq).2.1))).toInt64)))))] ++ wC G a ar az ad2 ap2 ts2 (opDress cs xd xw xq).2.2) := hD
    refine r_goto hx hb 27 dL_dress_12 (by decide) ?_
    refine r_const hx hb dL_dress_27 ?_
    exact e_int hx hb hr hlk dL_dress_28 hS hP hD (by decide) (by decide) (PH_v ho rfl)
set_option maxHeartbeats 4000000 in
set_option maxRecDepth 100000 in
theorem c_L_bring (l : Launch) (D : va_G) (G : Nat → ClassId) (hl0 : l.stackTraces = false) (a ar az : Nat → Nat) (ad ap : AD) (ts : DS) (cs : CS) (hok : okC cs) (w : Nat) (F : Nat → Int64) (xk xm : Int) (rxk : -2147483648 ≤ xk ∧ xk < 2147483648) (rxm : -2147483648 ≤ xm ∧ xm < 2147483648)  : MtH l yL_bring wsL_bring 7 135 1 6 D (TY G) [.ref (a 0), .int (iv xk), .int (iv xm), .ref w] (wOut G w F ++ wC G a ar az ad ap ts cs) (qI D (PH G a ar az w (opBring cs xk xm))) := by
  refine MtH.mk (cc := cL_bring) (maxL := 5) (ret := some .int) (hh := [(0, 10, 13, 19)]) (by decide) rfl (Nat.le_of_ble_eq_true rfl) ?_
  intro p e s m below meth c A ls hx hb hr hlk hml hown hts hK hA hT hN hP hD hS hl htab
  replace hown : s.vm.findClass RL = some m.cls := hown
  have hl : lv_has ls 5 [(0, .ref (a 0)), (1, .int (iv xk)), (2, .int (iv xm)), (3, .ref w)] := hl
  skip
  have hP : va_P D vwCl ([(w, .inl (G 5, 1, .inr (.inl (F))))] ++ wC G a ar az ad ap ts cs) s.heap := hP
  have hD : va_D A ([(w, .inl (G 5, 1, .inr (.inl (F))))] ++ wC G a ar az ad ap ts cs) := hD
  refine lv_aload_n hx hb dL_bring_0 rfl (lv_at hl 3 rfl) ?_
  refine r_const hx hb dL_bring_1 ?_
  refine lv_aload_n hx hb dL_bring_2 rfl (lv_at hl 0 rfl) ?_
  refine lv_iload_n hx hb dL_bring_3 rfl (lv_at hl 1 rfl) ?_
  refine lv_iload_n hx hb dL_bring_4 rfl (lv_at hl 2 rfl) ?_
  have hp : List.Perm ([(w, .inl (G 5, 1, .inr (.inl (F))))] ++ wC G a ar az ad ap ts cs) (wC G a ar az ad ap ts cs ++ [(w, .inl (G 5, 1, .inr (.inl (F))))]) := List.perm_append_comm
  refine kx_int (g_VX (As := [.int (iv xk), .int (iv xm)]) (rest := [.int (iv 0), .ref w]) (q0 := 1) (ci := 2) ⟨hx, hb, hml, hown, hts⟩ (c_X2_bring l D G hl0 a ar az ad ap ts cs hok xk xm rxk rxm) (cwV 2 hts gL_bring_X2_bring rfl rfl rfl (by decide +kernel) ⟨Nat.le_of_ble_eq_true rfl, Nat.le_of_ble_eq_true rfl⟩) hK hT hA hP hD hS hp rfl rfl rfl rfl hl.1 rfl (Nat.le_of_ble_eq_true rfl) dL_bring_5 ⟨by decide, by decide⟩) hP hD hS hA hp (fun E ce q9 H locs hpx hP hD hS h1 h2 h3 => ?_) (fun v u H locs hw hP hD hS => ?_)
  · obtain ⟨q8, hq8, rfl, ho1, ho2⟩ := hpx
    simp only [List.mem_cons, List.not_mem_nil, or_false] at hq8
    rcases hq8 with rfl
    · skip
      refine vx_catch (own := RL) (name := xA) hown [] ⟨0, 10, 13, 19⟩ [] (htab.trans rfl) (fun z hz => nomatch hz) (by decide) (by decide) (hts (.classLink RL 19 "java/lang/IllegalArgumentException") (by decide +kernel)) (va_Nw.use rfl (hT.2.2.2.1 (xA, xA) (by decide))) h1 h2 h3 ?_
      refine lv_astore (lv' := [(4, .ref q9), (0, .ref (a 0)), (1, .int (iv xk)), (2, .int (iv xm)), (3, .ref w)]) hx hb dL_bring_13 hl (by decide) rfl (fun ls hl => ?_)
      refine r_const hx hb dL_bring_15 ?_
      exact e_int hx hb hr hlk dL_bring_16 hS hP hD (by decide) (by decide) (PH_x ho1 ho2 (by decide))
  · obtain ⟨ho, rfl, ad2, ap2, ts2, rfl⟩ := hw
    have hP : va_P D vwCl ([(w, .inl (G 5, 1, .inr (.inl (F))))] ++ wC G a ar az ad2 ap2 ts2 (opBring cs xk xm).2.2) H := wP_perm hP List.perm_append_comm
    have hD : va_D A ([(w, .inl (G 5, 1, .inr (.inl (F))))] ++ wC G a ar az ad2 ap2 ts2 (opBring cs xk xm).2.2) := wD_perm hD List.perm_append_comm
    refine lv_i2l (v := ((iv ((opBring cs xk xm).2.1))).toInt64) hx hb dL_bring_8 rfl ?_
    refine r_last0 (F := F) hx hb hK hP hD hS 0 rfl dL_bring_9 (fun H locs hP hD hS => ?_)
    have hP : va_P D vwCl ([(w, .inl (G 5, 1, .inr (.inl (vp_updL F 0 (((iv ((opBring cs xk xm).2.1))).toInt64)))))] ++ wC G a ar az ad2 ap2 ts2 (opBring cs xk xm).2.2) H := hP
    have hD : va_D A ([(w, .inl (G 5, 1, .inr (.inl (vp_updL F 0 (((iv ((opBring cs xk xm).2.1))).toInt64)))))] ++ wC G a ar az ad2 ap2 ts2 (opBring cs xk xm).2.2) := hD
    refine r_goto hx hb 17 dL_bring_10 (by decide) ?_
    refine r_const hx hb dL_bring_17 ?_
    exact e_int hx hb hr hlk dL_bring_18 hS hP hD (by decide) (by decide) (PH_v ho rfl)
set_option maxHeartbeats 4000000 in
set_option maxRecDepth 100000 in
theorem c_L_setMoths (l : Launch) (D : va_G) (G : Nat → ClassId) (hl0 : l.stackTraces = false) (a ar az : Nat → Nat) (ad ap : AD) (ts : DS) (cs : CS) (hok : okC cs) (w : Nat) (F : Nat → Int64) (xm : Int) (rxm : -2147483648 ≤ xm ∧ xm < 2147483648)  : MtH l yL_setMoths wsL_setMoths 7 135 1 6 D (TY G) [.ref (a 0), .int (iv xm), .ref w] (wOut G w F ++ wC G a ar az ad ap ts cs) (qI D (PH G a ar az w (opMoths cs xm))) := by
  refine MtH.mk (cc := cL_setMoths) (maxL := 4) (ret := some .int) (hh := [(0, 9, 12, 19)]) (by decide) rfl (Nat.le_of_ble_eq_true rfl) ?_
  intro p e s m below meth c A ls hx hb hr hlk hml hown hts hK hA hT hN hP hD hS hl htab
  replace hown : s.vm.findClass RL = some m.cls := hown
  have hl : lv_has ls 4 [(0, .ref (a 0)), (1, .int (iv xm)), (2, .ref w)] := hl
  skip
  have hP : va_P D vwCl ([(w, .inl (G 5, 1, .inr (.inl (F))))] ++ wC G a ar az ad ap ts cs) s.heap := hP
  have hD : va_D A ([(w, .inl (G 5, 1, .inr (.inl (F))))] ++ wC G a ar az ad ap ts cs) := hD
  refine lv_aload_n hx hb dL_setMoths_0 rfl (lv_at hl 2 rfl) ?_
  refine r_const hx hb dL_setMoths_1 ?_
  refine lv_aload_n hx hb dL_setMoths_2 rfl (lv_at hl 0 rfl) ?_
  refine lv_iload_n hx hb dL_setMoths_3 rfl (lv_at hl 1 rfl) ?_
  have hp : List.Perm ([(w, .inl (G 5, 1, .inr (.inl (F))))] ++ wC G a ar az ad ap ts cs) (wC G a ar az ad ap ts cs ++ [(w, .inl (G 5, 1, .inr (.inl (F))))]) := List.perm_append_comm
  refine kx_int (g_VX (As := [.int (iv xm)]) (rest := [.int (iv 0), .ref w]) (q0 := 1) (ci := 2) ⟨hx, hb, hml, hown, hts⟩ (c_X2_setMoths l D G hl0 a ar az ad ap ts cs hok xm rxm) (cwV 1 hts gL_setMoths_X2_setMoths rfl rfl rfl (by decide +kernel) ⟨Nat.le_of_ble_eq_true rfl, Nat.le_of_ble_eq_true rfl⟩) hK hT hA hP hD hS hp rfl rfl rfl rfl hl.1 rfl (Nat.le_of_ble_eq_true rfl) dL_setMoths_4 ⟨by decide, by decide⟩) hP hD hS hA hp (fun E ce q9 H locs hpx hP hD hS h1 h2 h3 => ?_) (fun v u H locs hw hP hD hS => ?_)
  · obtain ⟨q8, hq8, rfl, ho1, ho2⟩ := hpx
    simp only [List.mem_cons, List.not_mem_nil, or_false] at hq8
    rcases hq8 with rfl
    · skip
      refine vx_catch (own := RL) (name := xA) hown [] ⟨0, 9, 12, 19⟩ [] (htab.trans rfl) (fun z hz => nomatch hz) (by decide) (by decide) (hts (.classLink RL 19 "java/lang/IllegalArgumentException") (by decide +kernel)) (va_Nw.use rfl (hT.2.2.2.1 (xA, xA) (by decide))) h1 h2 h3 ?_
      refine lv_astore_n (lv' := [(3, .ref q9), (0, .ref (a 0)), (1, .int (iv xm)), (2, .ref w)]) hx hb dL_setMoths_12 rfl hl (by decide) rfl (fun ls hl => ?_)
      refine r_const hx hb dL_setMoths_13 ?_
      exact e_int hx hb hr hlk dL_setMoths_14 hS hP hD (by decide) (by decide) (PH_x ho1 ho2 (by decide))
  · obtain ⟨ho, rfl, ad2, ap2, ts2, rfl⟩ := hw
    have hP : va_P D vwCl ([(w, .inl (G 5, 1, .inr (.inl (F))))] ++ wC G a ar az ad2 ap2 ts2 (opMoths cs xm).2.2) H := wP_perm hP List.perm_append_comm
    have hD : va_D A ([(w, .inl (G 5, 1, .inr (.inl (F))))] ++ wC G a ar az ad2 ap2 ts2 (opMoths cs xm).2.2) := wD_perm hD List.perm_append_comm
    refine lv_i2l (v := ((iv ((opMoths cs xm).2.1))).toInt64) hx hb dL_setMoths_7 rfl ?_
    refine r_last0 (F := F) hx hb hK hP hD hS 0 rfl dL_setMoths_8 (fun H locs hP hD hS => ?_)
    have hP : va_P D vwCl ([(w, .inl (G 5, 1, .inr (.inl (vp_updL F 0 (((iv ((opMoths cs xm).2.1))).toInt64)))))] ++ wC G a ar az ad2 ap2 ts2 (opMoths cs xm).2.2) H := hP
    have hD : va_D A ([(w, .inl (G 5, 1, .inr (.inl (vp_updL F 0 (((iv ((opMoths cs xm).2.1))).toInt64)))))] ++ wC G a ar az ad2 ap2 ts2 (opMoths cs xm).2.2) := hD
    refine r_goto hx hb 15 dL_setMoths_9 (by decide) ?_
    refine r_const hx hb dL_setMoths_15 ?_
    exact e_int hx hb hr hlk dL_setMoths_16 hS hP hD (by decide) (by decide) (PH_v ho rfl)
set_option maxHeartbeats 4000000 in
set_option maxRecDepth 100000 in
theorem c_L_mend (l : Launch) (D : va_G) (G : Nat → ClassId) (hl0 : l.stackTraces = false) (a ar az : Nat → Nat) (ad ap : AD) (ts : DS) (cs : CS) (hok : okC cs) (w : Nat) (F : Nat → Int64) (xd xk xj : Int) (rxd : -2147483648 ≤ xd ∧ xd < 2147483648) (rxk : -2147483648 ≤ xk ∧ xk < 2147483648) (rxj : -2147483648 ≤ xj ∧ xj < 2147483648)  : MtH l yL_mend wsL_mend 8 185 2 12 D (TY G) [.ref (a 0), .int (iv xd), .int (iv xk), .int (iv xj), .ref w] (wOut G w F ++ wC G a ar az ad ap ts cs) (qI D (PH G a ar az w (opMend cs xd xk xj))) := by
  refine MtH.mk (cc := cL_mend) (maxL := 6) (ret := some .int) (hh := [(0, 12, 15, 25), (0, 12, 19, 19), (0, 12, 23, 13)]) (by decide) rfl (Nat.le_of_ble_eq_true rfl) ?_
  intro p e s m below meth c A ls hx hb hr hlk hml hown hts hK hA hT hN hP hD hS hl htab
  replace hown : s.vm.findClass RL = some m.cls := hown
  have hl : lv_has ls 6 [(0, .ref (a 0)), (1, .int (iv xd)), (2, .int (iv xk)), (3, .int (iv xj)), (4, .ref w)] := hl
  skip
  have hP : va_P D vwCl ([(w, .inl (G 5, 1, .inr (.inl (F))))] ++ wC G a ar az ad ap ts cs) s.heap := hP
  have hD : va_D A ([(w, .inl (G 5, 1, .inr (.inl (F))))] ++ wC G a ar az ad ap ts cs) := hD
  refine lv_aload hx hb dL_mend_0 (lv_at hl 4 rfl) ?_
  refine r_const hx hb dL_mend_2 ?_
  refine lv_aload_n hx hb dL_mend_3 rfl (lv_at hl 0 rfl) ?_
  refine lv_iload_n hx hb dL_mend_4 rfl (lv_at hl 1 rfl) ?_
  refine lv_iload_n hx hb dL_mend_5 rfl (lv_at hl 2 rfl) ?_
  refine lv_iload_n hx hb dL_mend_6 rfl (lv_at hl 3 rfl) ?_
  have hp : List.Perm ([(w, .inl (G 5, 1, .inr (.inl (F))))] ++ wC G a ar az ad ap ts cs) (wC G a ar az ad ap ts cs ++ [(w, .inl (G 5, 1, .inr (.inl (F))))]) := List.perm_append_comm
  refine kx_int (g_VX (As := [.int (iv xd), .int (iv xk), .int (iv xj)]) (rest := [.int (iv 0), .ref w]) (q0 := 1) (ci := 2) ⟨hx, hb, hml, hown, hts⟩ (c_X2_mend l D G hl0 a ar az ad ap ts cs hok xd xk xj rxd rxk rxj) (cwV 3 hts gL_mend_X2_mend rfl rfl rfl (by decide +kernel) ⟨Nat.le_of_ble_eq_true rfl, Nat.le_of_ble_eq_true rfl⟩) hK hT hA hP hD hS hp rfl rfl rfl rfl hl.1 rfl (Nat.le_of_ble_eq_true rfl) dL_mend_7 ⟨by decide, by decide⟩) hP hD hS hA hp (fun E ce q9 H locs hpx hP hD hS h1 h2 h3 => ?_) (fun v u H locs hw hP hD hS => ?_)
  · obtain ⟨q8, hq8, rfl, ho1, ho2⟩ := hpx
    simp only [List.mem_cons, List.not_mem_nil, or_false] at hq8
    rcases hq8 with rfl | rfl | rfl
    · skip
      refine vx_catch (own := RL) (name := xB) hown [] ⟨0, 12, 15, 25⟩ [⟨0, 12, 19, 19⟩, ⟨0, 12, 23, 13⟩] (htab.trans rfl) (fun z hz => nomatch hz) (by decide) (by decide) (hts (.classLink RL 25 "java/lang/IndexOutOfBoundsException") (by decide +kernel)) (va_Nw.use rfl (hT.2.2.2.1 (xB, xB) (by decide))) h1 h2 h3 ?_
      refine lv_astore (lv' := [(5, .ref q9), (0, .ref (a 0)), (1, .int (iv xd)), (2, .int (iv xk)), (3, .int (iv xj)), (4, .ref w)]) hx hb dL_mend_15 hl (by decide) rfl (fun ls hl => ?_)
      refine r_const hx hb dL_mend_17 ?_
      exact e_int hx hb hr hlk dL_mend_18 hS hP hD (by decide) (by decide) (PH_x ho1 ho2 (by decide))
    · skip
      refine vx_catch (own := RL) (name := xA) hown [⟨0, 12, 15, 25⟩] ⟨0, 12, 19, 19⟩ [⟨0, 12, 23, 13⟩] (htab.trans rfl) (fun z hz => by simp only [List.mem_cons, List.not_mem_nil, or_false] at hz; subst hz; exact Or.inr ⟨by decide, xB, hts (.classLink RL 25 "java/lang/IndexOutOfBoundsException") (by decide +kernel), hN (xA, xB) (by decide)⟩) (by decide) (by decide) (hts (.classLink RL 19 "java/lang/IllegalArgumentException") (by decide +kernel)) (va_Nw.use rfl (hT.2.2.2.1 (xA, xA) (by decide))) h1 h2 h3 ?_
      refine lv_astore (lv' := [(5, .ref q9), (0, .ref (a 0)), (1, .int (iv xd)), (2, .int (iv xk)), (3, .int (iv xj)), (4, .ref w)]) hx hb dL_mend_19 hl (by decide) rfl (fun ls hl => ?_)
      refine r_const hx hb dL_mend_21 ?_
      exact e_int hx hb hr hlk dL_mend_22 hS hP hD (by decide) (by decide) (PH_x ho1 ho2 (by decide))
    · skip
      refine vx_catch (own := RL) (name := xI) hown [⟨0, 12, 15, 25⟩, ⟨0, 12, 19, 19⟩] ⟨0, 12, 23, 13⟩ [] (htab.trans rfl) (fun z hz => by simp only [List.mem_cons, List.not_mem_nil, or_false] at hz; rcases hz with rfl | rfl <;> first | exact Or.inr ⟨by decide, xB, hts (.classLink RL 25 "java/lang/IndexOutOfBoundsException") (by decide +kernel), hN (xI, xB) (by decide)⟩ | exact Or.inr ⟨by decide, xA, hts (.classLink RL 19 "java/lang/IllegalArgumentException") (by decide +kernel), hN (xI, xA) (by decide)⟩) (by decide) (by decide) (hts (.classLink RL 13 "java/lang/IllegalStateException") (by decide +kernel)) (va_Nw.use rfl (hT.2.2.2.1 (xI, xI) (by decide))) h1 h2 h3 ?_
      refine lv_astore (lv' := [(5, .ref q9), (0, .ref (a 0)), (1, .int (iv xd)), (2, .int (iv xk)), (3, .int (iv xj)), (4, .ref w)]) hx hb dL_mend_23 hl (by decide) rfl (fun ls hl => ?_)
      refine r_const hx hb dL_mend_25 ?_
      exact e_int hx hb hr hlk dL_mend_26 hS hP hD (by decide) (by decide) (PH_x ho1 ho2 (by decide))
  · obtain ⟨ho, rfl, ad2, ap2, ts2, rfl⟩ := hw
    have hP : va_P D vwCl ([(w, .inl (G 5, 1, .inr (.inl (F))))] ++ wC G a ar az ad2 ap2 ts2 (opMend cs xd xk xj).2.2) H := wP_perm hP List.perm_append_comm
    have hD : va_D A ([(w, .inl (G 5, 1, .inr (.inl (F))))] ++ wC G a ar az ad2 ap2 ts2 (opMend cs xd xk xj).2.2) := wD_perm hD List.perm_append_comm
    refine lv_i2l (v := ((iv ((opMend cs xd xk xj).2.1))).toInt64) hx hb dL_mend_10 rfl ?_
    refine r_last0 (F := F) hx hb hK hP hD hS 0 rfl dL_mend_11 (fun H locs hP hD hS => ?_)
    have hP : va_P D vwCl ([(w, .inl (G 5, 1, .inr (.inl (vp_updL F 0 (((iv ((opMend cs xd xk xj).2.1))).toInt64)))))] ++ wC G a ar az ad2 ap2 ts2 (opMend cs xd xk xj).2.2) H := hP
    have hD : va_D A ([(w, .inl (G 5, 1, .inr (.inl (vp_updL F 0 (((iv ((opMend cs xd xk xj).2.1))).toInt64)))))] ++ wC G a ar az ad2 ap2 ts2 (opMend cs xd xk xj).2.2) := hD
    refine r_goto hx hb 27 dL_mend_12 (by decide) ?_
    refine r_const hx hb dL_mend_27 ?_
    exact e_int hx hb hr hlk dL_mend_28 hS hP hD (by decide) (by decide) (PH_v ho rfl)
set_option maxHeartbeats 4000000 in
set_option maxRecDepth 100000 in
theorem c_L_joint (l : Launch) (D : va_G) (G : Nat → ClassId) (hl0 : l.stackTraces = false) (a ar az : Nat → Nat) (ad ap : AD) (ts : DS) (cs : CS) (hok : okC cs) (w : Nat) (F : Nat → Int64) (xd xj xw : Int) (rxd : -2147483648 ≤ xd ∧ xd < 2147483648) (rxj : -2147483648 ≤ xj ∧ xj < 2147483648) (rxw : -2147483648 ≤ xw ∧ xw < 2147483648)  : MtH l yL_joint wsL_joint 8 185 2 12 D (TY G) [.ref (a 0), .int (iv xd), .int (iv xj), .int (iv xw), .ref w] (wOut G w F ++ wC G a ar az ad ap ts cs) (qI D (PH G a ar az w (opJoint cs xd xj xw))) := by
  refine MtH.mk (cc := cL_joint) (maxL := 6) (ret := some .int) (hh := [(0, 12, 15, 25)]) (by decide) rfl (Nat.le_of_ble_eq_true rfl) ?_
  intro p e s m below meth c A ls hx hb hr hlk hml hown hts hK hA hT hN hP hD hS hl htab
  replace hown : s.vm.findClass RL = some m.cls := hown
  have hl : lv_has ls 6 [(0, .ref (a 0)), (1, .int (iv xd)), (2, .int (iv xj)), (3, .int (iv xw)), (4, .ref w)] := hl
  skip
  have hP : va_P D vwCl ([(w, .inl (G 5, 1, .inr (.inl (F))))] ++ wC G a ar az ad ap ts cs) s.heap := hP
  have hD : va_D A ([(w, .inl (G 5, 1, .inr (.inl (F))))] ++ wC G a ar az ad ap ts cs) := hD
  refine lv_aload hx hb dL_joint_0 (lv_at hl 4 rfl) ?_
  refine r_const hx hb dL_joint_2 ?_
  refine lv_aload_n hx hb dL_joint_3 rfl (lv_at hl 0 rfl) ?_
  refine lv_iload_n hx hb dL_joint_4 rfl (lv_at hl 1 rfl) ?_
  refine lv_iload_n hx hb dL_joint_5 rfl (lv_at hl 2 rfl) ?_
  refine lv_iload_n hx hb dL_joint_6 rfl (lv_at hl 3 rfl) ?_
  have hp : List.Perm ([(w, .inl (G 5, 1, .inr (.inl (F))))] ++ wC G a ar az ad ap ts cs) (wC G a ar az ad ap ts cs ++ [(w, .inl (G 5, 1, .inr (.inl (F))))]) := List.perm_append_comm
  refine kx_int (g_VX (As := [.int (iv xd), .int (iv xj), .int (iv xw)]) (rest := [.int (iv 0), .ref w]) (q0 := 1) (ci := 2) ⟨hx, hb, hml, hown, hts⟩ (c_X2_joint l D G hl0 a ar az ad ap ts cs hok xd xj xw rxd rxj rxw) (cwV 3 hts gL_joint_X2_joint rfl rfl rfl (by decide +kernel) ⟨Nat.le_of_ble_eq_true rfl, Nat.le_of_ble_eq_true rfl⟩) hK hT hA hP hD hS hp rfl rfl rfl rfl hl.1 rfl (Nat.le_of_ble_eq_true rfl) dL_joint_7 ⟨by decide, by decide⟩) hP hD hS hA hp (fun E ce q9 H locs hpx hP hD hS h1 h2 h3 => ?_) (fun v u H locs hw hP hD hS => ?_)
  · obtain ⟨q8, hq8, rfl, ho1, ho2⟩ := hpx
    simp only [List.mem_cons, List.not_mem_nil, or_false] at hq8
    rcases hq8 with rfl
    · skip
      refine vx_catch (own := RL) (name := xB) hown [] ⟨0, 12, 15, 25⟩ [] (htab.trans rfl) (fun z hz => nomatch hz) (by decide) (by decide) (hts (.classLink RL 25 "java/lang/IndexOutOfBoundsException") (by decide +kernel)) (va_Nw.use rfl (hT.2.2.2.1 (xB, xB) (by decide))) h1 h2 h3 ?_
      refine lv_astore (lv' := [(5, .ref q9), (0, .ref (a 0)), (1, .int (iv xd)), (2, .int (iv xj)), (3, .int (iv xw)), (4, .ref w)]) hx hb dL_joint_15 hl (by decide) rfl (fun ls hl => ?_)
      refine r_const hx hb dL_joint_17 ?_
      exact e_int hx hb hr hlk dL_joint_18 hS hP hD (by decide) (by decide) (PH_x ho1 ho2 (by decide))
  · obtain ⟨ho, rfl, ad2, ap2, ts2, rfl⟩ := hw
    have hP : va_P D vwCl ([(w, .inl (G 5, 1, .inr (.inl (F))))] ++ wC G a ar az ad2 ap2 ts2 (opJoint cs xd xj xw).2.2) H := wP_perm hP List.perm_append_comm
    have hD : va_D A ([(w, .inl (G 5, 1, .inr (.inl (F))))] ++ wC G a ar az ad2 ap2 ts2 (opJoint cs xd xj xw).2.2) := wD_perm hD List.perm_append_comm
    refine lv_i2l (v := ((iv ((opJoint cs xd xj xw).2.1))).toInt64) hx hb dL_joint_10 rfl ?_
    refine r_last0 (F := F) hx hb hK hP hD hS 0 rfl dL_joint_11 (fun H locs hP hD hS => ?_)
    have hP : va_P D vwCl ([(w, .inl (G 5, 1, .inr (.inl (vp_updL F 0 (((iv ((opJoint cs xd xj xw).2.1))).toInt64)))))] ++ wC G a ar az ad2 ap2 ts2 (opJoint cs xd xj xw).2.2) H := hP
    have hD : va_D A ([(w, .inl (G 5, 1, .inr (.inl (vp_updL F 0 (((iv ((opJoint cs xd xj xw).2.1))).toInt64)))))] ++ wC G a ar az ad2 ap2 ts2 (opJoint cs xd xj xw).2.2) := hD
    refine r_goto hx hb 19 dL_joint_12 (by decide) ?_
    refine r_const hx hb dL_joint_19 ?_
    exact e_int hx hb hr hlk dL_joint_20 hS hP hD (by decide) (by decide) (PH_v ho rfl)
set_option maxHeartbeats 4000000 in
set_option maxRecDepth 100000 in
theorem c_L_doll (l : Launch) (D : va_G) (G : Nat → ClassId) (hl0 : l.stackTraces = false) (a ar az : Nat → Nat) (ad ap : AD) (ts : DS) (cs : CS) (hok : okC cs) (w : Nat) (F : Nat → Int64) (xd xw : Int) (rxd : -2147483648 ≤ xd ∧ xd < 2147483648) (rxw : -2147483648 ≤ xw ∧ xw < 2147483648)  : MtH l yL_doll wsL_doll 8 185 2 12 D (TY G) [.ref (a 0), .int (iv xd), .int (iv xw), .ref w] (wOut G w F ++ wC G a ar az ad ap ts cs) (qI D (PH G a ar az w (opDoll cs xd xw))) := by
  refine MtH.mk (cc := cL_doll) (maxL := 5) (ret := some .int) (hh := [(0, 10, 13, 25)]) (by decide) rfl (Nat.le_of_ble_eq_true rfl) ?_
  intro p e s m below meth c A ls hx hb hr hlk hml hown hts hK hA hT hN hP hD hS hl htab
  replace hown : s.vm.findClass RL = some m.cls := hown
  have hl : lv_has ls 5 [(0, .ref (a 0)), (1, .int (iv xd)), (2, .int (iv xw)), (3, .ref w)] := hl
  skip
  have hP : va_P D vwCl ([(w, .inl (G 5, 1, .inr (.inl (F))))] ++ wC G a ar az ad ap ts cs) s.heap := hP
  have hD : va_D A ([(w, .inl (G 5, 1, .inr (.inl (F))))] ++ wC G a ar az ad ap ts cs) := hD
  refine lv_aload_n hx hb dL_doll_0 rfl (lv_at hl 3 rfl) ?_
  refine r_const hx hb dL_doll_1 ?_
  refine lv_aload_n hx hb dL_doll_2 rfl (lv_at hl 0 rfl) ?_
  refine lv_iload_n hx hb dL_doll_3 rfl (lv_at hl 1 rfl) ?_
  refine lv_iload_n hx hb dL_doll_4 rfl (lv_at hl 2 rfl) ?_
  have hp : List.Perm ([(w, .inl (G 5, 1, .inr (.inl (F))))] ++ wC G a ar az ad ap ts cs) (wC G a ar az ad ap ts cs ++ [(w, .inl (G 5, 1, .inr (.inl (F))))]) := List.perm_append_comm
  refine kx_int (g_VX (As := [.int (iv xd), .int (iv xw)]) (rest := [.int (iv 0), .ref w]) (q0 := 1) (ci := 2) ⟨hx, hb, hml, hown, hts⟩ (c_X2_doll l D G hl0 a ar az ad ap ts cs hok xd xw rxd rxw) (cwV 2 hts gL_doll_X2_doll rfl rfl rfl (by decide +kernel) ⟨Nat.le_of_ble_eq_true rfl, Nat.le_of_ble_eq_true rfl⟩) hK hT hA hP hD hS hp rfl rfl rfl rfl hl.1 rfl (Nat.le_of_ble_eq_true rfl) dL_doll_5 ⟨by decide, by decide⟩) hP hD hS hA hp (fun E ce q9 H locs hpx hP hD hS h1 h2 h3 => ?_) (fun v u H locs hw hP hD hS => ?_)
  · obtain ⟨q8, hq8, rfl, ho1, ho2⟩ := hpx
    simp only [List.mem_cons, List.not_mem_nil, or_false] at hq8
    rcases hq8 with rfl
    · skip
      refine vx_catch (own := RL) (name := xB) hown [] ⟨0, 10, 13, 25⟩ [] (htab.trans rfl) (fun z hz => nomatch hz) (by decide) (by decide) (hts (.classLink RL 25 "java/lang/IndexOutOfBoundsException") (by decide +kernel)) (va_Nw.use rfl (hT.2.2.2.1 (xB, xB) (by decide))) h1 h2 h3 ?_
      refine lv_astore (lv' := [(4, .ref q9), (0, .ref (a 0)), (1, .int (iv xd)), (2, .int (iv xw)), (3, .ref w)]) hx hb dL_doll_13 hl (by decide) rfl (fun ls hl => ?_)
      refine r_const hx hb dL_doll_15 ?_
      exact e_int hx hb hr hlk dL_doll_16 hS hP hD (by decide) (by decide) (PH_x ho1 ho2 (by decide))
  · obtain ⟨ho, rfl, ad2, ap2, ts2, rfl⟩ := hw
    have hP : va_P D vwCl ([(w, .inl (G 5, 1, .inr (.inl (F))))] ++ wC G a ar az ad2 ap2 ts2 (opDoll cs xd xw).2.2) H := wP_perm hP List.perm_append_comm
    have hD : va_D A ([(w, .inl (G 5, 1, .inr (.inl (F))))] ++ wC G a ar az ad2 ap2 ts2 (opDoll cs xd xw).2.2) := wD_perm hD List.perm_append_comm
    refine lv_i2l (v := ((iv ((opDoll cs xd xw).2.1))).toInt64) hx hb dL_doll_8 rfl ?_
    refine r_last0 (F := F) hx hb hK hP hD hS 0 rfl dL_doll_9 (fun H locs hP hD hS => ?_)
    have hP : va_P D vwCl ([(w, .inl (G 5, 1, .inr (.inl (vp_updL F 0 (((iv ((opDoll cs xd xw).2.1))).toInt64)))))] ++ wC G a ar az ad2 ap2 ts2 (opDoll cs xd xw).2.2) H := hP
    have hD : va_D A ([(w, .inl (G 5, 1, .inr (.inl (vp_updL F 0 (((iv ((opDoll cs xd xw).2.1))).toInt64)))))] ++ wC G a ar az ad2 ap2 ts2 (opDoll cs xd xw).2.2) := hD
    refine r_goto hx hb 17 dL_doll_10 (by decide) ?_
    refine r_const hx hb dL_doll_17 ?_
    exact e_int hx hb hr hlk dL_doll_18 hS hP hD (by decide) (by decide) (PH_v ho rfl)
set_option maxHeartbeats 4000000 in
set_option maxRecDepth 100000 in
theorem c_L_count (l : Launch) (D : va_G) (G : Nat → ClassId) (hl0 : l.stackTraces = false) (a ar az : Nat → Nat) (ad ap : AD) (ts : DS) (cs : CS) (hok : okC cs) (w : Nat) (F : Nat → Int64) (xw : Int) (rxw : -2147483648 ≤ xw ∧ xw < 2147483648)  : MtH l yL_count wsL_count 8 205 1 6 D (TY G) [.ref (a 0), .int (iv xw), .ref w] (wOut G w F ++ wC G a ar az ad ap ts cs) (qI D (PH G a ar az w (opCount cs xw))) := by
  refine MtH.mk (cc := cL_count) (maxL := 4) (ret := some .int) (hh := [(0, 9, 12, 25)]) (by decide) rfl (Nat.le_of_ble_eq_true rfl) ?_
  intro p e s m below meth c A ls hx hb hr hlk hml hown hts hK hA hT hN hP hD hS hl htab
  replace hown : s.vm.findClass RL = some m.cls := hown
  have hl : lv_has ls 4 [(0, .ref (a 0)), (1, .int (iv xw)), (2, .ref w)] := hl
  skip
  have hP : va_P D vwCl ([(w, .inl (G 5, 1, .inr (.inl (F))))] ++ wC G a ar az ad ap ts cs) s.heap := hP
  have hD : va_D A ([(w, .inl (G 5, 1, .inr (.inl (F))))] ++ wC G a ar az ad ap ts cs) := hD
  refine lv_aload_n hx hb dL_count_0 rfl (lv_at hl 2 rfl) ?_
  refine r_const hx hb dL_count_1 ?_
  refine lv_aload_n hx hb dL_count_2 rfl (lv_at hl 0 rfl) ?_
  refine lv_iload_n hx hb dL_count_3 rfl (lv_at hl 1 rfl) ?_
  have hp : List.Perm ([(w, .inl (G 5, 1, .inr (.inl (F))))] ++ wC G a ar az ad ap ts cs) (wC G a ar az ad ap ts cs ++ [(w, .inl (G 5, 1, .inr (.inl (F))))]) := List.perm_append_comm
  refine kx_int (g_VX (As := [.int (iv xw)]) (rest := [.int (iv 0), .ref w]) (q0 := 1) (ci := 2) ⟨hx, hb, hml, hown, hts⟩ (c_X2_count l D G hl0 a ar az ad ap ts cs hok xw rxw) (cwV 1 hts gL_count_X2_count rfl rfl rfl (by decide +kernel) ⟨Nat.le_of_ble_eq_true rfl, Nat.le_of_ble_eq_true rfl⟩) hK hT hA hP hD hS hp rfl rfl rfl rfl hl.1 rfl (Nat.le_of_ble_eq_true rfl) dL_count_4 ⟨by decide, by decide⟩) hP hD hS hA hp (fun E ce q9 H locs hpx hP hD hS h1 h2 h3 => ?_) (fun v u H locs hw hP hD hS => ?_)
  · obtain ⟨q8, hq8, rfl, ho1, ho2⟩ := hpx
    simp only [List.mem_cons, List.not_mem_nil, or_false] at hq8
    rcases hq8 with rfl
    · skip
      refine vx_catch (own := RL) (name := xB) hown [] ⟨0, 9, 12, 25⟩ [] (htab.trans rfl) (fun z hz => nomatch hz) (by decide) (by decide) (hts (.classLink RL 25 "java/lang/IndexOutOfBoundsException") (by decide +kernel)) (va_Nw.use rfl (hT.2.2.2.1 (xB, xB) (by decide))) h1 h2 h3 ?_
      refine lv_astore_n (lv' := [(3, .ref q9), (0, .ref (a 0)), (1, .int (iv xw)), (2, .ref w)]) hx hb dL_count_12 rfl hl (by decide) rfl (fun ls hl => ?_)
      refine r_const hx hb dL_count_13 ?_
      exact e_int hx hb hr hlk dL_count_14 hS hP hD (by decide) (by decide) (PH_x ho1 ho2 (by decide))
  · obtain ⟨ho, rfl, ad2, ap2, ts2, rfl⟩ := hw
    have hP : va_P D vwCl ([(w, .inl (G 5, 1, .inr (.inl (F))))] ++ wC G a ar az ad2 ap2 ts2 (opCount cs xw).2.2) H := wP_perm hP List.perm_append_comm
    have hD : va_D A ([(w, .inl (G 5, 1, .inr (.inl (F))))] ++ wC G a ar az ad2 ap2 ts2 (opCount cs xw).2.2) := wD_perm hD List.perm_append_comm
    refine lv_i2l (v := ((iv ((opCount cs xw).2.1))).toInt64) hx hb dL_count_7 rfl ?_
    refine r_last0 (F := F) hx hb hK hP hD hS 0 rfl dL_count_8 (fun H locs hP hD hS => ?_)
    have hP : va_P D vwCl ([(w, .inl (G 5, 1, .inr (.inl (vp_updL F 0 (((iv ((opCount cs xw).2.1))).toInt64)))))] ++ wC G a ar az ad2 ap2 ts2 (opCount cs xw).2.2) H := hP
    have hD : va_D A ([(w, .inl (G 5, 1, .inr (.inl (vp_updL F 0 (((iv ((opCount cs xw).2.1))).toInt64)))))] ++ wC G a ar az ad2 ap2 ts2 (opCount cs xw).2.2) := hD
    refine r_goto hx hb 15 dL_count_9 (by decide) ?_
    refine r_const hx hb dL_count_15 ?_
    exact e_int hx hb hr hlk dL_count_16 hS hP hD (by decide) (by decide) (PH_v ho rfl)
set_option maxHeartbeats 4000000 in
set_option maxRecDepth 100000 in
theorem c_L_costs (l : Launch) (D : va_G) (G : Nat → ClassId) (hl0 : l.stackTraces = false) (a ar az : Nat → Nat) (ad ap : AD) (ts : DS) (cs : CS) (hok : okC cs) (w : Nat) (F : Nat → Int64) (xd xq : Int) (rxd : -2147483648 ≤ xd ∧ xd < 2147483648) (rxq : -2147483648 ≤ xq ∧ xq < 2147483648)  : MtH l yL_costs wsL_costs 8 185 2 12 D (TY G) [.ref (a 0), .int (iv xd), .int (iv xq), .ref w] (wOut G w F ++ wC G a ar az ad ap ts cs) (qI D (PH G a ar az w (opCosts cs xd xq))) := by
  refine MtH.mk (cc := cL_costs) (maxL := 5) (ret := some .int) (hh := [(0, 10, 13, 25)]) (by decide) rfl (Nat.le_of_ble_eq_true rfl) ?_
  intro p e s m below meth c A ls hx hb hr hlk hml hown hts hK hA hT hN hP hD hS hl htab
  replace hown : s.vm.findClass RL = some m.cls := hown
  have hl : lv_has ls 5 [(0, .ref (a 0)), (1, .int (iv xd)), (2, .int (iv xq)), (3, .ref w)] := hl
  skip
  have hP : va_P D vwCl ([(w, .inl (G 5, 1, .inr (.inl (F))))] ++ wC G a ar az ad ap ts cs) s.heap := hP
  have hD : va_D A ([(w, .inl (G 5, 1, .inr (.inl (F))))] ++ wC G a ar az ad ap ts cs) := hD
  refine lv_aload_n hx hb dL_costs_0 rfl (lv_at hl 3 rfl) ?_
  refine r_const hx hb dL_costs_1 ?_
  refine lv_aload_n hx hb dL_costs_2 rfl (lv_at hl 0 rfl) ?_
  refine lv_iload_n hx hb dL_costs_3 rfl (lv_at hl 1 rfl) ?_
  refine lv_iload_n hx hb dL_costs_4 rfl (lv_at hl 2 rfl) ?_
  have hp : List.Perm ([(w, .inl (G 5, 1, .inr (.inl (F))))] ++ wC G a ar az ad ap ts cs) (wC G a ar az ad ap ts cs ++ [(w, .inl (G 5, 1, .inr (.inl (F))))]) := List.perm_append_comm
  refine kx_int (g_VX (As := [.int (iv xd), .int (iv xq)]) (rest := [.int (iv 0), .ref w]) (q0 := 1) (ci := 2) ⟨hx, hb, hml, hown, hts⟩ (c_X2_costs l D G hl0 a ar az ad ap ts cs hok xd xq rxd rxq) (cwV 2 hts gL_costs_X2_costs rfl rfl rfl (by decide +kernel) ⟨Nat.le_of_ble_eq_true rfl, Nat.le_of_ble_eq_true rfl⟩) hK hT hA hP hD hS hp rfl rfl rfl rfl hl.1 rfl (Nat.le_of_ble_eq_true rfl) dL_costs_5 ⟨by decide, by decide⟩) hP hD hS hA hp (fun E ce q9 H locs hpx hP hD hS h1 h2 h3 => ?_) (fun v u H locs hw hP hD hS => ?_)
  · obtain ⟨q8, hq8, rfl, ho1, ho2⟩ := hpx
    simp only [List.mem_cons, List.not_mem_nil, or_false] at hq8
    rcases hq8 with rfl
    · skip
      refine vx_catch (own := RL) (name := xB) hown [] ⟨0, 10, 13, 25⟩ [] (htab.trans rfl) (fun z hz => nomatch hz) (by decide) (by decide) (hts (.classLink RL 25 "java/lang/IndexOutOfBoundsException") (by decide +kernel)) (va_Nw.use rfl (hT.2.2.2.1 (xB, xB) (by decide))) h1 h2 h3 ?_
      refine lv_astore (lv' := [(4, .ref q9), (0, .ref (a 0)), (1, .int (iv xd)), (2, .int (iv xq)), (3, .ref w)]) hx hb dL_costs_13 hl (by decide) rfl (fun ls hl => ?_)
      refine r_const hx hb dL_costs_15 ?_
      exact e_int hx hb hr hlk dL_costs_16 hS hP hD (by decide) (by decide) (PH_x ho1 ho2 (by decide))
  · obtain ⟨ho, rfl, ad2, ap2, ts2, rfl⟩ := hw
    have hP : va_P D vwCl ([(w, .inl (G 5, 1, .inr (.inl (F))))] ++ wC G a ar az ad2 ap2 ts2 (opCosts cs xd xq).2.2) H := wP_perm hP List.perm_append_comm
    have hD : va_D A ([(w, .inl (G 5, 1, .inr (.inl (F))))] ++ wC G a ar az ad2 ap2 ts2 (opCosts cs xd xq).2.2) := wD_perm hD List.perm_append_comm
    refine lv_i2l (v := ((iv ((opCosts cs xd xq).2.1))).toInt64) hx hb dL_costs_8 rfl ?_
    refine r_last0 (F := F) hx hb hK hP hD hS 0 rfl dL_costs_9 (fun H locs hP hD hS => ?_)
    have hP : va_P D vwCl ([(w, .inl (G 5, 1, .inr (.inl (vp_updL F 0 (((iv ((opCosts cs xd xq).2.1))).toInt64)))))] ++ wC G a ar az ad2 ap2 ts2 (opCosts cs xd xq).2.2) H := hP
    have hD : va_D A ([(w, .inl (G 5, 1, .inr (.inl (vp_updL F 0 (((iv ((opCosts cs xd xq).2.1))).toInt64)))))] ++ wC G a ar az ad2 ap2 ts2 (opCosts cs xd xq).2.2) := hD
    refine r_goto hx hb 17 dL_costs_10 (by decide) ?_
    refine r_const hx hb dL_costs_17 ?_
    exact e_int hx hb hr hlk dL_costs_18 hS hP hD (by decide) (by decide) (PH_v ho rfl)
set_option maxHeartbeats 4000000 in
set_option maxRecDepth 100000 in
theorem c_L_often (l : Launch) (D : va_G) (G : Nat → ClassId) (hl0 : l.stackTraces = false) (a ar az : Nat → Nat) (ad ap : AD) (ts : DS) (cs : CS) (hok : okC cs) (w : Nat) (F : Nat → Int64) (xd xq : Int) (rxd : -2147483648 ≤ xd ∧ xd < 2147483648) (rxq : -2147483648 ≤ xq ∧ xq < 2147483648)  : MtH l yL_often wsL_often 8 185 2 12 D (TY G) [.ref (a 0), .int (iv xd), .int (iv xq), .ref w] (wOut G w F ++ wC G a ar az ad ap ts cs) (qI D (PH G a ar az w (opOften cs xd xq))) := by
  refine MtH.mk (cc := cL_often) (maxL := 5) (ret := some .int) (hh := [(0, 10, 13, 25)]) (by decide) rfl (Nat.le_of_ble_eq_true rfl) ?_
  intro p e s m below meth c A ls hx hb hr hlk hml hown hts hK hA hT hN hP hD hS hl htab
  replace hown : s.vm.findClass RL = some m.cls := hown
  have hl : lv_has ls 5 [(0, .ref (a 0)), (1, .int (iv xd)), (2, .int (iv xq)), (3, .ref w)] := hl
  skip
  have hP : va_P D vwCl ([(w, .inl (G 5, 1, .inr (.inl (F))))] ++ wC G a ar az ad ap ts cs) s.heap := hP
  have hD : va_D A ([(w, .inl (G 5, 1, .inr (.inl (F))))] ++ wC G a ar az ad ap ts cs) := hD
  refine lv_aload_n hx hb dL_often_0 rfl (lv_at hl 3 rfl) ?_
  refine r_const hx hb dL_often_1 ?_
  refine lv_aload_n hx hb dL_often_2 rfl (lv_at hl 0 rfl) ?_
  refine lv_iload_n hx hb dL_often_3 rfl (lv_at hl 1 rfl) ?_
  refine lv_iload_n hx hb dL_often_4 rfl (lv_at hl 2 rfl) ?_
  have hp : List.Perm ([(w, .inl (G 5, 1, .inr (.inl (F))))] ++ wC G a ar az ad ap ts cs) (wC G a ar az ad ap ts cs ++ [(w, .inl (G 5, 1, .inr (.inl (F))))]) := List.perm_append_comm
  refine kx_int (g_VX (As := [.int (iv xd), .int (iv xq)]) (rest := [.int (iv 0), .ref w]) (q0 := 1) (ci := 2) ⟨hx, hb, hml, hown, hts⟩ (c_X2_often l D G hl0 a ar az ad ap ts cs hok xd xq rxd rxq) (cwV 2 hts gL_often_X2_often rfl rfl rfl (by decide +kernel) ⟨Nat.le_of_ble_eq_true rfl, Nat.le_of_ble_eq_true rfl⟩) hK hT hA hP hD hS hp rfl rfl rfl rfl hl.1 rfl (Nat.le_of_ble_eq_true rfl) dL_often_5 ⟨by decide, by decide⟩) hP hD hS hA hp (fun E ce q9 H locs hpx hP hD hS h1 h2 h3 => ?_) (fun v u H locs hw hP hD hS => ?_)
  · obtain ⟨q8, hq8, rfl, ho1, ho2⟩ := hpx
    simp only [List.mem_cons, List.not_mem_nil, or_false] at hq8
    rcases hq8 with rfl
    · skip
      refine vx_catch (own := RL) (name := xB) hown [] ⟨0, 10, 13, 25⟩ [] (htab.trans rfl) (fun z hz => nomatch hz) (by decide) (by decide) (hts (.classLink RL 25 "java/lang/IndexOutOfBoundsException") (by decide +kernel)) (va_Nw.use rfl (hT.2.2.2.1 (xB, xB) (by decide))) h1 h2 h3 ?_
      refine lv_astore (lv' := [(4, .ref q9), (0, .ref (a 0)), (1, .int (iv xd)), (2, .int (iv xq)), (3, .ref w)]) hx hb dL_often_13 hl (by decide) rfl (fun ls hl => ?_)
      refine r_const hx hb dL_often_15 ?_
      exact e_int hx hb hr hlk dL_often_16 hS hP hD (by decide) (by decide) (PH_x ho1 ho2 (by decide))
  · obtain ⟨ho, rfl, ad2, ap2, ts2, rfl⟩ := hw
    have hP : va_P D vwCl ([(w, .inl (G 5, 1, .inr (.inl (F))))] ++ wC G a ar az ad2 ap2 ts2 (opOften cs xd xq).2.2) H := wP_perm hP List.perm_append_comm
    have hD : va_D A ([(w, .inl (G 5, 1, .inr (.inl (F))))] ++ wC G a ar az ad2 ap2 ts2 (opOften cs xd xq).2.2) := wD_perm hD List.perm_append_comm
    refine lv_i2l (v := ((iv ((opOften cs xd xq).2.1))).toInt64) hx hb dL_often_8 rfl ?_
    refine r_last0 (F := F) hx hb hK hP hD hS 0 rfl dL_often_9 (fun H locs hP hD hS => ?_)
    have hP : va_P D vwCl ([(w, .inl (G 5, 1, .inr (.inl (vp_updL F 0 (((iv ((opOften cs xd xq).2.1))).toInt64)))))] ++ wC G a ar az ad2 ap2 ts2 (opOften cs xd xq).2.2) H := hP
    have hD : va_D A ([(w, .inl (G 5, 1, .inr (.inl (vp_updL F 0 (((iv ((opOften cs xd xq).2.1))).toInt64)))))] ++ wC G a ar az ad2 ap2 ts2 (opOften cs xd xq).2.2) := hD
    refine r_goto hx hb 17 dL_often_10 (by decide) ?_
    refine r_const hx hb dL_often_17 ?_
    exact e_int hx hb hr hlk dL_often_18 hS hP hD (by decide) (by decide) (PH_v ho rfl)
set_option maxHeartbeats 4000000 in
set_option maxRecDepth 100000 in
theorem c_L_needs (l : Launch) (D : va_G) (G : Nat → ClassId) (hl0 : l.stackTraces = false) (a ar az : Nat → Nat) (ad ap : AD) (ts : DS) (cs : CS) (hok : okC cs) (w : Nat) (F : Nat → Int64) (xd xk : Int) (rxd : -2147483648 ≤ xd ∧ xd < 2147483648) (rxk : -2147483648 ≤ xk ∧ xk < 2147483648)  : MtH l yL_needs wsL_needs 8 185 2 12 D (TY G) [.ref (a 0), .int (iv xd), .int (iv xk), .ref w] (wOut G w F ++ wC G a ar az ad ap ts cs) (qI D (PH G a ar az w (opNeeds cs xd xk))) := by
  refine MtH.mk (cc := cL_needs) (maxL := 5) (ret := some .int) (hh := [(0, 10, 13, 25), (0, 10, 17, 19)]) (by decide) rfl (Nat.le_of_ble_eq_true rfl) ?_
  intro p e s m below meth c A ls hx hb hr hlk hml hown hts hK hA hT hN hP hD hS hl htab
  replace hown : s.vm.findClass RL = some m.cls := hown
  have hl : lv_has ls 5 [(0, .ref (a 0)), (1, .int (iv xd)), (2, .int (iv xk)), (3, .ref w)] := hl
  skip
  have hP : va_P D vwCl ([(w, .inl (G 5, 1, .inr (.inl (F))))] ++ wC G a ar az ad ap ts cs) s.heap := hP
  have hD : va_D A ([(w, .inl (G 5, 1, .inr (.inl (F))))] ++ wC G a ar az ad ap ts cs) := hD
  refine lv_aload_n hx hb dL_needs_0 rfl (lv_at hl 3 rfl) ?_
  refine r_const hx hb dL_needs_1 ?_
  refine lv_aload_n hx hb dL_needs_2 rfl (lv_at hl 0 rfl) ?_
  refine lv_iload_n hx hb dL_needs_3 rfl (lv_at hl 1 rfl) ?_
  refine lv_iload_n hx hb dL_needs_4 rfl (lv_at hl 2 rfl) ?_
  have hp : List.Perm ([(w, .inl (G 5, 1, .inr (.inl (F))))] ++ wC G a ar az ad ap ts cs) (wC G a ar az ad ap ts cs ++ [(w, .inl (G 5, 1, .inr (.inl (F))))]) := List.perm_append_comm
  refine kx_int (g_VX (As := [.int (iv xd), .int (iv xk)]) (rest := [.int (iv 0), .ref w]) (q0 := 1) (ci := 2) ⟨hx, hb, hml, hown, hts⟩ (c_X2_needs l D G hl0 a ar az ad ap ts cs hok xd xk rxd rxk) (cwV 2 hts gL_needs_X2_needs rfl rfl rfl (by decide +kernel) ⟨Nat.le_of_ble_eq_true rfl, Nat.le_of_ble_eq_true rfl⟩) hK hT hA hP hD hS hp rfl rfl rfl rfl hl.1 rfl (Nat.le_of_ble_eq_true rfl) dL_needs_5 ⟨by decide, by decide⟩) hP hD hS hA hp (fun E ce q9 H locs hpx hP hD hS h1 h2 h3 => ?_) (fun v u H locs hw hP hD hS => ?_)
  · obtain ⟨q8, hq8, rfl, ho1, ho2⟩ := hpx
    simp only [List.mem_cons, List.not_mem_nil, or_false] at hq8
    rcases hq8 with rfl | rfl
    · skip
      refine vx_catch (own := RL) (name := xB) hown [] ⟨0, 10, 13, 25⟩ [⟨0, 10, 17, 19⟩] (htab.trans rfl) (fun z hz => nomatch hz) (by decide) (by decide) (hts (.classLink RL 25 "java/lang/IndexOutOfBoundsException") (by decide +kernel)) (va_Nw.use rfl (hT.2.2.2.1 (xB, xB) (by decide))) h1 h2 h3 ?_
      refine lv_astore (lv' := [(4, .ref q9), (0, .ref (a 0)), (1, .int (iv xd)), (2, .int (iv xk)), (3, .ref w)]) hx hb dL_needs_13 hl (by decide) rfl (fun ls hl => ?_)
      refine r_const hx hb dL_needs_15 ?_
      exact e_int hx hb hr hlk dL_needs_16 hS hP hD (by decide) (by decide) (PH_x ho1 ho2 (by decide))
    · skip
      refine vx_catch (own := RL) (name := xA) hown [⟨0, 10, 13, 25⟩] ⟨0, 10, 17, 19⟩ [] (htab.trans rfl) (fun z hz => by simp only [List.mem_cons, List.not_mem_nil, or_false] at hz; subst hz; exact Or.inr ⟨by decide, xB, hts (.classLink RL 25 "java/lang/IndexOutOfBoundsException") (by decide +kernel), hN (xA, xB) (by decide)⟩) (by decide) (by decide) (hts (.classLink RL 19 "java/lang/IllegalArgumentException") (by decide +kernel)) (va_Nw.use rfl (hT.2.2.2.1 (xA, xA) (by decide))) h1 h2 h3 ?_
      refine lv_astore (lv' := [(4, .ref q9), (0, .ref (a 0)), (1, .int (iv xd)), (2, .int (iv xk)), (3, .ref w)]) hx hb dL_needs_17 hl (by decide) rfl (fun ls hl => ?_)
      refine r_const hx hb dL_needs_19 ?_
      exact e_int hx hb hr hlk dL_needs_20 hS hP hD (by decide) (by decide) (PH_x ho1 ho2 (by decide))
  · obtain ⟨ho, rfl, ad2, ap2, ts2, rfl⟩ := hw
    have hP : va_P D vwCl ([(w, .inl (G 5, 1, .inr (.inl (F))))] ++ wC G a ar az ad2 ap2 ts2 (opNeeds cs xd xk).2.2) H := wP_perm hP List.perm_append_comm
    have hD : va_D A ([(w, .inl (G 5, 1, .inr (.inl (F))))] ++ wC G a ar az ad2 ap2 ts2 (opNeeds cs xd xk).2.2) := wD_perm hD List.perm_append_comm
    refine lv_i2l (v := ((iv ((opNeeds cs xd xk).2.1))).toInt64) hx hb dL_needs_8 rfl ?_
    refine r_last0 (F := F) hx hb hK hP hD hS 0 rfl dL_needs_9 (fun H locs hP hD hS => ?_)
    have hP : va_P D vwCl ([(w, .inl (G 5, 1, .inr (.inl (vp_updL F 0 (((iv ((opNeeds cs xd xk).2.1))).toInt64)))))] ++ wC G a ar az ad2 ap2 ts2 (opNeeds cs xd xk).2.2) H := hP
    have hD : va_D A ([(w, .inl (G 5, 1, .inr (.inl (vp_updL F 0 (((iv ((opNeeds cs xd xk).2.1))).toInt64)))))] ++ wC G a ar az ad2 ap2 ts2 (opNeeds cs xd xk).2.2) := hD
    refine r_goto hx hb 21 dL_needs_10 (by decide) ?_
    refine r_const hx hb dL_needs_21 ?_
    exact e_int hx hb hr hlk dL_needs_22 hS hP hD (by decide) (by decide) (PH_v ho rfl)
set_option maxHeartbeats 4000000 in
set_option maxRecDepth 100000 in
theorem c_L_lacks (l : Launch) (D : va_G) (G : Nat → ClassId) (hl0 : l.stackTraces = false) (a ar az : Nat → Nat) (ad ap : AD) (ts : DS) (cs : CS) (hok : okC cs) (w : Nat) (F : Nat → Int64) (xk : Int) (rxk : -2147483648 ≤ xk ∧ xk < 2147483648)  : MtH l yL_lacks wsL_lacks 7 135 1 6 D (TY G) [.ref (a 0), .int (iv xk), .ref w] (wOut G w F ++ wC G a ar az ad ap ts cs) (qI D (PH G a ar az w (opLacks cs xk))) := by
  refine MtH.mk (cc := cL_lacks) (maxL := 4) (ret := some .int) (hh := [(0, 9, 12, 19)]) (by decide) rfl (Nat.le_of_ble_eq_true rfl) ?_
  intro p e s m below meth c A ls hx hb hr hlk hml hown hts hK hA hT hN hP hD hS hl htab
  replace hown : s.vm.findClass RL = some m.cls := hown
  have hl : lv_has ls 4 [(0, .ref (a 0)), (1, .int (iv xk)), (2, .ref w)] := hl
  skip
  have hP : va_P D vwCl ([(w, .inl (G 5, 1, .inr (.inl (F))))] ++ wC G a ar az ad ap ts cs) s.heap := hP
  have hD : va_D A ([(w, .inl (G 5, 1, .inr (.inl (F))))] ++ wC G a ar az ad ap ts cs) := hD
  refine lv_aload_n hx hb dL_lacks_0 rfl (lv_at hl 2 rfl) ?_
  refine r_const hx hb dL_lacks_1 ?_
  refine lv_aload_n hx hb dL_lacks_2 rfl (lv_at hl 0 rfl) ?_
  refine lv_iload_n hx hb dL_lacks_3 rfl (lv_at hl 1 rfl) ?_
  have hp : List.Perm ([(w, .inl (G 5, 1, .inr (.inl (F))))] ++ wC G a ar az ad ap ts cs) (wC G a ar az ad ap ts cs ++ [(w, .inl (G 5, 1, .inr (.inl (F))))]) := List.perm_append_comm
  refine kx_int (g_VX (As := [.int (iv xk)]) (rest := [.int (iv 0), .ref w]) (q0 := 1) (ci := 2) ⟨hx, hb, hml, hown, hts⟩ (c_X2_lacks l D G hl0 a ar az ad ap ts cs hok xk rxk) (cwV 1 hts gL_lacks_X2_lacks rfl rfl rfl (by decide +kernel) ⟨Nat.le_of_ble_eq_true rfl, Nat.le_of_ble_eq_true rfl⟩) hK hT hA hP hD hS hp rfl rfl rfl rfl hl.1 rfl (Nat.le_of_ble_eq_true rfl) dL_lacks_4 ⟨by decide, by decide⟩) hP hD hS hA hp (fun E ce q9 H locs hpx hP hD hS h1 h2 h3 => ?_) (fun v u H locs hw hP hD hS => ?_)
  · obtain ⟨q8, hq8, rfl, ho1, ho2⟩ := hpx
    simp only [List.mem_cons, List.not_mem_nil, or_false] at hq8
    rcases hq8 with rfl
    · skip
      refine vx_catch (own := RL) (name := xA) hown [] ⟨0, 9, 12, 19⟩ [] (htab.trans rfl) (fun z hz => nomatch hz) (by decide) (by decide) (hts (.classLink RL 19 "java/lang/IllegalArgumentException") (by decide +kernel)) (va_Nw.use rfl (hT.2.2.2.1 (xA, xA) (by decide))) h1 h2 h3 ?_
      refine lv_astore_n (lv' := [(3, .ref q9), (0, .ref (a 0)), (1, .int (iv xk)), (2, .ref w)]) hx hb dL_lacks_12 rfl hl (by decide) rfl (fun ls hl => ?_)
      refine r_const hx hb dL_lacks_13 ?_
      exact e_int hx hb hr hlk dL_lacks_14 hS hP hD (by decide) (by decide) (PH_x ho1 ho2 (by decide))
  · obtain ⟨ho, rfl, ad2, ap2, ts2, rfl⟩ := hw
    have hP : va_P D vwCl ([(w, .inl (G 5, 1, .inr (.inl (F))))] ++ wC G a ar az ad2 ap2 ts2 (opLacks cs xk).2.2) H := wP_perm hP List.perm_append_comm
    have hD : va_D A ([(w, .inl (G 5, 1, .inr (.inl (F))))] ++ wC G a ar az ad2 ap2 ts2 (opLacks cs xk).2.2) := wD_perm hD List.perm_append_comm
    refine lv_i2l (v := ((iv ((opLacks cs xk).2.1))).toInt64) hx hb dL_lacks_7 rfl ?_
    refine r_last0 (F := F) hx hb hK hP hD hS 0 rfl dL_lacks_8 (fun H locs hP hD hS => ?_)
    have hP : va_P D vwCl ([(w, .inl (G 5, 1, .inr (.inl (vp_updL F 0 (((iv ((opLacks cs xk).2.1))).toInt64)))))] ++ wC G a ar az ad2 ap2 ts2 (opLacks cs xk).2.2) H := hP
    have hD : va_D A ([(w, .inl (G 5, 1, .inr (.inl (vp_updL F 0 (((iv ((opLacks cs xk).2.1))).toInt64)))))] ++ wC G a ar az ad2 ap2 ts2 (opLacks cs xk).2.2) := hD
    refine r_goto hx hb 15 dL_lacks_9 (by decide) ?_
    refine r_const hx hb dL_lacks_15 ?_
    exact e_int hx hb hr hlk dL_lacks_16 hS hP hD (by decide) (by decide) (PH_v ho rfl)
set_option maxHeartbeats 4000000 in
set_option maxRecDepth 100000 in
theorem c_L_foresee (l : Launch) (D : va_G) (G : Nat → ClassId) (hl0 : l.stackTraces = false) (a ar az : Nat → Nat) (ad ap : AD) (ts : DS) (cs : CS) (hok : okC cs) (hdl : kd cs ≤ 1000000) (w : Nat) (F : Nat → Int64) (xk xw : Int) (rxk : -2147483648 ≤ xk ∧ xk < 2147483648) (rxw : -2147483648 ≤ xw ∧ xw < 2147483648)  : MtH l yL_foresee wsL_foresee 8 275 1 6 D (TY G) [.ref (a 0), .int (iv xk), .int (iv xw), .ref w] (wOut G w F ++ wC G a ar az ad ap ts cs) (qI D (PH G a ar az w (opForesee cs xk xw))) := by
  refine MtH.mk (cc := cL_foresee) (maxL := 5) (ret := some .int) (hh := [(0, 10, 13, 19), (0, 10, 17, 25)]) (by decide) rfl (Nat.le_of_ble_eq_true rfl) ?_
  intro p e s m below meth c A ls hx hb hr hlk hml hown hts hK hA hT hN hP hD hS hl htab
  replace hown : s.vm.findClass RL = some m.cls := hown
  have hl : lv_has ls 5 [(0, .ref (a 0)), (1, .int (iv xk)), (2, .int (iv xw)), (3, .ref w)] := hl
  skip
  have hP : va_P D vwCl ([(w, .inl (G 5, 1, .inr (.inl (F))))] ++ wC G a ar az ad ap ts cs) s.heap := hP
  have hD : va_D A ([(w, .inl (G 5, 1, .inr (.inl (F))))] ++ wC G a ar az ad ap ts cs) := hD
  refine lv_aload_n hx hb dL_foresee_0 rfl (lv_at hl 3 rfl) ?_
  refine r_const hx hb dL_foresee_1 ?_
  refine lv_aload_n hx hb dL_foresee_2 rfl (lv_at hl 0 rfl) ?_
  refine lv_iload_n hx hb dL_foresee_3 rfl (lv_at hl 1 rfl) ?_
  refine lv_iload_n hx hb dL_foresee_4 rfl (lv_at hl 2 rfl) ?_
  have hp : List.Perm ([(w, .inl (G 5, 1, .inr (.inl (F))))] ++ wC G a ar az ad ap ts cs) (wC G a ar az ad ap ts cs ++ [(w, .inl (G 5, 1, .inr (.inl (F))))]) := List.perm_append_comm
  refine kx_int (g_VX (As := [.int (iv xk), .int (iv xw)]) (rest := [.int (iv 0), .ref w]) (q0 := 1) (ci := 2) ⟨hx, hb, hml, hown, hts⟩ (c_X2_foresee l D G hl0 a ar az ad ap ts cs hok hdl xk xw rxk rxw) (cwV 2 hts gL_foresee_X2_foresee rfl rfl rfl (by decide +kernel) ⟨Nat.le_of_ble_eq_true rfl, Nat.le_of_ble_eq_true rfl⟩) hK hT hA hP hD hS hp rfl rfl rfl rfl hl.1 rfl (Nat.le_of_ble_eq_true rfl) dL_foresee_5 ⟨by decide, by decide⟩) hP hD hS hA hp (fun E ce q9 H locs hpx hP hD hS h1 h2 h3 => ?_) (fun v u H locs hw hP hD hS => ?_)
  · obtain ⟨q8, hq8, rfl, ho1, ho2⟩ := hpx
    simp only [List.mem_cons, List.not_mem_nil, or_false] at hq8
    rcases hq8 with rfl | rfl
    · skip
      refine vx_catch (own := RL) (name := xA) hown [] ⟨0, 10, 13, 19⟩ [⟨0, 10, 17, 25⟩] (htab.trans rfl) (fun z hz => nomatch hz) (by decide) (by decide) (hts (.classLink RL 19 "java/lang/IllegalArgumentException") (by decide +kernel)) (va_Nw.use rfl (hT.2.2.2.1 (xA, xA) (by decide))) h1 h2 h3 ?_
      refine lv_astore (lv' := [(4, .ref q9), (0, .ref (a 0)), (1, .int (iv xk)), (2, .int (iv xw)), (3, .ref w)]) hx hb dL_foresee_13 hl (by decide) rfl (fun ls hl => ?_)
      refine r_const hx hb dL_foresee_15 ?_
      exact e_int hx hb hr hlk dL_foresee_16 hS hP hD (by decide) (by decide) (PH_x ho1 ho2 (by decide))
    · skip
      refine vx_catch (own := RL) (name := xB) hown [⟨0, 10, 13, 19⟩] ⟨0, 10, 17, 25⟩ [] (htab.trans rfl) (fun z hz => by simp only [List.mem_cons, List.not_mem_nil, or_false] at hz; subst hz; exact Or.inr ⟨by decide, xA, hts (.classLink RL 19 "java/lang/IllegalArgumentException") (by decide +kernel), hN (xB, xA) (by decide)⟩) (by decide) (by decide) (hts (.classLink RL 25 "java/lang/IndexOutOfBoundsException") (by decide +kernel)) (va_Nw.use rfl (hT.2.2.2.1 (xB, xB) (by decide))) h1 h2 h3 ?_
      refine lv_astore (lv' := [(4, .ref q9), (0, .ref (a 0)), (1, .int (iv xk)), (2, .int (iv xw)), (3, .ref w)]) hx hb dL_foresee_17 hl (by decide) rfl (fun ls hl => ?_)
      refine r_const hx hb dL_foresee_19 ?_
      exact e_int hx hb hr hlk dL_foresee_20 hS hP hD (by decide) (by decide) (PH_x ho1 ho2 (by decide))
  · obtain ⟨ho, rfl, ad2, ap2, ts2, rfl⟩ := hw
    have hP : va_P D vwCl ([(w, .inl (G 5, 1, .inr (.inl (F))))] ++ wC G a ar az ad2 ap2 ts2 (opForesee cs xk xw).2.2) H := wP_perm hP List.perm_append_comm
    have hD : va_D A ([(w, .inl (G 5, 1, .inr (.inl (F))))] ++ wC G a ar az ad2 ap2 ts2 (opForesee cs xk xw).2.2) := wD_perm hD List.perm_append_comm
    refine lv_i2l (v := ((iv ((opForesee cs xk xw).2.1))).toInt64) hx hb dL_foresee_8 rfl ?_
    refine r_last0 (F := F) hx hb hK hP hD hS 0 rfl dL_foresee_9 (fun H locs hP hD hS => ?_)
    have hP : va_P D vwCl ([(w, .inl (G 5, 1, .inr (.inl (vp_updL F 0 (((iv ((opForesee cs xk xw).2.1))).toInt64)))))] ++ wC G a ar az ad2 ap2 ts2 (opForesee cs xk xw).2.2) H := hP
    have hD : va_D A ([(w, .inl (G 5, 1, .inr (.inl (vp_updL F 0 (((iv ((opForesee cs xk xw).2.1))).toInt64)))))] ++ wC G a ar az ad2 ap2 ts2 (opForesee cs xk xw).2.2) := hD
    refine r_goto hx hb 21 dL_foresee_10 (by decide) ?_
    refine r_const hx hb dL_foresee_21 ?_
    exact e_int hx hb hr hlk dL_foresee_22 hS hP hD (by decide) (by decide) (PH_v ho rfl)
set_option maxHeartbeats 4000000 in
set_option maxRecDepth 100000 in
theorem c_L_pass (l : Launch) (D : va_G) (G : Nat → ClassId) (hl0 : l.stackTraces = false) (a ar az : Nat → Nat) (ad ap : AD) (ts : DS) (cs : CS) (hok : okC cs) (hdl : kd cs ≤ 1000000) (w : Nat) (F : Nat → Int64) (xk : Int) (rxk : -2147483648 ≤ xk ∧ xk < 2147483648)  : MtH l yL_pass wsL_pass 8 275 1 6 D (TY G) [.ref (a 0), .int (iv xk), .ref w] (wOut G w F ++ wC G a ar az ad ap ts cs) (qI D (PH G a ar az w (opPass cs xk))) := by
  refine MtH.mk (cc := cL_pass) (maxL := 4) (ret := some .int) (hh := [(0, 9, 12, 19)]) (by decide) rfl (Nat.le_of_ble_eq_true rfl) ?_
  intro p e s m below meth c A ls hx hb hr hlk hml hown hts hK hA hT hN hP hD hS hl htab
  replace hown : s.vm.findClass RL = some m.cls := hown
  have hl : lv_has ls 4 [(0, .ref (a 0)), (1, .int (iv xk)), (2, .ref w)] := hl
  skip
  have hP : va_P D vwCl ([(w, .inl (G 5, 1, .inr (.inl (F))))] ++ wC G a ar az ad ap ts cs) s.heap := hP
  have hD : va_D A ([(w, .inl (G 5, 1, .inr (.inl (F))))] ++ wC G a ar az ad ap ts cs) := hD
  refine lv_aload_n hx hb dL_pass_0 rfl (lv_at hl 2 rfl) ?_
  refine r_const hx hb dL_pass_1 ?_
  refine lv_aload_n hx hb dL_pass_2 rfl (lv_at hl 0 rfl) ?_
  refine lv_iload_n hx hb dL_pass_3 rfl (lv_at hl 1 rfl) ?_
  have hp : List.Perm ([(w, .inl (G 5, 1, .inr (.inl (F))))] ++ wC G a ar az ad ap ts cs) (wC G a ar az ad ap ts cs ++ [(w, .inl (G 5, 1, .inr (.inl (F))))]) := List.perm_append_comm
  refine kx_int (g_VX (As := [.int (iv xk)]) (rest := [.int (iv 0), .ref w]) (q0 := 1) (ci := 2) ⟨hx, hb, hml, hown, hts⟩ (c_X2_pass l D G hl0 a ar az ad ap ts cs hok hdl xk rxk) (cwV 1 hts gL_pass_X2_pass rfl rfl rfl (by decide +kernel) ⟨Nat.le_of_ble_eq_true rfl, Nat.le_of_ble_eq_true rfl⟩) hK hT hA hP hD hS hp rfl rfl rfl rfl hl.1 rfl (Nat.le_of_ble_eq_true rfl) dL_pass_4 ⟨by decide, by decide⟩) hP hD hS hA hp (fun E ce q9 H locs hpx hP hD hS h1 h2 h3 => ?_) (fun v u H locs hw hP hD hS => ?_)
  · obtain ⟨q8, hq8, rfl, ho1, ho2⟩ := hpx
    simp only [List.mem_cons, List.not_mem_nil, or_false] at hq8
    rcases hq8 with rfl
    · skip
      refine vx_catch (own := RL) (name := xA) hown [] ⟨0, 9, 12, 19⟩ [] (htab.trans rfl) (fun z hz => nomatch hz) (by decide) (by decide) (hts (.classLink RL 19 "java/lang/IllegalArgumentException") (by decide +kernel)) (va_Nw.use rfl (hT.2.2.2.1 (xA, xA) (by decide))) h1 h2 h3 ?_
      refine lv_astore_n (lv' := [(3, .ref q9), (0, .ref (a 0)), (1, .int (iv xk)), (2, .ref w)]) hx hb dL_pass_12 rfl hl (by decide) rfl (fun ls hl => ?_)
      refine r_const hx hb dL_pass_13 ?_
      exact e_int hx hb hr hlk dL_pass_14 hS hP hD (by decide) (by decide) (PH_x ho1 ho2 (by decide))
  · obtain ⟨ho, rfl, ad2, ap2, ts2, rfl⟩ := hw
    have hP : va_P D vwCl ([(w, .inl (G 5, 1, .inr (.inl (F))))] ++ wC G a ar az ad2 ap2 ts2 (opPass cs xk).2.2) H := wP_perm hP List.perm_append_comm
    have hD : va_D A ([(w, .inl (G 5, 1, .inr (.inl (F))))] ++ wC G a ar az ad2 ap2 ts2 (opPass cs xk).2.2) := wD_perm hD List.perm_append_comm
    refine lv_i2l (v := ((iv ((opPass cs xk).2.1))).toInt64) hx hb dL_pass_7 rfl ?_
    refine r_last0 (F := F) hx hb hK hP hD hS 0 rfl dL_pass_8 (fun H locs hP hD hS => ?_)
    have hP : va_P D vwCl ([(w, .inl (G 5, 1, .inr (.inl (vp_updL F 0 (((iv ((opPass cs xk).2.1))).toInt64)))))] ++ wC G a ar az ad2 ap2 ts2 (opPass cs xk).2.2) H := hP
    have hD : va_D A ([(w, .inl (G 5, 1, .inr (.inl (vp_updL F 0 (((iv ((opPass cs xk).2.1))).toInt64)))))] ++ wC G a ar az ad2 ap2 ts2 (opPass cs xk).2.2) := hD
    refine r_goto hx hb 15 dL_pass_9 (by decide) ?_
    refine r_const hx hb dL_pass_15 ?_
    exact e_int hx hb hr hlk dL_pass_16 hS hP hD (by decide) (by decide) (PH_v ho rfl)
