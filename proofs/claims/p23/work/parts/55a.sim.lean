set_option maxHeartbeats 4000000 in
set_option maxRecDepth 100000 in
theorem c_X4_init (l : Launch) (D : va_G) (G : Nat → ClassId) (h : Nat)  : MtX l yX4_init wsX4_init 1 40 3 5 D (TY G) [.ref h] ([(h, .inr (4, [.null, .null, .null, .int (iv 0), .int (iv 0)]))]) (qV D (fun u => ∃ (b : Nat → Nat) (sd sp : AD) (jj : Nat → Int), b 0 = h ∧ u = wSim G b sd sp jj c0)) := by
  refine MtX.mk (cc := cX4_init) (maxL := 1) (ret := none) (by decide) rfl (Nat.le_of_ble_eq_true rfl) ?_
  intro p e s m below meth c A ls hx hb hr hlk hml hown hin hts hK hA hT hP hD hS hl
  replace hown : s.vm.findClass RX4 = some m.cls := hown
  have hl : lv_has ls 1 [(0, .ref h)] := hl
  have hP : va_P D vwCl ([(h, .inr (4, [.null, .null, .null, .int (iv 0), .int (iv 0)]))]) s.heap := hP
  have hD : va_D A ([(h, .inr (4, [.null, .null, .null, .int (iv 0), .int (iv 0)]))]) := hD
  have lk9 := hts (.fieldLink RX4 9 "DollCitadelLaw$Sim" "dolls" "[LDollCitadelLaw$Doll;") (by decide +kernel)
  have in_X4 : ∀ w ∈ u_ws RX4 TX4 5, w ∈ wsX4_init := by decide +kernel
  have lk17 := hts (.fieldLink RX4 17 "DollCitadelLaw$Sim" "poses" "[[I") (by decide +kernel)
  have lk21 := hts (.fieldLink RX4 21 "DollCitadelLaw$Sim" "store" "[I") (by decide +kernel)
  have lk24 := hts (.fieldLink RX4 24 "DollCitadelLaw$Sim" "moths" "I") (by decide +kernel)
  refine lv_aload_n hx hb dX4_init_0 rfl (lv_at hl 0 rfl) ?_
  refine W.objInit hx hb hown (hts (.methodLink RX4 1 objectInit) (by decide +kernel)) (hts (.instanceMethod objectInit) (by decide +kernel)) (hts (.code objectInit ⟨#[0xb1]⟩ 1 none) (by decide +kernel)) rfl (hl.1.trans hml.symm) rfl dX4_init_1 (Nat.le_of_ble_eq_true rfl) (Nat.le_of_ble_eq_true rfl) ?_
  refine W.eq (g2 := F0 m 4 ls []) rfl ?_
  refine lv_aload_n hx hb dX4_init_4 rfl (lv_at hl 0 rfl) ?_
  refine r_const hx hb dX4_init_5 ?_
  refine r_newO (C := RX3) hx hb hown (hts (.classLink RX4 7 RX3) (by decide +kernel)) hT.2.2.2.2.2.2.2.1.2.1 hK hP hD hS hA 5 rfl 0 (by omega) (by omega) (by show _ ≤ (3 : Nat); omega) (by show _ ≤ (5 : Nat); omega) dX4_init_6 (fun q_6 H hP hD hS => ?_)
  have hP : va_P D vwCl ([(h, .inr (4, [.null, .null, .null, .int (iv 0), .int (iv 0)])), (q_6, .inl (G 5, 0, .inr (.inr (.inr (.inr (fun _ => none))))))]) _ := hP
  have hD : va_D A ([(h, .inr (4, [.null, .null, .null, .int (iv 0), .int (iv 0)])), (q_6, .inl (G 5, 0, .inr (.inr (.inr (.inr (fun _ => none))))))]) := hD
  refine va_put (D := D) (ci := 4) (v := .ref q_6) (ty := .array (.object "DollCitadelLaw$Doll")) (C := RX4) (T := TX4) (N := 5) hx hb hts in_X4 tyX4 tyX4_ok nmX4 hown hK hP hD hS 0 rfl rfl 0 (by decide) lk9 (fun _ h9 => h9) rfl (by decide +kernel) rfl rfl (Nat.le_of_ble_eq_true rfl) dX4_init_9 (fun H locs hP hD hS => ?_)
  have hP : va_P D vwCl ([(h, .inr (4, [.ref q_6, .null, .null, .int (iv 0), .int (iv 0)])), (q_6, .inl (G 5, 0, .inr (.inr (.inr (.inr (fun _ => none))))))]) _ := hP
  have hD : va_D A ([(h, .inr (4, [.ref q_6, .null, .null, .int (iv 0), .int (iv 0)])), (q_6, .inl (G 5, 0, .inr (.inr (.inr (.inr (fun _ => none))))))]) := hD
  refine lv_aload_n hx hb dX4_init_12 rfl (lv_at hl 0 rfl) ?_
  refine r_const hx hb dX4_init_13 ?_
  refine r_newII hx hb hown (hts (.classLink RX4 15 "[I") (by decide +kernel)) hT.2.2.2.2.2.2.2.1.1 hK hP hD hS hA 0 (by omega) (by omega) (by show _ ≤ (3 : Nat); omega) (by show _ ≤ (5 : Nat); omega) dX4_init_14 (fun q_14 H kA hkA hkind hP hD hS => ?_)
  have hP : va_P D vwCl ([(h, .inr (4, [.ref q_6, .null, .null, .int (iv 0), .int (iv 0)])), (q_6, .inl (G 5, 0, .inr (.inr (.inr (.inr (fun _ => none)))))), (q_14, .inl (G 4, 0, .inr (.inr (.inr (.inr (fun _ => none))))))]) _ := hP
  have hD : va_D A ([(h, .inr (4, [.ref q_6, .null, .null, .int (iv 0), .int (iv 0)])), (q_6, .inl (G 5, 0, .inr (.inr (.inr (.inr (fun _ => none)))))), (q_14, .inl (G 4, 0, .inr (.inr (.inr (.inr (fun _ => none))))))]) := hD
  refine va_put (D := D) (ci := 4) (v := .ref q_14) (ty := .array (.array .int)) (C := RX4) (T := TX4) (N := 5) hx hb hts in_X4 tyX4 tyX4_ok nmX4 hown hK hP hD hS 0 rfl rfl 1 (by decide) lk17 (fun _ h9 => h9) rfl (by decide +kernel) rfl rfl (Nat.le_of_ble_eq_true rfl) dX4_init_17 (fun H locs hP hD hS => ?_)
  have hP : va_P D vwCl ([(h, .inr (4, [.ref q_6, .ref q_14, .null, .int (iv 0), .int (iv 0)])), (q_6, .inl (G 5, 0, .inr (.inr (.inr (.inr (fun _ => none)))))), (q_14, .inl (G 4, 0, .inr (.inr (.inr (.inr (fun _ => none))))))]) _ := hP
  have hD : va_D A ([(h, .inr (4, [.ref q_6, .ref q_14, .null, .int (iv 0), .int (iv 0)])), (q_6, .inl (G 5, 0, .inr (.inr (.inr (.inr (fun _ => none)))))), (q_14, .inl (G 4, 0, .inr (.inr (.inr (.inr (fun _ => none))))))]) := hD
  refine lv_aload_n hx hb dX4_init_20 rfl (lv_at hl 0 rfl) ?_
  refine r_const hx hb dX4_init_21 ?_
  refine r_newI hx hb (hts (.arrayClass .int) (by decide +kernel)) hK hP hD hS hA 5 (by omega) (by omega) (by show _ ≤ (3 : Nat); omega) (by show _ ≤ (5 : Nat); omega) dX4_init_22 (fun q_22 H hP hD hS => ?_)
  have hP : va_P D vwCl ([(h, .inr (4, [.ref q_6, .ref q_14, .null, .int (iv 0), .int (iv 0)])), (q_6, .inl (G 5, 0, .inr (.inr (.inr (.inr (fun _ => none)))))), (q_14, .inl (G 4, 0, .inr (.inr (.inr (.inr (fun _ => none)))))), (q_22, .inl (G 0, 5, .inl (fun y9 => iv (zz y9))))]) _ := hP
  have hD : va_D A ([(h, .inr (4, [.ref q_6, .ref q_14, .null, .int (iv 0), .int (iv 0)])), (q_6, .inl (G 5, 0, .inr (.inr (.inr (.inr (fun _ => none)))))), (q_14, .inl (G 4, 0, .inr (.inr (.inr (.inr (fun _ => none)))))), (q_22, .inl (G 0, 5, .inl (fun y9 => iv (zz y9))))]) := hD
  refine va_put (D := D) (ci := 4) (v := .ref q_22) (ty := .array .int) (C := RX4) (T := TX4) (N := 5) hx hb hts in_X4 tyX4 tyX4_ok nmX4 hown hK hP hD hS 0 rfl rfl 2 (by decide) lk21 (fun _ h9 => h9) rfl (by decide +kernel) rfl rfl (Nat.le_of_ble_eq_true rfl) dX4_init_24 (fun H locs hP hD hS => ?_)
  have hP : va_P D vwCl ([(h, .inr (4, [.ref q_6, .ref q_14, .ref q_22, .int (iv 0), .int (iv 0)])), (q_6, .inl (G 5, 0, .inr (.inr (.inr (.inr (fun _ => none)))))), (q_14, .inl (G 4, 0, .inr (.inr (.inr (.inr (fun _ => none)))))), (q_22, .inl (G 0, 5, .inl (fun y9 => iv (zz y9))))]) _ := hP
  have hD : va_D A ([(h, .inr (4, [.ref q_6, .ref q_14, .ref q_22, .int (iv 0), .int (iv 0)])), (q_6, .inl (G 5, 0, .inr (.inr (.inr (.inr (fun _ => none)))))), (q_14, .inl (G 4, 0, .inr (.inr (.inr (.inr (fun _ => none)))))), (q_22, .inl (G 0, 5, .inl (fun y9 => iv (zz y9))))]) := hD
  refine lv_aload_n hx hb dX4_init_27 rfl (lv_at hl 0 rfl) ?_
  refine r_const hx hb dX4_init_28 ?_
  refine va_put (D := D) (ci := 4) (v := .int (iv 1)) (ty := .int) (C := RX4) (T := TX4) (N := 5) hx hb hts in_X4 tyX4 tyX4_ok nmX4 hown hK hP hD hS 0 rfl rfl 3 (by decide) lk24 (fun _ h9 => h9) rfl (by decide +kernel) rfl rfl (Nat.le_of_ble_eq_true rfl) dX4_init_29 (fun H locs hP hD hS => ?_)
  have hP : va_P D vwCl ([(h, .inr (4, [.ref q_6, .ref q_14, .ref q_22, .int (iv 1), .int (iv 0)])), (q_6, .inl (G 5, 0, .inr (.inr (.inr (.inr (fun _ => none)))))), (q_14, .inl (G 4, 0, .inr (.inr (.inr (.inr (fun _ => none)))))), (q_22, .inl (G 0, 5, .inl (fun y9 => iv (zz y9))))]) _ := hP
  have hD : va_D A ([(h, .inr (4, [.ref q_6, .ref q_14, .ref q_22, .int (iv 1), .int (iv 0)])), (q_6, .inl (G 5, 0, .inr (.inr (.inr (.inr (fun _ => none)))))), (q_14, .inl (G 4, 0, .inr (.inr (.inr (.inr (fun _ => none)))))), (q_22, .inl (G 0, 5, .inl (fun y9 => iv (zz y9))))]) := hD
  rw [show (fun _ => none : Nat → Option Nat) = aF (fun _ _ => 0) 0 from funext fun d => (if_neg (Nat.not_lt_zero d)).symm] at hP hD
  exact e_void hx hb hr hlk dX4_init_32 hS hP hD (by omega) (by omega) (⟨(fun k9 => if k9 = 0 then h else if k9 = 1 then q_6 else if k9 = 2 then q_14 else q_22), fun _ _ => 0, fun _ _ => 0, fun _ => 0, rfl, rfl⟩)
set_option maxHeartbeats 4000000 in
set_option maxRecDepth 100000 in
theorem c_X4_pass (l : Launch) (D : va_G) (G : Nat → ClassId) (b : Nat → Nat) (sd sp : AD) (jj : Nat → Int) (cs : CS) (hok : okC cs) (hdl : kd cs ≤ 1000000)  : MtG l yX4_pass wsX4_pass 1 40 0 0 D (TY G) [.ref (b 0)] (wSim G b sd sp jj cs) (qI D (fun r u => (∃ z : Int, r = iv z) ∧ ∃ j2 : Nat → Int, u = wSim G b sd sp j2 (afterC cs 1))) := by
  refine MtG.mk (cc := cX4_pass) (maxL := 6) (ret := some .int) (by decide) rfl (Nat.le_of_ble_eq_true rfl) ?_
  intro p e s m below meth c A ls hx hb hr hlk hml hown hin hts hK hA hP hD hS hl
  replace hown : s.vm.findClass RX4 = some m.cls := hown
  have hl : lv_has ls 6 [(0, .ref (b 0))] := hl
  have hP : va_P D vwCl (wSim G b sd sp jj cs) s.heap := hP
  have hD : va_D A (wSim G b sd sp jj cs) := hD
  have lk9 := hts (.fieldLink RX4 9 "DollCitadelLaw$Sim" "dolls" "[LDollCitadelLaw$Doll;") (by decide +kernel)
  have in_X4 : ∀ w ∈ u_ws RX4 TX4 5, w ∈ wsX4_pass := by decide +kernel
  have lk33 := hts (.fieldLink RX4 33 "DollCitadelLaw$Sim" "day" "I") (by decide +kernel)
  have lk24 := hts (.fieldLink RX4 24 "DollCitadelLaw$Sim" "moths" "I") (by decide +kernel)
  obtain ⟨on8, op8, -, -, -, oday, omo⟩ := id hok
  have hq : List.Perm (α := Nat × va_E) (wSim G b sd sp jj cs) ([(b 0, .inr (4, [.ref (b 1), .ref (b 2), .ref (b 3), .int (iv (km cs)), .int (iv (kd cs))])), (b 1, .inl (G 5, kn cs, .inr (.inr (.inr (.inr (aF sd (kn cs))))))), (b 2, .inl (G 4, kp cs, .inr (.inr (.inr (.inr (aF sp (kp cs))))))), (b 3, .inl (G 0, 5, .inl (fun y9 => iv (kT cs y9))))] ++ ((wLs G sd (kS cs) jj (kn cs)) ++ (wRs G sp (kP cs) (kp cs)))) := wperm (fun q9 => by
    have e_0 : cn q9 (wSim G b sd sp jj cs) = cn q9 ([(b 0, .inr (4, [.ref (b 1), .ref (b 2), .ref (b 3), .int (iv (km cs)), .int (iv (kd cs))])), (b 1, .inl (G 5, kn cs, .inr (.inr (.inr (.inr (aF sd (kn cs))))))), (b 2, .inl (G 4, kp cs, .inr (.inr (.inr (.inr (aF sp (kp cs))))))), (b 3, .inl (G 0, 5, .inl (fun y9 => iv (kT cs y9))))] ++ ((wLs G sd (kS cs) jj (kn cs)) ++ (wRs G sp (kP cs) (kp cs)))) := rfl
    simp only [cn_app, cn_nil, cn_two] at e_0 ⊢ <;> omega)
  replace hP := wP_perm hP hq
  replace hD := wD_perm hD hq
  have hP : va_P D vwCl ([(b 0, .inr (4, [.ref (b 1), .ref (b 2), .ref (b 3), .int (iv (km cs)), .int (iv (kd cs))])), (b 1, .inl (G 5, kn cs, .inr (.inr (.inr (.inr (aF sd (kn cs))))))), (b 2, .inl (G 4, kp cs, .inr (.inr (.inr (.inr (aF sp (kp cs))))))), (b 3, .inl (G 0, 5, .inl (fun y9 => iv (kT cs y9))))] ++ ((wLs G sd (kS cs) jj (kn cs)) ++ (wRs G sp (kP cs) (kp cs)))) _ := hP
  have hD : va_D A ([(b 0, .inr (4, [.ref (b 1), .ref (b 2), .ref (b 3), .int (iv (km cs)), .int (iv (kd cs))])), (b 1, .inl (G 5, kn cs, .inr (.inr (.inr (.inr (aF sd (kn cs))))))), (b 2, .inl (G 4, kp cs, .inr (.inr (.inr (.inr (aF sp (kp cs))))))), (b 3, .inl (G 0, 5, .inl (fun y9 => iv (kT cs y9))))] ++ ((wLs G sd (kS cs) jj (kn cs)) ++ (wRs G sp (kP cs) (kp cs)))) := hD
  refine r_const hx hb dX4_pass_0 ?_
  refine lv_istore_n (lv' := [(1, .int (iv 0)), (0, .ref (b 0))]) hx hb dX4_pass_1 rfl hl (by decide) rfl (fun ls hl => ?_)
  refine lv_aload_n hx hb dX4_pass_2 rfl (lv_at hl 1 rfl) ?_
  refine va_get (D := D) (ci := 4) (v := .ref (b 1)) (C := RX4) (T := TX4) (N := 5) hx hb hts in_X4 hown hK hP 0 rfl rfl 0 (by decide) lk9 (fun _ h9 => h9) rfl dX4_pass_3 ?_
  refine lv_astore_n (lv' := [(2, .ref (b 1)), (1, .int (iv 0)), (0, .ref (b 0))]) hx hb dX4_pass_6 rfl hl (by decide) rfl (fun ls hl => ?_)
  refine lv_aload_n hx hb dX4_pass_7 rfl (lv_at hl 0 rfl) ?_
  refine va_alen (v := iv (kn cs : Int)) hx hb hK hP 1 5 rfl (ty := _) rfl (iv_nI _) dX4_pass_8 ?_
  refine lv_istore_n (lv' := [(3, .int (iv (kn cs : Int))), (2, .ref (b 1)), (1, .int (iv 0)), (0, .ref (b 0))]) hx hb dX4_pass_9 rfl hl (by decide) rfl (fun ls hl => ?_)
  refine r_const hx hb dX4_pass_10 ?_
  refine lv_istore (lv' := [(4, .int (iv 0)), (3, .int (iv (kn cs : Int))), (2, .ref (b 1)), (1, .int (iv 0)), (0, .ref (b 0))]) hx hb dX4_pass_11 hl (by decide) rfl (fun ls hl => ?_)
  have K13 : ∀ (fu i : Nat) (x : Int) (jj : Nat → Int), i ≤ kn cs → kn cs < i + fu → ∀ (H : Heap) (locs : List Loc), va_P D vwCl ([(b 0, .inr (4, [.ref (b 1), .ref (b 2), .ref (b 3), .int (iv (km cs)), .int (iv (kd cs))])), (b 1, .inl (G 5, kn cs, .inr (.inr (.inr (.inr (aF sd (kn cs))))))), (b 2, .inl (G 4, kp cs, .inr (.inr (.inr (.inr (aF sp (kp cs))))))), (b 3, .inl (G 0, 5, .inl (fun y9 => iv (kT cs y9))))] ++ ((wLs G sd (midS cs 1 i) jj (kn cs)) ++ (wRs G sp (kP cs) (kp cs)))) H → va_D A ([(b 0, .inr (4, [.ref (b 1), .ref (b 2), .ref (b 3), .int (iv (km cs)), .int (iv (kd cs))])), (b 1, .inl (G 5, kn cs, .inr (.inr (.inr (.inr (aF sd (kn cs))))))), (b 2, .inl (G 4, kp cs, .inr (.inr (.inr (.inr (aF sp (kp cs))))))), (b 3, .inl (G 0, 5, .inl (fun y9 => iv (kT cs y9))))] ++ ((wLs G sd (midS cs 1 i) jj (kn cs)) ++ (wRs G sp (kP cs) (kp cs)))) → va_S A s.heap H locs → ∀ (ls : Array Slot), lv_has ls 6 [(0, .ref (b 0)), (1, .int (iv x)), (2, .ref (b 1)), (3, .int (iv (kn cs : Int))), (4, .int (iv (i : Int)))] → W p l e (rmOf 1 40 0 0) s m ([.ref (b 0)] : List Value).toArray below meth c H locs (0) (0) (MQ below (qI D (fun r u => (∃ z : Int, r = iv z) ∧ ∃ j2 : Nat → Int, u = wSim G b sd sp j2 (afterC cs 1)) A) ([.ref (b 0)] : List Value).toArray s 0 0 A) (F0 m 13 ls []) := by
    intro fu
    induction fu with
    | zero => intro i x jj h1 h2; exact absurd h2 (by omega)
    | succ fu ih13 =>
      intro i x jj hi_13 hn_13 H locs hP hD hS ls hl
      refine lv_iload hx hb dX4_pass_13 (lv_at hl 4 rfl) ?_
      refine lv_iload_n hx hb dX4_pass_15 rfl (lv_at hl 3 rfl) ?_
      refine r_icmp_ge hx hb 47 dX4_pass_16 (by decide) (by omega) (by omega) (fun c_16 => ?_) (fun c_16 => ?_)
      · skip
        refine lv_aload_n hx hb dX4_pass_47 rfl (lv_at hl 0 rfl) ?_
        refine lv_dup hx hb dX4_pass_48 rfl ?_
        refine va_get (D := D) (ci := 4) (v := .int (iv (kd cs))) (C := RX4) (T := TX4) (N := 5) hx hb hts in_X4 hown hK hP 0 rfl rfl 4 (by decide) lk33 (fun _ h9 => h9) rfl dX4_pass_49 ?_
        refine r_const hx hb dX4_pass_52 ?_
        refine r_add hx hb dX4_pass_53 ?_
        refine va_put (D := D) (ci := 4) (v := .int (iv ((kd cs) + 1))) (ty := .int) (C := RX4) (T := TX4) (N := 5) hx hb hts in_X4 tyX4 tyX4_ok nmX4 hown hK hP hD hS 0 rfl rfl 4 (by decide) lk33 (fun _ h9 => h9) rfl (by decide +kernel) rfl rfl (Nat.le_of_ble_eq_true rfl) dX4_pass_54 (fun H locs hP hD hS => ?_)
        have hP : va_P D vwCl ([(b 0, .inr (4, [.ref (b 1), .ref (b 2), .ref (b 3), .int (iv (km cs)), .int (iv ((kd cs) + 1))])), (b 1, .inl (G 5, kn cs, .inr (.inr (.inr (.inr (aF sd (kn cs))))))), (b 2, .inl (G 4, kp cs, .inr (.inr (.inr (.inr (aF sp (kp cs))))))), (b 3, .inl (G 0, 5, .inl (fun y9 => iv (kT cs y9))))] ++ ((wLs G sd (midS cs 1 i) jj (kn cs)) ++ (wRs G sp (kP cs) (kp cs)))) _ := hP
        have hD : va_D A ([(b 0, .inr (4, [.ref (b 1), .ref (b 2), .ref (b 3), .int (iv (km cs)), .int (iv ((kd cs) + 1))])), (b 1, .inl (G 5, kn cs, .inr (.inr (.inr (.inr (aF sd (kn cs))))))), (b 2, .inl (G 4, kp cs, .inr (.inr (.inr (.inr (aF sp (kp cs))))))), (b 3, .inl (G 0, 5, .inl (fun y9 => iv (kT cs y9))))] ++ ((wLs G sd (midS cs 1 i) jj (kn cs)) ++ (wRs G sp (kP cs) (kp cs)))) := hD
        refine lv_iload_n hx hb dX4_pass_57 rfl (lv_at hl 1 rfl) ?_
        obtain rfl : i = kn cs := by omega
        have hq : List.Perm (α := Nat × va_E) ([(b 0, .inr (4, [.ref (b 1), .ref (b 2), .ref (b 3), .int (iv (km cs)), .int (iv ((kd cs) + 1))])), (b 1, .inl (G 5, kn cs, .inr (.inr (.inr (.inr (aF sd (kn cs))))))), (b 2, .inl (G 4, kp cs, .inr (.inr (.inr (.inr (aF sp (kp cs))))))), (b 3, .inl (G 0, 5, .inl (fun y9 => iv (kT cs y9))))] ++ ((wLs G sd (midS cs 1 (kn cs)) jj (kn cs)) ++ (wRs G sp (kP cs) (kp cs)))) (wSim G b sd sp jj (afterC cs 1)) := wperm (fun q9 => by
          have e_0 : cn q9 (wSim G b sd sp jj (afterC cs 1)) = cn q9 ([(b 0, .inr (4, [.ref (b 1), .ref (b 2), .ref (b 3), .int (iv (km cs)), .int (iv ((kd cs) + 1))])), (b 1, .inl (G 5, kn cs, .inr (.inr (.inr (.inr (aF sd (kn cs))))))), (b 2, .inl (G 4, kp cs, .inr (.inr (.inr (.inr (aF sp (kp cs))))))), (b 3, .inl (G 0, 5, .inl (fun y9 => iv (kT cs y9))))] ++ ((wLs G sd (afterS cs 1) jj (kn cs)) ++ (wRs G sp (kP cs) (kp cs)))) := rfl
          have e_1 : cn q9 (wLs G sd (midS cs 1 (kn cs)) jj (kn cs)) = cn q9 (wLs G sd (afterS cs 1) jj (kn cs)) := congrArg (fun t9 => cn q9 (wLs G sd t9 jj (kn cs))) (midS_n cs 1)
          simp only [cn_app, cn_nil, cn_two] at e_0 e_1 ⊢ <;> omega)
        replace hP := wP_perm hP hq
        replace hD := wD_perm hD hq
        have hP : va_P D vwCl (wSim G b sd sp jj (afterC cs 1)) _ := hP
        have hD : va_D A (wSim G b sd sp jj (afterC cs 1)) := hD
        exact e_int hx hb hr hlk dX4_pass_58 hS hP hD (by omega) (by omega) (⟨⟨_, rfl⟩, jj, rfl⟩)
      · skip
        have hq : List.Perm (α := Nat × va_E) ([(b 0, .inr (4, [.ref (b 1), .ref (b 2), .ref (b 3), .int (iv (km cs)), .int (iv (kd cs))])), (b 1, .inl (G 5, kn cs, .inr (.inr (.inr (.inr (aF sd (kn cs))))))), (b 2, .inl (G 4, kp cs, .inr (.inr (.inr (.inr (aF sp (kp cs))))))), (b 3, .inl (G 0, 5, .inl (fun y9 => iv (kT cs y9))))] ++ ((wLs G sd (midS cs 1 i) jj (kn cs)) ++ (wRs G sp (kP cs) (kp cs)))) ([(b 0, .inr (4, [.ref (b 1), .ref (b 2), .ref (b 3), .int (iv (km cs)), .int (iv (kd cs))])), (b 1, .inl (G 5, kn cs, .inr (.inr (.inr (.inr (aF sd (kn cs))))))), (b 2, .inl (G 4, kp cs, .inr (.inr (.inr (.inr (aF sp (kp cs))))))), (b 3, .inl (G 0, 5, .inl (fun y9 => iv (kT cs y9))))] ++ ((wRs G sp (kP cs) (kp cs)) ++ ((wSD G (sd i) (kS cs i) (jj i)) ++ (wLo G sd (midS cs 1 i) jj (kn cs) i)))) := wperm (fun q9 => by
          have e_0 : cn q9 (wLs G sd (midS cs 1 i) jj (kn cs)) = cn q9 (wSD G (sd i) (kS cs i) (jj i) ++ wLo G sd (midS cs 1 i) jj (kn cs) i) := cn_perm (wLs_mid (G := G) (sd := sd) (jj := jj) (c := cs) (i := i) (by omega)) q9
          simp only [cn_app, cn_nil, cn_two] at e_0 ⊢ <;> omega)
        replace hP := wP_perm hP hq
        replace hD := wD_perm hD hq
        have hP : va_P D vwCl ([(b 0, .inr (4, [.ref (b 1), .ref (b 2), .ref (b 3), .int (iv (km cs)), .int (iv (kd cs))])), (b 1, .inl (G 5, kn cs, .inr (.inr (.inr (.inr (aF sd (kn cs))))))), (b 2, .inl (G 4, kp cs, .inr (.inr (.inr (.inr (aF sp (kp cs))))))), (b 3, .inl (G 0, 5, .inl (fun y9 => iv (kT cs y9))))] ++ ((wRs G sp (kP cs) (kp cs)) ++ ((wSD G (sd i) (kS cs i) (jj i)) ++ (wLo G sd (midS cs 1 i) jj (kn cs) i)))) _ := hP
        have hD : va_D A ([(b 0, .inr (4, [.ref (b 1), .ref (b 2), .ref (b 3), .int (iv (km cs)), .int (iv (kd cs))])), (b 1, .inl (G 5, kn cs, .inr (.inr (.inr (.inr (aF sd (kn cs))))))), (b 2, .inl (G 4, kp cs, .inr (.inr (.inr (.inr (aF sp (kp cs))))))), (b 3, .inl (G 0, 5, .inl (fun y9 => iv (kT cs y9))))] ++ ((wRs G sp (kP cs) (kp cs)) ++ ((wSD G (sd i) (kS cs i) (jj i)) ++ (wLo G sd (midS cs 1 i) jj (kn cs) i)))) := hD
        refine lv_aload_n hx hb dX4_pass_19 rfl (lv_at hl 2 rfl) ?_
        refine lv_iload hx hb dX4_pass_20 (lv_at hl 4 rfl) ?_
        refine r_aald (F := aF sd (kn cs)) hx hb hK hP 1 5 rfl rfl i (by omega) (by omega) (by omega) dX4_pass_22 ?_
        rw [show va_rf (aF sd (kn cs) i) = Value.ref (sd i 0) from congrArg va_rf (aF_yes (by omega))]
        refine lv_astore (lv' := [(5, .ref (sd i 0)), (0, .ref (b 0)), (1, .int (iv x)), (2, .ref (b 1)), (3, .int (iv (kn cs : Int))), (4, .int (iv (i : Int)))]) hx hb dX4_pass_23 hl (by decide) rfl (fun ls hl => ?_)
        refine lv_iload_n hx hb dX4_pass_25 rfl (lv_at hl 2 rfl) ?_
        refine lv_aload hx hb dX4_pass_26 (lv_at hl 0 rfl) ?_
        refine lv_aload_n hx hb dX4_pass_28 rfl (lv_at hl 1 rfl) ?_
        refine va_get (D := D) (ci := 4) (v := .int (iv (kd cs))) (C := RX4) (T := TX4) (N := 5) hx hb hts in_X4 hown hK hP 0 rfl rfl 4 (by decide) lk33 (fun _ h9 => h9) rfl dX4_pass_29 ?_
        refine lv_aload_n hx hb dX4_pass_32 rfl (lv_at hl 1 rfl) ?_
        refine va_get (D := D) (ci := 4) (v := .int (iv (km cs))) (C := RX4) (T := TX4) (N := 5) hx hb hts in_X4 hown hK hP 0 rfl rfl 3 (by decide) lk24 (fun _ h9 => h9) rfl dX4_pass_33 ?_
        have hq : List.Perm (α := Nat × va_E) ([(b 0, .inr (4, [.ref (b 1), .ref (b 2), .ref (b 3), .int (iv (km cs)), .int (iv (kd cs))])), (b 1, .inl (G 5, kn cs, .inr (.inr (.inr (.inr (aF sd (kn cs))))))), (b 2, .inl (G 4, kp cs, .inr (.inr (.inr (.inr (aF sp (kp cs))))))), (b 3, .inl (G 0, 5, .inl (fun y9 => iv (kT cs y9))))] ++ ((wRs G sp (kP cs) (kp cs)) ++ ((wSD G (sd i) (kS cs i) (jj i)) ++ (wLo G sd (midS cs 1 i) jj (kn cs) i)))) ((wSD G (sd i) (kS cs i) (jj i)) ++ ([(b 0, .inr (4, [.ref (b 1), .ref (b 2), .ref (b 3), .int (iv (km cs)), .int (iv (kd cs))])), (b 1, .inl (G 5, kn cs, .inr (.inr (.inr (.inr (aF sd (kn cs))))))), (b 2, .inl (G 4, kp cs, .inr (.inr (.inr (.inr (aF sp (kp cs))))))), (b 3, .inl (G 0, 5, .inl (fun y9 => iv (kT cs y9))))] ++ ((wRs G sp (kP cs) (kp cs)) ++ (wLo G sd (midS cs 1 i) jj (kn cs) i)))) := wperm (fun q9 => by
          simp only [cn_app, cn_nil, cn_two] at ⊢ <;> omega)
        replace hP := wP_perm hP hq
        replace hD := wD_perm hD hq
        have hP : va_P D vwCl ((wSD G (sd i) (kS cs i) (jj i)) ++ ([(b 0, .inr (4, [.ref (b 1), .ref (b 2), .ref (b 3), .int (iv (km cs)), .int (iv (kd cs))])), (b 1, .inl (G 5, kn cs, .inr (.inr (.inr (.inr (aF sd (kn cs))))))), (b 2, .inl (G 4, kp cs, .inr (.inr (.inr (.inr (aF sp (kp cs))))))), (b 3, .inl (G 0, 5, .inl (fun y9 => iv (kT cs y9))))] ++ ((wRs G sp (kP cs) (kp cs)) ++ (wLo G sd (midS cs 1 i) jj (kn cs) i)))) H := hP
        have hD : va_D A ((wSD G (sd i) (kS cs i) (jj i)) ++ ([(b 0, .inr (4, [.ref (b 1), .ref (b 2), .ref (b 3), .int (iv (km cs)), .int (iv (kd cs))])), (b 1, .inl (G 5, kn cs, .inr (.inr (.inr (.inr (aF sd (kn cs))))))), (b 2, .inl (G 4, kp cs, .inr (.inr (.inr (.inr (aF sp (kp cs))))))), (b 3, .inl (G 0, 5, .inl (fun y9 => iv (kT cs y9))))] ++ ((wRs G sp (kP cs) (kp cs)) ++ (wLo G sd (midS cs 1 i) jj (kn cs) i)))) := hD
        have hp : List.Perm (α := Nat × va_E) ((wSD G (sd i) (kS cs i) (jj i)) ++ ([(b 0, .inr (4, [.ref (b 1), .ref (b 2), .ref (b 3), .int (iv (km cs)), .int (iv (kd cs))])), (b 1, .inl (G 5, kn cs, .inr (.inr (.inr (.inr (aF sd (kn cs))))))), (b 2, .inl (G 4, kp cs, .inr (.inr (.inr (.inr (aF sp (kp cs))))))), (b 3, .inl (G 0, 5, .inl (fun y9 => iv (kT cs y9))))] ++ ((wRs G sp (kP cs) (kp cs)) ++ (wLo G sd (midS cs 1 i) jj (kn cs) i)))) ((wSD G (sd i) (kS cs i) (jj i)) ++ ([(b 0, .inr (4, [.ref (b 1), .ref (b 2), .ref (b 3), .int (iv (km cs)), .int (iv (kd cs))])), (b 1, .inl (G 5, kn cs, .inr (.inr (.inr (.inr (aF sd (kn cs))))))), (b 2, .inl (G 4, kp cs, .inr (.inr (.inr (.inr (aF sp (kp cs))))))), (b 3, .inl (G 0, 5, .inl (fun y9 => iv (kT cs y9))))] ++ ((wRs G sp (kP cs) (kp cs)) ++ (wLo G sd (midS cs 1 i) jj (kn cs) i)))) := List.Perm.refl _
        refine k_int (g_V (As := [.int (iv (kd cs)), .int (iv (km cs))]) (rest := [.int (iv x)]) (q0 := 0) (ci := 3) ⟨hx, hb, hml, hown, hts⟩ (c_X3_pass l D G (sd i) (kS cs i) (okC_D hok (by omega)) (jj i) (kd cs) (km cs) (by omega) omo) (cwV 2 hts gX4_pass_X3_pass rfl rfl rfl (by decide +kernel) ⟨Nat.le_of_ble_eq_true rfl, Nat.le_of_ble_eq_true rfl⟩) hK hP hD hp rfl rfl rfl rfl hl.1 rfl (Nat.le_of_ble_eq_true rfl) dX4_pass_36 ⟨by show _ ≤ (0 : Nat); omega, by show _ ≤ (0 : Nat); omega⟩) hP hD hS hA hp (fun v u H locs hw hP hD hS => ?_)
        obtain ⟨⟨y9, rfl⟩, j9, rfl⟩ := hw
        have hP : va_P D vwCl ((wSD G (sd i) (day1 (kd cs) (km cs) (kS cs i)) j9) ++ ([(b 0, .inr (4, [.ref (b 1), .ref (b 2), .ref (b 3), .int (iv (km cs)), .int (iv (kd cs))])), (b 1, .inl (G 5, kn cs, .inr (.inr (.inr (.inr (aF sd (kn cs))))))), (b 2, .inl (G 4, kp cs, .inr (.inr (.inr (.inr (aF sp (kp cs))))))), (b 3, .inl (G 0, 5, .inl (fun y9 => iv (kT cs y9))))] ++ ((wRs G sp (kP cs) (kp cs)) ++ (wLo G sd (midS cs 1 i) jj (kn cs) i)))) H := hP
        have hD : va_D A ((wSD G (sd i) (day1 (kd cs) (km cs) (kS cs i)) j9) ++ ([(b 0, .inr (4, [.ref (b 1), .ref (b 2), .ref (b 3), .int (iv (km cs)), .int (iv (kd cs))])), (b 1, .inl (G 5, kn cs, .inr (.inr (.inr (.inr (aF sd (kn cs))))))), (b 2, .inl (G 4, kp cs, .inr (.inr (.inr (.inr (aF sp (kp cs))))))), (b 3, .inl (G 0, 5, .inl (fun y9 => iv (kT cs y9))))] ++ ((wRs G sp (kP cs) (kp cs)) ++ (wLo G sd (midS cs 1 i) jj (kn cs) i)))) := hD
        have hq : List.Perm (α := Nat × va_E) ((wSD G (sd i) (day1 (kd cs) (km cs) (kS cs i)) j9) ++ ([(b 0, .inr (4, [.ref (b 1), .ref (b 2), .ref (b 3), .int (iv (km cs)), .int (iv (kd cs))])), (b 1, .inl (G 5, kn cs, .inr (.inr (.inr (.inr (aF sd (kn cs))))))), (b 2, .inl (G 4, kp cs, .inr (.inr (.inr (.inr (aF sp (kp cs))))))), (b 3, .inl (G 0, 5, .inl (fun y9 => iv (kT cs y9))))] ++ ((wRs G sp (kP cs) (kp cs)) ++ (wLo G sd (midS cs 1 i) jj (kn cs) i)))) ([(b 0, .inr (4, [.ref (b 1), .ref (b 2), .ref (b 3), .int (iv (km cs)), .int (iv (kd cs))])), (b 1, .inl (G 5, kn cs, .inr (.inr (.inr (.inr (aF sd (kn cs))))))), (b 2, .inl (G 4, kp cs, .inr (.inr (.inr (.inr (aF sp (kp cs))))))), (b 3, .inl (G 0, 5, .inl (fun y9 => iv (kT cs y9))))] ++ ((wRs G sp (kP cs) (kp cs)) ++ ((wLo G sd (midS cs 1 i) jj (kn cs) i) ++ (wSD G (sd i) (day1 (kd cs) (km cs) (kS cs i)) j9)))) := wperm (fun q9 => by
          simp only [cn_app, cn_nil, cn_two] at ⊢ <;> omega)
        replace hP := wP_perm hP hq
        replace hD := wD_perm hD hq
        have hP : va_P D vwCl ([(b 0, .inr (4, [.ref (b 1), .ref (b 2), .ref (b 3), .int (iv (km cs)), .int (iv (kd cs))])), (b 1, .inl (G 5, kn cs, .inr (.inr (.inr (.inr (aF sd (kn cs))))))), (b 2, .inl (G 4, kp cs, .inr (.inr (.inr (.inr (aF sp (kp cs))))))), (b 3, .inl (G 0, 5, .inl (fun y9 => iv (kT cs y9))))] ++ ((wRs G sp (kP cs) (kp cs)) ++ ((wLo G sd (midS cs 1 i) jj (kn cs) i) ++ (wSD G (sd i) (day1 (kd cs) (km cs) (kS cs i)) j9)))) _ := hP
        have hD : va_D A ([(b 0, .inr (4, [.ref (b 1), .ref (b 2), .ref (b 3), .int (iv (km cs)), .int (iv (kd cs))])), (b 1, .inl (G 5, kn cs, .inr (.inr (.inr (.inr (aF sd (kn cs))))))), (b 2, .inl (G 4, kp cs, .inr (.inr (.inr (.inr (aF sp (kp cs))))))), (b 3, .inl (G 0, 5, .inl (fun y9 => iv (kT cs y9))))] ++ ((wRs G sp (kP cs) (kp cs)) ++ ((wLo G sd (midS cs 1 i) jj (kn cs) i) ++ (wSD G (sd i) (day1 (kd cs) (km cs) (kS cs i)) j9)))) := hD
        refine r_add hx hb dX4_pass_39 ?_
        refine lv_istore_n (lv' := [(1, .int (iv (x + y9))), (5, .ref (sd i 0)), (0, .ref (b 0)), (2, .ref (b 1)), (3, .int (iv (kn cs : Int))), (4, .int (iv (i : Int)))]) hx hb dX4_pass_40 rfl hl (by decide) rfl (fun ls hl => ?_)
        refine r_iinc (k := 5) (lv' := [(4, .int (iv ((i : Int) + 1))), (1, .int (iv (x + y9))), (5, .ref (sd i 0)), (0, .ref (b 0)), (2, .ref (b 1)), (3, .int (iv (kn cs : Int)))]) hx hb dX4_pass_41 hl rfl (by decide) rfl (fun ls hl => ?_)
        refine r_goto hx hb 13 dX4_pass_44 (by decide) ?_
        have hq : List.Perm (α := Nat × va_E) ([(b 0, .inr (4, [.ref (b 1), .ref (b 2), .ref (b 3), .int (iv (km cs)), .int (iv (kd cs))])), (b 1, .inl (G 5, kn cs, .inr (.inr (.inr (.inr (aF sd (kn cs))))))), (b 2, .inl (G 4, kp cs, .inr (.inr (.inr (.inr (aF sp (kp cs))))))), (b 3, .inl (G 0, 5, .inl (fun y9 => iv (kT cs y9))))] ++ ((wRs G sp (kP cs) (kp cs)) ++ ((wLo G sd (midS cs 1 i) jj (kn cs) i) ++ (wSD G (sd i) (day1 (kd cs) (km cs) (kS cs i)) j9)))) ([(b 0, .inr (4, [.ref (b 1), .ref (b 2), .ref (b 3), .int (iv (km cs)), .int (iv (kd cs))])), (b 1, .inl (G 5, kn cs, .inr (.inr (.inr (.inr (aF sd (kn cs))))))), (b 2, .inl (G 4, kp cs, .inr (.inr (.inr (.inr (aF sp (kp cs))))))), (b 3, .inl (G 0, 5, .inl (fun y9 => iv (kT cs y9))))] ++ ((wLs G sd (midS cs 1 (i + 1)) (updI jj i j9) (kn cs)) ++ (wRs G sp (kP cs) (kp cs)))) := wperm (fun q9 => by
          have e_0 : cn q9 (wLs G sd (midS cs 1 (i + 1)) (updI jj i j9) (kn cs)) = cn q9 (wSD G (sd i) (day1 (kd cs) (km cs) (kS cs i)) j9 ++ wLo G sd (midS cs 1 i) jj (kn cs) i) := cn_perm (wLs_midp (G := G) (sd := sd) (jj := jj) (c := cs) (i := i) (by omega) j9) q9
          simp only [cn_app, cn_nil, cn_two] at e_0 ⊢ <;> omega)
        replace hP := wP_perm hP hq
        replace hD := wD_perm hD hq
        have hP : va_P D vwCl ([(b 0, .inr (4, [.ref (b 1), .ref (b 2), .ref (b 3), .int (iv (km cs)), .int (iv (kd cs))])), (b 1, .inl (G 5, kn cs, .inr (.inr (.inr (.inr (aF sd (kn cs))))))), (b 2, .inl (G 4, kp cs, .inr (.inr (.inr (.inr (aF sp (kp cs))))))), (b 3, .inl (G 0, 5, .inl (fun y9 => iv (kT cs y9))))] ++ ((wLs G sd (midS cs 1 (i + 1)) (updI jj i j9) (kn cs)) ++ (wRs G sp (kP cs) (kp cs)))) _ := hP
        have hD : va_D A ([(b 0, .inr (4, [.ref (b 1), .ref (b 2), .ref (b 3), .int (iv (km cs)), .int (iv (kd cs))])), (b 1, .inl (G 5, kn cs, .inr (.inr (.inr (.inr (aF sd (kn cs))))))), (b 2, .inl (G 4, kp cs, .inr (.inr (.inr (.inr (aF sp (kp cs))))))), (b 3, .inl (G 0, 5, .inl (fun y9 => iv (kT cs y9))))] ++ ((wLs G sd (midS cs 1 (i + 1)) (updI jj i j9) (kn cs)) ++ (wRs G sp (kP cs) (kp cs)))) := hD
        refine W.widen (k := 0) (n := 0) (by omega) (by omega) ?_
        exact ih13 (i + 1) (x + y9) (updI jj i j9) (by omega) (by omega) _ _ hP hD hS _ (lv_sub hl [3, 1, 4, 5, 0] rfl)
  have hq : List.Perm (α := Nat × va_E) ([(b 0, .inr (4, [.ref (b 1), .ref (b 2), .ref (b 3), .int (iv (km cs)), .int (iv (kd cs))])), (b 1, .inl (G 5, kn cs, .inr (.inr (.inr (.inr (aF sd (kn cs))))))), (b 2, .inl (G 4, kp cs, .inr (.inr (.inr (.inr (aF sp (kp cs))))))), (b 3, .inl (G 0, 5, .inl (fun y9 => iv (kT cs y9))))] ++ ((wLs G sd (kS cs) jj (kn cs)) ++ (wRs G sp (kP cs) (kp cs)))) ([(b 0, .inr (4, [.ref (b 1), .ref (b 2), .ref (b 3), .int (iv (km cs)), .int (iv (kd cs))])), (b 1, .inl (G 5, kn cs, .inr (.inr (.inr (.inr (aF sd (kn cs))))))), (b 2, .inl (G 4, kp cs, .inr (.inr (.inr (.inr (aF sp (kp cs))))))), (b 3, .inl (G 0, 5, .inl (fun y9 => iv (kT cs y9))))] ++ ((wLs G sd (midS cs 1 0) jj (kn cs)) ++ (wRs G sp (kP cs) (kp cs)))) := wperm (fun q9 => by
    have e_0 : cn q9 (wLs G sd (midS cs 1 0) jj (kn cs)) = cn q9 (wLs G sd (kS cs) jj (kn cs)) := congrArg (fun t9 => cn q9 (wLs G sd t9 jj (kn cs))) (midS_0 cs 1)
    simp only [cn_app, cn_nil, cn_two] at e_0 ⊢ <;> omega)
  replace hP := wP_perm hP hq
  replace hD := wD_perm hD hq
  have hP : va_P D vwCl ([(b 0, .inr (4, [.ref (b 1), .ref (b 2), .ref (b 3), .int (iv (km cs)), .int (iv (kd cs))])), (b 1, .inl (G 5, kn cs, .inr (.inr (.inr (.inr (aF sd (kn cs))))))), (b 2, .inl (G 4, kp cs, .inr (.inr (.inr (.inr (aF sp (kp cs))))))), (b 3, .inl (G 0, 5, .inl (fun y9 => iv (kT cs y9))))] ++ ((wLs G sd (midS cs 1 0) jj (kn cs)) ++ (wRs G sp (kP cs) (kp cs)))) _ := hP
  have hD : va_D A ([(b 0, .inr (4, [.ref (b 1), .ref (b 2), .ref (b 3), .int (iv (km cs)), .int (iv (kd cs))])), (b 1, .inl (G 5, kn cs, .inr (.inr (.inr (.inr (aF sd (kn cs))))))), (b 2, .inl (G 4, kp cs, .inr (.inr (.inr (.inr (aF sp (kp cs))))))), (b 3, .inl (G 0, 5, .inl (fun y9 => iv (kT cs y9))))] ++ ((wLs G sd (midS cs 1 0) jj (kn cs)) ++ (wRs G sp (kP cs) (kp cs)))) := hD
  refine W.widen (k := 0) (n := 0) (by omega) (by omega) ?_
  exact K13 (kn cs + 1) 0 0 jj (by omega) (by omega) _ _ hP hD hS _ (lv_sub hl [4, 3, 2, 1, 0] rfl)
