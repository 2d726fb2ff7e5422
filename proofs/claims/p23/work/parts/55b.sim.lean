set_option maxHeartbeats 4000000 in
set_option maxRecDepth 100000 in
theorem c_X4_told (l : Launch) (D : va_G) (G : Nat → ClassId) (b : Nat → Nat) (sd sp : AD) (jj : Nat → Int) (cs : CS) (hok : okC cs) (w : Int) (hw : 4 ≤ w ∧ w ≤ 7)  : MtG l yX4_told wsX4_told 1 40 0 0 D (TY G) [.ref (b 0), .int (iv w)] (wSim G b sd sp jj cs) (qI D (fun r u => r = iv (countV cs w) ∧ u = wSim G b sd sp jj cs)) := by
  refine MtG.mk (cc := cX4_told) (maxL := 11) (ret := some .int) (by decide) rfl (Nat.le_of_ble_eq_true rfl) ?_
  intro p e s m below meth c A ls hx hb hr hlk hml hown hin hts hK hA hP hD hS hl
  replace hown : s.vm.findClass RX4 = some m.cls := hown
  have hl : lv_has ls 11 [(0, .ref (b 0)), (1, .int (iv w))] := hl
  have hP : va_P D vwCl (wSim G b sd sp jj cs) s.heap := hP
  have hD : va_D A (wSim G b sd sp jj cs) := hD
  have lk9 := hts (.fieldLink RX4 9 "DollCitadelLaw$Sim" "dolls" "[LDollCitadelLaw$Doll;") (by decide +kernel)
  have in_X4 : ∀ w ∈ u_ws RX4 TX4 5, w ∈ wsX4_told := by decide +kernel
  have lk44 := hts (.fieldLink RX4 44 "DollCitadelLaw$Doll" "hasWig" "Z") (by decide +kernel)
  have in_X3 : ∀ w ∈ u_ws RX3 TX3 8, w ∈ wsX4_told := by decide +kernel
  have lk48 := hts (.fieldLink RX4 48 "DollCitadelLaw$Doll" "weight" "I") (by decide +kernel)
  have lk51 := hts (.fieldLink RX4 51 "DollCitadelLaw$Doll" "dust" "[I") (by decide +kernel)
  obtain ⟨on8, op8, -, -, -, oday, omo⟩ := id hok
  have hq : List.Perm (α := Nat × va_E) (wSim G b sd sp jj cs) ([(b 0, .inr (4, [.ref (b 1), .ref (b 2), .ref (b 3), .int (iv (km cs)), .int (iv (kd cs))])), (b 1, .inl (G 5, kn cs, .inr (.inr (.inr (.inr (aF sd (kn cs))))))), (b 2, .inl (G 4, kp cs, .inr (.inr (.inr (.inr (aF sp (kp cs))))))), (b 3, .inl (G 0, 5, .inl (fun y9 => iv (kT cs y9))))] ++ ((wLs G sd (kS cs) jj (kn cs)) ++ (wRs G sp (kP cs) (kp cs)))) := wperm (fun q9 => by
    have e_0 : cn q9 (wSim G b sd sp jj cs) = cn q9 ([(b 0, .inr (4, [.ref (b 1), .ref (b 2), .ref (b 3), .int (iv (km cs)), .int (iv (kd cs))])), (b 1, .inl (G 5, kn cs, .inr (.inr (.inr (.inr (aF sd (kn cs))))))), (b 2, .inl (G 4, kp cs, .inr (.inr (.inr (.inr (aF sp (kp cs))))))), (b 3, .inl (G 0, 5, .inl (fun y9 => iv (kT cs y9))))] ++ ((wLs G sd (kS cs) jj (kn cs)) ++ (wRs G sp (kP cs) (kp cs)))) := rfl
    simp only [cn_app, cn_nil, cn_two] at e_0 ⊢ <;> omega)
  replace hP := wP_perm hP hq
  replace hD := wD_perm hD hq
  have hP : va_P D vwCl ([(b 0, .inr (4, [.ref (b 1), .ref (b 2), .ref (b 3), .int (iv (km cs)), .int (iv (kd cs))])), (b 1, .inl (G 5, kn cs, .inr (.inr (.inr (.inr (aF sd (kn cs))))))), (b 2, .inl (G 4, kp cs, .inr (.inr (.inr (.inr (aF sp (kp cs))))))), (b 3, .inl (G 0, 5, .inl (fun y9 => iv (kT cs y9))))] ++ ((wLs G sd (kS cs) jj (kn cs)) ++ (wRs G sp (kP cs) (kp cs)))) _ := hP
  have hD : va_D A ([(b 0, .inr (4, [.ref (b 1), .ref (b 2), .ref (b 3), .int (iv (km cs)), .int (iv (kd cs))])), (b 1, .inl (G 5, kn cs, .inr (.inr (.inr (.inr (aF sd (kn cs))))))), (b 2, .inl (G 4, kp cs, .inr (.inr (.inr (.inr (aF sp (kp cs))))))), (b 3, .inl (G 0, 5, .inl (fun y9 => iv (kT cs y9))))] ++ ((wLs G sd (kS cs) jj (kn cs)) ++ (wRs G sp (kP cs) (kp cs)))) := hD
  refine r_const hx hb dX4_told_0 ?_
  refine lv_istore_n (lv' := [(2, .int (iv 0)), (0, .ref (b 0)), (1, .int (iv w))]) hx hb dX4_told_1 rfl hl (by decide) rfl (fun ls hl => ?_)
  refine lv_aload_n hx hb dX4_told_2 rfl (lv_at hl 1 rfl) ?_
  refine va_get (D := D) (ci := 4) (v := .ref (b 1)) (C := RX4) (T := TX4) (N := 5) hx hb hts in_X4 hown hK hP 0 rfl rfl 0 (by decide) lk9 (fun _ h9 => h9) rfl dX4_told_3 ?_
  refine lv_astore_n (lv' := [(3, .ref (b 1)), (2, .int (iv 0)), (0, .ref (b 0)), (1, .int (iv w))]) hx hb dX4_told_6 rfl hl (by decide) rfl (fun ls hl => ?_)
  refine lv_aload_n hx hb dX4_told_7 rfl (lv_at hl 0 rfl) ?_
  refine va_alen (v := iv (kn cs : Int)) hx hb hK hP 1 5 rfl (ty := _) rfl (iv_nI _) dX4_told_8 ?_
  refine lv_istore (lv' := [(4, .int (iv (kn cs : Int))), (3, .ref (b 1)), (2, .int (iv 0)), (0, .ref (b 0)), (1, .int (iv w))]) hx hb dX4_told_9 hl (by decide) rfl (fun ls hl => ?_)
  refine r_const hx hb dX4_told_11 ?_
  refine lv_istore (lv' := [(5, .int (iv 0)), (4, .int (iv (kn cs : Int))), (3, .ref (b 1)), (2, .int (iv 0)), (0, .ref (b 0)), (1, .int (iv w))]) hx hb dX4_told_12 hl (by decide) rfl (fun ls hl => ?_)
  have K14 : ∀ (fu i : Nat) (x : Int), i ≤ kn cs → kn cs < i + fu → x = sm (fun e9 => tally w (kS cs e9)) i → ∀ (H : Heap) (locs : List Loc), va_P D vwCl ([(b 0, .inr (4, [.ref (b 1), .ref (b 2), .ref (b 3), .int (iv (km cs)), .int (iv (kd cs))])), (b 1, .inl (G 5, kn cs, .inr (.inr (.inr (.inr (aF sd (kn cs))))))), (b 2, .inl (G 4, kp cs, .inr (.inr (.inr (.inr (aF sp (kp cs))))))), (b 3, .inl (G 0, 5, .inl (fun y9 => iv (kT cs y9))))] ++ ((wLs G sd (kS cs) jj (kn cs)) ++ (wRs G sp (kP cs) (kp cs)))) H → va_D A ([(b 0, .inr (4, [.ref (b 1), .ref (b 2), .ref (b 3), .int (iv (km cs)), .int (iv (kd cs))])), (b 1, .inl (G 5, kn cs, .inr (.inr (.inr (.inr (aF sd (kn cs))))))), (b 2, .inl (G 4, kp cs, .inr (.inr (.inr (.inr (aF sp (kp cs))))))), (b 3, .inl (G 0, 5, .inl (fun y9 => iv (kT cs y9))))] ++ ((wLs G sd (kS cs) jj (kn cs)) ++ (wRs G sp (kP cs) (kp cs)))) → va_S A s.heap H locs → ∀ (ls : Array Slot), lv_has ls 11 [(0, .ref (b 0)), (1, .int (iv w)), (2, .int (iv x)), (3, .ref (b 1)), (4, .int (iv (kn cs : Int))), (5, .int (iv (i : Int)))] → W p l e (rmOf 1 40 0 0) s m ([.ref (b 0), .int (iv w)] : List Value).toArray below meth c H locs (0) (0) (MQ below (qI D (fun r u => r = iv (countV cs w) ∧ u = wSim G b sd sp jj cs) A) ([.ref (b 0), .int (iv w)] : List Value).toArray s 0 0 A) (F0 m 14 ls []) := by
    intro fu
    induction fu with
    | zero => intro i x h1 h2; exact absurd h2 (by omega)
    | succ fu ih14 =>
      intro i x hi_14 hn_14 ex H locs hP hD hS ls hl
      refine lv_iload hx hb dX4_told_14 (lv_at hl 5 rfl) ?_
      refine lv_iload hx hb dX4_told_16 (lv_at hl 4 rfl) ?_
      refine r_icmp_ge hx hb 145 dX4_told_18 (by decide) (by omega) (by omega) (fun c_18 => ?_) (fun c_18 => ?_)
      · skip
        refine lv_iload_n hx hb dX4_told_145 rfl (lv_at hl 2 rfl) ?_
        have hq : List.Perm (α := Nat × va_E) ([(b 0, .inr (4, [.ref (b 1), .ref (b 2), .ref (b 3), .int (iv (km cs)), .int (iv (kd cs))])), (b 1, .inl (G 5, kn cs, .inr (.inr (.inr (.inr (aF sd (kn cs))))))), (b 2, .inl (G 4, kp cs, .inr (.inr (.inr (.inr (aF sp (kp cs))))))), (b 3, .inl (G 0, 5, .inl (fun y9 => iv (kT cs y9))))] ++ ((wLs G sd (kS cs) jj (kn cs)) ++ (wRs G sp (kP cs) (kp cs)))) (wSim G b sd sp jj cs) := wperm (fun q9 => by
          have e_0 : cn q9 (wSim G b sd sp jj cs) = cn q9 ([(b 0, .inr (4, [.ref (b 1), .ref (b 2), .ref (b 3), .int (iv (km cs)), .int (iv (kd cs))])), (b 1, .inl (G 5, kn cs, .inr (.inr (.inr (.inr (aF sd (kn cs))))))), (b 2, .inl (G 4, kp cs, .inr (.inr (.inr (.inr (aF sp (kp cs))))))), (b 3, .inl (G 0, 5, .inl (fun y9 => iv (kT cs y9))))] ++ ((wLs G sd (kS cs) jj (kn cs)) ++ (wRs G sp (kP cs) (kp cs)))) := rfl
          simp only [cn_app, cn_nil, cn_two] at e_0 ⊢ <;> omega)
        replace hP := wP_perm hP hq
        replace hD := wD_perm hD hq
        have hP : va_P D vwCl (wSim G b sd sp jj cs) _ := hP
        have hD : va_D A (wSim G b sd sp jj cs) := hD
        exact e_int hx hb hr hlk dX4_told_146 hS hP hD (by omega) (by omega) (⟨by rw [ex, show i = kn cs by omega, countV_47 hw], rfl⟩)
      · skip
        have hq : List.Perm (α := Nat × va_E) ([(b 0, .inr (4, [.ref (b 1), .ref (b 2), .ref (b 3), .int (iv (km cs)), .int (iv (kd cs))])), (b 1, .inl (G 5, kn cs, .inr (.inr (.inr (.inr (aF sd (kn cs))))))), (b 2, .inl (G 4, kp cs, .inr (.inr (.inr (.inr (aF sp (kp cs))))))), (b 3, .inl (G 0, 5, .inl (fun y9 => iv (kT cs y9))))] ++ ((wLs G sd (kS cs) jj (kn cs)) ++ (wRs G sp (kP cs) (kp cs)))) ([(b 0, .inr (4, [.ref (b 1), .ref (b 2), .ref (b 3), .int (iv (km cs)), .int (iv (kd cs))])), (b 1, .inl (G 5, kn cs, .inr (.inr (.inr (.inr (aF sd (kn cs))))))), (b 2, .inl (G 4, kp cs, .inr (.inr (.inr (.inr (aF sp (kp cs))))))), (b 3, .inl (G 0, 5, .inl (fun y9 => iv (kT cs y9)))), (sd i 0, .inr (3, [.ref (sd i 1), .ref (sd i 2), .ref (sd i 3), .int (iv (hJ (kS cs i))), .int (iv (xJ (kS cs i) (jj i))), .int (iv (dv (kS cs i))), .int (iv (dn (kS cs i))), .int (iv (dt (kS cs i)))])), (sd i 1, .inl (G 4, 6, .inr (.inr (.inr (.inr (jF (sd i))))))), (sd i 2, .inl (G 1, 2, .inl (fun y9 => iv (dO (kS cs i) y9)))), (sd i 3, .inl (G 0, 2, .inl (fun y9 => iv (dU (kS cs i) y9))))] ++ ((wRs G sp (kP cs) (kp cs)) ++ ((wLo G sd (kS cs) jj (kn cs) i) ++ (wJs G (sd i) (kS cs i))))) := wperm (fun q9 => by
          have e_0 : cn q9 (wLs G sd (kS cs) jj (kn cs)) = cn q9 (([(sd i 0, .inr (3, [.ref (sd i 1), .ref (sd i 2), .ref (sd i 3), .int (iv (hJ (kS cs i))), .int (iv (xJ (kS cs i) (jj i))), .int (iv (dv (kS cs i))), .int (iv (dn (kS cs i))), .int (iv (dt (kS cs i)))])), (sd i 1, .inl (G 4, 6, .inr (.inr (.inr (.inr (jF (sd i))))))), (sd i 2, .inl (G 1, 2, .inl (fun y9 => iv (dO (kS cs i) y9)))), (sd i 3, .inl (G 0, 2, .inl (fun y9 => iv (dU (kS cs i) y9))))] ++ (wJs G (sd i) (kS cs i))) ++ wLo G sd (kS cs) jj (kn cs) i) := cn_perm (wLs_get (G := G) (sd := sd) (S := (kS cs)) (sj := jj) (n := kn cs) (d := i) (by omega)) q9
          simp only [cn_app, cn_nil, cn_two] at e_0 ⊢ <;> omega)
        replace hP := wP_perm hP hq
        replace hD := wD_perm hD hq
        have hP : va_P D vwCl ([(b 0, .inr (4, [.ref (b 1), .ref (b 2), .ref (b 3), .int (iv (km cs)), .int (iv (kd cs))])), (b 1, .inl (G 5, kn cs, .inr (.inr (.inr (.inr (aF sd (kn cs))))))), (b 2, .inl (G 4, kp cs, .inr (.inr (.inr (.inr (aF sp (kp cs))))))), (b 3, .inl (G 0, 5, .inl (fun y9 => iv (kT cs y9)))), (sd i 0, .inr (3, [.ref (sd i 1), .ref (sd i 2), .ref (sd i 3), .int (iv (hJ (kS cs i))), .int (iv (xJ (kS cs i) (jj i))), .int (iv (dv (kS cs i))), .int (iv (dn (kS cs i))), .int (iv (dt (kS cs i)))])), (sd i 1, .inl (G 4, 6, .inr (.inr (.inr (.inr (jF (sd i))))))), (sd i 2, .inl (G 1, 2, .inl (fun y9 => iv (dO (kS cs i) y9)))), (sd i 3, .inl (G 0, 2, .inl (fun y9 => iv (dU (kS cs i) y9))))] ++ ((wRs G sp (kP cs) (kp cs)) ++ ((wLo G sd (kS cs) jj (kn cs) i) ++ (wJs G (sd i) (kS cs i))))) _ := hP
        have hD : va_D A ([(b 0, .inr (4, [.ref (b 1), .ref (b 2), .ref (b 3), .int (iv (km cs)), .int (iv (kd cs))])), (b 1, .inl (G 5, kn cs, .inr (.inr (.inr (.inr (aF sd (kn cs))))))), (b 2, .inl (G 4, kp cs, .inr (.inr (.inr (.inr (aF sp (kp cs))))))), (b 3, .inl (G 0, 5, .inl (fun y9 => iv (kT cs y9)))), (sd i 0, .inr (3, [.ref (sd i 1), .ref (sd i 2), .ref (sd i 3), .int (iv (hJ (kS cs i))), .int (iv (xJ (kS cs i) (jj i))), .int (iv (dv (kS cs i))), .int (iv (dn (kS cs i))), .int (iv (dt (kS cs i)))])), (sd i 1, .inl (G 4, 6, .inr (.inr (.inr (.inr (jF (sd i))))))), (sd i 2, .inl (G 1, 2, .inl (fun y9 => iv (dO (kS cs i) y9)))), (sd i 3, .inl (G 0, 2, .inl (fun y9 => iv (dU (kS cs i) y9))))] ++ ((wRs G sp (kP cs) (kp cs)) ++ ((wLo G sd (kS cs) jj (kn cs) i) ++ (wJs G (sd i) (kS cs i))))) := hD
        have okd : okD (kS cs i) := okC_D hok (by omega)
        have hjc := hJ_cases (kS cs i) (jj i)
        obtain ⟨-, -, og9, ov9, on9, -, -⟩ := id okd
        refine lv_aload_n hx hb dX4_told_21 rfl (lv_at hl 3 rfl) ?_
        refine lv_iload hx hb dX4_told_22 (lv_at hl 5 rfl) ?_
        refine r_aald (F := aF sd (kn cs)) hx hb hK hP 1 5 rfl rfl i (by omega) (by omega) (by omega) dX4_told_24 ?_
        rw [show va_rf (aF sd (kn cs) i) = Value.ref (sd i 0) from congrArg va_rf (aF_yes (by omega))]
        refine lv_astore (lv' := [(6, .ref (sd i 0)), (0, .ref (b 0)), (1, .int (iv w)), (2, .int (iv x)), (3, .ref (b 1)), (4, .int (iv (kn cs : Int))), (5, .int (iv (i : Int)))]) hx hb dX4_told_25 hl (by decide) rfl (fun ls hl => ?_)
        refine lv_iload_n hx hb dX4_told_27 rfl (lv_at hl 2 rfl) ?_
        refine r_const hx hb dX4_told_28 ?_
        refine r_icmp_ne hx hb 40 dX4_told_29 (by decide) (by omega) (by omega) (fun c_29 => ?_) (fun c_29 => ?_)
        · skip
          have okd8 := okd
          refine lv_iload_n hx hb dX4_told_40 rfl (lv_at hl 2 rfl) ?_
          refine r_const hx hb dX4_told_41 ?_
          refine r_icmp_ne hx hb 61 dX4_told_42 (by decide) (by omega) (by omega) (fun c_42 => ?_) (fun c_42 => ?_)
          · skip
            refine lv_iload_n hx hb dX4_told_61 rfl (lv_at hl 2 rfl) ?_
            refine lv_bipush (v := iv 6) hx hb dX4_told_62 (by decide) ?_
            refine r_icmp_ne hx hb 83 dX4_told_64 (by decide) (by omega) (by omega) (fun c_64 => ?_) (fun c_64 => ?_)
            · skip
              refine lv_iload_n hx hb dX4_told_83 rfl (lv_at hl 2 rfl) ?_
              refine lv_bipush (v := iv 7) hx hb dX4_told_84 (by decide) ?_
              refine r_icmp_ne hx hb 139 dX4_told_86 (by decide) (by omega) (by omega) (fun c_86 => ?_) (fun c_86 => ?_)
              · skip
                exact (by omega : False).elim
              · skip
                have rU0 := okD_U okd 0 (by omega)
                have rU1 := okD_U okd 1 (by omega)
                refine lv_aload hx hb dX4_told_89 (lv_at hl 0 rfl) ?_
                refine va_get (D := D) (ci := 3) (v := .ref (sd i 3)) (C := RX3) (T := TX3) (N := 8) hx hb hts in_X3 hown hK hP 4 rfl rfl 2 (by decide) lk51 (fun _ h9 => h9) rfl dX4_told_91 ?_
                refine lv_astore (lv' := [(7, .ref (sd i 3)), (6, .ref (sd i 0)), (0, .ref (b 0)), (1, .int (iv w)), (2, .int (iv x)), (3, .ref (b 1)), (4, .int (iv (kn cs : Int))), (5, .int (iv (i : Int)))]) hx hb dX4_told_94 hl (by decide) rfl (fun ls hl => ?_)
                refine lv_aload hx hb dX4_told_96 (lv_at hl 0 rfl) ?_
                refine va_alen (v := iv 2) hx hb hK hP 7 0 rfl (ty := _) rfl rfl dX4_told_98 ?_
                refine lv_istore (lv' := [(8, .int (iv 2)), (7, .ref (sd i 3)), (6, .ref (sd i 0)), (0, .ref (b 0)), (1, .int (iv w)), (2, .int (iv x)), (3, .ref (b 1)), (4, .int (iv (kn cs : Int))), (5, .int (iv (i : Int)))]) hx hb dX4_told_99 hl (by decide) rfl (fun ls hl => ?_)
                refine r_const hx hb dX4_told_101 ?_
                refine lv_istore (lv' := [(9, .int (iv 0)), (8, .int (iv 2)), (7, .ref (sd i 3)), (6, .ref (sd i 0)), (0, .ref (b 0)), (1, .int (iv w)), (2, .int (iv x)), (3, .ref (b 1)), (4, .int (iv (kn cs : Int))), (5, .int (iv (i : Int)))]) hx hb dX4_told_102 hl (by decide) rfl (fun ls hl => ?_)
                have K104 : ∀ (fu t : Nat) (x7 : Int), t ≤ 2 → 2 < t + fu → x7 = x + cnt (fun e9 => decide (dU (kS cs i) e9 = 9)) t → ∀ (H : Heap) (locs : List Loc), va_P D vwCl ([(b 0, .inr (4, [.ref (b 1), .ref (b 2), .ref (b 3), .int (iv (km cs)), .int (iv (kd cs))])), (b 1, .inl (G 5, kn cs, .inr (.inr (.inr (.inr (aF sd (kn cs))))))), (b 2, .inl (G 4, kp cs, .inr (.inr (.inr (.inr (aF sp (kp cs))))))), (b 3, .inl (G 0, 5, .inl (fun y9 => iv (kT cs y9)))), (sd i 0, .inr (3, [.ref (sd i 1), .ref (sd i 2), .ref (sd i 3), .int (iv (hJ (kS cs i))), .int (iv (xJ (kS cs i) (jj i))), .int (iv (dv (kS cs i))), .int (iv (dn (kS cs i))), .int (iv (dt (kS cs i)))])), (sd i 1, .inl (G 4, 6, .inr (.inr (.inr (.inr (jF (sd i))))))), (sd i 2, .inl (G 1, 2, .inl (fun y9 => iv (dO (kS cs i) y9)))), (sd i 3, .inl (G 0, 2, .inl (fun y9 => iv (dU (kS cs i) y9))))] ++ ((wRs G sp (kP cs) (kp cs)) ++ ((wLo G sd (kS cs) jj (kn cs) i) ++ (wJs G (sd i) (kS cs i))))) H → va_D A ([(b 0, .inr (4, [.ref (b 1), .ref (b 2), .ref (b 3), .int (iv (km cs)), .int (iv (kd cs))])), (b 1, .inl (G 5, kn cs, .inr (.inr (.inr (.inr (aF sd (kn cs))))))), (b 2, .inl (G 4, kp cs, .inr (.inr (.inr (.inr (aF sp (kp cs))))))), (b 3, .inl (G 0, 5, .inl (fun y9 => iv (kT cs y9)))), (sd i 0, .inr (3, [.ref (sd i 1), .ref (sd i 2), .ref (sd i 3), .int (iv (hJ (kS cs i))), .int (iv (xJ (kS cs i) (jj i))), .int (iv (dv (kS cs i))), .int (iv (dn (kS cs i))), .int (iv (dt (kS cs i)))])), (sd i 1, .inl (G 4, 6, .inr (.inr (.inr (.inr (jF (sd i))))))), (sd i 2, .inl (G 1, 2, .inl (fun y9 => iv (dO (kS cs i) y9)))), (sd i 3, .inl (G 0, 2, .inl (fun y9 => iv (dU (kS cs i) y9))))] ++ ((wRs G sp (kP cs) (kp cs)) ++ ((wLo G sd (kS cs) jj (kn cs) i) ++ (wJs G (sd i) (kS cs i))))) → va_S A s.heap H locs → ∀ (ls : Array Slot), lv_has ls 11 [(0, .ref (b 0)), (1, .int (iv w)), (2, .int (iv x7)), (3, .ref (b 1)), (4, .int (iv (kn cs : Int))), (5, .int (iv (i : Int))), (7, .ref (sd i 3)), (8, .int (iv 2)), (9, .int (iv (t : Int)))] → W p l e (rmOf 1 40 0 0) s m ([.ref (b 0), .int (iv w)] : List Value).toArray below meth c H locs (0) (0) (MQ below (qI D (fun r u => r = iv (countV cs w) ∧ u = wSim G b sd sp jj cs) A) ([.ref (b 0), .int (iv w)] : List Value).toArray s 0 0 A) (F0 m 104 ls []) := by
                  intro fu
                  induction fu with
                  | zero => intro t x7 h1 h2; exact absurd h2 (by omega)
                  | succ fu ih104 =>
                    intro t x7 hi_104 hn_104 ex7 H locs hP hD hS ls hl
                    refine lv_iload hx hb dX4_told_104 (lv_at hl 8 rfl) ?_
                    refine lv_iload hx hb dX4_told_106 (lv_at hl 7 rfl) ?_
                    refine r_icmp_ge hx hb 139 dX4_told_108 (by decide) (by omega) (by omega) (fun c_108 => ?_) (fun c_108 => ?_)
                    · skip
                      refine r_iinc (k := 5) (lv' := [(5, .int (iv ((i : Int) + 1))), (0, .ref (b 0)), (1, .int (iv w)), (2, .int (iv x7)), (3, .ref (b 1)), (4, .int (iv (kn cs : Int))), (7, .ref (sd i 3)), (8, .int (iv 2)), (9, .int (iv (t : Int)))]) hx hb dX4_told_139 hl rfl (by decide) rfl (fun ls hl => ?_)
                      refine r_goto hx hb 14 dX4_told_142 (by decide) ?_
                      have hq : List.Perm (α := Nat × va_E) ([(b 0, .inr (4, [.ref (b 1), .ref (b 2), .ref (b 3), .int (iv (km cs)), .int (iv (kd cs))])), (b 1, .inl (G 5, kn cs, .inr (.inr (.inr (.inr (aF sd (kn cs))))))), (b 2, .inl (G 4, kp cs, .inr (.inr (.inr (.inr (aF sp (kp cs))))))), (b 3, .inl (G 0, 5, .inl (fun y9 => iv (kT cs y9)))), (sd i 0, .inr (3, [.ref (sd i 1), .ref (sd i 2), .ref (sd i 3), .int (iv (hJ (kS cs i))), .int (iv (xJ (kS cs i) (jj i))), .int (iv (dv (kS cs i))), .int (iv (dn (kS cs i))), .int (iv (dt (kS cs i)))])), (sd i 1, .inl (G 4, 6, .inr (.inr (.inr (.inr (jF (sd i))))))), (sd i 2, .inl (G 1, 2, .inl (fun y9 => iv (dO (kS cs i) y9)))), (sd i 3, .inl (G 0, 2, .inl (fun y9 => iv (dU (kS cs i) y9))))] ++ ((wRs G sp (kP cs) (kp cs)) ++ ((wLo G sd (kS cs) jj (kn cs) i) ++ (wJs G (sd i) (kS cs i))))) ([(b 0, .inr (4, [.ref (b 1), .ref (b 2), .ref (b 3), .int (iv (km cs)), .int (iv (kd cs))])), (b 1, .inl (G 5, kn cs, .inr (.inr (.inr (.inr (aF sd (kn cs))))))), (b 2, .inl (G 4, kp cs, .inr (.inr (.inr (.inr (aF sp (kp cs))))))), (b 3, .inl (G 0, 5, .inl (fun y9 => iv (kT cs y9))))] ++ ((wLs G sd (kS cs) jj (kn cs)) ++ (wRs G sp (kP cs) (kp cs)))) := wperm (fun q9 => by
                        have e_0 : cn q9 (wLs G sd (kS cs) jj (kn cs)) = cn q9 (([(sd i 0, .inr (3, [.ref (sd i 1), .ref (sd i 2), .ref (sd i 3), .int (iv (hJ (kS cs i))), .int (iv (xJ (kS cs i) (jj i))), .int (iv (dv (kS cs i))), .int (iv (dn (kS cs i))), .int (iv (dt (kS cs i)))])), (sd i 1, .inl (G 4, 6, .inr (.inr (.inr (.inr (jF (sd i))))))), (sd i 2, .inl (G 1, 2, .inl (fun y9 => iv (dO (kS cs i) y9)))), (sd i 3, .inl (G 0, 2, .inl (fun y9 => iv (dU (kS cs i) y9))))] ++ (wJs G (sd i) (kS cs i))) ++ wLo G sd (kS cs) jj (kn cs) i) := cn_perm (wLs_get (G := G) (sd := sd) (S := (kS cs)) (sj := jj) (n := kn cs) (d := i) (by omega)) q9
                        simp only [cn_app, cn_nil, cn_two] at e_0 ⊢ <;> omega)
                      replace hP := wP_perm hP hq
                      replace hD := wD_perm hD hq
                      have hP : va_P D vwCl ([(b 0, .inr (4, [.ref (b 1), .ref (b 2), .ref (b 3), .int (iv (km cs)), .int (iv (kd cs))])), (b 1, .inl (G 5, kn cs, .inr (.inr (.inr (.inr (aF sd (kn cs))))))), (b 2, .inl (G 4, kp cs, .inr (.inr (.inr (.inr (aF sp (kp cs))))))), (b 3, .inl (G 0, 5, .inl (fun y9 => iv (kT cs y9))))] ++ ((wLs G sd (kS cs) jj (kn cs)) ++ (wRs G sp (kP cs) (kp cs)))) _ := hP
                      have hD : va_D A ([(b 0, .inr (4, [.ref (b 1), .ref (b 2), .ref (b 3), .int (iv (km cs)), .int (iv (kd cs))])), (b 1, .inl (G 5, kn cs, .inr (.inr (.inr (.inr (aF sd (kn cs))))))), (b 2, .inl (G 4, kp cs, .inr (.inr (.inr (.inr (aF sp (kp cs))))))), (b 3, .inl (G 0, 5, .inl (fun y9 => iv (kT cs y9))))] ++ ((wLs G sd (kS cs) jj (kn cs)) ++ (wRs G sp (kP cs) (kp cs)))) := hD
                      refine W.widen (k := 0) (n := 0) (by omega) (by omega) ?_
                      exact ih14 (i + 1) x7 (by omega) (by omega) (by rw [ex7, show t = 2 by omega, ex, cntU9 okd, show w = 7 by omega]; rfl) _ _ hP hD hS _ (lv_sub hl [1, 2, 3, 4, 5, 0] rfl)
                    · skip
                      have rUt := okD_U okd t (by omega)
                      refine lv_aload hx hb dX4_told_111 (lv_at hl 6 rfl) ?_
                      refine lv_iload hx hb dX4_told_113 (lv_at hl 8 rfl) ?_
                      refine r_iald (F := dU (kS cs i)) hx hb hK hP 7 0 rfl rfl t (by omega) (by omega) (by omega) dX4_told_115 ?_
                      refine lv_istore (lv' := [(10, .int (iv ((dU (kS cs i)) t))), (0, .ref (b 0)), (1, .int (iv w)), (2, .int (iv x7)), (3, .ref (b 1)), (4, .int (iv (kn cs : Int))), (5, .int (iv (i : Int))), (7, .ref (sd i 3)), (8, .int (iv 2)), (9, .int (iv (t : Int)))]) hx hb dX4_told_116 hl (by decide) rfl (fun ls hl => ?_)
                      refine lv_iload_n hx hb dX4_told_118 rfl (lv_at hl 3 rfl) ?_
                      refine lv_iload hx hb dX4_told_119 (lv_at hl 0 rfl) ?_
                      refine lv_bipush (v := iv 9) hx hb dX4_told_121 (by decide) ?_
                      refine r_icmp_ne hx hb 130 dX4_told_123 (by decide) (by omega) (by omega) (fun c_123 => ?_) (fun c_123 => ?_)
                      · skip
                        refine r_const hx hb dX4_told_130 ?_
                        refine r_add hx hb dX4_told_131 ?_
                        refine lv_istore_n (lv' := [(2, .int (iv (x7 + 0))), (10, .int (iv ((dU (kS cs i)) t))), (0, .ref (b 0)), (1, .int (iv w)), (3, .ref (b 1)), (4, .int (iv (kn cs : Int))), (5, .int (iv (i : Int))), (7, .ref (sd i 3)), (8, .int (iv 2)), (9, .int (iv (t : Int)))]) hx hb dX4_told_132 rfl hl (by decide) rfl (fun ls hl => ?_)
                        refine r_iinc (k := 9) (lv' := [(9, .int (iv ((t : Int) + 1))), (2, .int (iv (x7 + 0))), (10, .int (iv ((dU (kS cs i)) t))), (0, .ref (b 0)), (1, .int (iv w)), (3, .ref (b 1)), (4, .int (iv (kn cs : Int))), (5, .int (iv (i : Int))), (7, .ref (sd i 3)), (8, .int (iv 2))]) hx hb dX4_told_133 hl rfl (by decide) rfl (fun ls hl => ?_)
                        refine r_goto hx hb 104 dX4_told_136 (by decide) ?_
                        refine W.widen (k := 0) (n := 0) (by omega) (by omega) ?_
                        exact ih104 (t + 1) (x7 + 0) (by omega) (by omega) (by rw [ex7, Int.add_zero]; exact congrArg (fun z9 => x + z9) (cnt_no (f := (fun e9 => decide (dU (kS cs i) e9 = 9))) (decide_eq_false (by omega)))) _ _ hP hD hS _ (lv_sub hl [3, 4, 1, 5, 6, 7, 8, 9, 0] rfl)
                      · skip
                        refine r_const hx hb dX4_told_126 ?_
                        refine r_goto hx hb 131 dX4_told_127 (by decide) ?_
                        refine r_add hx hb dX4_told_131 ?_
                        refine lv_istore_n (lv' := [(2, .int (iv (x7 + 1))), (10, .int (iv ((dU (kS cs i)) t))), (0, .ref (b 0)), (1, .int (iv w)), (3, .ref (b 1)), (4, .int (iv (kn cs : Int))), (5, .int (iv (i : Int))), (7, .ref (sd i 3)), (8, .int (iv 2)), (9, .int (iv (t : Int)))]) hx hb dX4_told_132 rfl hl (by decide) rfl (fun ls hl => ?_)
                        refine r_iinc (k := 9) (lv' := [(9, .int (iv ((t : Int) + 1))), (2, .int (iv (x7 + 1))), (10, .int (iv ((dU (kS cs i)) t))), (0, .ref (b 0)), (1, .int (iv w)), (3, .ref (b 1)), (4, .int (iv (kn cs : Int))), (5, .int (iv (i : Int))), (7, .ref (sd i 3)), (8, .int (iv 2))]) hx hb dX4_told_133 hl rfl (by decide) rfl (fun ls hl => ?_)
                        refine r_goto hx hb 104 dX4_told_136 (by decide) ?_
                        refine W.widen (k := 0) (n := 0) (by omega) (by omega) ?_
                        exact ih104 (t + 1) (x7 + 1) (by omega) (by omega) (by rw [ex7, Int.add_assoc]; exact congrArg (fun z9 => x + z9) (cnt_yes (f := (fun e9 => decide (dU (kS cs i) e9 = 9))) (decide_eq_true (by omega)))) _ _ hP hD hS _ (lv_sub hl [3, 4, 1, 5, 6, 7, 8, 9, 0] rfl)
                refine W.widen (k := 0) (n := 0) (by omega) (by omega) ?_
                exact K104 3 0 x (by omega) (by omega) (Int.add_zero x).symm _ _ hP hD hS _ (lv_sub hl [4, 5, 6, 7, 8, 9, 2, 1, 0] rfl)
            · skip
              refine lv_iload_n hx hb dX4_told_67 rfl (lv_at hl 3 rfl) ?_
              refine lv_aload hx hb dX4_told_68 (lv_at hl 0 rfl) ?_
              refine va_get (D := D) (ci := 3) (v := .int (iv (dv (kS cs i)))) (C := RX3) (T := TX3) (N := 8) hx hb hts in_X3 hown hK hP 4 rfl rfl 5 (by decide) lk48 (fun _ h9 => h9) rfl dX4_told_70 ?_
              refine r_if_le hx hb 80 dX4_told_73 (by decide) (by omega) (fun c_73 => ?_) (fun c_73 => ?_)
              · skip
                refine r_const hx hb dX4_told_80 ?_
                refine r_add hx hb dX4_told_81 ?_
                refine lv_istore_n (lv' := [(2, .int (iv (x + 0))), (6, .ref (sd i 0)), (0, .ref (b 0)), (1, .int (iv w)), (3, .ref (b 1)), (4, .int (iv (kn cs : Int))), (5, .int (iv (i : Int)))]) hx hb dX4_told_82 rfl hl (by decide) rfl (fun ls hl => ?_)
                refine lv_iload_n hx hb dX4_told_83 rfl (lv_at hl 3 rfl) ?_
                refine lv_bipush (v := iv 7) hx hb dX4_told_84 (by decide) ?_
                refine r_icmp_ne hx hb 139 dX4_told_86 (by decide) (by omega) (by omega) (fun c_86 => ?_) (fun c_86 => ?_)
                · skip
                  refine r_iinc (k := 6) (lv' := [(5, .int (iv ((i : Int) + 1))), (2, .int (iv (x + 0))), (6, .ref (sd i 0)), (0, .ref (b 0)), (1, .int (iv w)), (3, .ref (b 1)), (4, .int (iv (kn cs : Int)))]) hx hb dX4_told_139 hl rfl (by decide) rfl (fun ls hl => ?_)
                  refine r_goto hx hb 14 dX4_told_142 (by decide) ?_
                  have hq : List.Perm (α := Nat × va_E) ([(b 0, .inr (4, [.ref (b 1), .ref (b 2), .ref (b 3), .int (iv (km cs)), .int (iv (kd cs))])), (b 1, .inl (G 5, kn cs, .inr (.inr (.inr (.inr (aF sd (kn cs))))))), (b 2, .inl (G 4, kp cs, .inr (.inr (.inr (.inr (aF sp (kp cs))))))), (b 3, .inl (G 0, 5, .inl (fun y9 => iv (kT cs y9)))), (sd i 0, .inr (3, [.ref (sd i 1), .ref (sd i 2), .ref (sd i 3), .int (iv (hJ (kS cs i))), .int (iv (xJ (kS cs i) (jj i))), .int (iv (dv (kS cs i))), .int (iv (dn (kS cs i))), .int (iv (dt (kS cs i)))])), (sd i 1, .inl (G 4, 6, .inr (.inr (.inr (.inr (jF (sd i))))))), (sd i 2, .inl (G 1, 2, .inl (fun y9 => iv (dO (kS cs i) y9)))), (sd i 3, .inl (G 0, 2, .inl (fun y9 => iv (dU (kS cs i) y9))))] ++ ((wRs G sp (kP cs) (kp cs)) ++ ((wLo G sd (kS cs) jj (kn cs) i) ++ (wJs G (sd i) (kS cs i))))) ([(b 0, .inr (4, [.ref (b 1), .ref (b 2), .ref (b 3), .int (iv (km cs)), .int (iv (kd cs))])), (b 1, .inl (G 5, kn cs, .inr (.inr (.inr (.inr (aF sd (kn cs))))))), (b 2, .inl (G 4, kp cs, .inr (.inr (.inr (.inr (aF sp (kp cs))))))), (b 3, .inl (G 0, 5, .inl (fun y9 => iv (kT cs y9))))] ++ ((wLs G sd (kS cs) jj (kn cs)) ++ (wRs G sp (kP cs) (kp cs)))) := wperm (fun q9 => by
                    have e_0 : cn q9 (wLs G sd (kS cs) jj (kn cs)) = cn q9 (([(sd i 0, .inr (3, [.ref (sd i 1), .ref (sd i 2), .ref (sd i 3), .int (iv (hJ (kS cs i))), .int (iv (xJ (kS cs i) (jj i))), .int (iv (dv (kS cs i))), .int (iv (dn (kS cs i))), .int (iv (dt (kS cs i)))])), (sd i 1, .inl (G 4, 6, .inr (.inr (.inr (.inr (jF (sd i))))))), (sd i 2, .inl (G 1, 2, .inl (fun y9 => iv (dO (kS cs i) y9)))), (sd i 3, .inl (G 0, 2, .inl (fun y9 => iv (dU (kS cs i) y9))))] ++ (wJs G (sd i) (kS cs i))) ++ wLo G sd (kS cs) jj (kn cs) i) := cn_perm (wLs_get (G := G) (sd := sd) (S := (kS cs)) (sj := jj) (n := kn cs) (d := i) (by omega)) q9
                    simp only [cn_app, cn_nil, cn_two] at e_0 ⊢ <;> omega)
                  replace hP := wP_perm hP hq
                  replace hD := wD_perm hD hq
                  have hP : va_P D vwCl ([(b 0, .inr (4, [.ref (b 1), .ref (b 2), .ref (b 3), .int (iv (km cs)), .int (iv (kd cs))])), (b 1, .inl (G 5, kn cs, .inr (.inr (.inr (.inr (aF sd (kn cs))))))), (b 2, .inl (G 4, kp cs, .inr (.inr (.inr (.inr (aF sp (kp cs))))))), (b 3, .inl (G 0, 5, .inl (fun y9 => iv (kT cs y9))))] ++ ((wLs G sd (kS cs) jj (kn cs)) ++ (wRs G sp (kP cs) (kp cs)))) _ := hP
                  have hD : va_D A ([(b 0, .inr (4, [.ref (b 1), .ref (b 2), .ref (b 3), .int (iv (km cs)), .int (iv (kd cs))])), (b 1, .inl (G 5, kn cs, .inr (.inr (.inr (.inr (aF sd (kn cs))))))), (b 2, .inl (G 4, kp cs, .inr (.inr (.inr (.inr (aF sp (kp cs))))))), (b 3, .inl (G 0, 5, .inl (fun y9 => iv (kT cs y9))))] ++ ((wLs G sd (kS cs) jj (kn cs)) ++ (wRs G sp (kP cs) (kp cs)))) := hD
                  refine W.widen (k := 0) (n := 0) (by omega) (by omega) ?_
                  exact ih14 (i + 1) (x + 0) (by omega) (by omega) (by rw [ex]; exact congrArg (fun z9 => sm (fun e9 => tally w (kS cs e9)) i + z9) (show (0 : Int) = tally w (kS cs i) by rw [show w = 6 by omega, tally_6, if_pos (by omega)])) _ _ hP hD hS _ (lv_sub hl [3, 4, 1, 5, 6, 0] rfl)
                · skip
                  exact (by omega : False).elim
              · skip
                refine r_const hx hb dX4_told_76 ?_
                refine r_goto hx hb 81 dX4_told_77 (by decide) ?_
                refine r_add hx hb dX4_told_81 ?_
                refine lv_istore_n (lv' := [(2, .int (iv (x + 1))), (6, .ref (sd i 0)), (0, .ref (b 0)), (1, .int (iv w)), (3, .ref (b 1)), (4, .int (iv (kn cs : Int))), (5, .int (iv (i : Int)))]) hx hb dX4_told_82 rfl hl (by decide) rfl (fun ls hl => ?_)
                refine lv_iload_n hx hb dX4_told_83 rfl (lv_at hl 3 rfl) ?_
                refine lv_bipush (v := iv 7) hx hb dX4_told_84 (by decide) ?_
                refine r_icmp_ne hx hb 139 dX4_told_86 (by decide) (by omega) (by omega) (fun c_86 => ?_) (fun c_86 => ?_)
                · skip
                  refine r_iinc (k := 6) (lv' := [(5, .int (iv ((i : Int) + 1))), (2, .int (iv (x + 1))), (6, .ref (sd i 0)), (0, .ref (b 0)), (1, .int (iv w)), (3, .ref (b 1)), (4, .int (iv (kn cs : Int)))]) hx hb dX4_told_139 hl rfl (by decide) rfl (fun ls hl => ?_)
                  refine r_goto hx hb 14 dX4_told_142 (by decide) ?_
                  have hq : List.Perm (α := Nat × va_E) ([(b 0, .inr (4, [.ref (b 1), .ref (b 2), .ref (b 3), .int (iv (km cs)), .int (iv (kd cs))])), (b 1, .inl (G 5, kn cs, .inr (.inr (.inr (.inr (aF sd (kn cs))))))), (b 2, .inl (G 4, kp cs, .inr (.inr (.inr (.inr (aF sp (kp cs))))))), (b 3, .inl (G 0, 5, .inl (fun y9 => iv (kT cs y9)))), (sd i 0, .inr (3, [.ref (sd i 1), .ref (sd i 2), .ref (sd i 3), .int (iv (hJ (kS cs i))), .int (iv (xJ (kS cs i) (jj i))), .int (iv (dv (kS cs i))), .int (iv (dn (kS cs i))), .int (iv (dt (kS cs i)))])), (sd i 1, .inl (G 4, 6, .inr (.inr (.inr (.inr (jF (sd i))))))), (sd i 2, .inl (G 1, 2, .inl (fun y9 => iv (dO (kS cs i) y9)))), (sd i 3, .inl (G 0, 2, .inl (fun y9 => iv (dU (kS cs i) y9))))] ++ ((wRs G sp (kP cs) (kp cs)) ++ ((wLo G sd (kS cs) jj (kn cs) i) ++ (wJs G (sd i) (kS cs i))))) ([(b 0, .inr (4, [.ref (b 1), .ref (b 2), .ref (b 3), .int (iv (km cs)), .int (iv (kd cs))])), (b 1, .inl (G 5, kn cs, .inr (.inr (.inr (.inr (aF sd (kn cs))))))), (b 2, .inl (G 4, kp cs, .inr (.inr (.inr (.inr (aF sp (kp cs))))))), (b 3, .inl (G 0, 5, .inl (fun y9 => iv (kT cs y9))))] ++ ((wLs G sd (kS cs) jj (kn cs)) ++ (wRs G sp (kP cs) (kp cs)))) := wperm (fun q9 => by
                    have e_0 : cn q9 (wLs G sd (kS cs) jj (kn cs)) = cn q9 (([(sd i 0, .inr (3, [.ref (sd i 1), .ref (sd i 2), .ref (sd i 3), .int (iv (hJ (kS cs i))), .int (iv (xJ (kS cs i) (jj i))), .int (iv (dv (kS cs i))), .int (iv (dn (kS cs i))), .int (iv (dt (kS cs i)))])), (sd i 1, .inl (G 4, 6, .inr (.inr (.inr (.inr (jF (sd i))))))), (sd i 2, .inl (G 1, 2, .inl (fun y9 => iv (dO (kS cs i) y9)))), (sd i 3, .inl (G 0, 2, .inl (fun y9 => iv (dU (kS cs i) y9))))] ++ (wJs G (sd i) (kS cs i))) ++ wLo G sd (kS cs) jj (kn cs) i) := cn_perm (wLs_get (G := G) (sd := sd) (S := (kS cs)) (sj := jj) (n := kn cs) (d := i) (by omega)) q9
                    simp only [cn_app, cn_nil, cn_two] at e_0 ⊢ <;> omega)
                  replace hP := wP_perm hP hq
                  replace hD := wD_perm hD hq
                  have hP : va_P D vwCl ([(b 0, .inr (4, [.ref (b 1), .ref (b 2), .ref (b 3), .int (iv (km cs)), .int (iv (kd cs))])), (b 1, .inl (G 5, kn cs, .inr (.inr (.inr (.inr (aF sd (kn cs))))))), (b 2, .inl (G 4, kp cs, .inr (.inr (.inr (.inr (aF sp (kp cs))))))), (b 3, .inl (G 0, 5, .inl (fun y9 => iv (kT cs y9))))] ++ ((wLs G sd (kS cs) jj (kn cs)) ++ (wRs G sp (kP cs) (kp cs)))) _ := hP
                  have hD : va_D A ([(b 0, .inr (4, [.ref (b 1), .ref (b 2), .ref (b 3), .int (iv (km cs)), .int (iv (kd cs))])), (b 1, .inl (G 5, kn cs, .inr (.inr (.inr (.inr (aF sd (kn cs))))))), (b 2, .inl (G 4, kp cs, .inr (.inr (.inr (.inr (aF sp (kp cs))))))), (b 3, .inl (G 0, 5, .inl (fun y9 => iv (kT cs y9))))] ++ ((wLs G sd (kS cs) jj (kn cs)) ++ (wRs G sp (kP cs) (kp cs)))) := hD
                  refine W.widen (k := 0) (n := 0) (by omega) (by omega) ?_
                  exact ih14 (i + 1) (x + 1) (by omega) (by omega) (by rw [ex]; exact congrArg (fun z9 => sm (fun e9 => tally w (kS cs e9)) i + z9) (show (1 : Int) = tally w (kS cs i) by rw [show w = 6 by omega, tally_6, if_neg (by omega)])) _ _ hP hD hS _ (lv_sub hl [3, 4, 1, 5, 6, 0] rfl)
                · skip
                  exact (by omega : False).elim
          · skip
            refine lv_iload_n hx hb dX4_told_45 rfl (lv_at hl 3 rfl) ?_
            refine lv_aload hx hb dX4_told_46 (lv_at hl 0 rfl) ?_
            refine va_get (D := D) (ci := 3) (v := .int (iv (hJ (kS cs i)))) (C := RX3) (T := TX3) (N := 8) hx hb hts in_X3 hown hK hP 4 rfl rfl 3 (by decide) lk44 (fun _ h9 => h9) rfl dX4_told_48 ?_
            refine r_if_eq hx hb 58 dX4_told_51 (by decide) (by omega) (fun c_51 => ?_) (fun c_51 => ?_)
            · skip
              refine r_const hx hb dX4_told_58 ?_
              refine r_add hx hb dX4_told_59 ?_
              refine lv_istore_n (lv' := [(2, .int (iv (x + 0))), (6, .ref (sd i 0)), (0, .ref (b 0)), (1, .int (iv w)), (3, .ref (b 1)), (4, .int (iv (kn cs : Int))), (5, .int (iv (i : Int)))]) hx hb dX4_told_60 rfl hl (by decide) rfl (fun ls hl => ?_)
              refine lv_iload_n hx hb dX4_told_61 rfl (lv_at hl 3 rfl) ?_
              refine lv_bipush (v := iv 6) hx hb dX4_told_62 (by decide) ?_
              refine r_icmp_ne hx hb 83 dX4_told_64 (by decide) (by omega) (by omega) (fun c_64 => ?_) (fun c_64 => ?_)
              · skip
                refine lv_iload_n hx hb dX4_told_83 rfl (lv_at hl 3 rfl) ?_
                refine lv_bipush (v := iv 7) hx hb dX4_told_84 (by decide) ?_
                refine r_icmp_ne hx hb 139 dX4_told_86 (by decide) (by omega) (by omega) (fun c_86 => ?_) (fun c_86 => ?_)
                · skip
                  refine r_iinc (k := 6) (lv' := [(5, .int (iv ((i : Int) + 1))), (2, .int (iv (x + 0))), (6, .ref (sd i 0)), (0, .ref (b 0)), (1, .int (iv w)), (3, .ref (b 1)), (4, .int (iv (kn cs : Int)))]) hx hb dX4_told_139 hl rfl (by decide) rfl (fun ls hl => ?_)
                  refine r_goto hx hb 14 dX4_told_142 (by decide) ?_
                  have hq : List.Perm (α := Nat × va_E) ([(b 0, .inr (4, [.ref (b 1), .ref (b 2), .ref (b 3), .int (iv (km cs)), .int (iv (kd cs))])), (b 1, .inl (G 5, kn cs, .inr (.inr (.inr (.inr (aF sd (kn cs))))))), (b 2, .inl (G 4, kp cs, .inr (.inr (.inr (.inr (aF sp (kp cs))))))), (b 3, .inl (G 0, 5, .inl (fun y9 => iv (kT cs y9)))), (sd i 0, .inr (3, [.ref (sd i 1), .ref (sd i 2), .ref (sd i 3), .int (iv (hJ (kS cs i))), .int (iv (xJ (kS cs i) (jj i))), .int (iv (dv (kS cs i))), .int (iv (dn (kS cs i))), .int (iv (dt (kS cs i)))])), (sd i 1, .inl (G 4, 6, .inr (.inr (.inr (.inr (jF (sd i))))))), (sd i 2, .inl (G 1, 2, .inl (fun y9 => iv (dO (kS cs i) y9)))), (sd i 3, .inl (G 0, 2, .inl (fun y9 => iv (dU (kS cs i) y9))))] ++ ((wRs G sp (kP cs) (kp cs)) ++ ((wLo G sd (kS cs) jj (kn cs) i) ++ (wJs G (sd i) (kS cs i))))) ([(b 0, .inr (4, [.ref (b 1), .ref (b 2), .ref (b 3), .int (iv (km cs)), .int (iv (kd cs))])), (b 1, .inl (G 5, kn cs, .inr (.inr (.inr (.inr (aF sd (kn cs))))))), (b 2, .inl (G 4, kp cs, .inr (.inr (.inr (.inr (aF sp (kp cs))))))), (b 3, .inl (G 0, 5, .inl (fun y9 => iv (kT cs y9))))] ++ ((wLs G sd (kS cs) jj (kn cs)) ++ (wRs G sp (kP cs) (kp cs)))) := wperm (fun q9 => by
                    have e_0 : cn q9 (wLs G sd (kS cs) jj (kn cs)) = cn q9 (([(sd i 0, .inr (3, [.ref (sd i 1), .ref (sd i 2), .ref (sd i 3), .int (iv (hJ (kS cs i))), .int (iv (xJ (kS cs i) (jj i))), .int (iv (dv (kS cs i))), .int (iv (dn (kS cs i))), .int (iv (dt (kS cs i)))])), (sd i 1, .inl (G 4, 6, .inr (.inr (.inr (.inr (jF (sd i))))))), (sd i 2, .inl (G 1, 2, .inl (fun y9 => iv (dO (kS cs i) y9)))), (sd i 3, .inl (G 0, 2, .inl (fun y9 => iv (dU (kS cs i) y9))))] ++ (wJs G (sd i) (kS cs i))) ++ wLo G sd (kS cs) jj (kn cs) i) := cn_perm (wLs_get (G := G) (sd := sd) (S := (kS cs)) (sj := jj) (n := kn cs) (d := i) (by omega)) q9
                    simp only [cn_app, cn_nil, cn_two] at e_0 ⊢ <;> omega)
                  replace hP := wP_perm hP hq
                  replace hD := wD_perm hD hq
                  have hP : va_P D vwCl ([(b 0, .inr (4, [.ref (b 1), .ref (b 2), .ref (b 3), .int (iv (km cs)), .int (iv (kd cs))])), (b 1, .inl (G 5, kn cs, .inr (.inr (.inr (.inr (aF sd (kn cs))))))), (b 2, .inl (G 4, kp cs, .inr (.inr (.inr (.inr (aF sp (kp cs))))))), (b 3, .inl (G 0, 5, .inl (fun y9 => iv (kT cs y9))))] ++ ((wLs G sd (kS cs) jj (kn cs)) ++ (wRs G sp (kP cs) (kp cs)))) _ := hP
                  have hD : va_D A ([(b 0, .inr (4, [.ref (b 1), .ref (b 2), .ref (b 3), .int (iv (km cs)), .int (iv (kd cs))])), (b 1, .inl (G 5, kn cs, .inr (.inr (.inr (.inr (aF sd (kn cs))))))), (b 2, .inl (G 4, kp cs, .inr (.inr (.inr (.inr (aF sp (kp cs))))))), (b 3, .inl (G 0, 5, .inl (fun y9 => iv (kT cs y9))))] ++ ((wLs G sd (kS cs) jj (kn cs)) ++ (wRs G sp (kP cs) (kp cs)))) := hD
                  refine W.widen (k := 0) (n := 0) (by omega) (by omega) ?_
                  exact ih14 (i + 1) (x + 0) (by omega) (by omega) (by rw [ex]; exact congrArg (fun z9 => sm (fun e9 => tally w (kS cs e9)) i + z9) (show (0 : Int) = tally w (kS cs i) by rw [show w = 5 by omega, tally_5, if_pos (by omega)])) _ _ hP hD hS _ (lv_sub hl [3, 4, 1, 5, 6, 0] rfl)
                · skip
                  exact (by omega : False).elim
              · skip
                exact (by omega : False).elim
            · skip
              refine r_const hx hb dX4_told_54 ?_
              refine r_goto hx hb 59 dX4_told_55 (by decide) ?_
              refine r_add hx hb dX4_told_59 ?_
              refine lv_istore_n (lv' := [(2, .int (iv (x + 1))), (6, .ref (sd i 0)), (0, .ref (b 0)), (1, .int (iv w)), (3, .ref (b 1)), (4, .int (iv (kn cs : Int))), (5, .int (iv (i : Int)))]) hx hb dX4_told_60 rfl hl (by decide) rfl (fun ls hl => ?_)
              refine lv_iload_n hx hb dX4_told_61 rfl (lv_at hl 3 rfl) ?_
              refine lv_bipush (v := iv 6) hx hb dX4_told_62 (by decide) ?_
              refine r_icmp_ne hx hb 83 dX4_told_64 (by decide) (by omega) (by omega) (fun c_64 => ?_) (fun c_64 => ?_)
              · skip
                refine lv_iload_n hx hb dX4_told_83 rfl (lv_at hl 3 rfl) ?_
                refine lv_bipush (v := iv 7) hx hb dX4_told_84 (by decide) ?_
                refine r_icmp_ne hx hb 139 dX4_told_86 (by decide) (by omega) (by omega) (fun c_86 => ?_) (fun c_86 => ?_)
                · skip
                  refine r_iinc (k := 6) (lv' := [(5, .int (iv ((i : Int) + 1))), (2, .int (iv (x + 1))), (6, .ref (sd i 0)), (0, .ref (b 0)), (1, .int (iv w)), (3, .ref (b 1)), (4, .int (iv (kn cs : Int)))]) hx hb dX4_told_139 hl rfl (by decide) rfl (fun ls hl => ?_)
                  refine r_goto hx hb 14 dX4_told_142 (by decide) ?_
                  have hq : List.Perm (α := Nat × va_E) ([(b 0, .inr (4, [.ref (b 1), .ref (b 2), .ref (b 3), .int (iv (km cs)), .int (iv (kd cs))])), (b 1, .inl (G 5, kn cs, .inr (.inr (.inr (.inr (aF sd (kn cs))))))), (b 2, .inl (G 4, kp cs, .inr (.inr (.inr (.inr (aF sp (kp cs))))))), (b 3, .inl (G 0, 5, .inl (fun y9 => iv (kT cs y9)))), (sd i 0, .inr (3, [.ref (sd i 1), .ref (sd i 2), .ref (sd i 3), .int (iv (hJ (kS cs i))), .int (iv (xJ (kS cs i) (jj i))), .int (iv (dv (kS cs i))), .int (iv (dn (kS cs i))), .int (iv (dt (kS cs i)))])), (sd i 1, .inl (G 4, 6, .inr (.inr (.inr (.inr (jF (sd i))))))), (sd i 2, .inl (G 1, 2, .inl (fun y9 => iv (dO (kS cs i) y9)))), (sd i 3, .inl (G 0, 2, .inl (fun y9 => iv (dU (kS cs i) y9))))] ++ ((wRs G sp (kP cs) (kp cs)) ++ ((wLo G sd (kS cs) jj (kn cs) i) ++ (wJs G (sd i) (kS cs i))))) ([(b 0, .inr (4, [.ref (b 1), .ref (b 2), .ref (b 3), .int (iv (km cs)), .int (iv (kd cs))])), (b 1, .inl (G 5, kn cs, .inr (.inr (.inr (.inr (aF sd (kn cs))))))), (b 2, .inl (G 4, kp cs, .inr (.inr (.inr (.inr (aF sp (kp cs))))))), (b 3, .inl (G 0, 5, .inl (fun y9 => iv (kT cs y9))))] ++ ((wLs G sd (kS cs) jj (kn cs)) ++ (wRs G sp (kP cs) (kp cs)))) := wperm (fun q9 => by
                    have e_0 : cn q9 (wLs G sd (kS cs) jj (kn cs)) = cn q9 (([(sd i 0, .inr (3, [.ref (sd i 1), .ref (sd i 2), .ref (sd i 3), .int (iv (hJ (kS cs i))), .int (iv (xJ (kS cs i) (jj i))), .int (iv (dv (kS cs i))), .int (iv (dn (kS cs i))), .int (iv (dt (kS cs i)))])), (sd i 1, .inl (G 4, 6, .inr (.inr (.inr (.inr (jF (sd i))))))), (sd i 2, .inl (G 1, 2, .inl (fun y9 => iv (dO (kS cs i) y9)))), (sd i 3, .inl (G 0, 2, .inl (fun y9 => iv (dU (kS cs i) y9))))] ++ (wJs G (sd i) (kS cs i))) ++ wLo G sd (kS cs) jj (kn cs) i) := cn_perm (wLs_get (G := G) (sd := sd) (S := (kS cs)) (sj := jj) (n := kn cs) (d := i) (by omega)) q9
                    simp only [cn_app, cn_nil, cn_two] at e_0 ⊢ <;> omega)
                  replace hP := wP_perm hP hq
                  replace hD := wD_perm hD hq
                  have hP : va_P D vwCl ([(b 0, .inr (4, [.ref (b 1), .ref (b 2), .ref (b 3), .int (iv (km cs)), .int (iv (kd cs))])), (b 1, .inl (G 5, kn cs, .inr (.inr (.inr (.inr (aF sd (kn cs))))))), (b 2, .inl (G 4, kp cs, .inr (.inr (.inr (.inr (aF sp (kp cs))))))), (b 3, .inl (G 0, 5, .inl (fun y9 => iv (kT cs y9))))] ++ ((wLs G sd (kS cs) jj (kn cs)) ++ (wRs G sp (kP cs) (kp cs)))) _ := hP
                  have hD : va_D A ([(b 0, .inr (4, [.ref (b 1), .ref (b 2), .ref (b 3), .int (iv (km cs)), .int (iv (kd cs))])), (b 1, .inl (G 5, kn cs, .inr (.inr (.inr (.inr (aF sd (kn cs))))))), (b 2, .inl (G 4, kp cs, .inr (.inr (.inr (.inr (aF sp (kp cs))))))), (b 3, .inl (G 0, 5, .inl (fun y9 => iv (kT cs y9))))] ++ ((wLs G sd (kS cs) jj (kn cs)) ++ (wRs G sp (kP cs) (kp cs)))) := hD
                  refine W.widen (k := 0) (n := 0) (by omega) (by omega) ?_
                  exact ih14 (i + 1) (x + 1) (by omega) (by omega) (by rw [ex]; exact congrArg (fun z9 => sm (fun e9 => tally w (kS cs e9)) i + z9) (show (1 : Int) = tally w (kS cs i) by rw [show w = 5 by omega, tally_5, if_neg (by omega)])) _ _ hP hD hS _ (lv_sub hl [3, 4, 1, 5, 6, 0] rfl)
                · skip
                  exact (by omega : False).elim
              · skip
                exact (by omega : False).elim
        · skip
          refine lv_iload_n hx hb dX4_told_32 rfl (lv_at hl 3 rfl) ?_
          refine lv_aload hx hb dX4_told_33 (lv_at hl 0 rfl) ?_
          have hq : List.Perm (α := Nat × va_E) ([(b 0, .inr (4, [.ref (b 1), .ref (b 2), .ref (b 3), .int (iv (km cs)), .int (iv (kd cs))])), (b 1, .inl (G 5, kn cs, .inr (.inr (.inr (.inr (aF sd (kn cs))))))), (b 2, .inl (G 4, kp cs, .inr (.inr (.inr (.inr (aF sp (kp cs))))))), (b 3, .inl (G 0, 5, .inl (fun y9 => iv (kT cs y9)))), (sd i 0, .inr (3, [.ref (sd i 1), .ref (sd i 2), .ref (sd i 3), .int (iv (hJ (kS cs i))), .int (iv (xJ (kS cs i) (jj i))), .int (iv (dv (kS cs i))), .int (iv (dn (kS cs i))), .int (iv (dt (kS cs i)))])), (sd i 1, .inl (G 4, 6, .inr (.inr (.inr (.inr (jF (sd i))))))), (sd i 2, .inl (G 1, 2, .inl (fun y9 => iv (dO (kS cs i) y9)))), (sd i 3, .inl (G 0, 2, .inl (fun y9 => iv (dU (kS cs i) y9))))] ++ ((wRs G sp (kP cs) (kp cs)) ++ ((wLo G sd (kS cs) jj (kn cs) i) ++ (wJs G (sd i) (kS cs i))))) ((wSD G (sd i) (kS cs i) (jj i)) ++ ([(b 0, .inr (4, [.ref (b 1), .ref (b 2), .ref (b 3), .int (iv (km cs)), .int (iv (kd cs))])), (b 1, .inl (G 5, kn cs, .inr (.inr (.inr (.inr (aF sd (kn cs))))))), (b 2, .inl (G 4, kp cs, .inr (.inr (.inr (.inr (aF sp (kp cs))))))), (b 3, .inl (G 0, 5, .inl (fun y9 => iv (kT cs y9))))] ++ ((wRs G sp (kP cs) (kp cs)) ++ (wLo G sd (kS cs) jj (kn cs) i)))) := wperm (fun q9 => by
            have e_0 : cn q9 (wSD G (sd i) ((kS cs) i) (jj i)) = cn q9 ([(sd i 0, .inr (3, [.ref (sd i 1), .ref (sd i 2), .ref (sd i 3), .int (iv (hJ ((kS cs) i))), .int (iv (xJ ((kS cs) i) (jj i))), .int (iv (dv ((kS cs) i))), .int (iv (dn ((kS cs) i))), .int (iv (dt ((kS cs) i)))])), (sd i 1, .inl (G 4, 6, .inr (.inr (.inr (.inr (jF (sd i))))))), (sd i 2, .inl (G 1, 2, .inl (fun y9 => iv (dO ((kS cs) i) y9)))), (sd i 3, .inl (G 0, 2, .inl (fun y9 => iv (dU ((kS cs) i) y9))))] ++ (wJs G (sd i) ((kS cs) i))) := rfl
            simp only [cn_app, cn_nil, cn_two] at e_0 ⊢ <;> omega)
          replace hP := wP_perm hP hq
          replace hD := wD_perm hD hq
          have hP : va_P D vwCl ((wSD G (sd i) (kS cs i) (jj i)) ++ ([(b 0, .inr (4, [.ref (b 1), .ref (b 2), .ref (b 3), .int (iv (km cs)), .int (iv (kd cs))])), (b 1, .inl (G 5, kn cs, .inr (.inr (.inr (.inr (aF sd (kn cs))))))), (b 2, .inl (G 4, kp cs, .inr (.inr (.inr (.inr (aF sp (kp cs))))))), (b 3, .inl (G 0, 5, .inl (fun y9 => iv (kT cs y9))))] ++ ((wRs G sp (kP cs) (kp cs)) ++ (wLo G sd (kS cs) jj (kn cs) i)))) H := hP
          have hD : va_D A ((wSD G (sd i) (kS cs i) (jj i)) ++ ([(b 0, .inr (4, [.ref (b 1), .ref (b 2), .ref (b 3), .int (iv (km cs)), .int (iv (kd cs))])), (b 1, .inl (G 5, kn cs, .inr (.inr (.inr (.inr (aF sd (kn cs))))))), (b 2, .inl (G 4, kp cs, .inr (.inr (.inr (.inr (aF sp (kp cs))))))), (b 3, .inl (G 0, 5, .inl (fun y9 => iv (kT cs y9))))] ++ ((wRs G sp (kP cs) (kp cs)) ++ (wLo G sd (kS cs) jj (kn cs) i)))) := hD
          have hp : List.Perm (α := Nat × va_E) ((wSD G (sd i) (kS cs i) (jj i)) ++ ([(b 0, .inr (4, [.ref (b 1), .ref (b 2), .ref (b 3), .int (iv (km cs)), .int (iv (kd cs))])), (b 1, .inl (G 5, kn cs, .inr (.inr (.inr (.inr (aF sd (kn cs))))))), (b 2, .inl (G 4, kp cs, .inr (.inr (.inr (.inr (aF sp (kp cs))))))), (b 3, .inl (G 0, 5, .inl (fun y9 => iv (kT cs y9))))] ++ ((wRs G sp (kP cs) (kp cs)) ++ (wLo G sd (kS cs) jj (kn cs) i)))) ((wSD G (sd i) (kS cs i) (jj i)) ++ ([(b 0, .inr (4, [.ref (b 1), .ref (b 2), .ref (b 3), .int (iv (km cs)), .int (iv (kd cs))])), (b 1, .inl (G 5, kn cs, .inr (.inr (.inr (.inr (aF sd (kn cs))))))), (b 2, .inl (G 4, kp cs, .inr (.inr (.inr (.inr (aF sp (kp cs))))))), (b 3, .inl (G 0, 5, .inl (fun y9 => iv (kT cs y9))))] ++ ((wRs G sp (kP cs) (kp cs)) ++ (wLo G sd (kS cs) jj (kn cs) i)))) := List.Perm.refl _
          refine k_int (g_V (As := []) (rest := [.int (iv x)]) (q0 := 0) (ci := 3) ⟨hx, hb, hml, hown, hts⟩ (c_X3_broken l D G (sd i) (kS cs i) okd (jj i)) (cwV 0 hts gX4_told_X3_broken rfl rfl rfl (by decide +kernel) ⟨Nat.le_of_ble_eq_true rfl, Nat.le_of_ble_eq_true rfl⟩) hK hP hD hp rfl rfl rfl rfl hl.1 rfl (Nat.le_of_ble_eq_true rfl) dX4_told_35 ⟨by show _ ≤ (0 : Nat); omega, by show _ ≤ (0 : Nat); omega⟩) hP hD hS hA hp (fun v u H locs hw hP hD hS => ?_)
          obtain ⟨hv, hu⟩ := hw
          replace hv : v = (iv (cntW 100 (kS cs i))) := hv
          subst hv
          subst hu
          have hP : va_P D vwCl ((wSD G (sd i) (kS cs i) (jj i)) ++ ([(b 0, .inr (4, [.ref (b 1), .ref (b 2), .ref (b 3), .int (iv (km cs)), .int (iv (kd cs))])), (b 1, .inl (G 5, kn cs, .inr (.inr (.inr (.inr (aF sd (kn cs))))))), (b 2, .inl (G 4, kp cs, .inr (.inr (.inr (.inr (aF sp (kp cs))))))), (b 3, .inl (G 0, 5, .inl (fun y9 => iv (kT cs y9))))] ++ ((wRs G sp (kP cs) (kp cs)) ++ (wLo G sd (kS cs) jj (kn cs) i)))) H := hP
          have hD : va_D A ((wSD G (sd i) (kS cs i) (jj i)) ++ ([(b 0, .inr (4, [.ref (b 1), .ref (b 2), .ref (b 3), .int (iv (km cs)), .int (iv (kd cs))])), (b 1, .inl (G 5, kn cs, .inr (.inr (.inr (.inr (aF sd (kn cs))))))), (b 2, .inl (G 4, kp cs, .inr (.inr (.inr (.inr (aF sp (kp cs))))))), (b 3, .inl (G 0, 5, .inl (fun y9 => iv (kT cs y9))))] ++ ((wRs G sp (kP cs) (kp cs)) ++ (wLo G sd (kS cs) jj (kn cs) i)))) := hD
          have hq : List.Perm (α := Nat × va_E) ((wSD G (sd i) (kS cs i) (jj i)) ++ ([(b 0, .inr (4, [.ref (b 1), .ref (b 2), .ref (b 3), .int (iv (km cs)), .int (iv (kd cs))])), (b 1, .inl (G 5, kn cs, .inr (.inr (.inr (.inr (aF sd (kn cs))))))), (b 2, .inl (G 4, kp cs, .inr (.inr (.inr (.inr (aF sp (kp cs))))))), (b 3, .inl (G 0, 5, .inl (fun y9 => iv (kT cs y9))))] ++ ((wRs G sp (kP cs) (kp cs)) ++ (wLo G sd (kS cs) jj (kn cs) i)))) ([(b 0, .inr (4, [.ref (b 1), .ref (b 2), .ref (b 3), .int (iv (km cs)), .int (iv (kd cs))])), (b 1, .inl (G 5, kn cs, .inr (.inr (.inr (.inr (aF sd (kn cs))))))), (b 2, .inl (G 4, kp cs, .inr (.inr (.inr (.inr (aF sp (kp cs))))))), (b 3, .inl (G 0, 5, .inl (fun y9 => iv (kT cs y9)))), (sd i 0, .inr (3, [.ref (sd i 1), .ref (sd i 2), .ref (sd i 3), .int (iv (hJ (kS cs i))), .int (iv (xJ (kS cs i) (jj i))), .int (iv (dv (kS cs i))), .int (iv (dn (kS cs i))), .int (iv (dt (kS cs i)))])), (sd i 1, .inl (G 4, 6, .inr (.inr (.inr (.inr (jF (sd i))))))), (sd i 2, .inl (G 1, 2, .inl (fun y9 => iv (dO (kS cs i) y9)))), (sd i 3, .inl (G 0, 2, .inl (fun y9 => iv (dU (kS cs i) y9))))] ++ ((wRs G sp (kP cs) (kp cs)) ++ ((wLo G sd (kS cs) jj (kn cs) i) ++ (wJs G (sd i) (kS cs i))))) := wperm (fun q9 => by
            have e_0 : cn q9 (wSD G (sd i) ((kS cs) i) (jj i)) = cn q9 ([(sd i 0, .inr (3, [.ref (sd i 1), .ref (sd i 2), .ref (sd i 3), .int (iv (hJ ((kS cs) i))), .int (iv (xJ ((kS cs) i) (jj i))), .int (iv (dv ((kS cs) i))), .int (iv (dn ((kS cs) i))), .int (iv (dt ((kS cs) i)))])), (sd i 1, .inl (G 4, 6, .inr (.inr (.inr (.inr (jF (sd i))))))), (sd i 2, .inl (G 1, 2, .inl (fun y9 => iv (dO ((kS cs) i) y9)))), (sd i 3, .inl (G 0, 2, .inl (fun y9 => iv (dU ((kS cs) i) y9))))] ++ (wJs G (sd i) ((kS cs) i))) := rfl
            simp only [cn_app, cn_nil, cn_two] at e_0 ⊢ <;> omega)
          replace hP := wP_perm hP hq
          replace hD := wD_perm hD hq
          have hP : va_P D vwCl ([(b 0, .inr (4, [.ref (b 1), .ref (b 2), .ref (b 3), .int (iv (km cs)), .int (iv (kd cs))])), (b 1, .inl (G 5, kn cs, .inr (.inr (.inr (.inr (aF sd (kn cs))))))), (b 2, .inl (G 4, kp cs, .inr (.inr (.inr (.inr (aF sp (kp cs))))))), (b 3, .inl (G 0, 5, .inl (fun y9 => iv (kT cs y9)))), (sd i 0, .inr (3, [.ref (sd i 1), .ref (sd i 2), .ref (sd i 3), .int (iv (hJ (kS cs i))), .int (iv (xJ (kS cs i) (jj i))), .int (iv (dv (kS cs i))), .int (iv (dn (kS cs i))), .int (iv (dt (kS cs i)))])), (sd i 1, .inl (G 4, 6, .inr (.inr (.inr (.inr (jF (sd i))))))), (sd i 2, .inl (G 1, 2, .inl (fun y9 => iv (dO (kS cs i) y9)))), (sd i 3, .inl (G 0, 2, .inl (fun y9 => iv (dU (kS cs i) y9))))] ++ ((wRs G sp (kP cs) (kp cs)) ++ ((wLo G sd (kS cs) jj (kn cs) i) ++ (wJs G (sd i) (kS cs i))))) _ := hP
          have hD : va_D A ([(b 0, .inr (4, [.ref (b 1), .ref (b 2), .ref (b 3), .int (iv (km cs)), .int (iv (kd cs))])), (b 1, .inl (G 5, kn cs, .inr (.inr (.inr (.inr (aF sd (kn cs))))))), (b 2, .inl (G 4, kp cs, .inr (.inr (.inr (.inr (aF sp (kp cs))))))), (b 3, .inl (G 0, 5, .inl (fun y9 => iv (kT cs y9)))), (sd i 0, .inr (3, [.ref (sd i 1), .ref (sd i 2), .ref (sd i 3), .int (iv (hJ (kS cs i))), .int (iv (xJ (kS cs i) (jj i))), .int (iv (dv (kS cs i))), .int (iv (dn (kS cs i))), .int (iv (dt (kS cs i)))])), (sd i 1, .inl (G 4, 6, .inr (.inr (.inr (.inr (jF (sd i))))))), (sd i 2, .inl (G 1, 2, .inl (fun y9 => iv (dO (kS cs i) y9)))), (sd i 3, .inl (G 0, 2, .inl (fun y9 => iv (dU (kS cs i) y9))))] ++ ((wRs G sp (kP cs) (kp cs)) ++ ((wLo G sd (kS cs) jj (kn cs) i) ++ (wJs G (sd i) (kS cs i))))) := hD
          refine r_add hx hb dX4_told_38 ?_
          refine lv_istore_n (lv' := [(2, .int (iv (x + (cntW 100 (kS cs i))))), (6, .ref (sd i 0)), (0, .ref (b 0)), (1, .int (iv w)), (3, .ref (b 1)), (4, .int (iv (kn cs : Int))), (5, .int (iv (i : Int)))]) hx hb dX4_told_39 rfl hl (by decide) rfl (fun ls hl => ?_)
          have okd8 := okd
          refine lv_iload_n hx hb dX4_told_40 rfl (lv_at hl 3 rfl) ?_
          refine r_const hx hb dX4_told_41 ?_
          refine r_icmp_ne hx hb 61 dX4_told_42 (by decide) (by omega) (by omega) (fun c_42 => ?_) (fun c_42 => ?_)
          · skip
            refine lv_iload_n hx hb dX4_told_61 rfl (lv_at hl 3 rfl) ?_
            refine lv_bipush (v := iv 6) hx hb dX4_told_62 (by decide) ?_
            refine r_icmp_ne hx hb 83 dX4_told_64 (by decide) (by omega) (by omega) (fun c_64 => ?_) (fun c_64 => ?_)
            · skip
              refine lv_iload_n hx hb dX4_told_83 rfl (lv_at hl 3 rfl) ?_
              refine lv_bipush (v := iv 7) hx hb dX4_told_84 (by decide) ?_
              refine r_icmp_ne hx hb 139 dX4_told_86 (by decide) (by omega) (by omega) (fun c_86 => ?_) (fun c_86 => ?_)
              · skip
                refine r_iinc (k := 6) (lv' := [(5, .int (iv ((i : Int) + 1))), (2, .int (iv (x + (cntW 100 (kS cs i))))), (6, .ref (sd i 0)), (0, .ref (b 0)), (1, .int (iv w)), (3, .ref (b 1)), (4, .int (iv (kn cs : Int)))]) hx hb dX4_told_139 hl rfl (by decide) rfl (fun ls hl => ?_)
                refine r_goto hx hb 14 dX4_told_142 (by decide) ?_
                have hq : List.Perm (α := Nat × va_E) ([(b 0, .inr (4, [.ref (b 1), .ref (b 2), .ref (b 3), .int (iv (km cs)), .int (iv (kd cs))])), (b 1, .inl (G 5, kn cs, .inr (.inr (.inr (.inr (aF sd (kn cs))))))), (b 2, .inl (G 4, kp cs, .inr (.inr (.inr (.inr (aF sp (kp cs))))))), (b 3, .inl (G 0, 5, .inl (fun y9 => iv (kT cs y9)))), (sd i 0, .inr (3, [.ref (sd i 1), .ref (sd i 2), .ref (sd i 3), .int (iv (hJ (kS cs i))), .int (iv (xJ (kS cs i) (jj i))), .int (iv (dv (kS cs i))), .int (iv (dn (kS cs i))), .int (iv (dt (kS cs i)))])), (sd i 1, .inl (G 4, 6, .inr (.inr (.inr (.inr (jF (sd i))))))), (sd i 2, .inl (G 1, 2, .inl (fun y9 => iv (dO (kS cs i) y9)))), (sd i 3, .inl (G 0, 2, .inl (fun y9 => iv (dU (kS cs i) y9))))] ++ ((wRs G sp (kP cs) (kp cs)) ++ ((wLo G sd (kS cs) jj (kn cs) i) ++ (wJs G (sd i) (kS cs i))))) ([(b 0, .inr (4, [.ref (b 1), .ref (b 2), .ref (b 3), .int (iv (km cs)), .int (iv (kd cs))])), (b 1, .inl (G 5, kn cs, .inr (.inr (.inr (.inr (aF sd (kn cs))))))), (b 2, .inl (G 4, kp cs, .inr (.inr (.inr (.inr (aF sp (kp cs))))))), (b 3, .inl (G 0, 5, .inl (fun y9 => iv (kT cs y9))))] ++ ((wLs G sd (kS cs) jj (kn cs)) ++ (wRs G sp (kP cs) (kp cs)))) := wperm (fun q9 => by
                  have e_0 : cn q9 (wLs G sd (kS cs) jj (kn cs)) = cn q9 (([(sd i 0, .inr (3, [.ref (sd i 1), .ref (sd i 2), .ref (sd i 3), .int (iv (hJ (kS cs i))), .int (iv (xJ (kS cs i) (jj i))), .int (iv (dv (kS cs i))), .int (iv (dn (kS cs i))), .int (iv (dt (kS cs i)))])), (sd i 1, .inl (G 4, 6, .inr (.inr (.inr (.inr (jF (sd i))))))), (sd i 2, .inl (G 1, 2, .inl (fun y9 => iv (dO (kS cs i) y9)))), (sd i 3, .inl (G 0, 2, .inl (fun y9 => iv (dU (kS cs i) y9))))] ++ (wJs G (sd i) (kS cs i))) ++ wLo G sd (kS cs) jj (kn cs) i) := cn_perm (wLs_get (G := G) (sd := sd) (S := (kS cs)) (sj := jj) (n := kn cs) (d := i) (by omega)) q9
                  simp only [cn_app, cn_nil, cn_two] at e_0 ⊢ <;> omega)
                replace hP := wP_perm hP hq
                replace hD := wD_perm hD hq
                have hP : va_P D vwCl ([(b 0, .inr (4, [.ref (b 1), .ref (b 2), .ref (b 3), .int (iv (km cs)), .int (iv (kd cs))])), (b 1, .inl (G 5, kn cs, .inr (.inr (.inr (.inr (aF sd (kn cs))))))), (b 2, .inl (G 4, kp cs, .inr (.inr (.inr (.inr (aF sp (kp cs))))))), (b 3, .inl (G 0, 5, .inl (fun y9 => iv (kT cs y9))))] ++ ((wLs G sd (kS cs) jj (kn cs)) ++ (wRs G sp (kP cs) (kp cs)))) _ := hP
                have hD : va_D A ([(b 0, .inr (4, [.ref (b 1), .ref (b 2), .ref (b 3), .int (iv (km cs)), .int (iv (kd cs))])), (b 1, .inl (G 5, kn cs, .inr (.inr (.inr (.inr (aF sd (kn cs))))))), (b 2, .inl (G 4, kp cs, .inr (.inr (.inr (.inr (aF sp (kp cs))))))), (b 3, .inl (G 0, 5, .inl (fun y9 => iv (kT cs y9))))] ++ ((wLs G sd (kS cs) jj (kn cs)) ++ (wRs G sp (kP cs) (kp cs)))) := hD
                refine W.widen (k := 0) (n := 0) (by omega) (by omega) ?_
                exact ih14 (i + 1) (x + (cntW 100 (kS cs i))) (by omega) (by omega) (by rw [ex, show w = 4 by omega]; rfl) _ _ hP hD hS _ (lv_sub hl [3, 4, 1, 5, 6, 0] rfl)
              · skip
                exact (by omega : False).elim
            · skip
              exact (by omega : False).elim
          · skip
            exact (by omega : False).elim
  refine W.widen (k := 0) (n := 0) (by omega) (by omega) ?_
  exact K14 (kn cs + 1) 0 0 (by omega) (by omega) rfl _ _ hP hD hS _ (lv_sub hl [4, 5, 3, 2, 1, 0] rfl)
