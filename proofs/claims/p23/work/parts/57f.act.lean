set_option maxHeartbeats 4000000 in
set_option maxRecDepth 100000 in
theorem c_L_act (l : Launch) (D : va_G) (G : Nat → ClassId) (hl0 : l.stackTraces = false) (a ar az : Nat → Nat) (ad ap : AD) (ts : DS) (b : Nat → Nat) (sd sp : AD) (jj : Nat → Int) (cs : CS) (hok : okC cs) (kd0 : Int) (hkd : kd cs = kd0) (hdl : kd0 ≤ 1000000) (x : Int)  : MtX l yL_act wsL_act 8 190 60 250 D (TY G) [.ref (a 0), .ref (b 0), .int (iv x)] (wC G a ar az ad ap ts cs ++ wSim G b sd sp jj cs) (qI D (fun r u => r = iv 1 ∧ PA G a ar az (b 0) kd0 u)) := by
  refine MtX.mk (cc := cL_act) (maxL := 21) (ret := some .boolean) (by decide) rfl (Nat.le_of_ble_eq_true rfl) ?_
  intro p e s m below meth c A ls hx hb hr hlk hml hown hin hts hK hA hT hP hD hS hl
  replace hown : s.vm.findClass RL = some m.cls := hown
  have hl : lv_has ls 21 [(0, .ref (a 0)), (1, .ref (b 0)), (2, .int (iv x))] := hl
  have hP : va_P D vwCl (wC G a ar az ad ap ts cs ++ wSim G b sd sp jj cs) s.heap := hP
  have hD : va_D A (wC G a ar az ad ap ts cs ++ wSim G b sd sp jj cs) := hD
  have lk9 := hts (.fieldLink RL 9 "DollCitadelLaw$Sim" "dolls" "[LDollCitadelLaw$Doll;") (by decide +kernel)
  have in_X4 : ∀ w ∈ u_ws RX4 TX4 5, w ∈ wsL_act := by decide +kernel
  have lk15 := hts (.fieldLink RL 15 "DollCitadelLaw$Sim" "poses" "[[I") (by decide +kernel)
  have lk40 := hts (.fieldLink RL 40 "DollCitadelLaw$Sim" "moths" "I") (by decide +kernel)
  have lk48 := hts (.fieldLink RL 48 "DollCitadelLaw$Doll" "dust" "[I") (by decide +kernel)
  have in_X3 : ∀ w ∈ u_ws RX3 TX3 8, w ∈ wsL_act := by decide +kernel
  have lk51 := hts (.fieldLink RL 51 "DollCitadelLaw$Doll" "open" "[Z") (by decide +kernel)
  have lk59 := hts (.fieldLink RL 59 "DollCitadelLaw$Sim" "store" "[I") (by decide +kernel)
  have lk62 := hts (.fieldLink RL 62 "DollCitadelLaw$Doll" "pins" "I") (by decide +kernel)
  have lk70 := hts (.fieldLink RL 70 "DollCitadelLaw$Doll" "weight" "I") (by decide +kernel)
  have lk80 := hts (.fieldLink RL 80 "DollCitadelLaw$Doll" "joints" "[[I") (by decide +kernel)
  have lk83 := hts (.fieldLink RL 83 "DollCitadelLaw$Doll" "hasWig" "Z") (by decide +kernel)
  have lk87 := hts (.fieldLink RL 87 "DollCitadelLaw$Doll" "eaten" "I") (by decide +kernel)
  have lk104 := hts (.fieldLink RL 104 "DollCitadelLaw$Doll" "took" "I") (by decide +kernel)
  obtain ⟨on8, op8, -, -, -, oday, omo⟩ := id hok
  have hq : List.Perm (α := Nat × va_E) (wC G a ar az ad ap ts cs ++ wSim G b sd sp jj cs) ([(b 0, .inr (4, [.ref (b 1), .ref (b 2), .ref (b 3), .int (iv (km cs)), .int (iv (kd cs))])), (b 1, .inl (G 5, kn cs, .inr (.inr (.inr (.inr (aF sd (kn cs))))))), (b 2, .inl (G 4, kp cs, .inr (.inr (.inr (.inr (aF sp (kp cs))))))), (b 3, .inl (G 0, 5, .inl (fun y9 => iv (kT cs y9))))] ++ ((wLs G sd (kS cs) jj (kn cs)) ++ ((wRs G sp (kP cs) (kp cs)) ++ (wC G a ar az ad ap ts cs)))) := wperm (fun q9 => by
    have e_0 : cn q9 (wSim G b sd sp jj cs) = cn q9 ([(b 0, .inr (4, [.ref (b 1), .ref (b 2), .ref (b 3), .int (iv (km cs)), .int (iv (kd cs))])), (b 1, .inl (G 5, kn cs, .inr (.inr (.inr (.inr (aF sd (kn cs))))))), (b 2, .inl (G 4, kp cs, .inr (.inr (.inr (.inr (aF sp (kp cs))))))), (b 3, .inl (G 0, 5, .inl (fun y9 => iv (kT cs y9))))] ++ ((wLs G sd (kS cs) jj (kn cs)) ++ (wRs G sp (kP cs) (kp cs)))) := rfl
    simp only [cn_app, cn_nil, cn_two] at e_0 ⊢ <;> omega)
  replace hP := wP_perm hP hq
  replace hD := wD_perm hD hq
  have hP : va_P D vwCl ([(b 0, .inr (4, [.ref (b 1), .ref (b 2), .ref (b 3), .int (iv (km cs)), .int (iv (kd cs))])), (b 1, .inl (G 5, kn cs, .inr (.inr (.inr (.inr (aF sd (kn cs))))))), (b 2, .inl (G 4, kp cs, .inr (.inr (.inr (.inr (aF sp (kp cs))))))), (b 3, .inl (G 0, 5, .inl (fun y9 => iv (kT cs y9))))] ++ ((wLs G sd (kS cs) jj (kn cs)) ++ ((wRs G sp (kP cs) (kp cs)) ++ (wC G a ar az ad ap ts cs)))) _ := hP
  have hD : va_D A ([(b 0, .inr (4, [.ref (b 1), .ref (b 2), .ref (b 3), .int (iv (km cs)), .int (iv (kd cs))])), (b 1, .inl (G 5, kn cs, .inr (.inr (.inr (.inr (aF sd (kn cs))))))), (b 2, .inl (G 4, kp cs, .inr (.inr (.inr (.inr (aF sp (kp cs))))))), (b 3, .inl (G 0, 5, .inl (fun y9 => iv (kT cs y9))))] ++ ((wLs G sd (kS cs) jj (kn cs)) ++ ((wRs G sp (kP cs) (kp cs)) ++ (wC G a ar az ad ap ts cs)))) := hD
  refine lv_aload_n hx hb dL_act_0 rfl (lv_at hl 1 rfl) ?_
  refine va_get (D := D) (ci := 4) (v := .ref (b 1)) (C := RX4) (T := TX4) (N := 5) hx hb hts in_X4 hown hK hP 0 rfl rfl 0 (by decide) lk9 (fun _ h9 => h9) rfl dL_act_1 ?_
  refine va_alen (v := iv (kn cs : Int)) hx hb hK hP 1 5 rfl (ty := _) rfl (iv_nI _) dL_act_4 ?_
  refine lv_istore_n (lv' := [(3, .int (iv (kn cs : Int))), (0, .ref (a 0)), (1, .ref (b 0)), (2, .int (iv x))]) hx hb dL_act_5 rfl hl (by decide) rfl (fun ls hl => ?_)
  refine lv_aload_n hx hb dL_act_6 rfl (lv_at hl 2 rfl) ?_
  refine va_get (D := D) (ci := 4) (v := .ref (b 2)) (C := RX4) (T := TX4) (N := 5) hx hb hts in_X4 hown hK hP 0 rfl rfl 1 (by decide) lk15 (fun _ h9 => h9) rfl dL_act_7 ?_
  refine va_alen (v := iv (kp cs : Int)) hx hb hK hP 2 4 rfl (ty := _) rfl (iv_nI _) dL_act_10 ?_
  refine lv_istore (lv' := [(4, .int (iv (kp cs : Int))), (3, .int (iv (kn cs : Int))), (0, .ref (a 0)), (1, .ref (b 0)), (2, .int (iv x))]) hx hb dL_act_11 hl (by decide) rfl (fun ls hl => ?_)
  refine lv_iload_n hx hb dL_act_13 rfl (lv_at hl 1 rfl) ?_
  refine r_if_ne hx hb 21 dL_act_14 (by decide) (by omega) (fun c_14 => ?_) (fun c_14 => ?_)
  · skip
    refine lv_iload_n hx hb dL_act_21 rfl (lv_at hl 4 rfl) ?_
    refine lv_iload_n hx hb dL_act_22 rfl (lv_at hl 1 rfl) ?_
    have hq : List.Perm (α := Nat × va_E) ([(b 0, .inr (4, [.ref (b 1), .ref (b 2), .ref (b 3), .int (iv (km cs)), .int (iv (kd cs))])), (b 1, .inl (G 5, kn cs, .inr (.inr (.inr (.inr (aF sd (kn cs))))))), (b 2, .inl (G 4, kp cs, .inr (.inr (.inr (.inr (aF sp (kp cs))))))), (b 3, .inl (G 0, 5, .inl (fun y9 => iv (kT cs y9))))] ++ ((wLs G sd (kS cs) jj (kn cs)) ++ ((wRs G sp (kP cs) (kp cs)) ++ (wC G a ar az ad ap ts cs)))) (([] : va_W) ++ ([(b 0, .inr (4, [.ref (b 1), .ref (b 2), .ref (b 3), .int (iv (km cs)), .int (iv (kd cs))])), (b 1, .inl (G 5, kn cs, .inr (.inr (.inr (.inr (aF sd (kn cs))))))), (b 2, .inl (G 4, kp cs, .inr (.inr (.inr (.inr (aF sp (kp cs))))))), (b 3, .inl (G 0, 5, .inl (fun y9 => iv (kT cs y9))))] ++ ((wLs G sd (kS cs) jj (kn cs)) ++ ((wRs G sp (kP cs) (kp cs)) ++ (wC G a ar az ad ap ts cs))))) := wperm (fun q9 => by
      simp only [cn_app, cn_nil, cn_two] at ⊢ <;> omega)
    replace hP := wP_perm hP hq
    replace hD := wD_perm hD hq
    have hP : va_P D vwCl (([] : va_W) ++ ([(b 0, .inr (4, [.ref (b 1), .ref (b 2), .ref (b 3), .int (iv (km cs)), .int (iv (kd cs))])), (b 1, .inl (G 5, kn cs, .inr (.inr (.inr (.inr (aF sd (kn cs))))))), (b 2, .inl (G 4, kp cs, .inr (.inr (.inr (.inr (aF sp (kp cs))))))), (b 3, .inl (G 0, 5, .inl (fun y9 => iv (kT cs y9))))] ++ ((wLs G sd (kS cs) jj (kn cs)) ++ ((wRs G sp (kP cs) (kp cs)) ++ (wC G a ar az ad ap ts cs))))) _ := hP
    have hD : va_D A (([] : va_W) ++ ([(b 0, .inr (4, [.ref (b 1), .ref (b 2), .ref (b 3), .int (iv (km cs)), .int (iv (kd cs))])), (b 1, .inl (G 5, kn cs, .inr (.inr (.inr (.inr (aF sd (kn cs))))))), (b 2, .inl (G 4, kp cs, .inr (.inr (.inr (.inr (aF sp (kp cs))))))), (b 3, .inl (G 0, 5, .inl (fun y9 => iv (kT cs y9))))] ++ ((wLs G sd (kS cs) jj (kn cs)) ++ ((wRs G sp (kP cs) (kp cs)) ++ (wC G a ar az ad ap ts cs))))) := hD
    have hp : List.Perm (α := Nat × va_E) (([] : va_W) ++ ([(b 0, .inr (4, [.ref (b 1), .ref (b 2), .ref (b 3), .int (iv (km cs)), .int (iv (kd cs))])), (b 1, .inl (G 5, kn cs, .inr (.inr (.inr (.inr (aF sd (kn cs))))))), (b 2, .inl (G 4, kp cs, .inr (.inr (.inr (.inr (aF sp (kp cs))))))), (b 3, .inl (G 0, 5, .inl (fun y9 => iv (kT cs y9))))] ++ ((wLs G sd (kS cs) jj (kn cs)) ++ ((wRs G sp (kP cs) (kp cs)) ++ (wC G a ar az ad ap ts cs))))) (([] : va_W) ++ ([(b 0, .inr (4, [.ref (b 1), .ref (b 2), .ref (b 3), .int (iv (km cs)), .int (iv (kd cs))])), (b 1, .inl (G 5, kn cs, .inr (.inr (.inr (.inr (aF sd (kn cs))))))), (b 2, .inl (G 4, kp cs, .inr (.inr (.inr (.inr (aF sp (kp cs))))))), (b 3, .inl (G 0, 5, .inl (fun y9 => iv (kT cs y9))))] ++ ((wLs G sd (kS cs) jj (kn cs)) ++ ((wRs G sp (kP cs) (kp cs)) ++ (wC G a ar az ad ap ts cs))))) := List.Perm.refl _
    refine k_int (g_S (As := [.int (iv x), .int (iv (kn cs : Int))]) (rest := []) ⟨hx, hb, hml, hown, hts⟩ (c_L_below l D G x (kn cs : Int) (by omega)) (va_cwS 2 hts gL_act_L_below rfl rfl rfl (by decide +kernel) ⟨Nat.le_of_ble_eq_true rfl, Nat.le_of_ble_eq_true rfl⟩) hK hP hD hp rfl hl.1 rfl (Nat.le_of_ble_eq_true rfl) dL_act_23 ⟨by show _ ≤ (60 : Nat); omega, by show _ ≤ (250 : Nat); omega⟩) hP hD hS hA hp (fun v u H locs hw hP hD hS => ?_)
    obtain ⟨k_1, hk_1, rfl, rfl⟩ := hw
    have hP : va_P D vwCl (([] : va_W) ++ ([(b 0, .inr (4, [.ref (b 1), .ref (b 2), .ref (b 3), .int (iv (km cs)), .int (iv (kd cs))])), (b 1, .inl (G 5, kn cs, .inr (.inr (.inr (.inr (aF sd (kn cs))))))), (b 2, .inl (G 4, kp cs, .inr (.inr (.inr (.inr (aF sp (kp cs))))))), (b 3, .inl (G 0, 5, .inl (fun y9 => iv (kT cs y9))))] ++ ((wLs G sd (kS cs) jj (kn cs)) ++ ((wRs G sp (kP cs) (kp cs)) ++ (wC G a ar az ad ap ts cs))))) _ := hP
    have hD : va_D A (([] : va_W) ++ ([(b 0, .inr (4, [.ref (b 1), .ref (b 2), .ref (b 3), .int (iv (km cs)), .int (iv (kd cs))])), (b 1, .inl (G 5, kn cs, .inr (.inr (.inr (.inr (aF sd (kn cs))))))), (b 2, .inl (G 4, kp cs, .inr (.inr (.inr (.inr (aF sp (kp cs))))))), (b 3, .inl (G 0, 5, .inl (fun y9 => iv (kT cs y9))))] ++ ((wLs G sd (kS cs) jj (kn cs)) ++ ((wRs G sp (kP cs) (kp cs)) ++ (wC G a ar az ad ap ts cs))))) := hD
    have hq : List.Perm (α := Nat × va_E) (([] : va_W) ++ ([(b 0, .inr (4, [.ref (b 1), .ref (b 2), .ref (b 3), .int (iv (km cs)), .int (iv (kd cs))])), (b 1, .inl (G 5, kn cs, .inr (.inr (.inr (.inr (aF sd (kn cs))))))), (b 2, .inl (G 4, kp cs, .inr (.inr (.inr (.inr (aF sp (kp cs))))))), (b 3, .inl (G 0, 5, .inl (fun y9 => iv (kT cs y9))))] ++ ((wLs G sd (kS cs) jj (kn cs)) ++ ((wRs G sp (kP cs) (kp cs)) ++ (wC G a ar az ad ap ts cs))))) ([(b 0, .inr (4, [.ref (b 1), .ref (b 2), .ref (b 3), .int (iv (km cs)), .int (iv (kd cs))])), (b 1, .inl (G 5, kn cs, .inr (.inr (.inr (.inr (aF sd (kn cs))))))), (b 2, .inl (G 4, kp cs, .inr (.inr (.inr (.inr (aF sp (kp cs))))))), (b 3, .inl (G 0, 5, .inl (fun y9 => iv (kT cs y9))))] ++ ((wLs G sd (kS cs) jj (kn cs)) ++ ((wRs G sp (kP cs) (kp cs)) ++ (wC G a ar az ad ap ts cs)))) := wperm (fun q9 => by
      simp only [cn_app, cn_nil, cn_two] at ⊢ <;> omega)
    replace hP := wP_perm hP hq
    replace hD := wD_perm hD hq
    have hP : va_P D vwCl ([(b 0, .inr (4, [.ref (b 1), .ref (b 2), .ref (b 3), .int (iv (km cs)), .int (iv (kd cs))])), (b 1, .inl (G 5, kn cs, .inr (.inr (.inr (.inr (aF sd (kn cs))))))), (b 2, .inl (G 4, kp cs, .inr (.inr (.inr (.inr (aF sp (kp cs))))))), (b 3, .inl (G 0, 5, .inl (fun y9 => iv (kT cs y9))))] ++ ((wLs G sd (kS cs) jj (kn cs)) ++ ((wRs G sp (kP cs) (kp cs)) ++ (wC G a ar az ad ap ts cs)))) _ := hP
    have hD : va_D A ([(b 0, .inr (4, [.ref (b 1), .ref (b 2), .ref (b 3), .int (iv (km cs)), .int (iv (kd cs))])), (b 1, .inl (G 5, kn cs, .inr (.inr (.inr (.inr (aF sd (kn cs))))))), (b 2, .inl (G 4, kp cs, .inr (.inr (.inr (.inr (aF sp (kp cs))))))), (b 3, .inl (G 0, 5, .inl (fun y9 => iv (kT cs y9))))] ++ ((wLs G sd (kS cs) jj (kn cs)) ++ ((wRs G sp (kP cs) (kp cs)) ++ (wC G a ar az ad ap ts cs)))) := hD
    refine lv_istore (lv' := [(5, .int (iv (k_1 : Int))), (4, .int (iv (kp cs : Int))), (3, .int (iv (kn cs : Int))), (0, .ref (a 0)), (1, .ref (b 0)), (2, .int (iv x))]) hx hb dL_act_26 hl (by decide) rfl (fun ls hl => ?_)
    refine lv_iload_n hx hb dL_act_28 rfl (lv_at hl 2 rfl) ?_
    refine r_if_ne hx hb 36 dL_act_29 (by decide) (by omega) (fun c_29 => ?_) (fun c_29 => ?_)
    · skip
      refine lv_aload_n hx hb dL_act_36 rfl (lv_at hl 4 rfl) ?_
      refine va_get (D := D) (ci := 4) (v := .ref (b 1)) (C := RX4) (T := TX4) (N := 5) hx hb hts in_X4 hown hK hP 0 rfl rfl 0 (by decide) lk9 (fun _ h9 => h9) rfl dL_act_37 ?_
      refine lv_iload hx hb dL_act_40 (lv_at hl 0 rfl) ?_
      refine r_aald (F := aF sd (kn cs)) hx hb hK hP 1 5 rfl rfl k_1 (by omega) (by omega) (by omega) dL_act_42 ?_
      rw [show va_rf (aF sd (kn cs) k_1) = Value.ref (sd k_1 0) from congrArg va_rf (aF_yes (by omega))]
      refine lv_astore (lv' := [(6, .ref (sd k_1 0)), (5, .int (iv (k_1 : Int))), (4, .int (iv (kp cs : Int))), (3, .int (iv (kn cs : Int))), (0, .ref (a 0)), (1, .ref (b 0)), (2, .int (iv x))]) hx hb dL_act_43 hl (by decide) rfl (fun ls hl => ?_)
      refine lv_iload_n hx hb dL_act_45 rfl (lv_at hl 3 rfl) ?_
      refine r_if_ne hx hb 53 dL_act_46 (by decide) (by omega) (fun c_46 => ?_) (fun c_46 => ?_)
      · skip
        refine lv_iload_n hx hb dL_act_53 rfl (lv_at hl 6 rfl) ?_
        refine lv_bipush (v := iv 9) hx hb dL_act_54 (by decide) ?_
        refine r_shr hx hb dL_act_56 (fun z_2 => ?_)
        refine lv_bipush (v := iv 17) hx hb dL_act_57 (by decide) ?_
        have hq : List.Perm (α := Nat × va_E) ([(b 0, .inr (4, [.ref (b 1), .ref (b 2), .ref (b 3), .int (iv (km cs)), .int (iv (kd cs))])), (b 1, .inl (G 5, kn cs, .inr (.inr (.inr (.inr (aF sd (kn cs))))))), (b 2, .inl (G 4, kp cs, .inr (.inr (.inr (.inr (aF sp (kp cs))))))), (b 3, .inl (G 0, 5, .inl (fun y9 => iv (kT cs y9))))] ++ ((wLs G sd (kS cs) jj (kn cs)) ++ ((wRs G sp (kP cs) (kp cs)) ++ (wC G a ar az ad ap ts cs)))) (([] : va_W) ++ ([(b 0, .inr (4, [.ref (b 1), .ref (b 2), .ref (b 3), .int (iv (km cs)), .int (iv (kd cs))])), (b 1, .inl (G 5, kn cs, .inr (.inr (.inr (.inr (aF sd (kn cs))))))), (b 2, .inl (G 4, kp cs, .inr (.inr (.inr (.inr (aF sp (kp cs))))))), (b 3, .inl (G 0, 5, .inl (fun y9 => iv (kT cs y9))))] ++ ((wLs G sd (kS cs) jj (kn cs)) ++ ((wRs G sp (kP cs) (kp cs)) ++ (wC G a ar az ad ap ts cs))))) := wperm (fun q9 => by
          simp only [cn_app, cn_nil, cn_two] at ⊢ <;> omega)
        replace hP := wP_perm hP hq
        replace hD := wD_perm hD hq
        have hP : va_P D vwCl (([] : va_W) ++ ([(b 0, .inr (4, [.ref (b 1), .ref (b 2), .ref (b 3), .int (iv (km cs)), .int (iv (kd cs))])), (b 1, .inl (G 5, kn cs, .inr (.inr (.inr (.inr (aF sd (kn cs))))))), (b 2, .inl (G 4, kp cs, .inr (.inr (.inr (.inr (aF sp (kp cs))))))), (b 3, .inl (G 0, 5, .inl (fun y9 => iv (kT cs y9))))] ++ ((wLs G sd (kS cs) jj (kn cs)) ++ ((wRs G sp (kP cs) (kp cs)) ++ (wC G a ar az ad ap ts cs))))) _ := hP
        have hD : va_D A (([] : va_W) ++ ([(b 0, .inr (4, [.ref (b 1), .ref (b 2), .ref (b 3), .int (iv (km cs)), .int (iv (kd cs))])), (b 1, .inl (G 5, kn cs, .inr (.inr (.inr (.inr (aF sd (kn cs))))))), (b 2, .inl (G 4, kp cs, .inr (.inr (.inr (.inr (aF sp (kp cs))))))), (b 3, .inl (G 0, 5, .inl (fun y9 => iv (kT cs y9))))] ++ ((wLs G sd (kS cs) jj (kn cs)) ++ ((wRs G sp (kP cs) (kp cs)) ++ (wC G a ar az ad ap ts cs))))) := hD
        have hp : List.Perm (α := Nat × va_E) (([] : va_W) ++ ([(b 0, .inr (4, [.ref (b 1), .ref (b 2), .ref (b 3), .int (iv (km cs)), .int (iv (kd cs))])), (b 1, .inl (G 5, kn cs, .inr (.inr (.inr (.inr (aF sd (kn cs))))))), (b 2, .inl (G 4, kp cs, .inr (.inr (.inr (.inr (aF sp (kp cs))))))), (b 3, .inl (G 0, 5, .inl (fun y9 => iv (kT cs y9))))] ++ ((wLs G sd (kS cs) jj (kn cs)) ++ ((wRs G sp (kP cs) (kp cs)) ++ (wC G a ar az ad ap ts cs))))) (([] : va_W) ++ ([(b 0, .inr (4, [.ref (b 1), .ref (b 2), .ref (b 3), .int (iv (km cs)), .int (iv (kd cs))])), (b 1, .inl (G 5, kn cs, .inr (.inr (.inr (.inr (aF sd (kn cs))))))), (b 2, .inl (G 4, kp cs, .inr (.inr (.inr (.inr (aF sp (kp cs))))))), (b 3, .inl (G 0, 5, .inl (fun y9 => iv (kT cs y9))))] ++ ((wLs G sd (kS cs) jj (kn cs)) ++ ((wRs G sp (kP cs) (kp cs)) ++ (wC G a ar az ad ap ts cs))))) := List.Perm.refl _
        refine k_int (g_S (As := [.int (iv z_2), .int (iv 17)]) (rest := []) ⟨hx, hb, hml, hown, hts⟩ (c_L_below l D G z_2 17 (by omega)) (va_cwS 2 hts gL_act_L_below rfl rfl rfl (by decide +kernel) ⟨Nat.le_of_ble_eq_true rfl, Nat.le_of_ble_eq_true rfl⟩) hK hP hD hp rfl hl.1 rfl (Nat.le_of_ble_eq_true rfl) dL_act_59 ⟨by show _ ≤ (60 : Nat); omega, by show _ ≤ (250 : Nat); omega⟩) hP hD hS hA hp (fun v u H locs hw hP hD hS => ?_)
        obtain ⟨k_3, hk_3, rfl, rfl⟩ := hw
        have hP : va_P D vwCl (([] : va_W) ++ ([(b 0, .inr (4, [.ref (b 1), .ref (b 2), .ref (b 3), .int (iv (km cs)), .int (iv (kd cs))])), (b 1, .inl (G 5, kn cs, .inr (.inr (.inr (.inr (aF sd (kn cs))))))), (b 2, .inl (G 4, kp cs, .inr (.inr (.inr (.inr (aF sp (kp cs))))))), (b 3, .inl (G 0, 5, .inl (fun y9 => iv (kT cs y9))))] ++ ((wLs G sd (kS cs) jj (kn cs)) ++ ((wRs G sp (kP cs) (kp cs)) ++ (wC G a ar az ad ap ts cs))))) _ := hP
        have hD : va_D A (([] : va_W) ++ ([(b 0, .inr (4, [.ref (b 1), .ref (b 2), .ref (b 3), .int (iv (km cs)), .int (iv (kd cs))])), (b 1, .inl (G 5, kn cs, .inr (.inr (.inr (.inr (aF sd (kn cs))))))), (b 2, .inl (G 4, kp cs, .inr (.inr (.inr (.inr (aF sp (kp cs))))))), (b 3, .inl (G 0, 5, .inl (fun y9 => iv (kT cs y9))))] ++ ((wLs G sd (kS cs) jj (kn cs)) ++ ((wRs G sp (kP cs) (kp cs)) ++ (wC G a ar az ad ap ts cs))))) := hD
        have hq : List.Perm (α := Nat × va_E) (([] : va_W) ++ ([(b 0, .inr (4, [.ref (b 1), .ref (b 2), .ref (b 3), .int (iv (km cs)), .int (iv (kd cs))])), (b 1, .inl (G 5, kn cs, .inr (.inr (.inr (.inr (aF sd (kn cs))))))), (b 2, .inl (G 4, kp cs, .inr (.inr (.inr (.inr (aF sp (kp cs))))))), (b 3, .inl (G 0, 5, .inl (fun y9 => iv (kT cs y9))))] ++ ((wLs G sd (kS cs) jj (kn cs)) ++ ((wRs G sp (kP cs) (kp cs)) ++ (wC G a ar az ad ap ts cs))))) ([(b 0, .inr (4, [.ref (b 1), .ref (b 2), .ref (b 3), .int (iv (km cs)), .int (iv (kd cs))])), (b 1, .inl (G 5, kn cs, .inr (.inr (.inr (.inr (aF sd (kn cs))))))), (b 2, .inl (G 4, kp cs, .inr (.inr (.inr (.inr (aF sp (kp cs))))))), (b 3, .inl (G 0, 5, .inl (fun y9 => iv (kT cs y9))))] ++ ((wLs G sd (kS cs) jj (kn cs)) ++ ((wRs G sp (kP cs) (kp cs)) ++ (wC G a ar az ad ap ts cs)))) := wperm (fun q9 => by
          simp only [cn_app, cn_nil, cn_two] at ⊢ <;> omega)
        replace hP := wP_perm hP hq
        replace hD := wD_perm hD hq
        have hP : va_P D vwCl ([(b 0, .inr (4, [.ref (b 1), .ref (b 2), .ref (b 3), .int (iv (km cs)), .int (iv (kd cs))])), (b 1, .inl (G 5, kn cs, .inr (.inr (.inr (.inr (aF sd (kn cs))))))), (b 2, .inl (G 4, kp cs, .inr (.inr (.inr (.inr (aF sp (kp cs))))))), (b 3, .inl (G 0, 5, .inl (fun y9 => iv (kT cs y9))))] ++ ((wLs G sd (kS cs) jj (kn cs)) ++ ((wRs G sp (kP cs) (kp cs)) ++ (wC G a ar az ad ap ts cs)))) _ := hP
        have hD : va_D A ([(b 0, .inr (4, [.ref (b 1), .ref (b 2), .ref (b 3), .int (iv (km cs)), .int (iv (kd cs))])), (b 1, .inl (G 5, kn cs, .inr (.inr (.inr (.inr (aF sd (kn cs))))))), (b 2, .inl (G 4, kp cs, .inr (.inr (.inr (.inr (aF sp (kp cs))))))), (b 3, .inl (G 0, 5, .inl (fun y9 => iv (kT cs y9))))] ++ ((wLs G sd (kS cs) jj (kn cs)) ++ ((wRs G sp (kP cs) (kp cs)) ++ (wC G a ar az ad ap ts cs)))) := hD
        have hq : List.Perm (α := Nat × va_E) ([(b 0, .inr (4, [.ref (b 1), .ref (b 2), .ref (b 3), .int (iv (km cs)), .int (iv (kd cs))])), (b 1, .inl (G 5, kn cs, .inr (.inr (.inr (.inr (aF sd (kn cs))))))), (b 2, .inl (G 4, kp cs, .inr (.inr (.inr (.inr (aF sp (kp cs))))))), (b 3, .inl (G 0, 5, .inl (fun y9 => iv (kT cs y9))))] ++ ((wLs G sd (kS cs) jj (kn cs)) ++ ((wRs G sp (kP cs) (kp cs)) ++ (wC G a ar az ad ap ts cs)))) (wC G a ar az ad ap ts cs ++ wSim G b sd sp jj cs) := wperm (fun q9 => by
          have e_0 : cn q9 (wSim G b sd sp jj cs) = cn q9 ([(b 0, .inr (4, [.ref (b 1), .ref (b 2), .ref (b 3), .int (iv (km cs)), .int (iv (kd cs))])), (b 1, .inl (G 5, kn cs, .inr (.inr (.inr (.inr (aF sd (kn cs))))))), (b 2, .inl (G 4, kp cs, .inr (.inr (.inr (.inr (aF sp (kp cs))))))), (b 3, .inl (G 0, 5, .inl (fun y9 => iv (kT cs y9))))] ++ ((wLs G sd (kS cs) jj (kn cs)) ++ (wRs G sp (kP cs) (kp cs)))) := rfl
          simp only [cn_app, cn_nil, cn_two] at e_0 ⊢ <;> omega)
        replace hP := wP_perm hP hq
        replace hD := wD_perm hD hq
        have hP : va_P D vwCl (wC G a ar az ad ap ts cs ++ wSim G b sd sp jj cs) _ := hP
        have hD : va_D A (wC G a ar az ad ap ts cs ++ wSim G b sd sp jj cs) := hD
        have hn1 : 1 ≤ kn cs := by omega
        have hkN : k_1 < kn cs := by omega
        rcases (show k_3 = 0 ∨ k_3 = 1 ∨ k_3 = 2 ∨ k_3 = 3 ∨ k_3 = 4 ∨ k_3 = 5 ∨ k_3 = 6 ∨ k_3 = 7 ∨ k_3 = 8 ∨ k_3 = 9 ∨ k_3 = 10 ∨ k_3 = 11 ∨ 12 ≤ k_3 by omega) with rfl | rfl | rfl | rfl | rfl | rfl | rfl | rfl | rfl | rfl | rfl | rfl | hbig
        · exact lv_tableIn (off := 62) (tgt := 124) hx hb dL_act_62 (by decide) (by decide) (by decide) (by decide) (k_act_make (x := x) hx hb hr hlk hml hown hts hK hA hT hl0 hok hkd hdl hP hD hS (lv_sub hl [4, 5, 3] rfl))
        · exact lv_tableIn (off := 136) (tgt := 198) hx hb dL_act_62 (by decide) (by decide) (by decide) (by decide) (k_act_pose (x := x) hx hb hr hlk hml hown hts hK hA hT hl0 hok hkd hdl hn1 hP hD hS (lv_sub hl [4, 5, 6, 3, 2] rfl))
        · exact lv_tableIn (off := 136) (tgt := 198) hx hb dL_act_62 (by decide) (by decide) (by decide) (by decide) (k_act_pose (x := x) hx hb hr hlk hml hown hts hK hA hT hl0 hok hkd hdl hn1 hP hD hS (lv_sub hl [4, 5, 6, 3, 2] rfl))
        · exact lv_tableIn (off := 290) (tgt := 352) hx hb dL_act_62 (by decide) (by decide) (by decide) (by decide) (k_act_moths (x := x) hx hb hr hlk hml hown hts hK hA hT hl0 hok hkd hdl hn1 hP hD hS (lv_sub hl [4, 5, 6, 3, 2] rfl))
        · exact lv_tableIn (off := 326) (tgt := 388) hx hb dL_act_62 (by decide) (by decide) (by decide) (by decide) (k_act_blink (x := x) hx hb hr hlk hml hown hts hK hA hT hl0 hok hkd hdl hn1 k_1 hkN hP hD hS (lv_sub hl [4, 5, 6, 3, 2, 1, 0] rfl))
        · exact lv_tableIn (off := 326) (tgt := 388) hx hb dL_act_62 (by decide) (by decide) (by decide) (by decide) (k_act_blink (x := x) hx hb hr hlk hml hown hts hK hA hT hl0 hok hkd hdl hn1 k_1 hkN hP hD hS (lv_sub hl [4, 5, 6, 3, 2, 1, 0] rfl))
        · exact lv_tableIn (off := 399) (tgt := 461) hx hb dL_act_62 (by decide) (by decide) (by decide) (by decide) (k_act_dress (x := x) hx hb hr hlk hml hown hts hK hA hT hl0 hok hkd hdl hn1 k_1 hkN hP hD hS (lv_sub hl [4, 5, 6, 3, 2, 1, 0] rfl))
        · exact lv_tableIn (off := 399) (tgt := 461) hx hb dL_act_62 (by decide) (by decide) (by decide) (by decide) (k_act_dress (x := x) hx hb hr hlk hml hown hts hK hA hT hl0 hok hkd hdl hn1 k_1 hkN hP hD hS (lv_sub hl [4, 5, 6, 3, 2, 1, 0] rfl))
        · exact lv_tableIn (off := 505) (tgt := 567) hx hb dL_act_62 (by decide) (by decide) (by decide) (by decide) (k_act_bring (x := x) hx hb hr hlk hml hown hts hK hA hT hl0 hok hkd hdl hn1 hP hD hS (lv_sub hl [4, 5, 6, 3, 2] rfl))
        · exact lv_tableIn (off := 505) (tgt := 567) hx hb dL_act_62 (by decide) (by decide) (by decide) (by decide) (k_act_bring (x := x) hx hb hr hlk hml hown hts hK hA hT hl0 hok hkd hdl hn1 hP hD hS (lv_sub hl [4, 5, 6, 3, 2] rfl))
        · exact lv_tableIn (off := 572) (tgt := 634) hx hb dL_act_62 (by decide) (by decide) (by decide) (by decide) (k_act_mend (x := x) hx hb hr hlk hml hown hts hK hA hT hl0 hok hkd hdl hn1 k_1 hkN hP hD hS (lv_sub hl [4, 5, 6, 3, 2, 1, 0] rfl))
        · exact lv_tableIn (off := 572) (tgt := 634) hx hb dL_act_62 (by decide) (by decide) (by decide) (by decide) (k_act_mend (x := x) hx hb hr hlk hml hown hts hK hA hT hl0 hok hkd hdl hn1 k_1 hkN hP hD hS (lv_sub hl [4, 5, 6, 3, 2, 1, 0] rfl))
        · refine lv_tableOut (tgt := 812) hx hb dL_act_62 (Or.inr (by rw [iv_toInt (by omega)]; omega)) (by decide) ?_
          exact k_act_take hx hb hr hlk hml hown hts hK hA hT hl0 hok hkd hdl hn1 (kp cs) rfl k_1 hkN hP hD hS (lv_sub hl [4, 5, 6, 2, 1, 0] rfl)
      · skip
        exact (by omega : False).elim
    · skip
      exact (by omega : False).elim
  · skip
    refine r_const hx hb dL_act_17 ?_
    refine r_goto hx hb 26 dL_act_18 (by decide) ?_
    refine lv_istore (lv' := [(5, .int (iv 0)), (4, .int (iv (kp cs : Int))), (3, .int (iv (kn cs : Int))), (0, .ref (a 0)), (1, .ref (b 0)), (2, .int (iv x))]) hx hb dL_act_26 hl (by decide) rfl (fun ls hl => ?_)
    refine lv_iload_n hx hb dL_act_28 rfl (lv_at hl 2 rfl) ?_
    refine r_if_ne hx hb 36 dL_act_29 (by decide) (by omega) (fun c_29 => ?_) (fun c_29 => ?_)
    · skip
      exact (by omega : False).elim
    · skip
      refine lv_null hx hb dL_act_32 ?_
      refine r_goto hx hb 43 dL_act_33 (by decide) ?_
      refine lv_astoreN (lv' := [(6, .null), (5, .int (iv 0)), (4, .int (iv (kp cs : Int))), (3, .int (iv (kn cs : Int))), (0, .ref (a 0)), (1, .ref (b 0)), (2, .int (iv x))]) hx hb dL_act_43 hl (by decide) rfl (fun ls hl => ?_)
      refine lv_iload_n hx hb dL_act_45 rfl (lv_at hl 3 rfl) ?_
      refine r_if_ne hx hb 53 dL_act_46 (by decide) (by omega) (fun c_46 => ?_) (fun c_46 => ?_)
      · skip
        exact (by omega : False).elim
      · skip
        refine r_const hx hb dL_act_49 ?_
        refine r_goto hx hb 62 dL_act_50 (by decide) ?_
        have hq : List.Perm (α := Nat × va_E) ([(b 0, .inr (4, [.ref (b 1), .ref (b 2), .ref (b 3), .int (iv (km cs)), .int (iv (kd cs))])), (b 1, .inl (G 5, kn cs, .inr (.inr (.inr (.inr (aF sd (kn cs))))))), (b 2, .inl (G 4, kp cs, .inr (.inr (.inr (.inr (aF sp (kp cs))))))), (b 3, .inl (G 0, 5, .inl (fun y9 => iv (kT cs y9))))] ++ ((wLs G sd (kS cs) jj (kn cs)) ++ ((wRs G sp (kP cs) (kp cs)) ++ (wC G a ar az ad ap ts cs)))) (wC G a ar az ad ap ts cs ++ wSim G b sd sp jj cs) := wperm (fun q9 => by
          have e_0 : cn q9 (wSim G b sd sp jj cs) = cn q9 ([(b 0, .inr (4, [.ref (b 1), .ref (b 2), .ref (b 3), .int (iv (km cs)), .int (iv (kd cs))])), (b 1, .inl (G 5, kn cs, .inr (.inr (.inr (.inr (aF sd (kn cs))))))), (b 2, .inl (G 4, kp cs, .inr (.inr (.inr (.inr (aF sp (kp cs))))))), (b 3, .inl (G 0, 5, .inl (fun y9 => iv (kT cs y9))))] ++ ((wLs G sd (kS cs) jj (kn cs)) ++ (wRs G sp (kP cs) (kp cs)))) := rfl
          simp only [cn_app, cn_nil, cn_two] at e_0 ⊢ <;> omega)
        replace hP := wP_perm hP hq
        replace hD := wD_perm hD hq
        have hP : va_P D vwCl (wC G a ar az ad ap ts cs ++ wSim G b sd sp jj cs) _ := hP
        have hD : va_D A (wC G a ar az ad ap ts cs ++ wSim G b sd sp jj cs) := hD
        exact lv_tableIn (off := 62) (tgt := 124) hx hb dL_act_62 (by decide) (by decide) (by decide) (by decide) (k_act_make (x := x) hx hb hr hlk hml hown hts hK hA hT hl0 hok hkd hdl hP hD hS (lv_sub hl [4, 5, 3] rfl))
