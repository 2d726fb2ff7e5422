set_option maxHeartbeats 4000000 in
set_option maxRecDepth 100000 in
theorem c_L_build (l : Launch) (D : va_G) (G : Nat → ClassId) (hl0 : l.stackTraces = false) (a ar az : Nat → Nat) (ad ap : AD) (ts : DS) (b L : Nat) (xs : Nat → Int32) (hL : L ≤ 260)  : MtS l yL_build wsL_build 9 245 1804 7510 D (TY G) [.ref (a 0), .ref b] (wC G a ar az ad ap ts c0) b L xs (qR D (fun r u => PA G a ar az r 0 u)) := by
  refine MtS.mk (cc := cL_build) (maxL := 4) (ret := some (.object "DollCitadelLaw$Sim")) (by decide) rfl (Nat.le_of_ble_eq_true rfl) ?_
  intro p e s m below meth c A ls hx hb hr hlk hml hown hin hts hK hA hT hX hP hD hS hl
  replace hown : s.vm.findClass RL = some m.cls := hown
  have hl : lv_has ls 4 [(0, .ref (a 0)), (1, .ref b)] := hl
  have hP : va_P D vwCl (wC G a ar az ad ap ts c0) s.heap := hP
  have hD : va_D A (wC G a ar az ad ap ts c0) := hD
  have hq : List.Perm (α := Nat × va_E) (wC G a ar az ad ap ts c0) (([] : va_W) ++ (wC G a ar az ad ap ts c0)) := wperm (fun q9 => by
    simp only [cn_app, cn_nil, cn_two] at ⊢ <;> omega)
  replace hP := wP_perm hP hq
  replace hD := wD_perm hD hq
  have hP : va_P D vwCl (([] : va_W) ++ (wC G a ar az ad ap ts c0)) _ := hP
  have hD : va_D A (([] : va_W) ++ (wC G a ar az ad ap ts c0)) := hD
  refine va_new (fs := [.null, .null, .null, .int (iv 0), .int (iv 0)]) (T := TX4) (ci := 4) hx hb hts (by decide +kernel : ∀ w ∈ u_ws RX4 TX4 5, w ∈ wsL_build) tyX4 tyX4_ok hown (hts (.classLink RL 10 RX4) (by decide +kernel)) (hts (.instantiable RX4 5) (by decide +kernel)) (hts (.initialized RX4) (by decide +kernel)) hK hP hD hS hA rfl (by decide +kernel) (by show _ ≤ (1804 : Nat); omega) (by show _ ≤ (7510 : Nat); omega) dL_build_0 (fun q_0 H hP hD hS => ?_)
  replace hP := wP_perm hP (pnew _ _ _)
  replace hD := wD_perm hD (pnew _ _ _)
  have hP : va_P D vwCl ([(q_0, .inr (4, [.null, .null, .null, .int (iv 0), .int (iv 0)]))] ++ (wC G a ar az ad ap ts c0)) _ := hP
  have hD : va_D A ([(q_0, .inr (4, [.null, .null, .null, .int (iv 0), .int (iv 0)]))] ++ (wC G a ar az ad ap ts c0)) := hD
  refine lv_dup hx hb dL_build_3 rfl ?_
  have hq : List.Perm (α := Nat × va_E) ([(q_0, .inr (4, [.null, .null, .null, .int (iv 0), .int (iv 0)]))] ++ (wC G a ar az ad ap ts c0)) (([(q_0, .inr (4, [.null, .null, .null, .int (iv 0), .int (iv 0)]))]) ++ (([] : va_W) ++ (wC G a ar az ad ap ts c0))) := wperm (fun q9 => by
    simp only [cn_app, cn_nil, cn_two] at ⊢ <;> omega)
  replace hP := wP_perm hP hq
  replace hD := wD_perm hD hq
  have hP : va_P D vwCl (([(q_0, .inr (4, [.null, .null, .null, .int (iv 0), .int (iv 0)]))]) ++ (([] : va_W) ++ (wC G a ar az ad ap ts c0))) _ := hP
  have hD : va_D A (([(q_0, .inr (4, [.null, .null, .null, .int (iv 0), .int (iv 0)]))]) ++ (([] : va_W) ++ (wC G a ar az ad ap ts c0))) := hD
  have hp : List.Perm (α := Nat × va_E) (([(q_0, .inr (4, [.null, .null, .null, .int (iv 0), .int (iv 0)]))]) ++ (([] : va_W) ++ (wC G a ar az ad ap ts c0))) (([(q_0, .inr (4, [.null, .null, .null, .int (iv 0), .int (iv 0)]))]) ++ (([] : va_W) ++ (wC G a ar az ad ap ts c0))) := List.Perm.refl _
  refine k_void (g_INX (As := []) (rest := [.ref q_0]) ⟨hx, hb, hml, hown, hts⟩ (c_X4_init l D G q_0) (va_cnB (own := RL) (host := RL) (index := 110) 0 hts gL_build_X4_init_n110 rfl rfl rfl hT.2.2.2.2.2.2.2.1.2.2.2.2 (hts (.initialized RX4) (by decide +kernel)) (by decide +kernel) ⟨Nat.le_of_ble_eq_true rfl, Nat.le_of_ble_eq_true rfl⟩) rfl (hts (.instanceMethod yX4_init) (by decide +kernel)) hK hT hA hP hD hS hp rfl hl.1 rfl (Nat.le_of_ble_eq_true rfl) dL_build_4 ⟨by show _ ≤ (1804 : Nat); omega, by show _ ≤ (7510 : Nat); omega⟩) hP hD hS hA hp (fun u H locs hw hP hD hS => ?_)
  obtain ⟨bb, sd, sp, jj, hz, rfl⟩ := hw
  have hP : va_P D vwCl ((wSim G bb sd sp jj c0) ++ (([] : va_W) ++ (wC G a ar az ad ap ts c0))) _ := hP
  have hD : va_D A ((wSim G bb sd sp jj c0) ++ (([] : va_W) ++ (wC G a ar az ad ap ts c0))) := hD
  have hq : List.Perm (α := Nat × va_E) ((wSim G bb sd sp jj c0) ++ (([] : va_W) ++ (wC G a ar az ad ap ts c0))) (([] : va_W) ++ ((wC G a ar az ad ap ts c0) ++ (wSim G bb sd sp jj c0))) := wperm (fun q9 => by
    simp only [cn_app, cn_nil, cn_two] at ⊢ <;> omega)
  replace hP := wP_perm hP hq
  replace hD := wD_perm hD hq
  have hP : va_P D vwCl (([] : va_W) ++ ((wC G a ar az ad ap ts c0) ++ (wSim G bb sd sp jj c0))) _ := hP
  have hD : va_D A (([] : va_W) ++ ((wC G a ar az ad ap ts c0) ++ (wSim G bb sd sp jj c0))) := hD
  refine lv_astore_n (lv' := [(2, .ref q_0), (0, .ref (a 0)), (1, .ref b)]) hx hb dL_build_7 rfl hl (by decide) rfl (fun ls hl => ?_)
  refine r_const hx hb dL_build_8 ?_
  refine lv_istore_n (lv' := [(3, .int (iv 0)), (2, .ref q_0), (0, .ref (a 0)), (1, .ref b)]) hx hb dL_build_9 rfl hl (by decide) rfl (fun ls hl => ?_)
  have K10 : ∀ (fu i : Nat) (ad : AD) (ap : AD) (ts : DS) (bb : Nat → Nat) (sd : AD) (sp : AD) (jj : Nat → Int) (cs : CS), i ≤ 30 → 30 < i + fu → bb 0 = q_0 → okC cs → kd cs = 0 → (i = 0 ∨ 1 ≤ kn cs) → ∀ (H : Heap) (locs : List Loc), va_P D vwCl (([] : va_W) ++ ((wC G a ar az ad ap ts cs) ++ (wSim G bb sd sp jj cs))) H → va_D A (([] : va_W) ++ ((wC G a ar az ad ap ts cs) ++ (wSim G bb sd sp jj cs))) → va_S A s.heap H locs → ∀ (ls : Array Slot), lv_has ls 4 [(0, .ref (a 0)), (1, .ref b), (2, .ref q_0), (3, .int (iv (i : Int)))] → W p l e (rmOf 9 245 1804 7510) s m ([.ref (a 0), .ref b] : List Value).toArray below meth c H locs (4 + 60 * i) (10 + 250 * i) (MQ below (qR D (fun r u => PA G a ar az r 0 u) A) ([.ref (a 0), .ref b] : List Value).toArray s 1804 7510 A) (F0 m 10 ls []) := by
    intro fu
    induction fu with
    | zero => intro i ad ap ts bb sd sp jj cs h1 h2; exact absurd h2 (by omega)
    | succ fu ih10 =>
      intro i ad ap ts bb sd sp jj cs hi_10 hn_10 hz hok hkd hn H locs hP hD hS ls hl
      refine lv_iload_n hx hb dL_build_10 rfl (lv_at hl 3 rfl) ?_
      refine lv_bipush (v := iv 30) hx hb dL_build_11 (by decide) ?_
      refine r_icmp_ge hx hb 83 dL_build_13 (by decide) (by omega) (by omega) (fun c_13 => ?_) (fun c_13 => ?_)
      · skip
        refine lv_aload_n hx hb dL_build_83 rfl (lv_at hl 2 rfl) ?_
        have hq : List.Perm (α := Nat × va_E) (([] : va_W) ++ ((wC G a ar az ad ap ts cs) ++ (wSim G bb sd sp jj cs))) (wC G a ar az ad ap ts cs ++ wSim G bb sd sp jj cs) := wperm (fun q9 => by
          simp only [cn_app, cn_nil, cn_two] at ⊢ <;> omega)
        replace hP := wP_perm hP hq
        replace hD := wD_perm hD hq
        have hP : va_P D vwCl (wC G a ar az ad ap ts cs ++ wSim G bb sd sp jj cs) _ := hP
        have hD : va_D A (wC G a ar az ad ap ts cs ++ wSim G bb sd sp jj cs) := hD
        exact e_ref hx hb hr (by first | exact Or.inl ⟨_, rfl⟩ | exact Or.inr ⟨_, rfl⟩) hlk dL_build_84 hS hP hD (by omega) (by omega) (⟨ad, ap, sd, sp, ts, jj, bb, cs, hz, hok, hkd, by omega, rfl⟩)
      · skip
        refine lv_aload_n hx hb dL_build_16 rfl (lv_at hl 0 rfl) ?_
        refine lv_aload_n hx hb dL_build_17 rfl (lv_at hl 2 rfl) ?_
        refine lv_aload_n hx hb dL_build_18 rfl (lv_at hl 1 rfl) ?_
        refine lv_iload_n hx hb dL_build_19 rfl (lv_at hl 3 rfl) ?_
        refine lv_bipush (v := iv 15) hx hb dL_build_20 (by decide) ?_
        refine r_rem hx hb dL_build_22 (by omega) (by omega) ?_
        have hq : List.Perm (α := Nat × va_E) (([] : va_W) ++ ((wC G a ar az ad ap ts cs) ++ (wSim G bb sd sp jj cs))) (([] : va_W) ++ (([] : va_W) ++ ((wC G a ar az ad ap ts cs) ++ (wSim G bb sd sp jj cs)))) := wperm (fun q9 => by
          simp only [cn_app, cn_nil, cn_two] at ⊢ <;> omega)
        replace hP := wP_perm hP hq
        replace hD := wD_perm hD hq
        have hP : va_P D vwCl (([] : va_W) ++ (([] : va_W) ++ ((wC G a ar az ad ap ts cs) ++ (wSim G bb sd sp jj cs)))) _ := hP
        have hD : va_D A (([] : va_W) ++ (([] : va_W) ++ ((wC G a ar az ad ap ts cs) ++ (wSim G bb sd sp jj cs)))) := hD
        have hp : List.Perm (α := Nat × va_E) (([] : va_W) ++ (([] : va_W) ++ ((wC G a ar az ad ap ts cs) ++ (wSim G bb sd sp jj cs)))) (([] : va_W) ++ (([] : va_W) ++ ((wC G a ar az ad ap ts cs) ++ (wSim G bb sd sp jj cs)))) := List.Perm.refl _
        refine k_int (g_SS (As := [.ref b, .int (iv ((i : Int) % 15))]) (rest := [.ref q_0, .ref (a 0)]) ⟨hx, hb, hml, hown, hts⟩ (c_L_cellz l D G b L xs hL ((i : Int) % 15) (by omega)) (va_cwS 2 hts gL_build_L_cell rfl rfl rfl (by decide +kernel) ⟨Nat.le_of_ble_eq_true rfl, Nat.le_of_ble_eq_true rfl⟩) hK hT hX hA hP hD hS hp rfl hl.1 rfl (Nat.le_of_ble_eq_true rfl) dL_build_23 ⟨by show _ ≤ (1804 : Nat); omega, by show _ ≤ (7510 : Nat); omega⟩) hP hD hS hA hp (fun v u H locs hw hP hD hS => ?_)
        obtain ⟨⟨y_1, rfl⟩, rfl⟩ := hw
        have hP : va_P D vwCl (([] : va_W) ++ (([] : va_W) ++ ((wC G a ar az ad ap ts cs) ++ (wSim G bb sd sp jj cs)))) _ := hP
        have hD : va_D A (([] : va_W) ++ (([] : va_W) ++ ((wC G a ar az ad ap ts cs) ++ (wSim G bb sd sp jj cs)))) := hD
        have hq : List.Perm (α := Nat × va_E) (([] : va_W) ++ (([] : va_W) ++ ((wC G a ar az ad ap ts cs) ++ (wSim G bb sd sp jj cs)))) (([] : va_W) ++ ((wC G a ar az ad ap ts cs) ++ (wSim G bb sd sp jj cs))) := wperm (fun q9 => by
          simp only [cn_app, cn_nil, cn_two] at ⊢ <;> omega)
        replace hP := wP_perm hP hq
        replace hD := wD_perm hD hq
        have hP : va_P D vwCl (([] : va_W) ++ ((wC G a ar az ad ap ts cs) ++ (wSim G bb sd sp jj cs))) _ := hP
        have hD : va_D A (([] : va_W) ++ ((wC G a ar az ad ap ts cs) ++ (wSim G bb sd sp jj cs))) := hD
        refine lv_iload_n hx hb dL_build_26 rfl (lv_at hl 3 rfl) ?_
        refine lv_bipush (v := iv 15) hx hb dL_build_27 (by decide) ?_
        refine r_div hx hb dL_build_29 (by omega) (by omega) ?_
        refine r_const hx hb dL_build_30 ?_
        refine r_mul hx hb dL_build_31 ?_
        refine r_shr hx hb dL_build_32 (fun z_2 => ?_)
        refine lv_sipush (v := iv 163) hx hb dL_build_33 (by decide) ?_
        refine lv_iload_n hx hb dL_build_36 rfl (lv_at hl 3 rfl) ?_
        refine r_mul hx hb dL_build_37 ?_
        refine r_add hx hb dL_build_38 ?_
        refine lv_iload_n hx hb dL_build_39 rfl (lv_at hl 3 rfl) ?_
        refine lv_bipush (v := iv 12) hx hb dL_build_40 (by decide) ?_
        refine r_icmp_ge hx hb 55 dL_build_42 (by decide) (by omega) (by omega) (fun c_42 => ?_) (fun c_42 => ?_)
        · skip
          refine lv_iload_n hx hb dL_build_55 rfl (lv_at hl 3 rfl) ?_
          refine lv_bipush (v := iv 15) hx hb dL_build_56 (by decide) ?_
          refine r_icmp_ge hx hb 67 dL_build_58 (by decide) (by omega) (by omega) (fun c_58 => ?_) (fun c_58 => ?_)
          · skip
            refine r_const hx hb dL_build_67 ?_
            refine r_add hx hb dL_build_68 ?_
            have hq : List.Perm (α := Nat × va_E) (([] : va_W) ++ ((wC G a ar az ad ap ts cs) ++ (wSim G bb sd sp jj cs))) ((wC G a ar az ad ap ts cs ++ wSim G bb sd sp jj cs) ++ (([] : va_W))) := wperm (fun q9 => by
              simp only [cn_app, cn_nil, cn_two] at ⊢ <;> omega)
            replace hP := wP_perm hP hq
            replace hD := wD_perm hD hq
            have hP : va_P D vwCl ((wC G a ar az ad ap ts cs ++ wSim G bb sd sp jj cs) ++ (([] : va_W))) _ := hP
            have hD : va_D A ((wC G a ar az ad ap ts cs ++ wSim G bb sd sp jj cs) ++ (([] : va_W))) := hD
            have hp : List.Perm (α := Nat × va_E) ((wC G a ar az ad ap ts cs ++ wSim G bb sd sp jj cs) ++ (([] : va_W))) ((wC G a ar az ad ap ts cs ++ wSim G bb sd sp jj cs) ++ (([] : va_W))) := List.Perm.refl _
            refine k_int (g_ST (As := [.ref (a 0), .ref q_0, .int (iv ((z_2 + (163 * (i : Int))) + 0))]) (rest := []) ⟨hx, hb, hml, hown, hts⟩ (c_L_actz l D G hl0 a ar az ad ap ts bb sd sp jj cs hok 0 hkd (by omega) ((z_2 + (163 * (i : Int))) + 0) q_0 hz) (va_cwS 3 hts gL_build_L_act rfl rfl rfl (by decide +kernel) ⟨Nat.le_of_ble_eq_true rfl, Nat.le_of_ble_eq_true rfl⟩) hK hT hA hP hD hS hp rfl hl.1 rfl (Nat.le_of_ble_eq_true rfl) dL_build_69 ⟨by show _ ≤ (1804 : Nat); omega, by show _ ≤ (7510 : Nat); omega⟩) hP hD hS hA hp (fun v u H locs hw hP hD hS => ?_)
            obtain ⟨rfl, ad3, ap3, sd3, sp3, ts3, jj3, bb3, cs3, hz3, hok3, hkd3, hn3, rfl⟩ := hw
            have hP : va_P D vwCl ((wC G a ar az ad3 ap3 ts3 cs3 ++ wSim G bb3 sd3 sp3 jj3 cs3) ++ (([] : va_W))) _ := hP
            have hD : va_D A ((wC G a ar az ad3 ap3 ts3 cs3 ++ wSim G bb3 sd3 sp3 jj3 cs3) ++ (([] : va_W))) := hD
            have hq : List.Perm (α := Nat × va_E) ((wC G a ar az ad3 ap3 ts3 cs3 ++ wSim G bb3 sd3 sp3 jj3 cs3) ++ (([] : va_W))) (([] : va_W) ++ ((wC G a ar az ad3 ap3 ts3 cs3) ++ (wSim G bb3 sd3 sp3 jj3 cs3))) := wperm (fun q9 => by
              simp only [cn_app, cn_nil, cn_two] at ⊢ <;> omega)
            replace hP := wP_perm hP hq
            replace hD := wD_perm hD hq
            have hP : va_P D vwCl (([] : va_W) ++ ((wC G a ar az ad3 ap3 ts3 cs3) ++ (wSim G bb3 sd3 sp3 jj3 cs3))) _ := hP
            have hD : va_D A (([] : va_W) ++ ((wC G a ar az ad3 ap3 ts3 cs3) ++ (wSim G bb3 sd3 sp3 jj3 cs3))) := hD
            refine r_if_ne hx hb 77 dL_build_72 (by decide) (by omega) (fun _ => ?_) (fun c_72 => absurd c_72 (by decide))
            refine r_iinc (k := 3) (lv' := [(3, .int (iv ((i : Int) + 1))), (0, .ref (a 0)), (1, .ref b), (2, .ref q_0)]) hx hb dL_build_77 hl rfl (by decide) rfl (fun ls hl => ?_)
            refine r_goto hx hb 10 dL_build_80 (by decide) ?_
            refine W.widen (k := 4 + 60 * (i + 1)) (n := 10 + 250 * (i + 1)) (by omega) (by omega) ?_
            exact ih10 (i + 1) ad3 ap3 ts3 bb3 sd3 sp3 jj3 cs3 (by omega) (by omega) hz3 hok3 hkd3 (Or.inr hn3) _ _ hP hD hS _ (lv_sub hl [1, 2, 3, 0] rfl)
          · skip
            refine lv_sipush (v := iv 4096) hx hb dL_build_61 (by decide) ?_
            refine r_goto hx hb 68 dL_build_64 (by decide) ?_
            refine r_add hx hb dL_build_68 ?_
            have hq : List.Perm (α := Nat × va_E) (([] : va_W) ++ ((wC G a ar az ad ap ts cs) ++ (wSim G bb sd sp jj cs))) ((wC G a ar az ad ap ts cs ++ wSim G bb sd sp jj cs) ++ (([] : va_W))) := wperm (fun q9 => by
              simp only [cn_app, cn_nil, cn_two] at ⊢ <;> omega)
            replace hP := wP_perm hP hq
            replace hD := wD_perm hD hq
            have hP : va_P D vwCl ((wC G a ar az ad ap ts cs ++ wSim G bb sd sp jj cs) ++ (([] : va_W))) _ := hP
            have hD : va_D A ((wC G a ar az ad ap ts cs ++ wSim G bb sd sp jj cs) ++ (([] : va_W))) := hD
            have hp : List.Perm (α := Nat × va_E) ((wC G a ar az ad ap ts cs ++ wSim G bb sd sp jj cs) ++ (([] : va_W))) ((wC G a ar az ad ap ts cs ++ wSim G bb sd sp jj cs) ++ (([] : va_W))) := List.Perm.refl _
            refine k_int (g_ST (As := [.ref (a 0), .ref q_0, .int (iv ((z_2 + (163 * (i : Int))) + 4096))]) (rest := []) ⟨hx, hb, hml, hown, hts⟩ (c_L_actz l D G hl0 a ar az ad ap ts bb sd sp jj cs hok 0 hkd (by omega) ((z_2 + (163 * (i : Int))) + 4096) q_0 hz) (va_cwS 3 hts gL_build_L_act rfl rfl rfl (by decide +kernel) ⟨Nat.le_of_ble_eq_true rfl, Nat.le_of_ble_eq_true rfl⟩) hK hT hA hP hD hS hp rfl hl.1 rfl (Nat.le_of_ble_eq_true rfl) dL_build_69 ⟨by show _ ≤ (1804 : Nat); omega, by show _ ≤ (7510 : Nat); omega⟩) hP hD hS hA hp (fun v u H locs hw hP hD hS => ?_)
            obtain ⟨rfl, ad4, ap4, sd4, sp4, ts4, jj4, bb4, cs4, hz4, hok4, hkd4, hn4, rfl⟩ := hw
            have hP : va_P D vwCl ((wC G a ar az ad4 ap4 ts4 cs4 ++ wSim G bb4 sd4 sp4 jj4 cs4) ++ (([] : va_W))) _ := hP
            have hD : va_D A ((wC G a ar az ad4 ap4 ts4 cs4 ++ wSim G bb4 sd4 sp4 jj4 cs4) ++ (([] : va_W))) := hD
            have hq : List.Perm (α := Nat × va_E) ((wC G a ar az ad4 ap4 ts4 cs4 ++ wSim G bb4 sd4 sp4 jj4 cs4) ++ (([] : va_W))) (([] : va_W) ++ ((wC G a ar az ad4 ap4 ts4 cs4) ++ (wSim G bb4 sd4 sp4 jj4 cs4))) := wperm (fun q9 => by
              simp only [cn_app, cn_nil, cn_two] at ⊢ <;> omega)
            replace hP := wP_perm hP hq
            replace hD := wD_perm hD hq
            have hP : va_P D vwCl (([] : va_W) ++ ((wC G a ar az ad4 ap4 ts4 cs4) ++ (wSim G bb4 sd4 sp4 jj4 cs4))) _ := hP
            have hD : va_D A (([] : va_W) ++ ((wC G a ar az ad4 ap4 ts4 cs4) ++ (wSim G bb4 sd4 sp4 jj4 cs4))) := hD
            refine r_if_ne hx hb 77 dL_build_72 (by decide) (by omega) (fun _ => ?_) (fun c_72 => absurd c_72 (by decide))
            refine r_iinc (k := 3) (lv' := [(3, .int (iv ((i : Int) + 1))), (0, .ref (a 0)), (1, .ref b), (2, .ref q_0)]) hx hb dL_build_77 hl rfl (by decide) rfl (fun ls hl => ?_)
            refine r_goto hx hb 10 dL_build_80 (by decide) ?_
            refine W.widen (k := 4 + 60 * (i + 1)) (n := 10 + 250 * (i + 1)) (by omega) (by omega) ?_
            exact ih10 (i + 1) ad4 ap4 ts4 bb4 sd4 sp4 jj4 cs4 (by omega) (by omega) hz4 hok4 hkd4 (Or.inr hn4) _ _ hP hD hS _ (lv_sub hl [1, 2, 3, 0] rfl)
        · skip
          refine lv_sipush (v := iv 512) hx hb dL_build_45 (by decide) ?_
          refine lv_iload_n hx hb dL_build_48 rfl (lv_at hl 3 rfl) ?_
          refine r_const hx hb dL_build_49 ?_
          refine r_rem hx hb dL_build_50 (by omega) (by omega) ?_
          refine r_mul hx hb dL_build_51 ?_
          refine r_goto hx hb 68 dL_build_52 (by decide) ?_
          refine r_add hx hb dL_build_68 ?_
          have hq : List.Perm (α := Nat × va_E) (([] : va_W) ++ ((wC G a ar az ad ap ts cs) ++ (wSim G bb sd sp jj cs))) ((wC G a ar az ad ap ts cs ++ wSim G bb sd sp jj cs) ++ (([] : va_W))) := wperm (fun q9 => by
            simp only [cn_app, cn_nil, cn_two] at ⊢ <;> omega)
          replace hP := wP_perm hP hq
          replace hD := wD_perm hD hq
          have hP : va_P D vwCl ((wC G a ar az ad ap ts cs ++ wSim G bb sd sp jj cs) ++ (([] : va_W))) _ := hP
          have hD : va_D A ((wC G a ar az ad ap ts cs ++ wSim G bb sd sp jj cs) ++ (([] : va_W))) := hD
          have hp : List.Perm (α := Nat × va_E) ((wC G a ar az ad ap ts cs ++ wSim G bb sd sp jj cs) ++ (([] : va_W))) ((wC G a ar az ad ap ts cs ++ wSim G bb sd sp jj cs) ++ (([] : va_W))) := List.Perm.refl _
          refine k_int (g_ST (As := [.ref (a 0), .ref q_0, .int (iv ((z_2 + (163 * (i : Int))) + (512 * ((i : Int) % 4))))]) (rest := []) ⟨hx, hb, hml, hown, hts⟩ (c_L_actz l D G hl0 a ar az ad ap ts bb sd sp jj cs hok 0 hkd (by omega) ((z_2 + (163 * (i : Int))) + (512 * ((i : Int) % 4))) q_0 hz) (va_cwS 3 hts gL_build_L_act rfl rfl rfl (by decide +kernel) ⟨Nat.le_of_ble_eq_true rfl, Nat.le_of_ble_eq_true rfl⟩) hK hT hA hP hD hS hp rfl hl.1 rfl (Nat.le_of_ble_eq_true rfl) dL_build_69 ⟨by show _ ≤ (1804 : Nat); omega, by show _ ≤ (7510 : Nat); omega⟩) hP hD hS hA hp (fun v u H locs hw hP hD hS => ?_)
          obtain ⟨rfl, ad5, ap5, sd5, sp5, ts5, jj5, bb5, cs5, hz5, hok5, hkd5, hn5, rfl⟩ := hw
          have hP : va_P D vwCl ((wC G a ar az ad5 ap5 ts5 cs5 ++ wSim G bb5 sd5 sp5 jj5 cs5) ++ (([] : va_W))) _ := hP
          have hD : va_D A ((wC G a ar az ad5 ap5 ts5 cs5 ++ wSim G bb5 sd5 sp5 jj5 cs5) ++ (([] : va_W))) := hD
          have hq : List.Perm (α := Nat × va_E) ((wC G a ar az ad5 ap5 ts5 cs5 ++ wSim G bb5 sd5 sp5 jj5 cs5) ++ (([] : va_W))) (([] : va_W) ++ ((wC G a ar az ad5 ap5 ts5 cs5) ++ (wSim G bb5 sd5 sp5 jj5 cs5))) := wperm (fun q9 => by
            simp only [cn_app, cn_nil, cn_two] at ⊢ <;> omega)
          replace hP := wP_perm hP hq
          replace hD := wD_perm hD hq
          have hP : va_P D vwCl (([] : va_W) ++ ((wC G a ar az ad5 ap5 ts5 cs5) ++ (wSim G bb5 sd5 sp5 jj5 cs5))) _ := hP
          have hD : va_D A (([] : va_W) ++ ((wC G a ar az ad5 ap5 ts5 cs5) ++ (wSim G bb5 sd5 sp5 jj5 cs5))) := hD
          refine r_if_ne hx hb 77 dL_build_72 (by decide) (by omega) (fun _ => ?_) (fun c_72 => absurd c_72 (by decide))
          refine r_iinc (k := 3) (lv' := [(3, .int (iv ((i : Int) + 1))), (0, .ref (a 0)), (1, .ref b), (2, .ref q_0)]) hx hb dL_build_77 hl rfl (by decide) rfl (fun ls hl => ?_)
          refine r_goto hx hb 10 dL_build_80 (by decide) ?_
          refine W.widen (k := 4 + 60 * (i + 1)) (n := 10 + 250 * (i + 1)) (by omega) (by omega) ?_
          exact ih10 (i + 1) ad5 ap5 ts5 bb5 sd5 sp5 jj5 cs5 (by omega) (by omega) hz5 hok5 hkd5 (Or.inr hn5) _ _ hP hD hS _ (lv_sub hl [1, 2, 3, 0] rfl)
  refine W.widen (k := 4 + 60 * 0) (n := 10 + 250 * 0) (by omega) (by omega) ?_
  exact K10 31 0 ad ap ts bb sd sp jj c0 (by omega) (by omega) hz c0_ok rfl (Or.inl rfl) _ _ hP hD hS _ (lv_sub hl [2, 3, 1, 0] rfl)
