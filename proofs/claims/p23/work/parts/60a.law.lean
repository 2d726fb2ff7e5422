set_option maxHeartbeats 4000000 in
set_option maxRecDepth 100000 in
theorem k_lw_A {p : Program} {l : Launch} {e : Env} {s : State} {m : MethodId} {below : List Frame} {meth : Method} {c : Code} {H : Heap} {locs : List Loc} {cells slots : Nat} {ls : Array Slot} {Q : State → Prop} {D : va_G} {G : Nat → ClassId} {b L : Nat} {xs : Nat → Int32} {A : Nat → Prop} (hB : LBx p l s m meth c D G b L xs A) {a ar az : Nat → Nat} {z t : Nat} {ad : AD} {ap : AD} {ts : DS} {bb : Nat → Nat} {sd : AD} {sp : AD} {jj : Nat → Int} {cs : CS} (hz : bb 0 = z) (hok : okC cs) (hkd : kd cs = (t : Int)) (hn1 : 1 ≤ kn cs) (ht : t < 34)  (hc1 : cells + 2000 ≤ 741649) (hc2 : slots + 9000 ≤ 6876824) (hP : va_P D vwCl (([] : va_W) ++ ((wC G a ar az ad ap ts cs) ++ (wSim G bb sd sp jj cs))) H) (hD : va_D A (([] : va_W) ++ ((wC G a ar az ad ap ts cs) ++ (wSim G bb sd sp jj cs)))) (hS : va_S A s.heap H locs) (hl : lv_has ls 21 [(0, .ref b), (1, .ref (a 0)), (2, .ref z), (3, .int (iv (t : Int)))])
  (kk : ∀ (ad : AD) (ap : AD) (ts : DS) (bb : Nat → Nat) (sd : AD) (sp : AD) (jj : Nat → Int) (cs : CS) (H : Heap) (locs : List Loc), va_P D vwCl (([] : va_W) ++ ((wC G a ar az ad ap ts cs) ++ (wSim G bb sd sp jj cs))) H → va_D A (([] : va_W) ++ ((wC G a ar az ad ap ts cs) ++ (wSim G bb sd sp jj cs))) → va_S A s.heap H locs → ∀ (ls : Array Slot), lv_has ls 21 [(0, .ref b), (1, .ref (a 0)), (2, .ref z), (3, .int (iv (t : Int)))] → bb 0 = z → okC cs → kd cs = (t : Int) → 1 ≤ kn cs → W p l e room_1 s m #[Value.ref b] below meth c H locs (cells + 120) (slots + 500) Q (F0 m 89 ls [])) : W p l e room_1 s m #[Value.ref b] below meth c H locs (cells) (slots) Q (F0 m 28 ls []) := by
  obtain ⟨hx, hb, hml, hown, hts, hK, hT, hA, hX, hL, hl0, h128⟩ := hB
  have hP : va_P D vwCl (([] : va_W) ++ ((wC G a ar az ad ap ts cs) ++ (wSim G bb sd sp jj cs))) _ := hP
  have hD : va_D A (([] : va_W) ++ ((wC G a ar az ad ap ts cs) ++ (wSim G bb sd sp jj cs))) := hD
  refine lv_aload_n hx hb dL_law_28 rfl (lv_at hl 0 rfl) ?_
  refine lv_iload_n hx hb dL_law_29 rfl (lv_at hl 3 rfl) ?_
  refine lv_bipush (v := iv 16) hx hb dL_law_30 (by decide) ?_
  refine r_rem hx hb dL_law_32 (by omega) (by omega) ?_
  have hq : List.Perm (α := Nat × va_E) (([] : va_W) ++ ((wC G a ar az ad ap ts cs) ++ (wSim G bb sd sp jj cs))) (([] : va_W) ++ (([] : va_W) ++ ((wC G a ar az ad ap ts cs) ++ (wSim G bb sd sp jj cs)))) := wperm (fun q9 => by
    simp only [cn_app, cn_nil, cn_two] at ⊢ <;> omega)
  replace hP := wP_perm hP hq
  replace hD := wD_perm hD hq
  have hP : va_P D vwCl (([] : va_W) ++ (([] : va_W) ++ ((wC G a ar az ad ap ts cs) ++ (wSim G bb sd sp jj cs)))) _ := hP
  have hD : va_D A (([] : va_W) ++ (([] : va_W) ++ ((wC G a ar az ad ap ts cs) ++ (wSim G bb sd sp jj cs)))) := hD
  have hp : List.Perm (α := Nat × va_E) (([] : va_W) ++ (([] : va_W) ++ ((wC G a ar az ad ap ts cs) ++ (wSim G bb sd sp jj cs)))) (([] : va_W) ++ (([] : va_W) ++ ((wC G a ar az ad ap ts cs) ++ (wSim G bb sd sp jj cs)))) := List.Perm.refl _
  refine k_int (g_SS (As := [.ref b, .int (iv ((t : Int) % 16))]) (rest := []) ⟨hx, hb, hml, hown, hts⟩ (c_L_cellz l D G b L xs hL ((t : Int) % 16) (by omega)) (va_cwS 2 hts gL_law_L_cell rfl rfl rfl (by decide +kernel) ⟨Nat.le_of_ble_eq_true rfl, Nat.le_of_ble_eq_true rfl⟩) hK hT hX hA hP hD hS hp rfl hl.1 rfl (Nat.le_of_ble_eq_true rfl) dL_law_33 ⟨by show _ ≤ (741649 : Nat); omega, by show _ ≤ (6876824 : Nat); omega⟩) hP hD hS hA hp (fun v u H locs hw hP hD hS => ?_)
  obtain ⟨⟨y_1, rfl⟩, rfl⟩ := hw
  have hP : va_P D vwCl (([] : va_W) ++ (([] : va_W) ++ ((wC G a ar az ad ap ts cs) ++ (wSim G bb sd sp jj cs)))) _ := hP
  have hD : va_D A (([] : va_W) ++ (([] : va_W) ++ ((wC G a ar az ad ap ts cs) ++ (wSim G bb sd sp jj cs)))) := hD
  have hq : List.Perm (α := Nat × va_E) (([] : va_W) ++ (([] : va_W) ++ ((wC G a ar az ad ap ts cs) ++ (wSim G bb sd sp jj cs)))) (([] : va_W) ++ ((wC G a ar az ad ap ts cs) ++ (wSim G bb sd sp jj cs))) := wperm (fun q9 => by
    simp only [cn_app, cn_nil, cn_two] at ⊢ <;> omega)
  replace hP := wP_perm hP hq
  replace hD := wD_perm hD hq
  have hP : va_P D vwCl (([] : va_W) ++ ((wC G a ar az ad ap ts cs) ++ (wSim G bb sd sp jj cs))) _ := hP
  have hD : va_D A (([] : va_W) ++ ((wC G a ar az ad ap ts cs) ++ (wSim G bb sd sp jj cs))) := hD
  refine lv_iload_n hx hb dL_law_36 rfl (lv_at hl 3 rfl) ?_
  refine lv_bipush (v := iv 16) hx hb dL_law_37 (by decide) ?_
  refine r_div hx hb dL_law_39 (by omega) (by omega) ?_
  refine r_const hx hb dL_law_40 ?_
  refine r_mul hx hb dL_law_41 ?_
  refine r_shr hx hb dL_law_42 (fun z_2 => ?_)
  refine lv_sipush (v := iv 163) hx hb dL_law_43 (by decide) ?_
  refine lv_iload_n hx hb dL_law_46 rfl (lv_at hl 3 rfl) ?_
  refine r_mul hx hb dL_law_47 ?_
  refine r_add hx hb dL_law_48 ?_
  refine lv_istore (lv' := [(4, .int (iv (z_2 + (163 * (t : Int))))), (0, .ref b), (1, .ref (a 0)), (2, .ref z), (3, .int (iv (t : Int)))]) hx hb dL_law_49 hl (by decide) rfl (fun ls hl => ?_)
  obtain ⟨xx, h_xx⟩ : ∃ z9 : Int, z9 = z_2 + (163 * (t : Int)) := ⟨_, rfl⟩
  rw [← h_xx] at hl
  refine r_const hx hb dL_law_51 ?_
  refine lv_istore (lv' := [(5, .int (iv 0)), (4, .int (iv xx)), (0, .ref b), (1, .ref (a 0)), (2, .ref z), (3, .int (iv (t : Int)))]) hx hb dL_law_52 hl (by decide) rfl (fun ls hl => ?_)
  have K54 : ∀ (fu i : Nat) (ad : AD) (ap : AD) (ts : DS) (bb : Nat → Nat) (sd : AD) (sp : AD) (jj : Nat → Int) (cs : CS), i ≤ 2 → 2 < i + fu → bb 0 = z → okC cs → kd cs = (t : Int) → 1 ≤ kn cs → ∀ (H : Heap) (locs : List Loc), va_P D vwCl (([] : va_W) ++ ((wC G a ar az ad ap ts cs) ++ (wSim G bb sd sp jj cs))) H → va_D A (([] : va_W) ++ ((wC G a ar az ad ap ts cs) ++ (wSim G bb sd sp jj cs))) → va_S A s.heap H locs → ∀ (ls : Array Slot), lv_has ls 21 [(0, .ref b), (1, .ref (a 0)), (2, .ref z), (3, .int (iv (t : Int))), (4, .int (iv xx)), (5, .int (iv (i : Int)))] → W p l e room_1 s m #[Value.ref b] below meth c H locs (cells + 60 * i) (slots + 250 * i) Q (F0 m 54 ls []) := by
    intro fu
    induction fu with
    | zero => intro i ad ap ts bb sd sp jj cs h1 h2; exact absurd h2 (by omega)
    | succ fu ih54 =>
      intro i ad ap ts bb sd sp jj cs hi_54 hn_54 hz hok hkd hn1 H locs hP hD hS ls hl
      refine lv_iload hx hb dL_law_54 (lv_at hl 5 rfl) ?_
      refine r_const hx hb dL_law_56 ?_
      refine r_icmp_ge hx hb 89 dL_law_57 (by decide) (by omega) (by omega) (fun c_57 => ?_) (fun c_57 => ?_)
      · skip
        refine W.widen (k := cells + 120) (n := slots + 500) (by omega) (by omega) ?_
        exact kk ad ap ts bb sd sp jj cs _ _ hP hD hS _ (lv_sub hl [0, 1, 2, 3] rfl) hz hok hkd hn1
      · skip
        refine lv_aload_n hx hb dL_law_60 rfl (lv_at hl 1 rfl) ?_
        refine lv_aload_n hx hb dL_law_61 rfl (lv_at hl 2 rfl) ?_
        refine lv_iload hx hb dL_law_62 (lv_at hl 4 rfl) ?_
        refine r_const hx hb dL_law_64 ?_
        refine lv_iload hx hb dL_law_65 (lv_at hl 5 rfl) ?_
        refine r_mul hx hb dL_law_67 ?_
        refine r_shr hx hb dL_law_68 (fun z_3 => ?_)
        refine lv_bipush (v := iv 97) hx hb dL_law_69 (by decide) ?_
        refine lv_iload hx hb dL_law_71 (lv_at hl 5 rfl) ?_
        refine r_mul hx hb dL_law_73 ?_
        refine r_add hx hb dL_law_74 ?_
        have hq : List.Perm (α := Nat × va_E) (([] : va_W) ++ ((wC G a ar az ad ap ts cs) ++ (wSim G bb sd sp jj cs))) ((wC G a ar az ad ap ts cs ++ wSim G bb sd sp jj cs) ++ (([] : va_W))) := wperm (fun q9 => by
          simp only [cn_app, cn_nil, cn_two] at ⊢ <;> omega)
        replace hP := wP_perm hP hq
        replace hD := wD_perm hD hq
        have hP : va_P D vwCl ((wC G a ar az ad ap ts cs ++ wSim G bb sd sp jj cs) ++ (([] : va_W))) _ := hP
        have hD : va_D A ((wC G a ar az ad ap ts cs ++ wSim G bb sd sp jj cs) ++ (([] : va_W))) := hD
        have hp : List.Perm (α := Nat × va_E) ((wC G a ar az ad ap ts cs ++ wSim G bb sd sp jj cs) ++ (([] : va_W))) ((wC G a ar az ad ap ts cs ++ wSim G bb sd sp jj cs) ++ (([] : va_W))) := List.Perm.refl _
        refine k_int (g_ST (As := [.ref (a 0), .ref z, .int (iv (z_3 + (97 * (i : Int))))]) (rest := []) ⟨hx, hb, hml, hown, hts⟩ (c_L_actz l D G hl0 a ar az ad ap ts bb sd sp jj cs hok (t : Int) hkd (by omega) (z_3 + (97 * (i : Int))) z hz) (va_cwS 3 hts gL_law_L_act rfl rfl rfl (by decide +kernel) ⟨Nat.le_of_ble_eq_true rfl, Nat.le_of_ble_eq_true rfl⟩) hK hT hA hP hD hS hp rfl hl.1 rfl (Nat.le_of_ble_eq_true rfl) dL_law_75 ⟨by show _ ≤ (741649 : Nat); omega, by show _ ≤ (6876824 : Nat); omega⟩) hP hD hS hA hp (fun v u H locs hw hP hD hS => ?_)
        obtain ⟨rfl, ad4, ap4, sd4, sp4, ts4, jj4, bb4, cs4, hz4, hok4, hkd4, hn4, rfl⟩ := hw
        have hP : va_P D vwCl ((wC G a ar az ad4 ap4 ts4 cs4 ++ wSim G bb4 sd4 sp4 jj4 cs4) ++ (([] : va_W))) _ := hP
        have hD : va_D A ((wC G a ar az ad4 ap4 ts4 cs4 ++ wSim G bb4 sd4 sp4 jj4 cs4) ++ (([] : va_W))) := hD
        have hq : List.Perm (α := Nat × va_E) ((wC G a ar az ad4 ap4 ts4 cs4 ++ wSim G bb4 sd4 sp4 jj4 cs4) ++ (([] : va_W))) (([] : va_W) ++ ((wC G a ar az ad4 ap4 ts4 cs4) ++ (wSim G bb4 sd4 sp4 jj4 cs4))) := wperm (fun q9 => by
          simp only [cn_app, cn_nil, cn_two] at ⊢ <;> omega)
        replace hP := wP_perm hP hq
        replace hD := wD_perm hD hq
        have hP : va_P D vwCl (([] : va_W) ++ ((wC G a ar az ad4 ap4 ts4 cs4) ++ (wSim G bb4 sd4 sp4 jj4 cs4))) _ := hP
        have hD : va_D A (([] : va_W) ++ ((wC G a ar az ad4 ap4 ts4 cs4) ++ (wSim G bb4 sd4 sp4 jj4 cs4))) := hD
        refine r_if_ne hx hb 83 dL_law_78 (by decide) (by omega) (fun _ => ?_) (fun c_78 => absurd c_78 (by decide))
        refine r_iinc (k := 5) (lv' := [(5, .int (iv ((i : Int) + 1))), (0, .ref b), (1, .ref (a 0)), (2, .ref z), (3, .int (iv (t : Int))), (4, .int (iv xx))]) hx hb dL_law_83 hl rfl (by decide) rfl (fun ls hl => ?_)
        refine r_goto hx hb 54 dL_law_86 (by decide) ?_
        refine W.widen (k := cells + 60 * (i + 1)) (n := slots + 250 * (i + 1)) (by omega) (by omega) ?_
        exact ih54 (i + 1) ad4 ap4 ts4 bb4 sd4 sp4 jj4 cs4 (by omega) (by omega) hz4 hok4 hkd4 hn4 _ _ hP hD hS _ (lv_sub hl [1, 2, 3, 4, 5, 0] rfl)
  refine W.widen (k := cells + 60 * 0) (n := slots + 250 * 0) (by omega) (by omega) ?_
  exact K54 3 0 ad ap ts bb sd sp jj cs (by omega) (by omega) hz hok hkd hn1 _ _ hP hD hS _ (lv_sub hl [2, 3, 4, 5, 1, 0] rfl)
