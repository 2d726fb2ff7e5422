set_option maxHeartbeats 4000000 in
set_option maxRecDepth 100000 in
theorem k_lw_B1 {p : Program} {l : Launch} {e : Env} {s : State} {m : MethodId} {below : List Frame} {meth : Method} {c : Code} {H : Heap} {locs : List Loc} {cells slots : Nat} {ls : Array Slot} {Q : State → Prop} {D : va_G} {G : Nat → ClassId} {b L : Nat} {xs : Nat → Int32} {A : Nat → Prop} (hB : LBx p l s m meth c D G b L xs A) {a ar az : Nat → Nat} {z t : Nat} {ad : AD} {ap : AD} {ts : DS} {bb : Nat → Nat} {sd : AD} {sp : AD} {jj : Nat → Int} {cs : CS} (hok : okC cs)  (hc1 : cells + 2000 ≤ 741649) (hc2 : slots + 9000 ≤ 6876824) (hP : va_P D vwCl (([] : va_W) ++ ((wC G a ar az ad ap ts cs) ++ (wSim G bb sd sp jj cs))) H) (hD : va_D A (([] : va_W) ++ ((wC G a ar az ad ap ts cs) ++ (wSim G bb sd sp jj cs)))) (hS : va_S A s.heap H locs) (hl : lv_has ls 21 [(0, .ref b), (1, .ref (a 0)), (2, .ref z), (3, .int (iv (t : Int)))])
  (kk : ∀ (wa : AD) (ja : AD) (jz : Nat → Nat → Nat) (w : Nat) (y : Nat) (H : Heap) (locs : List Loc), va_P D vwCl ([(w, .inl (G 4, kn cs, .inr (.inr (.inr (.inr (aF wa (kn cs))))))), (y, .inl (G 6, kn cs, .inr (.inr (.inr (.inr (aF ja (kn cs)))))))] ++ ((wRw G 8 wa (fun _ => zz) (kn cs)) ++ ((wKs G ja jz (fun _ _ => zz) (kn cs)) ++ ((wC G a ar az ad ap ts cs) ++ (wSim G bb sd sp jj cs))))) H → va_D A ([(w, .inl (G 4, kn cs, .inr (.inr (.inr (.inr (aF wa (kn cs))))))), (y, .inl (G 6, kn cs, .inr (.inr (.inr (.inr (aF ja (kn cs)))))))] ++ ((wRw G 8 wa (fun _ => zz) (kn cs)) ++ ((wKs G ja jz (fun _ _ => zz) (kn cs)) ++ ((wC G a ar az ad ap ts cs) ++ (wSim G bb sd sp jj cs))))) → va_S A s.heap H locs → ∀ (ls : Array Slot), lv_has ls 21 [(0, .ref b), (1, .ref (a 0)), (2, .ref z), (3, .int (iv (t : Int))), (5, .int (iv (kn cs : Int))), (6, .ref w), (7, .ref y)] → W p l e room_1 s m #[Value.ref b] below meth c H locs (cells + 66) (slots + 272) Q (F0 m 117 ls [])) : W p l e room_1 s m #[Value.ref b] below meth c H locs (cells) (slots) Q (F0 m 89 ls []) := by
  obtain ⟨hx, hb, hml, hown, hts, hK, hT, hA, hX, hL, hl0, h128⟩ := hB
  obtain ⟨on8, op8, -, -, -, oday, omo⟩ := id hok
  have hP : va_P D vwCl (([] : va_W) ++ ((wC G a ar az ad ap ts cs) ++ (wSim G bb sd sp jj cs))) _ := hP
  have hD : va_D A (([] : va_W) ++ ((wC G a ar az ad ap ts cs) ++ (wSim G bb sd sp jj cs))) := hD
  refine lv_aload_n hx hb dL_law_89 rfl (lv_at hl 1 rfl) ?_
  refine r_const hx hb dL_law_90 ?_
  have hq : List.Perm (α := Nat × va_E) (([] : va_W) ++ ((wC G a ar az ad ap ts cs) ++ (wSim G bb sd sp jj cs))) ((wC G a ar az ad ap ts cs) ++ (([] : va_W) ++ (wSim G bb sd sp jj cs))) := wperm (fun q9 => by
    simp only [cn_app, cn_nil, cn_two] at ⊢ <;> omega)
  replace hP := wP_perm hP hq
  replace hD := wD_perm hD hq
  have hP : va_P D vwCl ((wC G a ar az ad ap ts cs) ++ (([] : va_W) ++ (wSim G bb sd sp jj cs))) _ := hP
  have hD : va_D A ((wC G a ar az ad ap ts cs) ++ (([] : va_W) ++ (wSim G bb sd sp jj cs))) := hD
  have hp : List.Perm (α := Nat × va_E) ((wC G a ar az ad ap ts cs) ++ (([] : va_W) ++ (wSim G bb sd sp jj cs))) ((wC G a ar az ad ap ts cs) ++ (([] : va_W) ++ (wSim G bb sd sp jj cs))) := List.Perm.refl _
  refine k_int (g_V (As := [.int (iv 1)]) (rest := []) (q0 := 0) (ci := 2) ⟨hx, hb, hml, hown, hts⟩ (n_X2_count l D G a ar az ad ap ts cs hok 1 (by omega)) (cwV 1 hts gL_law_X2_count rfl rfl rfl (by decide +kernel) ⟨Nat.le_of_ble_eq_true rfl, Nat.le_of_ble_eq_true rfl⟩) hK hP hD hp rfl rfl rfl rfl hl.1 rfl (Nat.le_of_ble_eq_true rfl) dL_law_91 ⟨by show _ ≤ (741649 : Nat); omega, by show _ ≤ (6876824 : Nat); omega⟩) hP hD hS hA hp (fun v u H locs hw hP hD hS => ?_)
  obtain ⟨hv, hu⟩ := hw
  replace hv : v = (iv (countV cs 1)) := hv
  subst hv
  subst hu
  have hP : va_P D vwCl ((wC G a ar az ad ap ts cs) ++ (([] : va_W) ++ (wSim G bb sd sp jj cs))) _ := hP
  have hD : va_D A ((wC G a ar az ad ap ts cs) ++ (([] : va_W) ++ (wSim G bb sd sp jj cs))) := hD
  have hq : List.Perm (α := Nat × va_E) ((wC G a ar az ad ap ts cs) ++ (([] : va_W) ++ (wSim G bb sd sp jj cs))) (([] : va_W) ++ ((wC G a ar az ad ap ts cs) ++ (wSim G bb sd sp jj cs))) := wperm (fun q9 => by
    simp only [cn_app, cn_nil, cn_two] at ⊢ <;> omega)
  replace hP := wP_perm hP hq
  replace hD := wD_perm hD hq
  have hP : va_P D vwCl (([] : va_W) ++ ((wC G a ar az ad ap ts cs) ++ (wSim G bb sd sp jj cs))) _ := hP
  have hD : va_D A (([] : va_W) ++ ((wC G a ar az ad ap ts cs) ++ (wSim G bb sd sp jj cs))) := hD
  rw [show countV cs 1 = (kn cs : Int) from rfl]
  refine lv_istore (lv' := [(5, .int (iv (kn cs : Int))), (0, .ref b), (1, .ref (a 0)), (2, .ref z), (3, .int (iv (t : Int)))]) hx hb dL_law_94 hl (by decide) rfl (fun ls hl => ?_)
  refine lv_iload hx hb dL_law_96 (lv_at hl 0 rfl) ?_
  refine lv_bipush (v := iv 8) hx hb dL_law_98 (by decide) ?_
  refine r_mna2 hx hb hown (hts (.classLink RL 127 "[[I") (by decide +kernel)) hT.2.2.2.2.2.2.2.1.1 (hts (.arrayClass .int) (by decide +kernel)) hK hP hD hS hA (kn cs) 8 (by omega) (by omega) (by omega) (by omega) (by show _ ≤ (741649 : Nat); omega) (by show _ ≤ (6876824 : Nat); omega) dL_law_100 (fun q_100 r_100 H hP hD hS => ?_)
  have hP : va_P D vwCl ((([] : va_W) ++ ((wC G a ar az ad ap ts cs) ++ (wSim G bb sd sp jj cs))) ++ ([(q_100, .inl (G 4, kn cs, .inr (.inr (.inr (.inr (aF (fun i9 _ => r_100 i9) (kn cs)))))))] ++ (wRw G 8 (fun i9 _ => r_100 i9) (fun _ => zz) (kn cs)))) _ := hP
  have hD : va_D A ((([] : va_W) ++ ((wC G a ar az ad ap ts cs) ++ (wSim G bb sd sp jj cs))) ++ ([(q_100, .inl (G 4, kn cs, .inr (.inr (.inr (.inr (aF (fun i9 _ => r_100 i9) (kn cs)))))))] ++ (wRw G 8 (fun i9 _ => r_100 i9) (fun _ => zz) (kn cs)))) := hD
  have hq : List.Perm (α := Nat × va_E) ((([] : va_W) ++ ((wC G a ar az ad ap ts cs) ++ (wSim G bb sd sp jj cs))) ++ ([(q_100, .inl (G 4, kn cs, .inr (.inr (.inr (.inr (aF (fun i9 _ => r_100 i9) (kn cs)))))))] ++ (wRw G 8 (fun i9 _ => r_100 i9) (fun _ => zz) (kn cs)))) ([(q_100, .inl (G 4, kn cs, .inr (.inr (.inr (.inr (aF (fun i9 _ => r_100 i9) (kn cs)))))))] ++ ((wC G a ar az ad ap ts cs) ++ ((wSim G bb sd sp jj cs) ++ (wRw G 8 (fun i9 _ => r_100 i9) (fun _ => zz) (kn cs))))) := wperm (fun q9 => by
    simp only [cn_app, cn_nil, cn_two] at ⊢ <;> omega)
  replace hP := wP_perm hP hq
  replace hD := wD_perm hD hq
  have hP : va_P D vwCl ([(q_100, .inl (G 4, kn cs, .inr (.inr (.inr (.inr (aF (fun i9 _ => r_100 i9) (kn cs)))))))] ++ ((wC G a ar az ad ap ts cs) ++ ((wSim G bb sd sp jj cs) ++ (wRw G 8 (fun i9 _ => r_100 i9) (fun _ => zz) (kn cs))))) _ := hP
  have hD : va_D A ([(q_100, .inl (G 4, kn cs, .inr (.inr (.inr (.inr (aF (fun i9 _ => r_100 i9) (kn cs)))))))] ++ ((wC G a ar az ad ap ts cs) ++ ((wSim G bb sd sp jj cs) ++ (wRw G 8 (fun i9 _ => r_100 i9) (fun _ => zz) (kn cs))))) := hD
  refine lv_astore (lv' := [(6, .ref q_100), (5, .int (iv (kn cs : Int))), (0, .ref b), (1, .ref (a 0)), (2, .ref z), (3, .int (iv (t : Int)))]) hx hb dL_law_104 hl (by decide) rfl (fun ls hl => ?_)
  refine lv_iload hx hb dL_law_106 (lv_at hl 1 rfl) ?_
  refine lv_bipush (v := iv 6) hx hb dL_law_108 (by decide) ?_
  refine r_const hx hb dL_law_110 ?_
  refine r_mna3 hx hb hown h128 hT.2.2.2.2.2.2.2.1.2.2.1 hT.2.2.2.2.2.2.2.1.1 (hts (.arrayClass .int) (by decide +kernel)) hK hP hD hS hA (kn cs) (by omega) (by omega) (by show _ ≤ (741649 : Nat); omega) (by show _ ≤ (6876824 : Nat); omega) dL_law_111 (fun q_111 r_111 z_111 H hP hD hS => ?_)
  have hP : va_P D vwCl (([(q_100, .inl (G 4, kn cs, .inr (.inr (.inr (.inr (aF (fun i9 _ => r_100 i9) (kn cs)))))))] ++ ((wC G a ar az ad ap ts cs) ++ ((wSim G bb sd sp jj cs) ++ (wRw G 8 (fun i9 _ => r_100 i9) (fun _ => zz) (kn cs))))) ++ ([(q_111, .inl (G 6, kn cs, .inr (.inr (.inr (.inr (aF (fun i9 _ => r_111 i9) (kn cs)))))))] ++ (wKs G (fun i9 _ => r_111 i9) z_111 (fun _ _ => zz) (kn cs)))) _ := hP
  have hD : va_D A (([(q_100, .inl (G 4, kn cs, .inr (.inr (.inr (.inr (aF (fun i9 _ => r_100 i9) (kn cs)))))))] ++ ((wC G a ar az ad ap ts cs) ++ ((wSim G bb sd sp jj cs) ++ (wRw G 8 (fun i9 _ => r_100 i9) (fun _ => zz) (kn cs))))) ++ ([(q_111, .inl (G 6, kn cs, .inr (.inr (.inr (.inr (aF (fun i9 _ => r_111 i9) (kn cs)))))))] ++ (wKs G (fun i9 _ => r_111 i9) z_111 (fun _ _ => zz) (kn cs)))) := hD
  have hq : List.Perm (α := Nat × va_E) (([(q_100, .inl (G 4, kn cs, .inr (.inr (.inr (.inr (aF (fun i9 _ => r_100 i9) (kn cs)))))))] ++ ((wC G a ar az ad ap ts cs) ++ ((wSim G bb sd sp jj cs) ++ (wRw G 8 (fun i9 _ => r_100 i9) (fun _ => zz) (kn cs))))) ++ ([(q_111, .inl (G 6, kn cs, .inr (.inr (.inr (.inr (aF (fun i9 _ => r_111 i9) (kn cs)))))))] ++ (wKs G (fun i9 _ => r_111 i9) z_111 (fun _ _ => zz) (kn cs)))) ([(q_100, .inl (G 4, kn cs, .inr (.inr (.inr (.inr (aF (fun i9 _ => r_100 i9) (kn cs))))))), (q_111, .inl (G 6, kn cs, .inr (.inr (.inr (.inr (aF (fun i9 _ => r_111 i9) (kn cs)))))))] ++ ((wC G a ar az ad ap ts cs) ++ ((wSim G bb sd sp jj cs) ++ ((wRw G 8 (fun i9 _ => r_100 i9) (fun _ => zz) (kn cs)) ++ (wKs G (fun i9 _ => r_111 i9) z_111 (fun _ _ => zz) (kn cs)))))) := wperm (fun q9 => by
    simp only [cn_app, cn_nil, cn_two] at ⊢ <;> omega)
  replace hP := wP_perm hP hq
  replace hD := wD_perm hD hq
  have hP : va_P D vwCl ([(q_100, .inl (G 4, kn cs, .inr (.inr (.inr (.inr (aF (fun i9 _ => r_100 i9) (kn cs))))))), (q_111, .inl (G 6, kn cs, .inr (.inr (.inr (.inr (aF (fun i9 _ => r_111 i9) (kn cs)))))))] ++ ((wC G a ar az ad ap ts cs) ++ ((wSim G bb sd sp jj cs) ++ ((wRw G 8 (fun i9 _ => r_100 i9) (fun _ => zz) (kn cs)) ++ (wKs G (fun i9 _ => r_111 i9) z_111 (fun _ _ => zz) (kn cs)))))) _ := hP
  have hD : va_D A ([(q_100, .inl (G 4, kn cs, .inr (.inr (.inr (.inr (aF (fun i9 _ => r_100 i9) (kn cs))))))), (q_111, .inl (G 6, kn cs, .inr (.inr (.inr (.inr (aF (fun i9 _ => r_111 i9) (kn cs)))))))] ++ ((wC G a ar az ad ap ts cs) ++ ((wSim G bb sd sp jj cs) ++ ((wRw G 8 (fun i9 _ => r_100 i9) (fun _ => zz) (kn cs)) ++ (wKs G (fun i9 _ => r_111 i9) z_111 (fun _ _ => zz) (kn cs)))))) := hD
  refine lv_astore (lv' := [(7, .ref q_111), (6, .ref q_100), (5, .int (iv (kn cs : Int))), (0, .ref b), (1, .ref (a 0)), (2, .ref z), (3, .int (iv (t : Int)))]) hx hb dL_law_115 hl (by decide) rfl (fun ls hl => ?_)
  have hq : List.Perm (α := Nat × va_E) ([(q_100, .inl (G 4, kn cs, .inr (.inr (.inr (.inr (aF (fun i9 _ => r_100 i9) (kn cs))))))), (q_111, .inl (G 6, kn cs, .inr (.inr (.inr (.inr (aF (fun i9 _ => r_111 i9) (kn cs)))))))] ++ ((wC G a ar az ad ap ts cs) ++ ((wSim G bb sd sp jj cs) ++ ((wRw G 8 (fun i9 _ => r_100 i9) (fun _ => zz) (kn cs)) ++ (wKs G (fun i9 _ => r_111 i9) z_111 (fun _ _ => zz) (kn cs)))))) ([(q_100, .inl (G 4, kn cs, .inr (.inr (.inr (.inr (aF (fun i9 _ => r_100 i9) (kn cs))))))), (q_111, .inl (G 6, kn cs, .inr (.inr (.inr (.inr (aF (fun i9 _ => r_111 i9) (kn cs)))))))] ++ ((wRw G 8 (fun i9 _ => r_100 i9) (fun _ => zz) (kn cs)) ++ ((wKs G (fun i9 _ => r_111 i9) z_111 (fun _ _ => zz) (kn cs)) ++ ((wC G a ar az ad ap ts cs) ++ (wSim G bb sd sp jj cs))))) := wperm (fun q9 => by
    simp only [cn_app, cn_nil, cn_two] at ⊢ <;> omega)
  replace hP := wP_perm hP hq
  replace hD := wD_perm hD hq
  have hP : va_P D vwCl ([(q_100, .inl (G 4, kn cs, .inr (.inr (.inr (.inr (aF (fun i9 _ => r_100 i9) (kn cs))))))), (q_111, .inl (G 6, kn cs, .inr (.inr (.inr (.inr (aF (fun i9 _ => r_111 i9) (kn cs)))))))] ++ ((wRw G 8 (fun i9 _ => r_100 i9) (fun _ => zz) (kn cs)) ++ ((wKs G (fun i9 _ => r_111 i9) z_111 (fun _ _ => zz) (kn cs)) ++ ((wC G a ar az ad ap ts cs) ++ (wSim G bb sd sp jj cs))))) _ := hP
  have hD : va_D A ([(q_100, .inl (G 4, kn cs, .inr (.inr (.inr (.inr (aF (fun i9 _ => r_100 i9) (kn cs))))))), (q_111, .inl (G 6, kn cs, .inr (.inr (.inr (.inr (aF (fun i9 _ => r_111 i9) (kn cs)))))))] ++ ((wRw G 8 (fun i9 _ => r_100 i9) (fun _ => zz) (kn cs)) ++ ((wKs G (fun i9 _ => r_111 i9) z_111 (fun _ _ => zz) (kn cs)) ++ ((wC G a ar az ad ap ts cs) ++ (wSim G bb sd sp jj cs))))) := hD
  refine W.widen (k := cells + 66) (n := slots + 272) (by omega) (by omega) ?_
  exact kk (fun i9 _ => r_100 i9) (fun i9 _ => r_111 i9) z_111 q_100 q_111 _ _ hP hD hS _ (lv_sub hl [3, 4, 5, 6, 2, 1, 0] rfl)
