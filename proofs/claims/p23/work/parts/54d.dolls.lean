set_option maxHeartbeats 4000000 in
set_option maxRecDepth 100000 in
theorem c_X3_init (l : Launch) (D : va_G) (G : Nat → ClassId) (h : Nat)  : MtX l yX3_init wsX3_init 1 40 9 28 D (TY G) [.ref h] ([(h, .inr (3, [.null, .null, .null, .int (iv 0), .int (iv 0), .int (iv 0), .int (iv 0), .int (iv 0)]))]) (qV D (fun u => ∃ a : Nat → Nat, a 0 = h ∧ u = wSD G a dNew 0)) := by
  refine MtX.mk (cc := cX3_init) (maxL := 1) (ret := none) (by decide) rfl (Nat.le_of_ble_eq_true rfl) ?_
  intro p e s m below meth c A ls hx hb hr hlk hml hown hin hts hK hA hT hP hD hS hl
  replace hown : s.vm.findClass RX3 = some m.cls := hown
  have hl : lv_has ls 1 [(0, .ref h)] := hl
  have hP : va_P D vwCl ([(h, .inr (3, [.null, .null, .null, .int (iv 0), .int (iv 0), .int (iv 0), .int (iv 0), .int (iv 0)]))]) s.heap := hP
  have hD : va_D A ([(h, .inr (3, [.null, .null, .null, .int (iv 0), .int (iv 0), .int (iv 0), .int (iv 0), .int (iv 0)]))]) := hD
  have lk9 := hts (.fieldLink RX3 9 "DollCitadelLaw$Doll" "joints" "[[I") (by decide +kernel)
  have in_X3 : ∀ w ∈ u_ws RX3 TX3 8, w ∈ wsX3_init := by decide +kernel
  have lk14 := hts (.fieldLink RX3 14 "DollCitadelLaw$Doll" "open" "[Z") (by decide +kernel)
  have lk18 := hts (.fieldLink RX3 18 "DollCitadelLaw$Doll" "dust" "[I") (by decide +kernel)
  have lk22 := hts (.fieldLink RX3 22 "DollCitadelLaw$Doll" "hasWig" "Z") (by decide +kernel)
  refine lv_aload_n hx hb dX3_init_0 rfl (lv_at hl 0 rfl) ?_
  refine W.objInit hx hb hown (hts (.methodLink RX3 1 objectInit) (by decide +kernel)) (hts (.instanceMethod objectInit) (by decide +kernel)) (hts (.code objectInit ⟨#[0xb1]⟩ 1 none) (by decide +kernel)) rfl (hl.1.trans hml.symm) rfl dX3_init_1 (Nat.le_of_ble_eq_true rfl) (Nat.le_of_ble_eq_true rfl) ?_
  refine W.eq (g2 := F0 m 4 ls []) rfl ?_
  refine lv_aload_n hx hb dX3_init_4 rfl (lv_at hl 0 rfl) ?_
  refine lv_bipush (v := iv 6) hx hb dX3_init_5 (by decide) ?_
  refine r_const hx hb dX3_init_7 ?_
  refine r_mna2 hx hb hown (hts (.classLink RX3 7 "[[I") (by decide +kernel)) hT.2.2.2.2.2.2.2.1.1 (hts (.arrayClass .int) (by decide +kernel)) hK hP hD hS hA 6 3 (by omega) (by omega) (by omega) (by omega) (by show _ ≤ (9 : Nat); omega) (by show _ ≤ (28 : Nat); omega) dX3_init_8 (fun q_8 r_8 H hP hD hS => ?_)
  have hq : List.Perm (α := Nat × va_E) (([(h, .inr (3, [.null, .null, .null, .int (iv 0), .int (iv 0), .int (iv 0), .int (iv 0), .int (iv 0)]))]) ++ ([(q_8, .inl (G 4, 6, .inr (.inr (.inr (.inr (fun i => if i < 6 then some (r_8 i) else none))))))] ++ (List.range 6).flatMap (fun i => [(r_8 i, .inl (G 0, 3, .inl (fun j => iv (zz j))))]))) ([(h, .inr (3, [.null, .null, .null, .int (iv 0), .int (iv 0), .int (iv 0), .int (iv 0), .int (iv 0)])), (q_8, .inl (G 4, 6, .inr (.inr (.inr (.inr (fun i => if i < 6 then some (r_8 i) else none))))))] ++ ((List.range 6).flatMap (fun i => [(r_8 i, .inl (G 0, 3, .inl (fun j => iv (zz j))))]))) := wperm (fun q9 => by
    simp only [cn_app, cn_nil, cn_two] at ⊢ <;> omega)
  replace hP := wP_perm hP hq
  replace hD := wD_perm hD hq
  have hP : va_P D vwCl ([(h, .inr (3, [.null, .null, .null, .int (iv 0), .int (iv 0), .int (iv 0), .int (iv 0), .int (iv 0)])), (q_8, .inl (G 4, 6, .inr (.inr (.inr (.inr (fun i => if i < 6 then some (r_8 i) else none))))))] ++ ((List.range 6).flatMap (fun i => [(r_8 i, .inl (G 0, 3, .inl (fun j => iv (zz j))))]))) _ := hP
  have hD : va_D A ([(h, .inr (3, [.null, .null, .null, .int (iv 0), .int (iv 0), .int (iv 0), .int (iv 0), .int (iv 0)])), (q_8, .inl (G 4, 6, .inr (.inr (.inr (.inr (fun i => if i < 6 then some (r_8 i) else none))))))] ++ ((List.range 6).flatMap (fun i => [(r_8 i, .inl (G 0, 3, .inl (fun j => iv (zz j))))]))) := hD
  refine va_put (D := D) (ci := 3) (v := .ref q_8) (ty := .array (.array .int)) (C := RX3) (T := TX3) (N := 8) hx hb hts in_X3 tyX3 tyX3_ok nmX3 hown hK hP hD hS 0 rfl rfl 0 (by decide) lk9 (fun _ h9 => h9) rfl (by decide +kernel) rfl rfl (Nat.le_of_ble_eq_true rfl) dX3_init_12 (fun H locs hP hD hS => ?_)
  have hP : va_P D vwCl ([(h, .inr (3, [.ref q_8, .null, .null, .int (iv 0), .int (iv 0), .int (iv 0), .int (iv 0), .int (iv 0)])), (q_8, .inl (G 4, 6, .inr (.inr (.inr (.inr (fun i => if i < 6 then some (r_8 i) else none))))))] ++ ((List.range 6).flatMap (fun i => [(r_8 i, .inl (G 0, 3, .inl (fun j => iv (zz j))))]))) _ := hP
  have hD : va_D A ([(h, .inr (3, [.ref q_8, .null, .null, .int (iv 0), .int (iv 0), .int (iv 0), .int (iv 0), .int (iv 0)])), (q_8, .inl (G 4, 6, .inr (.inr (.inr (.inr (fun i => if i < 6 then some (r_8 i) else none))))))] ++ ((List.range 6).flatMap (fun i => [(r_8 i, .inl (G 0, 3, .inl (fun j => iv (zz j))))]))) := hD
  refine lv_aload_n hx hb dX3_init_15 rfl (lv_at hl 0 rfl) ?_
  refine r_const hx hb dX3_init_16 ?_
  refine r_newZ hx hb (hts (.arrayClass .boolean) (by decide +kernel)) hK hP hD hS hA 2 (by omega) (by omega) (by show _ ≤ (9 : Nat); omega) (by show _ ≤ (28 : Nat); omega) dX3_init_17 (fun q_17 H hP hD hS => ?_)
  replace hP := wP_perm hP (pnew _ _ _)
  replace hD := wD_perm hD (pnew _ _ _)
  have hP : va_P D vwCl ([(h, .inr (3, [.ref q_8, .null, .null, .int (iv 0), .int (iv 0), .int (iv 0), .int (iv 0), .int (iv 0)])), (q_8, .inl (G 4, 6, .inr (.inr (.inr (.inr (fun i => if i < 6 then some (r_8 i) else none)))))), (q_17, .inl (G 1, 2, .inl (fun y9 => iv (zz y9))))] ++ ((List.range 6).flatMap (fun i => [(r_8 i, .inl (G 0, 3, .inl (fun j => iv (zz j))))]))) _ := hP
  have hD : va_D A ([(h, .inr (3, [.ref q_8, .null, .null, .int (iv 0), .int (iv 0), .int (iv 0), .int (iv 0), .int (iv 0)])), (q_8, .inl (G 4, 6, .inr (.inr (.inr (.inr (fun i => if i < 6 then some (r_8 i) else none)))))), (q_17, .inl (G 1, 2, .inl (fun y9 => iv (zz y9))))] ++ ((List.range 6).flatMap (fun i => [(r_8 i, .inl (G 0, 3, .inl (fun j => iv (zz j))))]))) := hD
  refine lv_dup hx hb dX3_init_19 rfl ?_
  refine r_const hx hb dX3_init_20 ?_
  refine r_const hx hb dX3_init_21 ?_
  refine r_zast (F := zz) hx hb hK hP hD hS 2 1 rfl rfl 0 (by omega) (by omega) (by omega) (by omega) dX3_init_22 (fun H locs hP hD hS => ?_)
  have hP : va_P D vwCl ([(h, .inr (3, [.ref q_8, .null, .null, .int (iv 0), .int (iv 0), .int (iv 0), .int (iv 0), .int (iv 0)])), (q_8, .inl (G 4, 6, .inr (.inr (.inr (.inr (fun i => if i < 6 then some (r_8 i) else none)))))), (q_17, .inl (G 1, 2, .inl (fun y9 => iv (updI zz 0 1 y9))))] ++ ((List.range 6).flatMap (fun i => [(r_8 i, .inl (G 0, 3, .inl (fun j => iv (zz j))))]))) _ := hP
  have hD : va_D A ([(h, .inr (3, [.ref q_8, .null, .null, .int (iv 0), .int (iv 0), .int (iv 0), .int (iv 0), .int (iv 0)])), (q_8, .inl (G 4, 6, .inr (.inr (.inr (.inr (fun i => if i < 6 then some (r_8 i) else none)))))), (q_17, .inl (G 1, 2, .inl (fun y9 => iv (updI zz 0 1 y9))))] ++ ((List.range 6).flatMap (fun i => [(r_8 i, .inl (G 0, 3, .inl (fun j => iv (zz j))))]))) := hD
  refine lv_dup hx hb dX3_init_23 rfl ?_
  refine r_const hx hb dX3_init_24 ?_
  refine r_const hx hb dX3_init_25 ?_
  refine r_zast (F := updI zz 0 1) hx hb hK hP hD hS 2 1 rfl rfl 1 (by omega) (by omega) (by omega) (by omega) dX3_init_26 (fun H locs hP hD hS => ?_)
  have hP : va_P D vwCl ([(h, .inr (3, [.ref q_8, .null, .null, .int (iv 0), .int (iv 0), .int (iv 0), .int (iv 0), .int (iv 0)])), (q_8, .inl (G 4, 6, .inr (.inr (.inr (.inr (fun i => if i < 6 then some (r_8 i) else none)))))), (q_17, .inl (G 1, 2, .inl (fun y9 => iv (updI (updI zz 0 1) 1 1 y9))))] ++ ((List.range 6).flatMap (fun i => [(r_8 i, .inl (G 0, 3, .inl (fun j => iv (zz j))))]))) _ := hP
  have hD : va_D A ([(h, .inr (3, [.ref q_8, .null, .null, .int (iv 0), .int (iv 0), .int (iv 0), .int (iv 0), .int (iv 0)])), (q_8, .inl (G 4, 6, .inr (.inr (.inr (.inr (fun i => if i < 6 then some (r_8 i) else none)))))), (q_17, .inl (G 1, 2, .inl (fun y9 => iv (updI (updI zz 0 1) 1 1 y9))))] ++ ((List.range 6).flatMap (fun i => [(r_8 i, .inl (G 0, 3, .inl (fun j => iv (zz j))))]))) := hD
  refine va_put (D := D) (ci := 3) (v := .ref q_17) (ty := .array .boolean) (C := RX3) (T := TX3) (N := 8) hx hb hts in_X3 tyX3 tyX3_ok nmX3 hown hK hP hD hS 0 rfl rfl 1 (by decide) lk14 (fun _ h9 => h9) rfl (by decide +kernel) rfl rfl (Nat.le_of_ble_eq_true rfl) dX3_init_27 (fun H locs hP hD hS => ?_)
  have hP : va_P D vwCl ([(h, .inr (3, [.ref q_8, .ref q_17, .null, .int (iv 0), .int (iv 0), .int (iv 0), .int (iv 0), .int (iv 0)])), (q_8, .inl (G 4, 6, .inr (.inr (.inr (.inr (fun i => if i < 6 then some (r_8 i) else none)))))), (q_17, .inl (G 1, 2, .inl (fun y9 => iv (updI (updI zz 0 1) 1 1 y9))))] ++ ((List.range 6).flatMap (fun i => [(r_8 i, .inl (G 0, 3, .inl (fun j => iv (zz j))))]))) _ := hP
  have hD : va_D A ([(h, .inr (3, [.ref q_8, .ref q_17, .null, .int (iv 0), .int (iv 0), .int (iv 0), .int (iv 0), .int (iv 0)])), (q_8, .inl (G 4, 6, .inr (.inr (.inr (.inr (fun i => if i < 6 then some (r_8 i) else none)))))), (q_17, .inl (G 1, 2, .inl (fun y9 => iv (updI (updI zz 0 1) 1 1 y9))))] ++ ((List.range 6).flatMap (fun i => [(r_8 i, .inl (G 0, 3, .inl (fun j => iv (zz j))))]))) := hD
  refine lv_aload_n hx hb dX3_init_30 rfl (lv_at hl 0 rfl) ?_
  refine r_const hx hb dX3_init_31 ?_
  refine r_newI hx hb (hts (.arrayClass .int) (by decide +kernel)) hK hP hD hS hA 2 (by omega) (by omega) (by show _ ≤ (9 : Nat); omega) (by show _ ≤ (28 : Nat); omega) dX3_init_32 (fun q_32 H hP hD hS => ?_)
  replace hP := wP_perm hP (pnew _ _ _)
  replace hD := wD_perm hD (pnew _ _ _)
  have hP : va_P D vwCl ([(h, .inr (3, [.ref q_8, .ref q_17, .null, .int (iv 0), .int (iv 0), .int (iv 0), .int (iv 0), .int (iv 0)])), (q_8, .inl (G 4, 6, .inr (.inr (.inr (.inr (fun i => if i < 6 then some (r_8 i) else none)))))), (q_17, .inl (G 1, 2, .inl (fun y9 => iv (updI (updI zz 0 1) 1 1 y9)))), (q_32, .inl (G 0, 2, .inl (fun y9 => iv (zz y9))))] ++ ((List.range 6).flatMap (fun i => [(r_8 i, .inl (G 0, 3, .inl (fun j => iv (zz j))))]))) _ := hP
  have hD : va_D A ([(h, .inr (3, [.ref q_8, .ref q_17, .null, .int (iv 0), .int (iv 0), .int (iv 0), .int (iv 0), .int (iv 0)])), (q_8, .inl (G 4, 6, .inr (.inr (.inr (.inr (fun i => if i < 6 then some (r_8 i) else none)))))), (q_17, .inl (G 1, 2, .inl (fun y9 => iv (updI (updI zz 0 1) 1 1 y9)))), (q_32, .inl (G 0, 2, .inl (fun y9 => iv (zz y9))))] ++ ((List.range 6).flatMap (fun i => [(r_8 i, .inl (G 0, 3, .inl (fun j => iv (zz j))))]))) := hD
  refine va_put (D := D) (ci := 3) (v := .ref q_32) (ty := .array .int) (C := RX3) (T := TX3) (N := 8) hx hb hts in_X3 tyX3 tyX3_ok nmX3 hown hK hP hD hS 0 rfl rfl 2 (by decide) lk18 (fun _ h9 => h9) rfl (by decide +kernel) rfl rfl (Nat.le_of_ble_eq_true rfl) dX3_init_34 (fun H locs hP hD hS => ?_)
  have hP : va_P D vwCl ([(h, .inr (3, [.ref q_8, .ref q_17, .ref q_32, .int (iv 0), .int (iv 0), .int (iv 0), .int (iv 0), .int (iv 0)])), (q_8, .inl (G 4, 6, .inr (.inr (.inr (.inr (fun i => if i < 6 then some (r_8 i) else none)))))), (q_17, .inl (G 1, 2, .inl (fun y9 => iv (updI (updI zz 0 1) 1 1 y9)))), (q_32, .inl (G 0, 2, .inl (fun y9 => iv (zz y9))))] ++ ((List.range 6).flatMap (fun i => [(r_8 i, .inl (G 0, 3, .inl (fun j => iv (zz j))))]))) _ := hP
  have hD : va_D A ([(h, .inr (3, [.ref q_8, .ref q_17, .ref q_32, .int (iv 0), .int (iv 0), .int (iv 0), .int (iv 0), .int (iv 0)])), (q_8, .inl (G 4, 6, .inr (.inr (.inr (.inr (fun i => if i < 6 then some (r_8 i) else none)))))), (q_17, .inl (G 1, 2, .inl (fun y9 => iv (updI (updI zz 0 1) 1 1 y9)))), (q_32, .inl (G 0, 2, .inl (fun y9 => iv (zz y9))))] ++ ((List.range 6).flatMap (fun i => [(r_8 i, .inl (G 0, 3, .inl (fun j => iv (zz j))))]))) := hD
  refine lv_aload_n hx hb dX3_init_37 rfl (lv_at hl 0 rfl) ?_
  refine r_const hx hb dX3_init_38 ?_
  refine va_put (D := D) (ci := 3) (v := .int (iv 1)) (ty := .boolean) (C := RX3) (T := TX3) (N := 8) hx hb hts in_X3 tyX3 tyX3_ok nmX3 hown hK hP hD hS 0 rfl rfl 3 (by decide) lk22 (fun _ h9 => h9) rfl (by decide +kernel) (by decide) rfl (Nat.le_of_ble_eq_true rfl) dX3_init_39 (fun H locs hP hD hS => ?_)
  have hP : va_P D vwCl ([(h, .inr (3, [.ref q_8, .ref q_17, .ref q_32, .int (iv 1), .int (iv 0), .int (iv 0), .int (iv 0), .int (iv 0)])), (q_8, .inl (G 4, 6, .inr (.inr (.inr (.inr (fun i => if i < 6 then some (r_8 i) else none)))))), (q_17, .inl (G 1, 2, .inl (fun y9 => iv (updI (updI zz 0 1) 1 1 y9)))), (q_32, .inl (G 0, 2, .inl (fun y9 => iv (zz y9))))] ++ ((List.range 6).flatMap (fun i => [(r_8 i, .inl (G 0, 3, .inl (fun j => iv (zz j))))]))) _ := hP
  have hD : va_D A ([(h, .inr (3, [.ref q_8, .ref q_17, .ref q_32, .int (iv 1), .int (iv 0), .int (iv 0), .int (iv 0), .int (iv 0)])), (q_8, .inl (G 4, 6, .inr (.inr (.inr (.inr (fun i => if i < 6 then some (r_8 i) else none)))))), (q_17, .inl (G 1, 2, .inl (fun y9 => iv (updI (updI zz 0 1) 1 1 y9)))), (q_32, .inl (G 0, 2, .inl (fun y9 => iv (zz y9))))] ++ ((List.range 6).flatMap (fun i => [(r_8 i, .inl (G 0, 3, .inl (fun j => iv (zz j))))]))) := hD
  replace hP := wP_say 2 (dO dNew) hP rfl (fun j9 h9 => by rcases (show j9 = 0 ∨ j9 = 1 by omega) with rfl | rfl <;> rfl)
  replace hD := wD_say 2 (.inl (G 1, 2, .inl (fun y9 => iv (dO dNew y9)))) hD rfl
  have hP : va_P D vwCl ([(h, .inr (3, [.ref q_8, .ref q_17, .ref q_32, .int (iv 1), .int (iv 0), .int (iv 0), .int (iv 0), .int (iv 0)])), (q_8, .inl (G 4, 6, .inr (.inr (.inr (.inr (fun i => if i < 6 then some (r_8 i) else none)))))), (q_17, .inl (G 1, 2, .inl (fun y9 => iv (dO dNew y9)))), (q_32, .inl (G 0, 2, .inl (fun y9 => iv (zz y9))))] ++ ((List.range 6).flatMap (fun i => [(r_8 i, .inl (G 0, 3, .inl (fun j => iv (zz j))))]))) _ := hP
  have hD : va_D A ([(h, .inr (3, [.ref q_8, .ref q_17, .ref q_32, .int (iv 1), .int (iv 0), .int (iv 0), .int (iv 0), .int (iv 0)])), (q_8, .inl (G 4, 6, .inr (.inr (.inr (.inr (fun i => if i < 6 then some (r_8 i) else none)))))), (q_17, .inl (G 1, 2, .inl (fun y9 => iv (dO dNew y9)))), (q_32, .inl (G 0, 2, .inl (fun y9 => iv (zz y9))))] ++ ((List.range 6).flatMap (fun i => [(r_8 i, .inl (G 0, 3, .inl (fun j => iv (zz j))))]))) := hD
  have hj : (fun i => if i < 6 then some (r_8 i) else none) = jF (aD h q_8 q_17 q_32 r_8) := funext fun i => by unfold jF; rw [aD_4]
  rw [hj] at hP hD
  have hq : List.Perm (α := Nat × va_E) ([(h, .inr (3, [.ref q_8, .ref q_17, .ref q_32, .int (iv 1), .int (iv 0), .int (iv 0), .int (iv 0), .int (iv 0)])), (q_8, .inl (G 4, 6, .inr (.inr (.inr (.inr (jF (aD h q_8 q_17 q_32 r_8))))))), (q_17, .inl (G 1, 2, .inl (fun y9 => iv (dO dNew y9)))), (q_32, .inl (G 0, 2, .inl (fun y9 => iv (zz y9))))] ++ ((List.range 6).flatMap (fun i => [(r_8 i, .inl (G 0, 3, .inl (fun j => iv (zz j))))]))) (wSD G (aD h q_8 q_17 q_32 r_8) dNew 0) := wperm (fun q9 => by
    have e_0 : cn q9 (wSD G (aD h q_8 q_17 q_32 r_8) dNew 0) = cn q9 ([(h, .inr (3, [.ref q_8, .ref q_17, .ref q_32, .int (iv 1), .int (iv 0), .int (iv 0), .int (iv 0), .int (iv 0)])), (q_8, .inl (G 4, 6, .inr (.inr (.inr (.inr (jF (aD h q_8 q_17 q_32 r_8))))))), (q_17, .inl (G 1, 2, .inl (fun i => iv (dO dNew i)))), (q_32, .inl (G 0, 2, .inl (fun i => iv (zz i))))] ++ wJs G (aD h q_8 q_17 q_32 r_8) dNew) := rfl
    have e_1 : cn q9 (wJs G (aD h q_8 q_17 q_32 r_8) dNew) = cn q9 ((List.range 6).flatMap (fun i => [(r_8 i, .inl (G 0, 3, .inl (fun j => iv (zz j))))])) := congrArg (cn q9) (fm_congr (fun i _ => by unfold wjt; rw [aD_4, show (fun k => iv (limv dNew k i)) = (fun k => iv (zz k)) from funext fun k => by rw [limv_new]]))
    simp only [cn_app, cn_nil, cn_two] at e_0 e_1 ⊢ <;> omega)
  replace hP := wP_perm hP hq
  replace hD := wD_perm hD hq
  have hP : va_P D vwCl (wSD G (aD h q_8 q_17 q_32 r_8) dNew 0) _ := hP
  have hD : va_D A (wSD G (aD h q_8 q_17 q_32 r_8) dNew 0) := hD
  exact e_void hx hb hr hlk dX3_init_42 hS hP hD (by omega) (by omega) (⟨(aD h q_8 q_17 q_32 r_8), rfl, rfl⟩)
