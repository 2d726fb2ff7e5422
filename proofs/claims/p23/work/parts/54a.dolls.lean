set_option maxHeartbeats 4000000 in
set_option maxRecDepth 100000 in
theorem c_X3_can (l : Launch) (D : va_G) (G : Nat → ClassId) (a : Nat → Nat) (ds : DS) (hok : okD ds) (jk : Int) (pp : Nat) (P : Nat → Int) (hP0 : okP P)  : MtG l yX3_can wsX3_can 0 0 0 0 D (TY G) [.ref (a 0), .ref pp] (wSD G a ds jk ++ [(pp, .inl (G 0, 6, .inl (fun y9 => iv (P y9))))]) (qI D (fun r u => r = iv (b2i (canT P ds)) ∧ u = wSD G a ds jk ++ [(pp, .inl (G 0, 6, .inl (fun y9 => iv (P y9))))])) := by
  refine MtG.mk (cc := cX3_can) (maxL := 3) (ret := some .boolean) (by decide) rfl (Nat.le_of_ble_eq_true rfl) ?_
  intro p e s m below meth c A ls hx hb hr hlk hml hown hin hts hK hA hP hD hS hl
  replace hown : s.vm.findClass RX3 = some m.cls := hown
  have hl : lv_has ls 3 [(0, .ref (a 0)), (1, .ref pp)] := hl
  have hP : va_P D vwCl (wSD G a ds jk ++ [(pp, .inl (G 0, 6, .inl (fun y9 => iv (P y9))))]) s.heap := hP
  have hD : va_D A (wSD G a ds jk ++ [(pp, .inl (G 0, 6, .inl (fun y9 => iv (P y9))))]) := hD
  have lk9 := hts (.fieldLink RX3 9 "DollCitadelLaw$Doll" "joints" "[[I") (by decide +kernel)
  have in_X3 : ∀ w ∈ u_ws RX3 TX3 8, w ∈ wsX3_can := by decide +kernel
  have hq : List.Perm (wSD G a ds jk ++ [(pp, .inl (G 0, 6, .inl (fun y9 => iv (P y9))))]) ([(a 0, .inr (3, [.ref (a 1), .ref (a 2), .ref (a 3), .int (iv (hJ ds)), .int (iv (xJ ds jk)), .int (iv (dv ds)), .int (iv (dn ds)), .int (iv (dt ds))])), (a 1, .inl (G 4, 6, .inr (.inr (.inr (.inr (jF a)))))), (a 2, .inl (G 1, 2, .inl (fun y9 => iv (dO ds y9)))), (a 3, .inl (G 0, 2, .inl (fun y9 => iv (dU ds y9)))), (pp, .inl (G 0, 6, .inl (fun y9 => iv (P y9))))] ++ (wJs G a ds)) := wperm (fun q9 => by
    have e_0 : cn q9 (wSD G a ds jk) = cn q9 ([(a 0, .inr (3, [.ref (a 1), .ref (a 2), .ref (a 3), .int (iv (hJ ds)), .int (iv (xJ ds jk)), .int (iv (dv ds)), .int (iv (dn ds)), .int (iv (dt ds))])), (a 1, .inl (G 4, 6, .inr (.inr (.inr (.inr (jF a)))))), (a 2, .inl (G 1, 2, .inl (fun y9 => iv (dO ds y9)))), (a 3, .inl (G 0, 2, .inl (fun y9 => iv (dU ds y9))))] ++ (wJs G a ds)) := rfl
    simp only [cn_app, cn_nil, cn_two] at e_0 ⊢
    omega)
  replace hP := wP_perm hP hq
  replace hD := wD_perm hD hq
  have hP : va_P D vwCl ([(a 0, .inr (3, [.ref (a 1), .ref (a 2), .ref (a 3), .int (iv (hJ ds)), .int (iv (xJ ds jk)), .int (iv (dv ds)), .int (iv (dn ds)), .int (iv (dt ds))])), (a 1, .inl (G 4, 6, .inr (.inr (.inr (.inr (jF a)))))), (a 2, .inl (G 1, 2, .inl (fun y9 => iv (dO ds y9)))), (a 3, .inl (G 0, 2, .inl (fun y9 => iv (dU ds y9)))), (pp, .inl (G 0, 6, .inl (fun y9 => iv (P y9))))] ++ (wJs G a ds)) _ := hP
  have hD : va_D A ([(a 0, .inr (3, [.ref (a 1), .ref (a 2), .ref (a 3), .int (iv (hJ ds)), .int (iv (xJ ds jk)), .int (iv (dv ds)), .int (iv (dn ds)), .int (iv (dt ds))])), (a 1, .inl (G 4, 6, .inr (.inr (.inr (.inr (jF a)))))), (a 2, .inl (G 1, 2, .inl (fun y9 => iv (dO ds y9)))), (a 3, .inl (G 0, 2, .inl (fun y9 => iv (dU ds y9)))), (pp, .inl (G 0, 6, .inl (fun y9 => iv (P y9))))] ++ (wJs G a ds)) := hD
  refine r_const hx hb dX3_can_0 ?_
  refine lv_istore_n (lv' := [(2, .int (iv 0)), (0, .ref (a 0)), (1, .ref pp)]) hx hb dX3_can_1 rfl hl (by decide) rfl (fun ls hl => ?_)
  have K2 : ∀ (fu i : Nat), i ≤ 6 → 6 < i + fu → (∀ e, e < i → dW ds e < 100 ∨ dA ds e = P e) → ∀ (H : Heap) (locs : List Loc), va_P D vwCl ([(a 0, .inr (3, [.ref (a 1), .ref (a 2), .ref (a 3), .int (iv (hJ ds)), .int (iv (xJ ds jk)), .int (iv (dv ds)), .int (iv (dn ds)), .int (iv (dt ds))])), (a 1, .inl (G 4, 6, .inr (.inr (.inr (.inr (jF a)))))), (a 2, .inl (G 1, 2, .inl (fun y9 => iv (dO ds y9)))), (a 3, .inl (G 0, 2, .inl (fun y9 => iv (dU ds y9)))), (pp, .inl (G 0, 6, .inl (fun y9 => iv (P y9))))] ++ (wJs G a ds)) H → va_D A ([(a 0, .inr (3, [.ref (a 1), .ref (a 2), .ref (a 3), .int (iv (hJ ds)), .int (iv (xJ ds jk)), .int (iv (dv ds)), .int (iv (dn ds)), .int (iv (dt ds))])), (a 1, .inl (G 4, 6, .inr (.inr (.inr (.inr (jF a)))))), (a 2, .inl (G 1, 2, .inl (fun y9 => iv (dO ds y9)))), (a 3, .inl (G 0, 2, .inl (fun y9 => iv (dU ds y9)))), (pp, .inl (G 0, 6, .inl (fun y9 => iv (P y9))))] ++ (wJs G a ds)) → va_S A s.heap H locs → ∀ (ls : Array Slot), lv_has ls 3 [(0, .ref (a 0)), (1, .ref pp), (2, .int (iv (i : Int)))] → W p l e (rmOf 0 0 0 0) s m ([.ref (a 0), .ref pp] : List Value).toArray below meth c H locs (0) (0) (MQ below (qI D (fun r u => r = iv (b2i (canT P ds)) ∧ u = wSD G a ds jk ++ [(pp, .inl (G 0, 6, .inl (fun y9 => iv (P y9))))]) A) ([.ref (a 0), .ref pp] : List Value).toArray s 0 0 A) (F0 m 2 ls []) := by
    intro fu
    induction fu with
    | zero => intro i h1 h2; exact absurd h2 (by omega)
    | succ fu ih2 =>
      intro i hi_2 hn_2 hc H locs hP hD hS ls hl
      refine lv_iload_n hx hb dX3_can_2 rfl (lv_at hl 2 rfl) ?_
      refine lv_bipush (v := iv 6) hx hb dX3_can_3 (by decide) ?_
      refine r_icmp_ge hx hb 43 dX3_can_5 (by decide) (by omega) (by omega) (fun c_5 => ?_) (fun c_5 => ?_)
      · skip
        refine r_const hx hb dX3_can_43 ?_
        have hq : List.Perm ([(a 0, .inr (3, [.ref (a 1), .ref (a 2), .ref (a 3), .int (iv (hJ ds)), .int (iv (xJ ds jk)), .int (iv (dv ds)), .int (iv (dn ds)), .int (iv (dt ds))])), (a 1, .inl (G 4, 6, .inr (.inr (.inr (.inr (jF a)))))), (a 2, .inl (G 1, 2, .inl (fun y9 => iv (dO ds y9)))), (a 3, .inl (G 0, 2, .inl (fun y9 => iv (dU ds y9)))), (pp, .inl (G 0, 6, .inl (fun y9 => iv (P y9))))] ++ (wJs G a ds)) (wSD G a ds jk ++ [(pp, .inl (G 0, 6, .inl (fun y9 => iv (P y9))))]) := wperm (fun q9 => by
          have e_0 : cn q9 (wSD G a ds jk) = cn q9 ([(a 0, .inr (3, [.ref (a 1), .ref (a 2), .ref (a 3), .int (iv (hJ ds)), .int (iv (xJ ds jk)), .int (iv (dv ds)), .int (iv (dn ds)), .int (iv (dt ds))])), (a 1, .inl (G 4, 6, .inr (.inr (.inr (.inr (jF a)))))), (a 2, .inl (G 1, 2, .inl (fun y9 => iv (dO ds y9)))), (a 3, .inl (G 0, 2, .inl (fun y9 => iv (dU ds y9))))] ++ (wJs G a ds)) := rfl
          simp only [cn_app, cn_nil, cn_two] at e_0 ⊢
          omega)
        replace hP := wP_perm hP hq
        replace hD := wD_perm hD hq
        have hP : va_P D vwCl (wSD G a ds jk ++ [(pp, .inl (G 0, 6, .inl (fun y9 => iv (P y9))))]) _ := hP
        have hD : va_D A (wSD G a ds jk ++ [(pp, .inl (G 0, 6, .inl (fun y9 => iv (P y9))))]) := hD
        exact e_b01 hx hb hr (by omega) hlk dX3_can_44 hS hP hD (by omega) (by omega) (⟨congrArg (fun b => iv (b2i b)) (canT_yes (P := P) (s := ds) (fun j9 h9 => hc j9 (by omega))), rfl⟩)
      · skip
        have rW := okD_W hok i (by omega)
        have rA := okD_A hok i (by omega)
        have rP := hP0 i (by omega)
        have hq : List.Perm ([(a 0, .inr (3, [.ref (a 1), .ref (a 2), .ref (a 3), .int (iv (hJ ds)), .int (iv (xJ ds jk)), .int (iv (dv ds)), .int (iv (dn ds)), .int (iv (dt ds))])), (a 1, .inl (G 4, 6, .inr (.inr (.inr (.inr (jF a)))))), (a 2, .inl (G 1, 2, .inl (fun y9 => iv (dO ds y9)))), (a 3, .inl (G 0, 2, .inl (fun y9 => iv (dU ds y9)))), (pp, .inl (G 0, 6, .inl (fun y9 => iv (P y9))))] ++ (wJs G a ds)) ([(a 0, .inr (3, [.ref (a 1), .ref (a 2), .ref (a 3), .int (iv (hJ ds)), .int (iv (xJ ds jk)), .int (iv (dv ds)), .int (iv (dn ds)), .int (iv (dt ds))])), (a 1, .inl (G 4, 6, .inr (.inr (.inr (.inr (jF a)))))), (a 2, .inl (G 1, 2, .inl (fun y9 => iv (dO ds y9)))), (a 3, .inl (G 0, 2, .inl (fun y9 => iv (dU ds y9)))), (pp, .inl (G 0, 6, .inl (fun y9 => iv (P y9)))), (a (4 + i), .inl (G 0, 3, .inl (fun y9 => iv ((fun k9 => limv ds k9 i) y9))))] ++ (wJo G a ds i)) := wperm (fun q9 => by
          have e_0 : cn q9 (wJs G a ds) = cn q9 ([(a (4 + i), .inl (G 0, 3, .inl (fun y9 => iv ((fun k9 => limv ds k9 i) y9))))] ++ (wJo G a ds i)) := cn_perm (wJs_get (G := G) (a := a) ds (d := i) (by omega)) q9
          simp only [cn_app, cn_nil, cn_two] at e_0 ⊢
          omega)
        replace hP := wP_perm hP hq
        replace hD := wD_perm hD hq
        have hP : va_P D vwCl ([(a 0, .inr (3, [.ref (a 1), .ref (a 2), .ref (a 3), .int (iv (hJ ds)), .int (iv (xJ ds jk)), .int (iv (dv ds)), .int (iv (dn ds)), .int (iv (dt ds))])), (a 1, .inl (G 4, 6, .inr (.inr (.inr (.inr (jF a)))))), (a 2, .inl (G 1, 2, .inl (fun y9 => iv (dO ds y9)))), (a 3, .inl (G 0, 2, .inl (fun y9 => iv (dU ds y9)))), (pp, .inl (G 0, 6, .inl (fun y9 => iv (P y9)))), (a (4 + i), .inl (G 0, 3, .inl (fun y9 => iv ((fun k9 => limv ds k9 i) y9))))] ++ (wJo G a ds i)) _ := hP
        have hD : va_D A ([(a 0, .inr (3, [.ref (a 1), .ref (a 2), .ref (a 3), .int (iv (hJ ds)), .int (iv (xJ ds jk)), .int (iv (dv ds)), .int (iv (dn ds)), .int (iv (dt ds))])), (a 1, .inl (G 4, 6, .inr (.inr (.inr (.inr (jF a)))))), (a 2, .inl (G 1, 2, .inl (fun y9 => iv (dO ds y9)))), (a 3, .inl (G 0, 2, .inl (fun y9 => iv (dU ds y9)))), (pp, .inl (G 0, 6, .inl (fun y9 => iv (P y9)))), (a (4 + i), .inl (G 0, 3, .inl (fun y9 => iv ((fun k9 => limv ds k9 i) y9))))] ++ (wJo G a ds i)) := hD
        refine lv_aload_n hx hb dX3_can_8 rfl (lv_at hl 0 rfl) ?_
        refine va_get (D := D) (ci := 3) (v := .ref (a 1)) (C := RX3) (T := TX3) (N := 8) hx hb hts in_X3 hown hK hP 0 rfl rfl 0 (by decide) lk9 (fun _ h9 => h9) rfl dX3_can_9 ?_
        refine lv_iload_n hx hb dX3_can_12 rfl (lv_at hl 2 rfl) ?_
        refine r_aaldA (f := jF a) hx hb hK hP 1 4 rfl rfl i (by omega) (by omega) (by omega) dX3_can_13 ?_
        rw [show va_rf (jF a i) = Value.ref (a (4 + i)) from jF_at (by omega)]
        refine r_const hx hb dX3_can_14 ?_
        refine r_iald (F := (fun k9 => limv ds k9 i)) hx hb hK hP 5 0 rfl rfl 1 (by omega) (by omega) (by omega) dX3_can_15 ?_
        rw [show limv ds 1 i = dW ds i from rfl]
        refine lv_bipush (v := iv 100) hx hb dX3_can_16 (by decide) ?_
        refine r_icmp_ne hx hb 37 dX3_can_18 (by decide) (by omega) (by omega) (fun c_18 => ?_) (fun c_18 => ?_)
        · skip
          refine r_iinc (k := 2) (lv' := [(2, .int (iv ((i : Int) + 1))), (0, .ref (a 0)), (1, .ref pp)]) hx hb dX3_can_37 hl rfl (by decide) rfl (fun ls hl => ?_)
          refine r_goto hx hb 2 dX3_can_40 (by decide) ?_
          have hq : List.Perm ([(a 0, .inr (3, [.ref (a 1), .ref (a 2), .ref (a 3), .int (iv (hJ ds)), .int (iv (xJ ds jk)), .int (iv (dv ds)), .int (iv (dn ds)), .int (iv (dt ds))])), (a 1, .inl (G 4, 6, .inr (.inr (.inr (.inr (jF a)))))), (a 2, .inl (G 1, 2, .inl (fun y9 => iv (dO ds y9)))), (a 3, .inl (G 0, 2, .inl (fun y9 => iv (dU ds y9)))), (pp, .inl (G 0, 6, .inl (fun y9 => iv (P y9)))), (a (4 + i), .inl (G 0, 3, .inl (fun y9 => iv ((fun k9 => limv ds k9 i) y9))))] ++ (wJo G a ds i)) ([(a 0, .inr (3, [.ref (a 1), .ref (a 2), .ref (a 3), .int (iv (hJ ds)), .int (iv (xJ ds jk)), .int (iv (dv ds)), .int (iv (dn ds)), .int (iv (dt ds))])), (a 1, .inl (G 4, 6, .inr (.inr (.inr (.inr (jF a)))))), (a 2, .inl (G 1, 2, .inl (fun y9 => iv (dO ds y9)))), (a 3, .inl (G 0, 2, .inl (fun y9 => iv (dU ds y9)))), (pp, .inl (G 0, 6, .inl (fun y9 => iv (P y9))))] ++ (wJs G a ds)) := wperm (fun q9 => by
            have e_0 : cn q9 (wJs G a ds) = cn q9 ([(a (4 + i), .inl (G 0, 3, .inl (fun y9 => iv ((fun k9 => limv ds k9 i) y9))))] ++ (wJo G a ds i)) := cn_perm (wJs_get (G := G) (a := a) ds (d := i) (by omega)) q9
            simp only [cn_app, cn_nil, cn_two] at e_0 ⊢
            omega)
          replace hP := wP_perm hP hq
          replace hD := wD_perm hD hq
          have hP : va_P D vwCl ([(a 0, .inr (3, [.ref (a 1), .ref (a 2), .ref (a 3), .int (iv (hJ ds)), .int (iv (xJ ds jk)), .int (iv (dv ds)), .int (iv (dn ds)), .int (iv (dt ds))])), (a 1, .inl (G 4, 6, .inr (.inr (.inr (.inr (jF a)))))), (a 2, .inl (G 1, 2, .inl (fun y9 => iv (dO ds y9)))), (a 3, .inl (G 0, 2, .inl (fun y9 => iv (dU ds y9)))), (pp, .inl (G 0, 6, .inl (fun y9 => iv (P y9))))] ++ (wJs G a ds)) _ := hP
          have hD : va_D A ([(a 0, .inr (3, [.ref (a 1), .ref (a 2), .ref (a 3), .int (iv (hJ ds)), .int (iv (xJ ds jk)), .int (iv (dv ds)), .int (iv (dn ds)), .int (iv (dt ds))])), (a 1, .inl (G 4, 6, .inr (.inr (.inr (.inr (jF a)))))), (a 2, .inl (G 1, 2, .inl (fun y9 => iv (dO ds y9)))), (a 3, .inl (G 0, 2, .inl (fun y9 => iv (dU ds y9)))), (pp, .inl (G 0, 6, .inl (fun y9 => iv (P y9))))] ++ (wJs G a ds)) := hD
          refine W.widen (k := 0) (n := 0) (by omega) (by omega) ?_
          exact ih2 (i + 1) (by omega) (by omega) (fun e he => by by_cases q : e = i; (rw [q]; omega); exact hc e (by omega)) _ _ hP hD hS _ (lv_sub hl [1, 2, 0] rfl)
        · skip
          refine lv_aload_n hx hb dX3_can_21 rfl (lv_at hl 0 rfl) ?_
          refine va_get (D := D) (ci := 3) (v := .ref (a 1)) (C := RX3) (T := TX3) (N := 8) hx hb hts in_X3 hown hK hP 0 rfl rfl 0 (by decide) lk9 (fun _ h9 => h9) rfl dX3_can_22 ?_
          refine lv_iload_n hx hb dX3_can_25 rfl (lv_at hl 2 rfl) ?_
          refine r_aaldA (f := jF a) hx hb hK hP 1 4 rfl rfl i (by omega) (by omega) (by omega) dX3_can_26 ?_
          rw [show va_rf (jF a i) = Value.ref (a (4 + i)) from jF_at (by omega)]
          refine r_const hx hb dX3_can_27 ?_
          refine r_iald (F := (fun k9 => limv ds k9 i)) hx hb hK hP 5 0 rfl rfl 0 (by omega) (by omega) (by omega) dX3_can_28 ?_
          rw [show limv ds 0 i = dA ds i from rfl]
          refine lv_aload_n hx hb dX3_can_29 rfl (lv_at hl 1 rfl) ?_
          refine lv_iload_n hx hb dX3_can_30 rfl (lv_at hl 2 rfl) ?_
          refine r_iald (F := P) hx hb hK hP 4 0 rfl rfl i (by omega) (by omega) (by omega) dX3_can_31 ?_
          refine r_icmp_eq hx hb 37 dX3_can_32 (by decide) (by omega) (by omega) (fun c_32 => ?_) (fun c_32 => ?_)
          · skip
            refine r_iinc (k := 2) (lv' := [(2, .int (iv ((i : Int) + 1))), (0, .ref (a 0)), (1, .ref pp)]) hx hb dX3_can_37 hl rfl (by decide) rfl (fun ls hl => ?_)
            refine r_goto hx hb 2 dX3_can_40 (by decide) ?_
            have hq : List.Perm ([(a 0, .inr (3, [.ref (a 1), .ref (a 2), .ref (a 3), .int (iv (hJ ds)), .int (iv (xJ ds jk)), .int (iv (dv ds)), .int (iv (dn ds)), .int (iv (dt ds))])), (a 1, .inl (G 4, 6, .inr (.inr (.inr (.inr (jF a)))))), (a 2, .inl (G 1, 2, .inl (fun y9 => iv (dO ds y9)))), (a 3, .inl (G 0, 2, .inl (fun y9 => iv (dU ds y9)))), (pp, .inl (G 0, 6, .inl (fun y9 => iv (P y9)))), (a (4 + i), .inl (G 0, 3, .inl (fun y9 => iv ((fun k9 => limv ds k9 i) y9))))] ++ (wJo G a ds i)) ([(a 0, .inr (3, [.ref (a 1), .ref (a 2), .ref (a 3), .int (iv (hJ ds)), .int (iv (xJ ds jk)), .int (iv (dv ds)), .int (iv (dn ds)), .int (iv (dt ds))])), (a 1, .inl (G 4, 6, .inr (.inr (.inr (.inr (jF a)))))), (a 2, .inl (G 1, 2, .inl (fun y9 => iv (dO ds y9)))), (a 3, .inl (G 0, 2, .inl (fun y9 => iv (dU ds y9)))), (pp, .inl (G 0, 6, .inl (fun y9 => iv (P y9))))] ++ (wJs G a ds)) := wperm (fun q9 => by
              have e_0 : cn q9 (wJs G a ds) = cn q9 ([(a (4 + i), .inl (G 0, 3, .inl (fun y9 => iv ((fun k9 => limv ds k9 i) y9))))] ++ (wJo G a ds i)) := cn_perm (wJs_get (G := G) (a := a) ds (d := i) (by omega)) q9
              simp only [cn_app, cn_nil, cn_two] at e_0 ⊢
              omega)
            replace hP := wP_perm hP hq
            replace hD := wD_perm hD hq
            have hP : va_P D vwCl ([(a 0, .inr (3, [.ref (a 1), .ref (a 2), .ref (a 3), .int (iv (hJ ds)), .int (iv (xJ ds jk)), .int (iv (dv ds)), .int (iv (dn ds)), .int (iv (dt ds))])), (a 1, .inl (G 4, 6, .inr (.inr (.inr (.inr (jF a)))))), (a 2, .inl (G 1, 2, .inl (fun y9 => iv (dO ds y9)))), (a 3, .inl (G 0, 2, .inl (fun y9 => iv (dU ds y9)))), (pp, .inl (G 0, 6, .inl (fun y9 => iv (P y9))))] ++ (wJs G a ds)) _ := hP
            have hD : va_D A ([(a 0, .inr (3, [.ref (a 1), .ref (a 2), .ref (a 3), .int (iv (hJ ds)), .int (iv (xJ ds jk)), .int (iv (dv ds)), .int (iv (dn ds)), .int (iv (dt ds))])), (a 1, .inl (G 4, 6, .inr (.inr (.inr (.inr (jF a)))))), (a 2, .inl (G 1, 2, .inl (fun y9 => iv (dO ds y9)))), (a 3, .inl (G 0, 2, .inl (fun y9 => iv (dU ds y9)))), (pp, .inl (G 0, 6, .inl (fun y9 => iv (P y9))))] ++ (wJs G a ds)) := hD
            refine W.widen (k := 0) (n := 0) (by omega) (by omega) ?_
            exact ih2 (i + 1) (by omega) (by omega) (fun e he => by by_cases q : e = i; (rw [q]; omega); exact hc e (by omega)) _ _ hP hD hS _ (lv_sub hl [1, 2, 0] rfl)
          · skip
            refine r_const hx hb dX3_can_35 ?_
            have hq : List.Perm ([(a 0, .inr (3, [.ref (a 1), .ref (a 2), .ref (a 3), .int (iv (hJ ds)), .int (iv (xJ ds jk)), .int (iv (dv ds)), .int (iv (dn ds)), .int (iv (dt ds))])), (a 1, .inl (G 4, 6, .inr (.inr (.inr (.inr (jF a)))))), (a 2, .inl (G 1, 2, .inl (fun y9 => iv (dO ds y9)))), (a 3, .inl (G 0, 2, .inl (fun y9 => iv (dU ds y9)))), (pp, .inl (G 0, 6, .inl (fun y9 => iv (P y9)))), (a (4 + i), .inl (G 0, 3, .inl (fun y9 => iv ((fun k9 => limv ds k9 i) y9))))] ++ (wJo G a ds i)) (wSD G a ds jk ++ [(pp, .inl (G 0, 6, .inl (fun y9 => iv (P y9))))]) := wperm (fun q9 => by
              have e_0 : cn q9 (wSD G a ds jk) = cn q9 ([(a 0, .inr (3, [.ref (a 1), .ref (a 2), .ref (a 3), .int (iv (hJ ds)), .int (iv (xJ ds jk)), .int (iv (dv ds)), .int (iv (dn ds)), .int (iv (dt ds))])), (a 1, .inl (G 4, 6, .inr (.inr (.inr (.inr (jF a)))))), (a 2, .inl (G 1, 2, .inl (fun y9 => iv (dO ds y9)))), (a 3, .inl (G 0, 2, .inl (fun y9 => iv (dU ds y9))))] ++ (wJs G a ds)) := rfl
              have e_1 : cn q9 (wJs G a ds) = cn q9 ([(a (4 + i), .inl (G 0, 3, .inl (fun y9 => iv ((fun k9 => limv ds k9 i) y9))))] ++ (wJo G a ds i)) := cn_perm (wJs_get (G := G) (a := a) ds (d := i) (by omega)) q9
              simp only [cn_app, cn_nil, cn_two] at e_0 e_1 ⊢
              omega)
            replace hP := wP_perm hP hq
            replace hD := wD_perm hD hq
            have hP : va_P D vwCl (wSD G a ds jk ++ [(pp, .inl (G 0, 6, .inl (fun y9 => iv (P y9))))]) _ := hP
            have hD : va_D A (wSD G a ds jk ++ [(pp, .inl (G 0, 6, .inl (fun y9 => iv (P y9))))]) := hD
            exact e_b01 hx hb hr (by omega) hlk dX3_can_36 hS hP hD (by omega) (by omega) (⟨congrArg (fun b => iv (b2i b)) (canT_no (P := P) (s := ds) (j := i) (by omega) (by omega) (by omega)), rfl⟩)
  refine W.widen (k := 0) (n := 0) (by omega) (by omega) ?_
  exact K2 7 0 (by omega) (by omega) (fun e he => absurd he (Nat.not_lt_zero e)) _ _ hP hD hS _ (lv_sub hl [1, 2, 0] rfl)
set_option maxHeartbeats 4000000 in
set_option maxRecDepth 100000 in
theorem c_X3_turn (l : Launch) (D : va_G) (G : Nat → ClassId) (a : Nat → Nat) (ds : DS) (hok : okD ds) (P : Nat → Int) (hP0 : okP P) (i : Nat) (hi : i < 6) (hcan : dW ds i < 100 ∨ dA ds i = P i)  : MtG l yX3_turn wsX3_turn 0 0 0 0 D (TY G) [.ref (a (4 + i)), .int (iv (P i))] (wjt G a ds i) (qI D (fun r u => (∃ z : Int, r = iv z) ∧ u = wjt G a (turn1 P i ds) i)) := by
  refine MtG.mk (cc := cX3_turn) (maxL := 4) (ret := some .int) (by decide) rfl (Nat.le_of_ble_eq_true rfl) ?_
  intro p e s m below meth c A ls hx hb hr hlk hml hown hin hts hK hA hP hD hS hl
  replace hown : s.vm.findClass RX3 = some m.cls := hown
  have hl : lv_has ls 4 [(0, .ref (a (4 + i))), (1, .int (iv (P i)))] := hl
  have hP : va_P D vwCl (wjt G a ds i) s.heap := hP
  have hD : va_D A (wjt G a ds i) := hD
  have rW := okD_W hok i hi
  have rA := okD_A hok i hi
  have rQ := okD_Q hok i hi
  have rP := hP0 i hi
  have hq : List.Perm (wjt G a ds i) ([(a (4 + i), .inl (G 0, 3, .inl (fun y9 => iv ((fun k9 => limv ds k9 i) y9))))]) := wperm (fun q9 => by
    have e_0 : cn q9 (wjt G a ds i) = cn q9 ([(a (4 + i), .inl (G 0, 3, .inl (fun y9 => iv ((fun k9 => limv ds k9 i) y9))))]) := rfl
    simp only [cn_app, cn_nil, cn_two] at e_0 ⊢
    omega)
  replace hP := wP_perm hP hq
  replace hD := wD_perm hD hq
  have hP : va_P D vwCl ([(a (4 + i), .inl (G 0, 3, .inl (fun y9 => iv ((fun k9 => limv ds k9 i) y9))))]) _ := hP
  have hD : va_D A ([(a (4 + i), .inl (G 0, 3, .inl (fun y9 => iv ((fun k9 => limv ds k9 i) y9))))]) := hD
  refine lv_aload_n hx hb dX3_turn_0 rfl (lv_at hl 0 rfl) ?_
  refine r_const hx hb dX3_turn_1 ?_
  refine r_iald (F := (fun k9 => limv ds k9 i)) hx hb hK hP 0 0 rfl rfl 0 (by omega) (by omega) (by omega) dX3_turn_2 ?_
  rw [show limv ds 0 i = dA ds i from rfl]
  refine lv_iload_n hx hb dX3_turn_3 rfl (lv_at hl 1 rfl) ?_
  refine r_icmp_ge hx hb 15 dX3_turn_4 (by decide) (by omega) (by omega) (fun c_4 => ?_) (fun c_4 => ?_)
  · skip
    refine lv_aload_n hx hb dX3_turn_15 rfl (lv_at hl 0 rfl) ?_
    refine r_const hx hb dX3_turn_16 ?_
    refine r_iald (F := (fun k9 => limv ds k9 i)) hx hb hK hP 0 0 rfl rfl 0 (by omega) (by omega) (by omega) dX3_turn_17 ?_
    rw [show limv ds 0 i = dA ds i from rfl]
    refine lv_iload_n hx hb dX3_turn_18 rfl (lv_at hl 1 rfl) ?_
    refine r_sub hx hb dX3_turn_19 ?_
    refine lv_istore_n (lv' := [(2, .int (iv ((dA ds i) - (P i)))), (0, .ref (a (4 + i))), (1, .int (iv (P i)))]) hx hb dX3_turn_20 rfl hl (by decide) rfl (fun ls hl => ?_)
    refine lv_aload_n hx hb dX3_turn_21 rfl (lv_at hl 1 rfl) ?_
    refine r_const hx hb dX3_turn_22 ?_
    refine lv_iload_n hx hb dX3_turn_23 rfl (lv_at hl 2 rfl) ?_
    refine r_iast (F := (fun k9 => limv ds k9 i)) hx hb hK hP hD hS 0 0 rfl rfl 0 (by omega) (by omega) (by omega) dX3_turn_24 (fun H locs hP hD hS => ?_)
    have hP : va_P D vwCl ([(a (4 + i), .inl (G 0, 3, .inl (fun y9 => iv (updI (fun k9 => limv ds k9 i) 0 (P i) y9))))]) _ := hP
    have hD : va_D A ([(a (4 + i), .inl (G 0, 3, .inl (fun y9 => iv (updI (fun k9 => limv ds k9 i) 0 (P i) y9))))]) := hD
    refine lv_iload_n hx hb dX3_turn_25 rfl (lv_at hl 0 rfl) ?_
    refine r_if_ne hx hb 31 dX3_turn_26 (by decide) (by omega) (fun c_26 => ?_) (fun c_26 => ?_)
    · skip
      refine lv_aload_n hx hb dX3_turn_31 rfl (lv_at hl 1 rfl) ?_
      refine r_const hx hb dX3_turn_32 ?_
      refine r_iald (F := updI (fun k9 => limv ds k9 i) 0 (P i)) hx hb hK hP 0 0 rfl rfl 2 (by omega) (by omega) (by omega) dX3_turn_33 ?_
      rw [show (updI (fun k9 => limv ds k9 i) 0 (P i)) 2 = dQ ds i from updI_n _ _ (by decide)]
      refine r_if_ne hx hb 46 dX3_turn_34 (by decide) (by omega) (fun c_34 => ?_) (fun c_34 => ?_)
      · skip
        refine lv_iload_n hx hb dX3_turn_46 rfl (lv_at hl 0 rfl) ?_
        refine lv_bipush (v := iv 20) hx hb dX3_turn_47 (by decide) ?_
        refine r_div hx hb dX3_turn_49 (by omega) (by omega) ?_
        refine lv_istore_n (lv' := [(3, .int (iv (((dA ds i) - (P i)) / 20))), (2, .int (iv ((dA ds i) - (P i)))), (0, .ref (a (4 + i))), (1, .int (iv (P i)))]) hx hb dX3_turn_50 rfl hl (by decide) rfl (fun ls hl => ?_)
        refine lv_aload_n hx hb dX3_turn_51 rfl (lv_at hl 2 rfl) ?_
        refine r_const hx hb dX3_turn_52 ?_
        refine r_iald (F := updI (fun k9 => limv ds k9 i) 0 (P i)) hx hb hK hP 0 0 rfl rfl 2 (by omega) (by omega) (by omega) dX3_turn_53 ?_
        rw [show (updI (fun k9 => limv ds k9 i) 0 (P i)) 2 = dQ ds i from updI_n _ _ (by decide)]
        refine r_if_le hx hb 64 dX3_turn_54 (by decide) (by omega) (fun c_54 => ?_) (fun c_54 => ?_)
        · skip
          refine lv_aload_n hx hb dX3_turn_64 rfl (lv_at hl 2 rfl) ?_
          refine r_const hx hb dX3_turn_65 ?_
          refine r_iald (F := updI (fun k9 => limv ds k9 i) 0 (P i)) hx hb hK hP 0 0 rfl rfl 1 (by omega) (by omega) (by omega) dX3_turn_66 ?_
          rw [show (updI (fun k9 => limv ds k9 i) 0 (P i)) 1 = dW ds i from updI_n _ _ (by decide)]
          refine lv_iload_n hx hb dX3_turn_67 rfl (lv_at hl 0 rfl) ?_
          refine r_add hx hb dX3_turn_68 ?_
          refine lv_bipush (v := iv 100) hx hb dX3_turn_69 (by decide) ?_
          refine r_icmp_le hx hb 81 dX3_turn_71 (by decide) (by omega) (by omega) (fun c_71 => ?_) (fun c_71 => ?_)
          · skip
            refine lv_aload_n hx hb dX3_turn_81 rfl (lv_at hl 2 rfl) ?_
            refine r_const hx hb dX3_turn_82 ?_
            refine lv_dup2_11 hx hb dX3_turn_83 rfl rfl ?_
            refine r_iald (F := updI (fun k9 => limv ds k9 i) 0 (P i)) hx hb hK hP 0 0 rfl rfl 1 (by omega) (by omega) (by omega) dX3_turn_84 ?_
            rw [show (updI (fun k9 => limv ds k9 i) 0 (P i)) 1 = dW ds i from updI_n _ _ (by decide)]
            refine lv_iload_n hx hb dX3_turn_85 rfl (lv_at hl 0 rfl) ?_
            refine r_add hx hb dX3_turn_86 ?_
            refine r_iast (F := updI (fun k9 => limv ds k9 i) 0 (P i)) hx hb hK hP hD hS 0 0 rfl rfl 1 (by omega) (by omega) (by omega) dX3_turn_87 (fun H locs hP hD hS => ?_)
            have hP : va_P D vwCl ([(a (4 + i), .inl (G 0, 3, .inl (fun y9 => iv (updI (updI (fun k9 => limv ds k9 i) 0 (P i)) 1 ((dW ds i) + (((dA ds i) - (P i)) / 20)) y9))))]) _ := hP
            have hD : va_D A ([(a (4 + i), .inl (G 0, 3, .inl (fun y9 => iv (updI (updI (fun k9 => limv ds k9 i) 0 (P i)) 1 ((dW ds i) + (((dA ds i) - (P i)) / 20)) y9))))]) := hD
            refine lv_iload_n hx hb dX3_turn_88 rfl (lv_at hl 0 rfl) ?_
            have hL := turn1_lim (P := P) (i := i) (s := ds) (by omega)
            have hs : ∀ k9, k9 < 3 → (updI (updI (fun k9 => limv ds k9 i) 0 (P i)) 1 ((dW ds i) + (((dA ds i) - (P i)) / 20))) k9 = limv (turn1 P i ds) k9 i := fun k9 h9 => by
              rcases (show k9 = 0 ∨ k9 = 1 ∨ k9 = 2 by omega) with rfl | rfl | rfl
              · exact (show (updI (updI (fun k9 => limv ds k9 i) 0 (P i)) 1 ((dW ds i) + (((dA ds i) - (P i)) / 20))) 0 = (P i) from (updI_n _ _ (by decide)).trans (updI_s _ _ _)).trans (by rw [hL.1] <;> (omega))
              · exact (show (updI (updI (fun k9 => limv ds k9 i) 0 (P i)) 1 ((dW ds i) + (((dA ds i) - (P i)) / 20))) 1 = ((dW ds i) + (((dA ds i) - (P i)) / 20)) from updI_s _ _ _).trans (by rw [hL.2.1] <;> (unfold wearBT wearMore; split <;> omega))
              · exact (show (updI (updI (fun k9 => limv ds k9 i) 0 (P i)) 1 ((dW ds i) + (((dA ds i) - (P i)) / 20))) 2 = dQ ds i from (updI_n _ _ (by decide)).trans (updI_n _ _ (by decide))).trans (by rw [hL.2.2] <;> (omega))
            have hP := wP_say 0 (fun k9 => limv (turn1 P i ds) k9 i) hP rfl hs
            have hD := wD_say 0 (.inl (G 0, 3, .inl (fun y9 => iv (limv (turn1 P i ds) y9 i)))) hD rfl
            have hP : va_P D vwCl (wjt G a (turn1 P i ds) i) _ := hP
            have hD : va_D A (wjt G a (turn1 P i ds) i) := hD
            exact e_int hx hb hr hlk dX3_turn_89 hS hP hD (by omega) (by omega) (⟨⟨_, rfl⟩, rfl⟩)
          · skip
            refine lv_bipush (v := iv 100) hx hb dX3_turn_74 (by decide) ?_
            refine lv_aload_n hx hb dX3_turn_76 rfl (lv_at hl 2 rfl) ?_
            refine r_const hx hb dX3_turn_77 ?_
            refine r_iald (F := updI (fun k9 => limv ds k9 i) 0 (P i)) hx hb hK hP 0 0 rfl rfl 1 (by omega) (by omega) (by omega) dX3_turn_78 ?_
            rw [show (updI (fun k9 => limv ds k9 i) 0 (P i)) 1 = dW ds i from updI_n _ _ (by decide)]
            refine r_sub hx hb dX3_turn_79 ?_
            refine lv_istore_n (lv' := [(3, .int (iv (100 - (dW ds i)))), (2, .int (iv ((dA ds i) - (P i)))), (0, .ref (a (4 + i))), (1, .int (iv (P i)))]) hx hb dX3_turn_80 rfl hl (by decide) rfl (fun ls hl => ?_)
            refine lv_aload_n hx hb dX3_turn_81 rfl (lv_at hl 2 rfl) ?_
            refine r_const hx hb dX3_turn_82 ?_
            refine lv_dup2_11 hx hb dX3_turn_83 rfl rfl ?_
            refine r_iald (F := updI (fun k9 => limv ds k9 i) 0 (P i)) hx hb hK hP 0 0 rfl rfl 1 (by omega) (by omega) (by omega) dX3_turn_84 ?_
            rw [show (updI (fun k9 => limv ds k9 i) 0 (P i)) 1 = dW ds i from updI_n _ _ (by decide)]
            refine lv_iload_n hx hb dX3_turn_85 rfl (lv_at hl 0 rfl) ?_
            refine r_add hx hb dX3_turn_86 ?_
            refine r_iast (F := updI (fun k9 => limv ds k9 i) 0 (P i)) hx hb hK hP hD hS 0 0 rfl rfl 1 (by omega) (by omega) (by omega) dX3_turn_87 (fun H locs hP hD hS => ?_)
            have hP : va_P D vwCl ([(a (4 + i), .inl (G 0, 3, .inl (fun y9 => iv (updI (updI (fun k9 => limv ds k9 i) 0 (P i)) 1 ((dW ds i) + (100 - (dW ds i))) y9))))]) _ := hP
            have hD : va_D A ([(a (4 + i), .inl (G 0, 3, .inl (fun y9 => iv (updI (updI (fun k9 => limv ds k9 i) 0 (P i)) 1 ((dW ds i) + (100 - (dW ds i))) y9))))]) := hD
            refine lv_iload_n hx hb dX3_turn_88 rfl (lv_at hl 0 rfl) ?_
            have hL := turn1_lim (P := P) (i := i) (s := ds) (by omega)
            have hs : ∀ k9, k9 < 3 → (updI (updI (fun k9 => limv ds k9 i) 0 (P i)) 1 ((dW ds i) + (100 - (dW ds i)))) k9 = limv (turn1 P i ds) k9 i := fun k9 h9 => by
              rcases (show k9 = 0 ∨ k9 = 1 ∨ k9 = 2 by omega) with rfl | rfl | rfl
              · exact (show (updI (updI (fun k9 => limv ds k9 i) 0 (P i)) 1 ((dW ds i) + (100 - (dW ds i)))) 0 = (P i) from (updI_n _ _ (by decide)).trans (updI_s _ _ _)).trans (by rw [hL.1] <;> (omega))
              · exact (show (updI (updI (fun k9 => limv ds k9 i) 0 (P i)) 1 ((dW ds i) + (100 - (dW ds i)))) 1 = ((dW ds i) + (100 - (dW ds i))) from updI_s _ _ _).trans (by rw [hL.2.1] <;> (unfold wearBT wearMore; split <;> omega))
              · exact (show (updI (updI (fun k9 => limv ds k9 i) 0 (P i)) 1 ((dW ds i) + (100 - (dW ds i)))) 2 = dQ ds i from (updI_n _ _ (by decide)).trans (updI_n _ _ (by decide))).trans (by rw [hL.2.2] <;> (omega))
            have hP := wP_say 0 (fun k9 => limv (turn1 P i ds) k9 i) hP rfl hs
            have hD := wD_say 0 (.inl (G 0, 3, .inl (fun y9 => iv (limv (turn1 P i ds) y9 i)))) hD rfl
            have hP : va_P D vwCl (wjt G a (turn1 P i ds) i) _ := hP
            have hD : va_D A (wjt G a (turn1 P i ds) i) := hD
            exact e_int hx hb hr hlk dX3_turn_89 hS hP hD (by omega) (by omega) (⟨⟨_, rfl⟩, rfl⟩)
        · skip
          refine lv_aload_n hx hb dX3_turn_57 rfl (lv_at hl 2 rfl) ?_
          refine r_const hx hb dX3_turn_58 ?_
          refine lv_dup2_11 hx hb dX3_turn_59 rfl rfl ?_
          refine r_iald (F := updI (fun k9 => limv ds k9 i) 0 (P i)) hx hb hK hP 0 0 rfl rfl 2 (by omega) (by omega) (by omega) dX3_turn_60 ?_
          rw [show (updI (fun k9 => limv ds k9 i) 0 (P i)) 2 = dQ ds i from updI_n _ _ (by decide)]
          refine r_const hx hb dX3_turn_61 ?_
          refine r_sub hx hb dX3_turn_62 ?_
          refine r_iast (F := updI (fun k9 => limv ds k9 i) 0 (P i)) hx hb hK hP hD hS 0 0 rfl rfl 2 (by omega) (by omega) (by omega) dX3_turn_63 (fun H locs hP hD hS => ?_)
          have hP : va_P D vwCl ([(a (4 + i), .inl (G 0, 3, .inl (fun y9 => iv (updI (updI (fun k9 => limv ds k9 i) 0 (P i)) 2 ((dQ ds i) - 1) y9))))]) _ := hP
          have hD : va_D A ([(a (4 + i), .inl (G 0, 3, .inl (fun y9 => iv (updI (updI (fun k9 => limv ds k9 i) 0 (P i)) 2 ((dQ ds i) - 1) y9))))]) := hD
          refine lv_aload_n hx hb dX3_turn_64 rfl (lv_at hl 2 rfl) ?_
          refine r_const hx hb dX3_turn_65 ?_
          refine r_iald (F := updI (updI (fun k9 => limv ds k9 i) 0 (P i)) 2 ((dQ ds i) - 1)) hx hb hK hP 0 0 rfl rfl 1 (by omega) (by omega) (by omega) dX3_turn_66 ?_
          rw [show (updI (updI (fun k9 => limv ds k9 i) 0 (P i)) 2 ((dQ ds i) - 1)) 1 = dW ds i from (updI_n _ _ (by decide)).trans (updI_n _ _ (by decide))]
          refine lv_iload_n hx hb dX3_turn_67 rfl (lv_at hl 0 rfl) ?_
          refine r_add hx hb dX3_turn_68 ?_
          refine lv_bipush (v := iv 100) hx hb dX3_turn_69 (by decide) ?_
          refine r_icmp_le hx hb 81 dX3_turn_71 (by decide) (by omega) (by omega) (fun c_71 => ?_) (fun c_71 => ?_)
          · skip
            refine lv_aload_n hx hb dX3_turn_81 rfl (lv_at hl 2 rfl) ?_
            refine r_const hx hb dX3_turn_82 ?_
            refine lv_dup2_11 hx hb dX3_turn_83 rfl rfl ?_
            refine r_iald (F := updI (updI (fun k9 => limv ds k9 i) 0 (P i)) 2 ((dQ ds i) - 1)) hx hb hK hP 0 0 rfl rfl 1 (by omega) (by omega) (by omega) dX3_turn_84 ?_
            rw [show (updI (updI (fun k9 => limv ds k9 i) 0 (P i)) 2 ((dQ ds i) - 1)) 1 = dW ds i from (updI_n _ _ (by decide)).trans (updI_n _ _ (by decide))]
            refine lv_iload_n hx hb dX3_turn_85 rfl (lv_at hl 0 rfl) ?_
            refine r_add hx hb dX3_turn_86 ?_
            refine r_iast (F := updI (updI (fun k9 => limv ds k9 i) 0 (P i)) 2 ((dQ ds i) - 1)) hx hb hK hP hD hS 0 0 rfl rfl 1 (by omega) (by omega) (by omega) dX3_turn_87 (fun H locs hP hD hS => ?_)
            have hP : va_P D vwCl ([(a (4 + i), .inl (G 0, 3, .inl (fun y9 => iv (updI (updI (updI (fun k9 => limv ds k9 i) 0 (P i)) 2 ((dQ ds i) - 1)) 1 ((dW ds i) + (((dA ds i) - (P i)) / 20)) y9))))]) _ := hP
            have hD : va_D A ([(a (4 + i), .inl (G 0, 3, .inl (fun y9 => iv (updI (updI (updI (fun k9 => limv ds k9 i) 0 (P i)) 2 ((dQ ds i) - 1)) 1 ((dW ds i) + (((dA ds i) - (P i)) / 20)) y9))))]) := hD
            refine lv_iload_n hx hb dX3_turn_88 rfl (lv_at hl 0 rfl) ?_
            have hL := turn1_lim (P := P) (i := i) (s := ds) (by omega)
            have hs : ∀ k9, k9 < 3 → (updI (updI (updI (fun k9 => limv ds k9 i) 0 (P i)) 2 ((dQ ds i) - 1)) 1 ((dW ds i) + (((dA ds i) - (P i)) / 20))) k9 = limv (turn1 P i ds) k9 i := fun k9 h9 => by
              rcases (show k9 = 0 ∨ k9 = 1 ∨ k9 = 2 by omega) with rfl | rfl | rfl
              · exact (show (updI (updI (updI (fun k9 => limv ds k9 i) 0 (P i)) 2 ((dQ ds i) - 1)) 1 ((dW ds i) + (((dA ds i) - (P i)) / 20))) 0 = (P i) from (updI_n _ _ (by decide)).trans ((updI_n _ _ (by decide)).trans (updI_s _ _ _))).trans (by rw [hL.1] <;> (omega))
              · exact (show (updI (updI (updI (fun k9 => limv ds k9 i) 0 (P i)) 2 ((dQ ds i) - 1)) 1 ((dW ds i) + (((dA ds i) - (P i)) / 20))) 1 = ((dW ds i) + (((dA ds i) - (P i)) / 20)) from updI_s _ _ _).trans (by rw [hL.2.1] <;> (unfold wearBT wearMore; split <;> omega))
              · exact (show (updI (updI (updI (fun k9 => limv ds k9 i) 0 (P i)) 2 ((dQ ds i) - 1)) 1 ((dW ds i) + (((dA ds i) - (P i)) / 20))) 2 = ((dQ ds i) - 1) from (updI_n _ _ (by decide)).trans (updI_s _ _ _)).trans (by rw [hL.2.2] <;> (omega))
            have hP := wP_say 0 (fun k9 => limv (turn1 P i ds) k9 i) hP rfl hs
            have hD := wD_say 0 (.inl (G 0, 3, .inl (fun y9 => iv (limv (turn1 P i ds) y9 i)))) hD rfl
            have hP : va_P D vwCl (wjt G a (turn1 P i ds) i) _ := hP
            have hD : va_D A (wjt G a (turn1 P i ds) i) := hD
            exact e_int hx hb hr hlk dX3_turn_89 hS hP hD (by omega) (by omega) (⟨⟨_, rfl⟩, rfl⟩)
          · skip
            refine lv_bipush (v := iv 100) hx hb dX3_turn_74 (by decide) ?_
            refine lv_aload_n hx hb dX3_turn_76 rfl (lv_at hl 2 rfl) ?_
            refine r_const hx hb dX3_turn_77 ?_
            refine r_iald (F := updI (updI (fun k9 => limv ds k9 i) 0 (P i)) 2 ((dQ ds i) - 1)) hx hb hK hP 0 0 rfl rfl 1 (by omega) (by omega) (by omega) dX3_turn_78 ?_
            rw [show (updI (updI (fun k9 => limv ds k9 i) 0 (P i)) 2 ((dQ ds i) - 1)) 1 = dW ds i from (updI_n _ _ (by decide)).trans (updI_n _ _ (by decide))]
            refine r_sub hx hb dX3_turn_79 ?_
            refine lv_istore_n (lv' := [(3, .int (iv (100 - (dW ds i)))), (2, .int (iv ((dA ds i) - (P i)))), (0, .ref (a (4 + i))), (1, .int (iv (P i)))]) hx hb dX3_turn_80 rfl hl (by decide) rfl (fun ls hl => ?_)
            refine lv_aload_n hx hb dX3_turn_81 rfl (lv_at hl 2 rfl) ?_
            refine r_const hx hb dX3_turn_82 ?_
            refine lv_dup2_11 hx hb dX3_turn_83 rfl rfl ?_
            refine r_iald (F := updI (updI (fun k9 => limv ds k9 i) 0 (P i)) 2 ((dQ ds i) - 1)) hx hb hK hP 0 0 rfl rfl 1 (by omega) (by omega) (by omega) dX3_turn_84 ?_
            rw [show (updI (updI (fun k9 => limv ds k9 i) 0 (P i)) 2 ((dQ ds i) - 1)) 1 = dW ds i from (updI_n _ _ (by decide)).trans (updI_n _ _ (by decide))]
            refine lv_iload_n hx hb dX3_turn_85 rfl (lv_at hl 0 rfl) ?_
            refine r_add hx hb dX3_turn_86 ?_
            refine r_iast (F := updI (updI (fun k9 => limv ds k9 i) 0 (P i)) 2 ((dQ ds i) - 1)) hx hb hK hP hD hS 0 0 rfl rfl 1 (by omega) (by omega) (by omega) dX3_turn_87 (fun H locs hP hD hS => ?_)
            have hP : va_P D vwCl ([(a (4 + i), .inl (G 0, 3, .inl (fun y9 => iv (updI (updI (updI (fun k9 => limv ds k9 i) 0 (P i)) 2 ((dQ ds i) - 1)) 1 ((dW ds i) + (100 - (dW ds i))) y9))))]) _ := hP
            have hD : va_D A ([(a (4 + i), .inl (G 0, 3, .inl (fun y9 => iv (updI (updI (updI (fun k9 => limv ds k9 i) 0 (P i)) 2 ((dQ ds i) - 1)) 1 ((dW ds i) + (100 - (dW ds i))) y9))))]) := hD
            refine lv_iload_n hx hb dX3_turn_88 rfl (lv_at hl 0 rfl) ?_
            have hL := turn1_lim (P := P) (i := i) (s := ds) (by omega)
            have hs : ∀ k9, k9 < 3 → (updI (updI (updI (fun k9 => limv ds k9 i) 0 (P i)) 2 ((dQ ds i) - 1)) 1 ((dW ds i) + (100 - (dW ds i)))) k9 = limv (turn1 P i ds) k9 i := fun k9 h9 => by
              rcases (show k9 = 0 ∨ k9 = 1 ∨ k9 = 2 by omega) with rfl | rfl | rfl
              · exact (show (updI (updI (updI (fun k9 => limv ds k9 i) 0 (P i)) 2 ((dQ ds i) - 1)) 1 ((dW ds i) + (100 - (dW ds i)))) 0 = (P i) from (updI_n _ _ (by decide)).trans ((updI_n _ _ (by decide)).trans (updI_s _ _ _))).trans (by rw [hL.1] <;> (omega))
              · exact (show (updI (updI (updI (fun k9 => limv ds k9 i) 0 (P i)) 2 ((dQ ds i) - 1)) 1 ((dW ds i) + (100 - (dW ds i)))) 1 = ((dW ds i) + (100 - (dW ds i))) from updI_s _ _ _).trans (by rw [hL.2.1] <;> (unfold wearBT wearMore; split <;> omega))
              · exact (show (updI (updI (updI (fun k9 => limv ds k9 i) 0 (P i)) 2 ((dQ ds i) - 1)) 1 ((dW ds i) + (100 - (dW ds i)))) 2 = ((dQ ds i) - 1) from (updI_n _ _ (by decide)).trans (updI_s _ _ _)).trans (by rw [hL.2.2] <;> (omega))
            have hP := wP_say 0 (fun k9 => limv (turn1 P i ds) k9 i) hP rfl hs
            have hD := wD_say 0 (.inl (G 0, 3, .inl (fun y9 => iv (limv (turn1 P i ds) y9 i)))) hD rfl
            have hP : va_P D vwCl (wjt G a (turn1 P i ds) i) _ := hP
            have hD : va_D A (wjt G a (turn1 P i ds) i) := hD
            exact e_int hx hb hr hlk dX3_turn_89 hS hP hD (by omega) (by omega) (⟨⟨_, rfl⟩, rfl⟩)
      · skip
        refine lv_iload_n hx hb dX3_turn_37 rfl (lv_at hl 0 rfl) ?_
        refine lv_bipush (v := iv 10) hx hb dX3_turn_38 (by decide) ?_
        refine r_div hx hb dX3_turn_40 (by omega) (by omega) ?_
        refine r_const hx hb dX3_turn_41 ?_
        refine r_add hx hb dX3_turn_42 ?_
        refine r_goto hx hb 50 dX3_turn_43 (by decide) ?_
        refine lv_istore_n (lv' := [(3, .int (iv ((((dA ds i) - (P i)) / 10) + 1))), (2, .int (iv ((dA ds i) - (P i)))), (0, .ref (a (4 + i))), (1, .int (iv (P i)))]) hx hb dX3_turn_50 rfl hl (by decide) rfl (fun ls hl => ?_)
        refine lv_aload_n hx hb dX3_turn_51 rfl (lv_at hl 2 rfl) ?_
        refine r_const hx hb dX3_turn_52 ?_
        refine r_iald (F := updI (fun k9 => limv ds k9 i) 0 (P i)) hx hb hK hP 0 0 rfl rfl 2 (by omega) (by omega) (by omega) dX3_turn_53 ?_
        rw [show (updI (fun k9 => limv ds k9 i) 0 (P i)) 2 = dQ ds i from updI_n _ _ (by decide)]
        refine r_if_le hx hb 64 dX3_turn_54 (by decide) (by omega) (fun c_54 => ?_) (fun c_54 => ?_)
        · skip
          refine lv_aload_n hx hb dX3_turn_64 rfl (lv_at hl 2 rfl) ?_
          refine r_const hx hb dX3_turn_65 ?_
          refine r_iald (F := updI (fun k9 => limv ds k9 i) 0 (P i)) hx hb hK hP 0 0 rfl rfl 1 (by omega) (by omega) (by omega) dX3_turn_66 ?_
          rw [show (updI (fun k9 => limv ds k9 i) 0 (P i)) 1 = dW ds i from updI_n _ _ (by decide)]
          refine lv_iload_n hx hb dX3_turn_67 rfl (lv_at hl 0 rfl) ?_
          refine r_add hx hb dX3_turn_68 ?_
          refine lv_bipush (v := iv 100) hx hb dX3_turn_69 (by decide) ?_
          refine r_icmp_le hx hb 81 dX3_turn_71 (by decide) (by omega) (by omega) (fun c_71 => ?_) (fun c_71 => ?_)
          · skip
            refine lv_aload_n hx hb dX3_turn_81 rfl (lv_at hl 2 rfl) ?_
            refine r_const hx hb dX3_turn_82 ?_
            refine lv_dup2_11 hx hb dX3_turn_83 rfl rfl ?_
            refine r_iald (F := updI (fun k9 => limv ds k9 i) 0 (P i)) hx hb hK hP 0 0 rfl rfl 1 (by omega) (by omega) (by omega) dX3_turn_84 ?_
            rw [show (updI (fun k9 => limv ds k9 i) 0 (P i)) 1 = dW ds i from updI_n _ _ (by decide)]
            refine lv_iload_n hx hb dX3_turn_85 rfl (lv_at hl 0 rfl) ?_
            refine r_add hx hb dX3_turn_86 ?_
            refine r_iast (F := updI (fun k9 => limv ds k9 i) 0 (P i)) hx hb hK hP hD hS 0 0 rfl rfl 1 (by omega) (by omega) (by omega) dX3_turn_87 (fun H locs hP hD hS => ?_)
            have hP : va_P D vwCl ([(a (4 + i), .inl (G 0, 3, .inl (fun y9 => iv (updI (updI (fun k9 => limv ds k9 i) 0 (P i)) 1 ((dW ds i) + ((((dA ds i) - (P i)) / 10) + 1)) y9))))]) _ := hP
            have hD : va_D A ([(a (4 + i), .inl (G 0, 3, .inl (fun y9 => iv (updI (updI (fun k9 => limv ds k9 i) 0 (P i)) 1 ((dW ds i) + ((((dA ds i) - (P i)) / 10) + 1)) y9))))]) := hD
            refine lv_iload_n hx hb dX3_turn_88 rfl (lv_at hl 0 rfl) ?_
            have hL := turn1_lim (P := P) (i := i) (s := ds) (by omega)
            have hs : ∀ k9, k9 < 3 → (updI (updI (fun k9 => limv ds k9 i) 0 (P i)) 1 ((dW ds i) + ((((dA ds i) - (P i)) / 10) + 1))) k9 = limv (turn1 P i ds) k9 i := fun k9 h9 => by
              rcases (show k9 = 0 ∨ k9 = 1 ∨ k9 = 2 by omega) with rfl | rfl | rfl
              · exact (show (updI (updI (fun k9 => limv ds k9 i) 0 (P i)) 1 ((dW ds i) + ((((dA ds i) - (P i)) / 10) + 1))) 0 = (P i) from (updI_n _ _ (by decide)).trans (updI_s _ _ _)).trans (by rw [hL.1] <;> (omega))
              · exact (show (updI (updI (fun k9 => limv ds k9 i) 0 (P i)) 1 ((dW ds i) + ((((dA ds i) - (P i)) / 10) + 1))) 1 = ((dW ds i) + ((((dA ds i) - (P i)) / 10) + 1)) from updI_s _ _ _).trans (by rw [hL.2.1] <;> (unfold wearBT wearMore; split <;> omega))
              · exact (show (updI (updI (fun k9 => limv ds k9 i) 0 (P i)) 1 ((dW ds i) + ((((dA ds i) - (P i)) / 10) + 1))) 2 = dQ ds i from (updI_n _ _ (by decide)).trans (updI_n _ _ (by decide))).trans (by rw [hL.2.2] <;> (omega))
            have hP := wP_say 0 (fun k9 => limv (turn1 P i ds) k9 i) hP rfl hs
            have hD := wD_say 0 (.inl (G 0, 3, .inl (fun y9 => iv (limv (turn1 P i ds) y9 i)))) hD rfl
            have hP : va_P D vwCl (wjt G a (turn1 P i ds) i) _ := hP
            have hD : va_D A (wjt G a (turn1 P i ds) i) := hD
            exact e_int hx hb hr hlk dX3_turn_89 hS hP hD (by omega) (by omega) (⟨⟨_, rfl⟩, rfl⟩)
          · skip
            refine lv_bipush (v := iv 100) hx hb dX3_turn_74 (by decide) ?_
            refine lv_aload_n hx hb dX3_turn_76 rfl (lv_at hl 2 rfl) ?_
            refine r_const hx hb dX3_turn_77 ?_
            refine r_iald (F := updI (fun k9 => limv ds k9 i) 0 (P i)) hx hb hK hP 0 0 rfl rfl 1 (by omega) (by omega) (by omega) dX3_turn_78 ?_
            rw [show (updI (fun k9 => limv ds k9 i) 0 (P i)) 1 = dW ds i from updI_n _ _ (by decide)]
            refine r_sub hx hb dX3_turn_79 ?_
            refine lv_istore_n (lv' := [(3, .int (iv (100 - (dW ds i)))), (2, .int (iv ((dA ds i) - (P i)))), (0, .ref (a (4 + i))), (1, .int (iv (P i)))]) hx hb dX3_turn_80 rfl hl (by decide) rfl (fun ls hl => ?_)
            refine lv_aload_n hx hb dX3_turn_81 rfl (lv_at hl 2 rfl) ?_
            refine r_const hx hb dX3_turn_82 ?_
            refine lv_dup2_11 hx hb dX3_turn_83 rfl rfl ?_
            refine r_iald (F := updI (fun k9 => limv ds k9 i) 0 (P i)) hx hb hK hP 0 0 rfl rfl 1 (by omega) (by omega) (by omega) dX3_turn_84 ?_
            rw [show (updI (fun k9 => limv ds k9 i) 0 (P i)) 1 = dW ds i from updI_n _ _ (by decide)]
            refine lv_iload_n hx hb dX3_turn_85 rfl (lv_at hl 0 rfl) ?_
            refine r_add hx hb dX3_turn_86 ?_
            refine r_iast (F := updI (fun k9 => limv ds k9 i) 0 (P i)) hx hb hK hP hD hS 0 0 rfl rfl 1 (by omega) (by omega) (by omega) dX3_turn_87 (fun H locs hP hD hS => ?_)
            have hP : va_P D vwCl ([(a (4 + i), .inl (G 0, 3, .inl (fun y9 => iv (updI (updI (fun k9 => limv ds k9 i) 0 (P i)) 1 ((dW ds i) + (100 - (dW ds i))) y9))))]) _ := hP
            have hD : va_D A ([(a (4 + i), .inl (G 0, 3, .inl (fun y9 => iv (updI (updI (fun k9 => limv ds k9 i) 0 (P i)) 1 ((dW ds i) + (100 - (dW ds i))) y9))))]) := hD
            refine lv_iload_n hx hb dX3_turn_88 rfl (lv_at hl 0 rfl) ?_
            have hL := turn1_lim (P := P) (i := i) (s := ds) (by omega)
            have hs : ∀ k9, k9 < 3 → (updI (updI (fun k9 => limv ds k9 i) 0 (P i)) 1 ((dW ds i) + (100 - (dW ds i)))) k9 = limv (turn1 P i ds) k9 i := fun k9 h9 => by
              rcases (show k9 = 0 ∨ k9 = 1 ∨ k9 = 2 by omega) with rfl | rfl | rfl
              · exact (show (updI (updI (fun k9 => limv ds k9 i) 0 (P i)) 1 ((dW ds i) + (100 - (dW ds i)))) 0 = (P i) from (updI_n _ _ (by decide)).trans (updI_s _ _ _)).trans (by rw [hL.1] <;> (omega))
              · exact (show (updI (updI (fun k9 => limv ds k9 i) 0 (P i)) 1 ((dW ds i) + (100 - (dW ds i)))) 1 = ((dW ds i) + (100 - (dW ds i))) from updI_s _ _ _).trans (by rw [hL.2.1] <;> (unfold wearBT wearMore; split <;> omega))
              · exact (show (updI (updI (fun k9 => limv ds k9 i) 0 (P i)) 1 ((dW ds i) + (100 - (dW ds i)))) 2 = dQ ds i from (updI_n _ _ (by decide)).trans (updI_n _ _ (by decide))).trans (by rw [hL.2.2] <;> (omega))
            have hP := wP_say 0 (fun k9 => limv (turn1 P i ds) k9 i) hP rfl hs
            have hD := wD_say 0 (.inl (G 0, 3, .inl (fun y9 => iv (limv (turn1 P i ds) y9 i)))) hD rfl
            have hP : va_P D vwCl (wjt G a (turn1 P i ds) i) _ := hP
            have hD : va_D A (wjt G a (turn1 P i ds) i) := hD
            exact e_int hx hb hr hlk dX3_turn_89 hS hP hD (by omega) (by omega) (⟨⟨_, rfl⟩, rfl⟩)
        · skip
          refine lv_aload_n hx hb dX3_turn_57 rfl (lv_at hl 2 rfl) ?_
          refine r_const hx hb dX3_turn_58 ?_
          refine lv_dup2_11 hx hb dX3_turn_59 rfl rfl ?_
          refine r_iald (F := updI (fun k9 => limv ds k9 i) 0 (P i)) hx hb hK hP 0 0 rfl rfl 2 (by omega) (by omega) (by omega) dX3_turn_60 ?_
          rw [show (updI (fun k9 => limv ds k9 i) 0 (P i)) 2 = dQ ds i from updI_n _ _ (by decide)]
          refine r_const hx hb dX3_turn_61 ?_
          refine r_sub hx hb dX3_turn_62 ?_
          refine r_iast (F := updI (fun k9 => limv ds k9 i) 0 (P i)) hx hb hK hP hD hS 0 0 rfl rfl 2 (by omega) (by omega) (by omega) dX3_turn_63 (fun H locs hP hD hS => ?_)
          have hP : va_P D vwCl ([(a (4 + i), .inl (G 0, 3, .inl (fun y9 => iv (updI (updI (fun k9 => limv ds k9 i) 0 (P i)) 2 ((dQ ds i) - 1) y9))))]) _ := hP
          have hD : va_D A ([(a (4 + i), .inl (G 0, 3, .inl (fun y9 => iv (updI (updI (fun k9 => limv ds k9 i) 0 (P i)) 2 ((dQ ds i) - 1) y9))))]) := hD
          refine lv_aload_n hx hb dX3_turn_64 rfl (lv_at hl 2 rfl) ?_
          refine r_const hx hb dX3_turn_65 ?_
          refine r_iald (F := updI (updI (fun k9 => limv ds k9 i) 0 (P i)) 2 ((dQ ds i) - 1)) hx hb hK hP 0 0 rfl rfl 1 (by omega) (by omega) (by omega) dX3_turn_66 ?_
          rw [show (updI (updI (fun k9 => limv ds k9 i) 0 (P i)) 2 ((dQ ds i) - 1)) 1 = dW ds i from (updI_n _ _ (by decide)).trans (updI_n _ _ (by decide))]
          refine lv_iload_n hx hb dX3_turn_67 rfl (lv_at hl 0 rfl) ?_
          refine r_add hx hb dX3_turn_68 ?_
          refine lv_bipush (v := iv 100) hx hb dX3_turn_69 (by decide) ?_
          refine r_icmp_le hx hb 81 dX3_turn_71 (by decide) (by omega) (by omega) (fun c_71 => ?_) (fun c_71 => ?_)
          · skip
            refine lv_aload_n hx hb dX3_turn_81 rfl (lv_at hl 2 rfl) ?_
            refine r_const hx hb dX3_turn_82 ?_
            refine lv_dup2_11 hx hb dX3_turn_83 rfl rfl ?_
            refine r_iald (F := updI (updI (fun k9 => limv ds k9 i) 0 (P i)) 2 ((dQ ds i) - 1)) hx hb hK hP 0 0 rfl rfl 1 (by omega) (by omega) (by omega) dX3_turn_84 ?_
            rw [show (updI (updI (fun k9 => limv ds k9 i) 0 (P i)) 2 ((dQ ds i) - 1)) 1 = dW ds i from (updI_n _ _ (by decide)).trans (updI_n _ _ (by decide))]
            refine lv_iload_n hx hb dX3_turn_85 rfl (lv_at hl 0 rfl) ?_
            refine r_add hx hb dX3_turn_86 ?_
            refine r_iast (F := updI (updI (fun k9 => limv ds k9 i) 0 (P i)) 2 ((dQ ds i) - 1)) hx hb hK hP hD hS 0 0 rfl rfl 1 (by omega) (by omega) (by omega) dX3_turn_87 (fun H locs hP hD hS => ?_)
            have hP : va_P D vwCl ([(a (4 + i), .inl (G 0, 3, .inl (fun y9 => iv (updI (updI (updI (fun k9 => limv ds k9 i) 0 (P i)) 2 ((dQ ds i) - 1)) 1 ((dW ds i) + ((((dA ds i) - (P i)) / 10) + 1)) y9))))]) _ := hP
            have hD : va_D A ([(a (4 + i), .inl (G 0, 3, .inl (fun y9 => iv (updI (updI (updI (fun k9 => limv ds k9 i) 0 (P i)) 2 ((dQ ds i) - 1)) 1 ((dW ds i) + ((((dA ds i) - (P i)) / 10) + 1)) y9))))]) := hD
            refine lv_iload_n hx hb dX3_turn_88 rfl (lv_at hl 0 rfl) ?_
            have hL := turn1_lim (P := P) (i := i) (s := ds) (by omega)
            have hs : ∀ k9, k9 < 3 → (updI (updI (updI (fun k9 => limv ds k9 i) 0 (P i)) 2 ((dQ ds i) - 1)) 1 ((dW ds i) + ((((dA ds i) - (P i)) / 10) + 1))) k9 = limv (turn1 P i ds) k9 i := fun k9 h9 => by
              rcases (show k9 = 0 ∨ k9 = 1 ∨ k9 = 2 by omega) with rfl | rfl | rfl
              · exact (show (updI (updI (updI (fun k9 => limv ds k9 i) 0 (P i)) 2 ((dQ ds i) - 1)) 1 ((dW ds i) + ((((dA ds i) - (P i)) / 10) + 1))) 0 = (P i) from (updI_n _ _ (by decide)).trans ((updI_n _ _ (by decide)).trans (updI_s _ _ _))).trans (by rw [hL.1] <;> (omega))
              · exact (show (updI (updI (updI (fun k9 => limv ds k9 i) 0 (P i)) 2 ((dQ ds i) - 1)) 1 ((dW ds i) + ((((dA ds i) - (P i)) / 10) + 1))) 1 = ((dW ds i) + ((((dA ds i) - (P i)) / 10) + 1)) from updI_s _ _ _).trans (by rw [hL.2.1] <;> (unfold wearBT wearMore; split <;> omega))
              · exact (show (updI (updI (updI (fun k9 => limv ds k9 i) 0 (P i)) 2 ((dQ ds i) - 1)) 1 ((dW ds i) + ((((dA ds i) - (P i)) / 10) + 1))) 2 = ((dQ ds i) - 1) from (updI_n _ _ (by decide)).trans (updI_s _ _ _)).trans (by rw [hL.2.2] <;> (omega))
            have hP := wP_say 0 (fun k9 => limv (turn1 P i ds) k9 i) hP rfl hs
            have hD := wD_say 0 (.inl (G 0, 3, .inl (fun y9 => iv (limv (turn1 P i ds) y9 i)))) hD rfl
            have hP : va_P D vwCl (wjt G a (turn1 P i ds) i) _ := hP
            have hD : va_D A (wjt G a (turn1 P i ds) i) := hD
            exact e_int hx hb hr hlk dX3_turn_89 hS hP hD (by omega) (by omega) (⟨⟨_, rfl⟩, rfl⟩)
          · skip
            refine lv_bipush (v := iv 100) hx hb dX3_turn_74 (by decide) ?_
            refine lv_aload_n hx hb dX3_turn_76 rfl (lv_at hl 2 rfl) ?_
            refine r_const hx hb dX3_turn_77 ?_
            refine r_iald (F := updI (updI (fun k9 => limv ds k9 i) 0 (P i)) 2 ((dQ ds i) - 1)) hx hb hK hP 0 0 rfl rfl 1 (by omega) (by omega) (by omega) dX3_turn_78 ?_
            rw [show (updI (updI (fun k9 => limv ds k9 i) 0 (P i)) 2 ((dQ ds i) - 1)) 1 = dW ds i from (updI_n _ _ (by decide)).trans (updI_n _ _ (by decide))]
            refine r_sub hx hb dX3_turn_79 ?_
            refine lv_istore_n (lv' := [(3, .int (iv (100 - (dW ds i)))), (2, .int (iv ((dA ds i) - (P i)))), (0, .ref (a (4 + i))), (1, .int (iv (P i)))]) hx hb dX3_turn_80 rfl hl (by decide) rfl (fun ls hl => ?_)
            refine lv_aload_n hx hb dX3_turn_81 rfl (lv_at hl 2 rfl) ?_
            refine r_const hx hb dX3_turn_82 ?_
            refine lv_dup2_11 hx hb dX3_turn_83 rfl rfl ?_
            refine r_iald (F := updI (updI (fun k9 => limv ds k9 i) 0 (P i)) 2 ((dQ ds i) - 1)) hx hb hK hP 0 0 rfl rfl 1 (by omega) (by omega) (by omega) dX3_turn_84 ?_
            rw [show (updI (updI (fun k9 => limv ds k9 i) 0 (P i)) 2 ((dQ ds i) - 1)) 1 = dW ds i from (updI_n _ _ (by decide)).trans (updI_n _ _ (by decide))]
            refine lv_iload_n hx hb dX3_turn_85 rfl (lv_at hl 0 rfl) ?_
            refine r_add hx hb dX3_turn_86 ?_
            refine r_iast (F := updI (updI (fun k9 => limv ds k9 i) 0 (P i)) 2 ((dQ ds i) - 1)) hx hb hK hP hD hS 0 0 rfl rfl 1 (by omega) (by omega) (by omega) dX3_turn_87 (fun H locs hP hD hS => ?_)
            have hP : va_P D vwCl ([(a (4 + i), .inl (G 0, 3, .inl (fun y9 => iv (updI (updI (updI (fun k9 => limv ds k9 i) 0 (P i)) 2 ((dQ ds i) - 1)) 1 ((dW ds i) + (100 - (dW ds i))) y9))))]) _ := hP
            have hD : va_D A ([(a (4 + i), .inl (G 0, 3, .inl (fun y9 => iv (updI (updI (updI (fun k9 => limv ds k9 i) 0 (P i)) 2 ((dQ ds i) - 1)) 1 ((dW ds i) + (100 - (dW ds i))) y9))))]) := hD
            refine lv_iload_n hx hb dX3_turn_88 rfl (lv_at hl 0 rfl) ?_
            have hL := turn1_lim (P := P) (i := i) (s := ds) (by omega)
            have hs : ∀ k9, k9 < 3 → (updI (updI (updI (fun k9 => limv ds k9 i) 0 (P i)) 2 ((dQ ds i) - 1)) 1 ((dW ds i) + (100 - (dW ds i)))) k9 = limv (turn1 P i ds) k9 i := fun k9 h9 => by
              rcases (show k9 = 0 ∨ k9 = 1 ∨ k9 = 2 by omega) with rfl | rfl | rfl
              · exact (show (updI (updI (updI (fun k9 => limv ds k9 i) 0 (P i)) 2 ((dQ ds i) - 1)) 1 ((dW ds i) + (100 - (dW ds i)))) 0 = (P i) from (updI_n _ _ (by decide)).trans ((updI_n _ _ (by decide)).trans (updI_s _ _ _))).trans (by rw [hL.1] <;> (omega))
              · exact (show (updI (updI (updI (fun k9 => limv ds k9 i) 0 (P i)) 2 ((dQ ds i) - 1)) 1 ((dW ds i) + (100 - (dW ds i)))) 1 = ((dW ds i) + (100 - (dW ds i))) from updI_s _ _ _).trans (by rw [hL.2.1] <;> (unfold wearBT wearMore; split <;> omega))
              · exact (show (updI (updI (updI (fun k9 => limv ds k9 i) 0 (P i)) 2 ((dQ ds i) - 1)) 1 ((dW ds i) + (100 - (dW ds i)))) 2 = ((dQ ds i) - 1) from (updI_n _ _ (by decide)).trans (updI_s _ _ _)).trans (by rw [hL.2.2] <;> (omega))
            have hP := wP_say 0 (fun k9 => limv (turn1 P i ds) k9 i) hP rfl hs
            have hD := wD_say 0 (.inl (G 0, 3, .inl (fun y9 => iv (limv (turn1 P i ds) y9 i)))) hD rfl
            have hP : va_P D vwCl (wjt G a (turn1 P i ds) i) _ := hP
            have hD : va_D A (wjt G a (turn1 P i ds) i) := hD
            exact e_int hx hb hr hlk dX3_turn_89 hS hP hD (by omega) (by omega) (⟨⟨_, rfl⟩, rfl⟩)
    · skip
      refine r_const hx hb dX3_turn_29 ?_
      have hd9 : dA ds i = P i := by omega
      have hL := turn1_lim0 (P := P) (i := i) (s := ds) hd9
      have hs : ∀ k9, k9 < 3 → (updI (fun k9 => limv ds k9 i) 0 (P i)) k9 = limv (turn1 P i ds) k9 i := fun k9 h9 => by
        rcases (show k9 = 0 ∨ k9 = 1 ∨ k9 = 2 by omega) with rfl | rfl | rfl
        · exact (show (updI (fun k9 => limv ds k9 i) 0 (P i)) 0 = (P i) from updI_s _ _ _).trans (by rw [hL.1] <;> (omega))
        · exact (show (updI (fun k9 => limv ds k9 i) 0 (P i)) 1 = dW ds i from updI_n _ _ (by decide)).trans (by rw [hL.2.1] <;> (omega))
        · exact (show (updI (fun k9 => limv ds k9 i) 0 (P i)) 2 = dQ ds i from updI_n _ _ (by decide)).trans (by rw [hL.2.2] <;> (omega))
      have hP := wP_say 0 (fun k9 => limv (turn1 P i ds) k9 i) hP rfl hs
      have hD := wD_say 0 (.inl (G 0, 3, .inl (fun y9 => iv (limv (turn1 P i ds) y9 i)))) hD rfl
      have hP : va_P D vwCl (wjt G a (turn1 P i ds) i) _ := hP
      have hD : va_D A (wjt G a (turn1 P i ds) i) := hD
      exact e_int hx hb hr hlk dX3_turn_30 hS hP hD (by omega) (by omega) (⟨⟨_, rfl⟩, rfl⟩)
  · skip
    refine lv_iload_n hx hb dX3_turn_7 rfl (lv_at hl 1 rfl) ?_
    refine lv_aload_n hx hb dX3_turn_8 rfl (lv_at hl 0 rfl) ?_
    refine r_const hx hb dX3_turn_9 ?_
    refine r_iald (F := (fun k9 => limv ds k9 i)) hx hb hK hP 0 0 rfl rfl 0 (by omega) (by omega) (by omega) dX3_turn_10 ?_
    rw [show limv ds 0 i = dA ds i from rfl]
    refine r_sub hx hb dX3_turn_11 ?_
    refine r_goto hx hb 20 dX3_turn_12 (by decide) ?_
    refine lv_istore_n (lv' := [(2, .int (iv ((P i) - (dA ds i)))), (0, .ref (a (4 + i))), (1, .int (iv (P i)))]) hx hb dX3_turn_20 rfl hl (by decide) rfl (fun ls hl => ?_)
    refine lv_aload_n hx hb dX3_turn_21 rfl (lv_at hl 1 rfl) ?_
    refine r_const hx hb dX3_turn_22 ?_
    refine lv_iload_n hx hb dX3_turn_23 rfl (lv_at hl 2 rfl) ?_
    refine r_iast (F := (fun k9 => limv ds k9 i)) hx hb hK hP hD hS 0 0 rfl rfl 0 (by omega) (by omega) (by omega) dX3_turn_24 (fun H locs hP hD hS => ?_)
    have hP : va_P D vwCl ([(a (4 + i), .inl (G 0, 3, .inl (fun y9 => iv (updI (fun k9 => limv ds k9 i) 0 (P i) y9))))]) _ := hP
    have hD : va_D A ([(a (4 + i), .inl (G 0, 3, .inl (fun y9 => iv (updI (fun k9 => limv ds k9 i) 0 (P i) y9))))]) := hD
    refine lv_iload_n hx hb dX3_turn_25 rfl (lv_at hl 0 rfl) ?_
    refine r_if_ne hx hb 31 dX3_turn_26 (by decide) (by omega) (fun c_26 => ?_) (fun c_26 => ?_)
    · skip
      refine lv_aload_n hx hb dX3_turn_31 rfl (lv_at hl 1 rfl) ?_
      refine r_const hx hb dX3_turn_32 ?_
      refine r_iald (F := updI (fun k9 => limv ds k9 i) 0 (P i)) hx hb hK hP 0 0 rfl rfl 2 (by omega) (by omega) (by omega) dX3_turn_33 ?_
      rw [show (updI (fun k9 => limv ds k9 i) 0 (P i)) 2 = dQ ds i from updI_n _ _ (by decide)]
      refine r_if_ne hx hb 46 dX3_turn_34 (by decide) (by omega) (fun c_34 => ?_) (fun c_34 => ?_)
      · skip
        refine lv_iload_n hx hb dX3_turn_46 rfl (lv_at hl 0 rfl) ?_
        refine lv_bipush (v := iv 20) hx hb dX3_turn_47 (by decide) ?_
        refine r_div hx hb dX3_turn_49 (by omega) (by omega) ?_
        refine lv_istore_n (lv' := [(3, .int (iv (((P i) - (dA ds i)) / 20))), (2, .int (iv ((P i) - (dA ds i)))), (0, .ref (a (4 + i))), (1, .int (iv (P i)))]) hx hb dX3_turn_50 rfl hl (by decide) rfl (fun ls hl => ?_)
        refine lv_aload_n hx hb dX3_turn_51 rfl (lv_at hl 2 rfl) ?_
        refine r_const hx hb dX3_turn_52 ?_
        refine r_iald (F := updI (fun k9 => limv ds k9 i) 0 (P i)) hx hb hK hP 0 0 rfl rfl 2 (by omega) (by omega) (by omega) dX3_turn_53 ?_
        rw [show (updI (fun k9 => limv ds k9 i) 0 (P i)) 2 = dQ ds i from updI_n _ _ (by decide)]
        refine r_if_le hx hb 64 dX3_turn_54 (by decide) (by omega) (fun c_54 => ?_) (fun c_54 => ?_)
        · skip
          refine lv_aload_n hx hb dX3_turn_64 rfl (lv_at hl 2 rfl) ?_
          refine r_const hx hb dX3_turn_65 ?_
          refine r_iald (F := updI (fun k9 => limv ds k9 i) 0 (P i)) hx hb hK hP 0 0 rfl rfl 1 (by omega) (by omega) (by omega) dX3_turn_66 ?_
          rw [show (updI (fun k9 => limv ds k9 i) 0 (P i)) 1 = dW ds i from updI_n _ _ (by decide)]
          refine lv_iload_n hx hb dX3_turn_67 rfl (lv_at hl 0 rfl) ?_
          refine r_add hx hb dX3_turn_68 ?_
          refine lv_bipush (v := iv 100) hx hb dX3_turn_69 (by decide) ?_
          refine r_icmp_le hx hb 81 dX3_turn_71 (by decide) (by omega) (by omega) (fun c_71 => ?_) (fun c_71 => ?_)
          · skip
            refine lv_aload_n hx hb dX3_turn_81 rfl (lv_at hl 2 rfl) ?_
            refine r_const hx hb dX3_turn_82 ?_
            refine lv_dup2_11 hx hb dX3_turn_83 rfl rfl ?_
            refine r_iald (F := updI (fun k9 => limv ds k9 i) 0 (P i)) hx hb hK hP 0 0 rfl rfl 1 (by omega) (by omega) (by omega) dX3_turn_84 ?_
            rw [show (updI (fun k9 => limv ds k9 i) 0 (P i)) 1 = dW ds i from updI_n _ _ (by decide)]
            refine lv_iload_n hx hb dX3_turn_85 rfl (lv_at hl 0 rfl) ?_
            refine r_add hx hb dX3_turn_86 ?_
            refine r_iast (F := updI (fun k9 => limv ds k9 i) 0 (P i)) hx hb hK hP hD hS 0 0 rfl rfl 1 (by omega) (by omega) (by omega) dX3_turn_87 (fun H locs hP hD hS => ?_)
            have hP : va_P D vwCl ([(a (4 + i), .inl (G 0, 3, .inl (fun y9 => iv (updI (updI (fun k9 => limv ds k9 i) 0 (P i)) 1 ((dW ds i) + (((P i) - (dA ds i)) / 20)) y9))))]) _ := hP
            have hD : va_D A ([(a (4 + i), .inl (G 0, 3, .inl (fun y9 => iv (updI (updI (fun k9 => limv ds k9 i) 0 (P i)) 1 ((dW ds i) + (((P i) - (dA ds i)) / 20)) y9))))]) := hD
            refine lv_iload_n hx hb dX3_turn_88 rfl (lv_at hl 0 rfl) ?_
            have hL := turn1_lim (P := P) (i := i) (s := ds) (by omega)
            have hs : ∀ k9, k9 < 3 → (updI (updI (fun k9 => limv ds k9 i) 0 (P i)) 1 ((dW ds i) + (((P i) - (dA ds i)) / 20))) k9 = limv (turn1 P i ds) k9 i := fun k9 h9 => by
              rcases (show k9 = 0 ∨ k9 = 1 ∨ k9 = 2 by omega) with rfl | rfl | rfl
              · exact (show (updI (updI (fun k9 => limv ds k9 i) 0 (P i)) 1 ((dW ds i) + (((P i) - (dA ds i)) / 20))) 0 = (P i) from (updI_n _ _ (by decide)).trans (updI_s _ _ _)).trans (by rw [hL.1] <;> (omega))
              · exact (show (updI (updI (fun k9 => limv ds k9 i) 0 (P i)) 1 ((dW ds i) + (((P i) - (dA ds i)) / 20))) 1 = ((dW ds i) + (((P i) - (dA ds i)) / 20)) from updI_s _ _ _).trans (by rw [hL.2.1] <;> (unfold wearBT wearMore; split <;> omega))
              · exact (show (updI (updI (fun k9 => limv ds k9 i) 0 (P i)) 1 ((dW ds i) + (((P i) - (dA ds i)) / 20))) 2 = dQ ds i from (updI_n _ _ (by decide)).trans (updI_n _ _ (by decide))).trans (by rw [hL.2.2] <;> (omega))
            have hP := wP_say 0 (fun k9 => limv (turn1 P i ds) k9 i) hP rfl hs
            have hD := wD_say 0 (.inl (G 0, 3, .inl (fun y9 => iv (limv (turn1 P i ds) y9 i)))) hD rfl
            have hP : va_P D vwCl (wjt G a (turn1 P i ds) i) _ := hP
            have hD : va_D A (wjt G a (turn1 P i ds) i) := hD
            exact e_int hx hb hr hlk dX3_turn_89 hS hP hD (by omega) (by omega) (⟨⟨_, rfl⟩, rfl⟩)
          · skip
            refine lv_bipush (v := iv 100) hx hb dX3_turn_74 (by decide) ?_
            refine lv_aload_n hx hb dX3_turn_76 rfl (lv_at hl 2 rfl) ?_
            refine r_const hx hb dX3_turn_77 ?_
            refine r_iald (F := updI (fun k9 => limv ds k9 i) 0 (P i)) hx hb hK hP 0 0 rfl rfl 1 (by omega) (by omega) (by omega) dX3_turn_78 ?_
            rw [show (updI (fun k9 => limv ds k9 i) 0 (P i)) 1 = dW ds i from updI_n _ _ (by decide)]
            refine r_sub hx hb dX3_turn_79 ?_
            refine lv_istore_n (lv' := [(3, .int (iv (100 - (dW ds i)))), (2, .int (iv ((P i) - (dA ds i)))), (0, .ref (a (4 + i))), (1, .int (iv (P i)))]) hx hb dX3_turn_80 rfl hl (by decide) rfl (fun ls hl => ?_)
            refine lv_aload_n hx hb dX3_turn_81 rfl (lv_at hl 2 rfl) ?_
            refine r_const hx hb dX3_turn_82 ?_
            refine lv_dup2_11 hx hb dX3_turn_83 rfl rfl ?_
            refine r_iald (F := updI (fun k9 => limv ds k9 i) 0 (P i)) hx hb hK hP 0 0 rfl rfl 1 (by omega) (by omega) (by omega) dX3_turn_84 ?_
            rw [show (updI (fun k9 => limv ds k9 i) 0 (P i)) 1 = dW ds i from updI_n _ _ (by decide)]
            refine lv_iload_n hx hb dX3_turn_85 rfl (lv_at hl 0 rfl) ?_
            refine r_add hx hb dX3_turn_86 ?_
            refine r_iast (F := updI (fun k9 => limv ds k9 i) 0 (P i)) hx hb hK hP hD hS 0 0 rfl rfl 1 (by omega) (by omega) (by omega) dX3_turn_87 (fun H locs hP hD hS => ?_)
            have hP : va_P D vwCl ([(a (4 + i), .inl (G 0, 3, .inl (fun y9 => iv (updI (updI (fun k9 => limv ds k9 i) 0 (P i)) 1 ((dW ds i) + (100 - (dW ds i))) y9))))]) _ := hP
            have hD : va_D A ([(a (4 + i), .inl (G 0, 3, .inl (fun y9 => iv (updI (updI (fun k9 => limv ds k9 i) 0 (P i)) 1 ((dW ds i) + (100 - (dW ds i))) y9))))]) := hD
            refine lv_iload_n hx hb dX3_turn_88 rfl (lv_at hl 0 rfl) ?_
            have hL := turn1_lim (P := P) (i := i) (s := ds) (by omega)
            have hs : ∀ k9, k9 < 3 → (updI (updI (fun k9 => limv ds k9 i) 0 (P i)) 1 ((dW ds i) + (100 - (dW ds i)))) k9 = limv (turn1 P i ds) k9 i := fun k9 h9 => by
              rcases (show k9 = 0 ∨ k9 = 1 ∨ k9 = 2 by omega) with rfl | rfl | rfl
              · exact (show (updI (updI (fun k9 => limv ds k9 i) 0 (P i)) 1 ((dW ds i) + (100 - (dW ds i)))) 0 = (P i) from (updI_n _ _ (by decide)).trans (updI_s _ _ _)).trans (by rw [hL.1] <;> (omega))
              · exact (show (updI (updI (fun k9 => limv ds k9 i) 0 (P i)) 1 ((dW ds i) + (100 - (dW ds i)))) 1 = ((dW ds i) + (100 - (dW ds i))) from updI_s _ _ _).trans (by rw [hL.2.1] <;> (unfold wearBT wearMore; split <;> omega))
              · exact (show (updI (updI (fun k9 => limv ds k9 i) 0 (P i)) 1 ((dW ds i) + (100 - (dW ds i)))) 2 = dQ ds i from (updI_n _ _ (by decide)).trans (updI_n _ _ (by decide))).trans (by rw [hL.2.2] <;> (omega))
            have hP := wP_say 0 (fun k9 => limv (turn1 P i ds) k9 i) hP rfl hs
            have hD := wD_say 0 (.inl (G 0, 3, .inl (fun y9 => iv (limv (turn1 P i ds) y9 i)))) hD rfl
            have hP : va_P D vwCl (wjt G a (turn1 P i ds) i) _ := hP
            have hD : va_D A (wjt G a (turn1 P i ds) i) := hD
            exact e_int hx hb hr hlk dX3_turn_89 hS hP hD (by omega) (by omega) (⟨⟨_, rfl⟩, rfl⟩)
        · skip
          refine lv_aload_n hx hb dX3_turn_57 rfl (lv_at hl 2 rfl) ?_
          refine r_const hx hb dX3_turn_58 ?_
          refine lv_dup2_11 hx hb dX3_turn_59 rfl rfl ?_
          refine r_iald (F := updI (fun k9 => limv ds k9 i) 0 (P i)) hx hb hK hP 0 0 rfl rfl 2 (by omega) (by omega) (by omega) dX3_turn_60 ?_
          rw [show (updI (fun k9 => limv ds k9 i) 0 (P i)) 2 = dQ ds i from updI_n _ _ (by decide)]
          refine r_const hx hb dX3_turn_61 ?_
          refine r_sub hx hb dX3_turn_62 ?_
          refine r_iast (F := updI (fun k9 => limv ds k9 i) 0 (P i)) hx hb hK hP hD hS 0 0 rfl rfl 2 (by omega) (by omega) (by omega) dX3_turn_63 (fun H locs hP hD hS => ?_)
          have hP : va_P D vwCl ([(a (4 + i), .inl (G 0, 3, .inl (fun y9 => iv (updI (updI (fun k9 => limv ds k9 i) 0 (P i)) 2 ((dQ ds i) - 1) y9))))]) _ := hP
          have hD : va_D A ([(a (4 + i), .inl (G 0, 3, .inl (fun y9 => iv (updI (updI (fun k9 => limv ds k9 i) 0 (P i)) 2 ((dQ ds i) - 1) y9))))]) := hD
          refine lv_aload_n hx hb dX3_turn_64 rfl (lv_at hl 2 rfl) ?_
          refine r_const hx hb dX3_turn_65 ?_
          refine r_iald (F := updI (updI (fun k9 => limv ds k9 i) 0 (P i)) 2 ((dQ ds i) - 1)) hx hb hK hP 0 0 rfl rfl 1 (by omega) (by omega) (by omega) dX3_turn_66 ?_
          rw [show (updI (updI (fun k9 => limv ds k9 i) 0 (P i)) 2 ((dQ ds i) - 1)) 1 = dW ds i from (updI_n _ _ (by decide)).trans (updI_n _ _ (by decide))]
          refine lv_iload_n hx hb dX3_turn_67 rfl (lv_at hl 0 rfl) ?_
          refine r_add hx hb dX3_turn_68 ?_
          refine lv_bipush (v := iv 100) hx hb dX3_turn_69 (by decide) ?_
          refine r_icmp_le hx hb 81 dX3_turn_71 (by decide) (by omega) (by omega) (fun c_71 => ?_) (fun c_71 => ?_)
          · skip
            refine lv_aload_n hx hb dX3_turn_81 rfl (lv_at hl 2 rfl) ?_
            refine r_const hx hb dX3_turn_82 ?_
            refine lv_dup2_11 hx hb dX3_turn_83 rfl rfl ?_
            refine r_iald (F := updI (updI (fun k9 => limv ds k9 i) 0 (P i)) 2 ((dQ ds i) - 1)) hx hb hK hP 0 0 rfl rfl 1 (by omega) (by omega) (by omega) dX3_turn_84 ?_
            rw [show (updI (updI (fun k9 => limv ds k9 i) 0 (P i)) 2 ((dQ ds i) - 1)) 1 = dW ds i from (updI_n _ _ (by decide)).trans (updI_n _ _ (by decide))]
            refine lv_iload_n hx hb dX3_turn_85 rfl (lv_at hl 0 rfl) ?_
            refine r_add hx hb dX3_turn_86 ?_
            refine r_iast (F := updI (updI (fun k9 => limv ds k9 i) 0 (P i)) 2 ((dQ ds i) - 1)) hx hb hK hP hD hS 0 0 rfl rfl 1 (by omega) (by omega) (by omega) dX3_turn_87 (fun H locs hP hD hS => ?_)
            have hP : va_P D vwCl ([(a (4 + i), .inl (G 0, 3, .inl (fun y9 => iv (updI (updI (updI (fun k9 => limv ds k9 i) 0 (P i)) 2 ((dQ ds i) - 1)) 1 ((dW ds i) + (((P i) - (dA ds i)) / 20)) y9))))]) _ := hP
            have hD : va_D A ([(a (4 + i), .inl (G 0, 3, .inl (fun y9 => iv (updI (updI (updI (fun k9 => limv ds k9 i) 0 (P i)) 2 ((dQ ds i) - 1)) 1 ((dW ds i) + (((P i) - (dA ds i)) / 20)) y9))))]) := hD
            refine lv_iload_n hx hb dX3_turn_88 rfl (lv_at hl 0 rfl) ?_
            have hL := turn1_lim (P := P) (i := i) (s := ds) (by omega)
            have hs : ∀ k9, k9 < 3 → (updI (updI (updI (fun k9 => limv ds k9 i) 0 (P i)) 2 ((dQ ds i) - 1)) 1 ((dW ds i) + (((P i) - (dA ds i)) / 20))) k9 = limv (turn1 P i ds) k9 i := fun k9 h9 => by
              rcases (show k9 = 0 ∨ k9 = 1 ∨ k9 = 2 by omega) with rfl | rfl | rfl
              · exact (show (updI (updI (updI (fun k9 => limv ds k9 i) 0 (P i)) 2 ((dQ ds i) - 1)) 1 ((dW ds i) + (((P i) - (dA ds i)) / 20))) 0 = (P i) from (updI_n _ _ (by decide)).trans ((updI_n _ _ (by decide)).trans (updI_s _ _ _))).trans (by rw [hL.1] <;> (omega))
              · exact (show (updI (updI (updI (fun k9 => limv ds k9 i) 0 (P i)) 2 ((dQ ds i) - 1)) 1 ((dW ds i) + (((P i) - (dA ds i)) / 20))) 1 = ((dW ds i) + (((P i) - (dA ds i)) / 20)) from updI_s _ _ _).trans (by rw [hL.2.1] <;> (unfold wearBT wearMore; split <;> omega))
              · exact (show (updI (updI (updI (fun k9 => limv ds k9 i) 0 (P i)) 2 ((dQ ds i) - 1)) 1 ((dW ds i) + (((P i) - (dA ds i)) / 20))) 2 = ((dQ ds i) - 1) from (updI_n _ _ (by decide)).trans (updI_s _ _ _)).trans (by rw [hL.2.2] <;> (omega))
            have hP := wP_say 0 (fun k9 => limv (turn1 P i ds) k9 i) hP rfl hs
            have hD := wD_say 0 (.inl (G 0, 3, .inl (fun y9 => iv (limv (turn1 P i ds) y9 i)))) hD rfl
            have hP : va_P D vwCl (wjt G a (turn1 P i ds) i) _ := hP
            have hD : va_D A (wjt G a (turn1 P i ds) i) := hD
            exact e_int hx hb hr hlk dX3_turn_89 hS hP hD (by omega) (by omega) (⟨⟨_, rfl⟩, rfl⟩)
          · skip
            refine lv_bipush (v := iv 100) hx hb dX3_turn_74 (by decide) ?_
            refine lv_aload_n hx hb dX3_turn_76 rfl (lv_at hl 2 rfl) ?_
            refine r_const hx hb dX3_turn_77 ?_
            refine r_iald (F := updI (updI (fun k9 => limv ds k9 i) 0 (P i)) 2 ((dQ ds i) - 1)) hx hb hK hP 0 0 rfl rfl 1 (by omega) (by omega) (by omega) dX3_turn_78 ?_
            rw [show (updI (updI (fun k9 => limv ds k9 i) 0 (P i)) 2 ((dQ ds i) - 1)) 1 = dW ds i from (updI_n _ _ (by decide)).trans (updI_n _ _ (by decide))]
            refine r_sub hx hb dX3_turn_79 ?_
            refine lv_istore_n (lv' := [(3, .int (iv (100 - (dW ds i)))), (2, .int (iv ((P i) - (dA ds i)))), (0, .ref (a (4 + i))), (1, .int (iv (P i)))]) hx hb dX3_turn_80 rfl hl (by decide) rfl (fun ls hl => ?_)
            refine lv_aload_n hx hb dX3_turn_81 rfl (lv_at hl 2 rfl) ?_
            refine r_const hx hb dX3_turn_82 ?_
            refine lv_dup2_11 hx hb dX3_turn_83 rfl rfl ?_
            refine r_iald (F := updI (updI (fun k9 => limv ds k9 i) 0 (P i)) 2 ((dQ ds i) - 1)) hx hb hK hP 0 0 rfl rfl 1 (by omega) (by omega) (by omega) dX3_turn_84 ?_
            rw [show (updI (updI (fun k9 => limv ds k9 i) 0 (P i)) 2 ((dQ ds i) - 1)) 1 = dW ds i from (updI_n _ _ (by decide)).trans (updI_n _ _ (by decide))]
            refine lv_iload_n hx hb dX3_turn_85 rfl (lv_at hl 0 rfl) ?_
            refine r_add hx hb dX3_turn_86 ?_
            refine r_iast (F := updI (updI (fun k9 => limv ds k9 i) 0 (P i)) 2 ((dQ ds i) - 1)) hx hb hK hP hD hS 0 0 rfl rfl 1 (by omega) (by omega) (by omega) dX3_turn_87 (fun H locs hP hD hS => ?_)
            have hP : va_P D vwCl ([(a (4 + i), .inl (G 0, 3, .inl (fun y9 => iv (updI (updI (updI (fun k9 => limv ds k9 i) 0 (P i)) 2 ((dQ ds i) - 1)) 1 ((dW ds i) + (100 - (dW ds i))) y9))))]) _ := hP
            have hD : va_D A ([(a (4 + i), .inl (G 0, 3, .inl (fun y9 => iv (updI (updI (updI (fun k9 => limv ds k9 i) 0 (P i)) 2 ((dQ ds i) - 1)) 1 ((dW ds i) + (100 - (dW ds i))) y9))))]) := hD
            refine lv_iload_n hx hb dX3_turn_88 rfl (lv_at hl 0 rfl) ?_
            have hL := turn1_lim (P := P) (i := i) (s := ds) (by omega)
            have hs : ∀ k9, k9 < 3 → (updI (updI (updI (fun k9 => limv ds k9 i) 0 (P i)) 2 ((dQ ds i) - 1)) 1 ((dW ds i) + (100 - (dW ds i)))) k9 = limv (turn1 P i ds) k9 i := fun k9 h9 => by
              rcases (show k9 = 0 ∨ k9 = 1 ∨ k9 = 2 by omega) with rfl | rfl | rfl
              · exact (show (updI (updI (updI (fun k9 => limv ds k9 i) 0 (P i)) 2 ((dQ ds i) - 1)) 1 ((dW ds i) + (100 - (dW ds i)))) 0 = (P i) from (updI_n _ _ (by decide)).trans ((updI_n _ _ (by decide)).trans (updI_s _ _ _))).trans (by rw [hL.1] <;> (omega))
              · exact (show (updI (updI (updI (fun k9 => limv ds k9 i) 0 (P i)) 2 ((dQ ds i) - 1)) 1 ((dW ds i) + (100 - (dW ds i)))) 1 = ((dW ds i) + (100 - (dW ds i))) from updI_s _ _ _).trans (by rw [hL.2.1] <;> (unfold wearBT wearMore; split <;> omega))
              · exact (show (updI (updI (updI (fun k9 => limv ds k9 i) 0 (P i)) 2 ((dQ ds i) - 1)) 1 ((dW ds i) + (100 - (dW ds i)))) 2 = ((dQ ds i) - 1) from (updI_n _ _ (by decide)).trans (updI_s _ _ _)).trans (by rw [hL.2.2] <;> (omega))
            have hP := wP_say 0 (fun k9 => limv (turn1 P i ds) k9 i) hP rfl hs
            have hD := wD_say 0 (.inl (G 0, 3, .inl (fun y9 => iv (limv (turn1 P i ds) y9 i)))) hD rfl
            have hP : va_P D vwCl (wjt G a (turn1 P i ds) i) _ := hP
            have hD : va_D A (wjt G a (turn1 P i ds) i) := hD
            exact e_int hx hb hr hlk dX3_turn_89 hS hP hD (by omega) (by omega) (⟨⟨_, rfl⟩, rfl⟩)
      · skip
        refine lv_iload_n hx hb dX3_turn_37 rfl (lv_at hl 0 rfl) ?_
        refine lv_bipush (v := iv 10) hx hb dX3_turn_38 (by decide) ?_
        refine r_div hx hb dX3_turn_40 (by omega) (by omega) ?_
        refine r_const hx hb dX3_turn_41 ?_
        refine r_add hx hb dX3_turn_42 ?_
        refine r_goto hx hb 50 dX3_turn_43 (by decide) ?_
        refine lv_istore_n (lv' := [(3, .int (iv ((((P i) - (dA ds i)) / 10) + 1))), (2, .int (iv ((P i) - (dA ds i)))), (0, .ref (a (4 + i))), (1, .int (iv (P i)))]) hx hb dX3_turn_50 rfl hl (by decide) rfl (fun ls hl => ?_)
        refine lv_aload_n hx hb dX3_turn_51 rfl (lv_at hl 2 rfl) ?_
        refine r_const hx hb dX3_turn_52 ?_
        refine r_iald (F := updI (fun k9 => limv ds k9 i) 0 (P i)) hx hb hK hP 0 0 rfl rfl 2 (by omega) (by omega) (by omega) dX3_turn_53 ?_
        rw [show (updI (fun k9 => limv ds k9 i) 0 (P i)) 2 = dQ ds i from updI_n _ _ (by decide)]
        refine r_if_le hx hb 64 dX3_turn_54 (by decide) (by omega) (fun c_54 => ?_) (fun c_54 => ?_)
        · skip
          refine lv_aload_n hx hb dX3_turn_64 rfl (lv_at hl 2 rfl) ?_
          refine r_const hx hb dX3_turn_65 ?_
          refine r_iald (F := updI (fun k9 => limv ds k9 i) 0 (P i)) hx hb hK hP 0 0 rfl rfl 1 (by omega) (by omega) (by omega) dX3_turn_66 ?_
          rw [show (updI (fun k9 => limv ds k9 i) 0 (P i)) 1 = dW ds i from updI_n _ _ (by decide)]
          refine lv_iload_n hx hb dX3_turn_67 rfl (lv_at hl 0 rfl) ?_
          refine r_add hx hb dX3_turn_68 ?_
          refine lv_bipush (v := iv 100) hx hb dX3_turn_69 (by decide) ?_
          refine r_icmp_le hx hb 81 dX3_turn_71 (by decide) (by omega) (by omega) (fun c_71 => ?_) (fun c_71 => ?_)
          · skip
            refine lv_aload_n hx hb dX3_turn_81 rfl (lv_at hl 2 rfl) ?_
            refine r_const hx hb dX3_turn_82 ?_
            refine lv_dup2_11 hx hb dX3_turn_83 rfl rfl ?_
            refine r_iald (F := updI (fun k9 => limv ds k9 i) 0 (P i)) hx hb hK hP 0 0 rfl rfl 1 (by omega) (by omega) (by omega) dX3_turn_84 ?_
            rw [show (updI (fun k9 => limv ds k9 i) 0 (P i)) 1 = dW ds i from updI_n _ _ (by decide)]
            refine lv_iload_n hx hb dX3_turn_85 rfl (lv_at hl 0 rfl) ?_
            refine r_add hx hb dX3_turn_86 ?_
            refine r_iast (F := updI (fun k9 => limv ds k9 i) 0 (P i)) hx hb hK hP hD hS 0 0 rfl rfl 1 (by omega) (by omega) (by omega) dX3_turn_87 (fun H locs hP hD hS => ?_)
            have hP : va_P D vwCl ([(a (4 + i), .inl (G 0, 3, .inl (fun y9 => iv (updI (updI (fun k9 => limv ds k9 i) 0 (P i)) 1 ((dW ds i) + ((((P i) - (dA ds i)) / 10) + 1)) y9))))]) _ := hP
            have hD : va_D A ([(a (4 + i), .inl (G 0, 3, .inl (fun y9 => iv (updI (updI (fun k9 => limv ds k9 i) 0 (P i)) 1 ((dW ds i) + ((((P i) - (dA ds i)) / 10) + 1)) y9))))]) := hD
            refine lv_iload_n hx hb dX3_turn_88 rfl (lv_at hl 0 rfl) ?_
            have hL := turn1_lim (P := P) (i := i) (s := ds) (by omega)
            have hs : ∀ k9, k9 < 3 → (updI (updI (fun k9 => limv ds k9 i) 0 (P i)) 1 ((dW ds i) + ((((P i) - (dA ds i)) / 10) + 1))) k9 = limv (turn1 P i ds) k9 i := fun k9 h9 => by
              rcases (show k9 = 0 ∨ k9 = 1 ∨ k9 = 2 by omega) with rfl | rfl | rfl
              · exact (show (updI (updI (fun k9 => limv ds k9 i) 0 (P i)) 1 ((dW ds i) + ((((P i) - (dA ds i)) / 10) + 1))) 0 = (P i) from (updI_n _ _ (by decide)).trans (updI_s _ _ _)).trans (by rw [hL.1] <;> (omega))
              · exact (show (updI (updI (fun k9 => limv ds k9 i) 0 (P i)) 1 ((dW ds i) + ((((P i) - (dA ds i)) / 10) + 1))) 1 = ((dW ds i) + ((((P i) - (dA ds i)) / 10) + 1)) from updI_s _ _ _).trans (by rw [hL.2.1] <;> (unfold wearBT wearMore; split <;> omega))
              · exact (show (updI (updI (fun k9 => limv ds k9 i) 0 (P i)) 1 ((dW ds i) + ((((P i) - (dA ds i)) / 10) + 1))) 2 = dQ ds i from (updI_n _ _ (by decide)).trans (updI_n _ _ (by decide))).trans (by rw [hL.2.2] <;> (omega))
            have hP := wP_say 0 (fun k9 => limv (turn1 P i ds) k9 i) hP rfl hs
            have hD := wD_say 0 (.inl (G 0, 3, .inl (fun y9 => iv (limv (turn1 P i ds) y9 i)))) hD rfl
            have hP : va_P D vwCl (wjt G a (turn1 P i ds) i) _ := hP
            have hD : va_D A (wjt G a (turn1 P i ds) i) := hD
            exact e_int hx hb hr hlk dX3_turn_89 hS hP hD (by omega) (by omega) (⟨⟨_, rfl⟩, rfl⟩)
          · skip
            refine lv_bipush (v := iv 100) hx hb dX3_turn_74 (by decide) ?_
            refine lv_aload_n hx hb dX3_turn_76 rfl (lv_at hl 2 rfl) ?_
            refine r_const hx hb dX3_turn_77 ?_
            refine r_iald (F := updI (fun k9 => limv ds k9 i) 0 (P i)) hx hb hK hP 0 0 rfl rfl 1 (by omega) (by omega) (by omega) dX3_turn_78 ?_
            rw [show (updI (fun k9 => limv ds k9 i) 0 (P i)) 1 = dW ds i from updI_n _ _ (by decide)]
            refine r_sub hx hb dX3_turn_79 ?_
            refine lv_istore_n (lv' := [(3, .int (iv (100 - (dW ds i)))), (2, .int (iv ((P i) - (dA ds i)))), (0, .ref (a (4 + i))), (1, .int (iv (P i)))]) hx hb dX3_turn_80 rfl hl (by decide) rfl (fun ls hl => ?_)
            refine lv_aload_n hx hb dX3_turn_81 rfl (lv_at hl 2 rfl) ?_
            refine r_const hx hb dX3_turn_82 ?_
            refine lv_dup2_11 hx hb dX3_turn_83 rfl rfl ?_
            refine r_iald (F := updI (fun k9 => limv ds k9 i) 0 (P i)) hx hb hK hP 0 0 rfl rfl 1 (by omega) (by omega) (by omega) dX3_turn_84 ?_
            rw [show (updI (fun k9 => limv ds k9 i) 0 (P i)) 1 = dW ds i from updI_n _ _ (by decide)]
            refine lv_iload_n hx hb dX3_turn_85 rfl (lv_at hl 0 rfl) ?_
            refine r_add hx hb dX3_turn_86 ?_
            refine r_iast (F := updI (fun k9 => limv ds k9 i) 0 (P i)) hx hb hK hP hD hS 0 0 rfl rfl 1 (by omega) (by omega) (by omega) dX3_turn_87 (fun H locs hP hD hS => ?_)
            have hP : va_P D vwCl ([(a (4 + i), .inl (G 0, 3, .inl (fun y9 => iv (updI (updI (fun k9 => limv ds k9 i) 0 (P i)) 1 ((dW ds i) + (100 - (dW ds i))) y9))))]) _ := hP
            have hD : va_D A ([(a (4 + i), .inl (G 0, 3, .inl (fun y9 => iv (updI (updI (fun k9 => limv ds k9 i) 0 (P i)) 1 ((dW ds i) + (100 - (dW ds i))) y9))))]) := hD
            refine lv_iload_n hx hb dX3_turn_88 rfl (lv_at hl 0 rfl) ?_
            have hL := turn1_lim (P := P) (i := i) (s := ds) (by omega)
            have hs : ∀ k9, k9 < 3 → (updI (updI (fun k9 => limv ds k9 i) 0 (P i)) 1 ((dW ds i) + (100 - (dW ds i)))) k9 = limv (turn1 P i ds) k9 i := fun k9 h9 => by
              rcases (show k9 = 0 ∨ k9 = 1 ∨ k9 = 2 by omega) with rfl | rfl | rfl
              · exact (show (updI (updI (fun k9 => limv ds k9 i) 0 (P i)) 1 ((dW ds i) + (100 - (dW ds i)))) 0 = (P i) from (updI_n _ _ (by decide)).trans (updI_s _ _ _)).trans (by rw [hL.1] <;> (omega))
              · exact (show (updI (updI (fun k9 => limv ds k9 i) 0 (P i)) 1 ((dW ds i) + (100 - (dW ds i)))) 1 = ((dW ds i) + (100 - (dW ds i))) from updI_s _ _ _).trans (by rw [hL.2.1] <;> (unfold wearBT wearMore; split <;> omega))
              · exact (show (updI (updI (fun k9 => limv ds k9 i) 0 (P i)) 1 ((dW ds i) + (100 - (dW ds i)))) 2 = dQ ds i from (updI_n _ _ (by decide)).trans (updI_n _ _ (by decide))).trans (by rw [hL.2.2] <;> (omega))
            have hP := wP_say 0 (fun k9 => limv (turn1 P i ds) k9 i) hP rfl hs
            have hD := wD_say 0 (.inl (G 0, 3, .inl (fun y9 => iv (limv (turn1 P i ds) y9 i)))) hD rfl
            have hP : va_P D vwCl (wjt G a (turn1 P i ds) i) _ := hP
            have hD : va_D A (wjt G a (turn1 P i ds) i) := hD
            exact e_int hx hb hr hlk dX3_turn_89 hS hP hD (by omega) (by omega) (⟨⟨_, rfl⟩, rfl⟩)
        · skip
          refine lv_aload_n hx hb dX3_turn_57 rfl (lv_at hl 2 rfl) ?_
          refine r_const hx hb dX3_turn_58 ?_
          refine lv_dup2_11 hx hb dX3_turn_59 rfl rfl ?_
          refine r_iald (F := updI (fun k9 => limv ds k9 i) 0 (P i)) hx hb hK hP 0 0 rfl rfl 2 (by omega) (by omega) (by omega) dX3_turn_60 ?_
          rw [show (updI (fun k9 => limv ds k9 i) 0 (P i)) 2 = dQ ds i from updI_n _ _ (by decide)]
          refine r_const hx hb dX3_turn_61 ?_
          refine r_sub hx hb dX3_turn_62 ?_
          refine r_iast (F := updI (fun k9 => limv ds k9 i) 0 (P i)) hx hb hK hP hD hS 0 0 rfl rfl 2 (by omega) (by omega) (by omega) dX3_turn_63 (fun H locs hP hD hS => ?_)
          have hP : va_P D vwCl ([(a (4 + i), .inl (G 0, 3, .inl (fun y9 => iv (updI (updI (fun k9 => limv ds k9 i) 0 (P i)) 2 ((dQ ds i) - 1) y9))))]) _ := hP
          have hD : va_D A ([(a (4 + i), .inl (G 0, 3, .inl (fun y9 => iv (updI (updI (fun k9 => limv ds k9 i) 0 (P i)) 2 ((dQ ds i) - 1) y9))))]) := hD
          refine lv_aload_n hx hb dX3_turn_64 rfl (lv_at hl 2 rfl) ?_
          refine r_const hx hb dX3_turn_65 ?_
          refine r_iald (F := updI (updI (fun k9 => limv ds k9 i) 0 (P i)) 2 ((dQ ds i) - 1)) hx hb hK hP 0 0 rfl rfl 1 (by omega) (by omega) (by omega) dX3_turn_66 ?_
          rw [show (updI (updI (fun k9 => limv ds k9 i) 0 (P i)) 2 ((dQ ds i) - 1)) 1 = dW ds i from (updI_n _ _ (by decide)).trans (updI_n _ _ (by decide))]
          refine lv_iload_n hx hb dX3_turn_67 rfl (lv_at hl 0 rfl) ?_
          refine r_add hx hb dX3_turn_68 ?_
          refine lv_bipush (v := iv 100) hx hb dX3_turn_69 (by decide) ?_
          refine r_icmp_le hx hb 81 dX3_turn_71 (by decide) (by omega) (by omega) (fun c_71 => ?_) (fun c_71 => ?_)
          · skip
            refine lv_aload_n hx hb dX3_turn_81 rfl (lv_at hl 2 rfl) ?_
            refine r_const hx hb dX3_turn_82 ?_
            refine lv_dup2_11 hx hb dX3_turn_83 rfl rfl ?_
            refine r_iald (F := updI (updI (fun k9 => limv ds k9 i) 0 (P i)) 2 ((dQ ds i) - 1)) hx hb hK hP 0 0 rfl rfl 1 (by omega) (by omega) (by omega) dX3_turn_84 ?_
            rw [show (updI (updI (fun k9 => limv ds k9 i) 0 (P i)) 2 ((dQ ds i) - 1)) 1 = dW ds i from (updI_n _ _ (by decide)).trans (updI_n _ _ (by decide))]
            refine lv_iload_n hx hb dX3_turn_85 rfl (lv_at hl 0 rfl) ?_
            refine r_add hx hb dX3_turn_86 ?_
            refine r_iast (F := updI (updI (fun k9 => limv ds k9 i) 0 (P i)) 2 ((dQ ds i) - 1)) hx hb hK hP hD hS 0 0 rfl rfl 1 (by omega) (by omega) (by omega) dX3_turn_87 (fun H locs hP hD hS => ?_)
            have hP : va_P D vwCl ([(a (4 + i), .inl (G 0, 3, .inl (fun y9 => iv (updI (updI (updI (fun k9 => limv ds k9 i) 0 (P i)) 2 ((dQ ds i) - 1)) 1 ((dW ds i) + ((((P i) - (dA ds i)) / 10) + 1)) y9))))]) _ := hP
            have hD : va_D A ([(a (4 + i), .inl (G 0, 3, .inl (fun y9 => iv (updI (updI (updI (fun k9 => limv ds k9 i) 0 (P i)) 2 ((dQ ds i) - 1)) 1 ((dW ds i) + ((((P i) - (dA ds i)) / 10) + 1)) y9))))]) := hD
            refine lv_iload_n hx hb dX3_turn_88 rfl (lv_at hl 0 rfl) ?_
            have hL := turn1_lim (P := P) (i := i) (s := ds) (by omega)
            have hs : ∀ k9, k9 < 3 → (updI (updI (updI (fun k9 => limv ds k9 i) 0 (P i)) 2 ((dQ ds i) - 1)) 1 ((dW ds i) + ((((P i) - (dA ds i)) / 10) + 1))) k9 = limv (turn1 P i ds) k9 i := fun k9 h9 => by
              rcases (show k9 = 0 ∨ k9 = 1 ∨ k9 = 2 by omega) with rfl | rfl | rfl
              · exact (show (updI (updI (updI (fun k9 => limv ds k9 i) 0 (P i)) 2 ((dQ ds i) - 1)) 1 ((dW ds i) + ((((P i) - (dA ds i)) / 10) + 1))) 0 = (P i) from (updI_n _ _ (by decide)).trans ((updI_n _ _ (by decide)).trans (updI_s _ _ _))).trans (by rw [hL.1] <;> (omega))
              · exact (show (updI (updI (updI (fun k9 => limv ds k9 i) 0 (P i)) 2 ((dQ ds i) - 1)) 1 ((dW ds i) + ((((P i) - (dA ds i)) / 10) + 1))) 1 = ((dW ds i) + ((((P i) - (dA ds i)) / 10) + 1)) from updI_s _ _ _).trans (by rw [hL.2.1] <;> (unfold wearBT wearMore; split <;> omega))
              · exact (show (updI (updI (updI (fun k9 => limv ds k9 i) 0 (P i)) 2 ((dQ ds i) - 1)) 1 ((dW ds i) + ((((P i) - (dA ds i)) / 10) + 1))) 2 = ((dQ ds i) - 1) from (updI_n _ _ (by decide)).trans (updI_s _ _ _)).trans (by rw [hL.2.2] <;> (omega))
            have hP := wP_say 0 (fun k9 => limv (turn1 P i ds) k9 i) hP rfl hs
            have hD := wD_say 0 (.inl (G 0, 3, .inl (fun y9 => iv (limv (turn1 P i ds) y9 i)))) hD rfl
            have hP : va_P D vwCl (wjt G a (turn1 P i ds) i) _ := hP
            have hD : va_D A (wjt G a (turn1 P i ds) i) := hD
            exact e_int hx hb hr hlk dX3_turn_89 hS hP hD (by omega) (by omega) (⟨⟨_, rfl⟩, rfl⟩)
          · skip
            refine lv_bipush (v := iv 100) hx hb dX3_turn_74 (by decide) ?_
            refine lv_aload_n hx hb dX3_turn_76 rfl (lv_at hl 2 rfl) ?_
            refine r_const hx hb dX3_turn_77 ?_
            refine r_iald (F := updI (updI (fun k9 => limv ds k9 i) 0 (P i)) 2 ((dQ ds i) - 1)) hx hb hK hP 0 0 rfl rfl 1 (by omega) (by omega) (by omega) dX3_turn_78 ?_
            rw [show (updI (updI (fun k9 => limv ds k9 i) 0 (P i)) 2 ((dQ ds i) - 1)) 1 = dW ds i from (updI_n _ _ (by decide)).trans (updI_n _ _ (by decide))]
            refine r_sub hx hb dX3_turn_79 ?_
            refine lv_istore_n (lv' := [(3, .int (iv (100 - (dW ds i)))), (2, .int (iv ((P i) - (dA ds i)))), (0, .ref (a (4 + i))), (1, .int (iv (P i)))]) hx hb dX3_turn_80 rfl hl (by decide) rfl (fun ls hl => ?_)
            refine lv_aload_n hx hb dX3_turn_81 rfl (lv_at hl 2 rfl) ?_
            refine r_const hx hb dX3_turn_82 ?_
            refine lv_dup2_11 hx hb dX3_turn_83 rfl rfl ?_
            refine r_iald (F := updI (updI (fun k9 => limv ds k9 i) 0 (P i)) 2 ((dQ ds i) - 1)) hx hb hK hP 0 0 rfl rfl 1 (by omega) (by omega) (by omega) dX3_turn_84 ?_
            rw [show (updI (updI (fun k9 => limv ds k9 i) 0 (P i)) 2 ((dQ ds i) - 1)) 1 = dW ds i from (updI_n _ _ (by decide)).trans (updI_n _ _ (by decide))]
            refine lv_iload_n hx hb dX3_turn_85 rfl (lv_at hl 0 rfl) ?_
            refine r_add hx hb dX3_turn_86 ?_
            refine r_iast (F := updI (updI (fun k9 => limv ds k9 i) 0 (P i)) 2 ((dQ ds i) - 1)) hx hb hK hP hD hS 0 0 rfl rfl 1 (by omega) (by omega) (by omega) dX3_turn_87 (fun H locs hP hD hS => ?_)
            have hP : va_P D vwCl ([(a (4 + i), .inl (G 0, 3, .inl (fun y9 => iv (updI (updI (updI (fun k9 => limv ds k9 i) 0 (P i)) 2 ((dQ ds i) - 1)) 1 ((dW ds i) + (100 - (dW ds i))) y9))))]) _ := hP
            have hD : va_D A ([(a (4 + i), .inl (G 0, 3, .inl (fun y9 => iv (updI (updI (updI (fun k9 => limv ds k9 i) 0 (P i)) 2 ((dQ ds i) - 1)) 1 ((dW ds i) + (100 - (dW ds i))) y9))))]) := hD
            refine lv_iload_n hx hb dX3_turn_88 rfl (lv_at hl 0 rfl) ?_
            have hL := turn1_lim (P := P) (i := i) (s := ds) (by omega)
            have hs : ∀ k9, k9 < 3 → (updI (updI (updI (fun k9 => limv ds k9 i) 0 (P i)) 2 ((dQ ds i) - 1)) 1 ((dW ds i) + (100 - (dW ds i)))) k9 = limv (turn1 P i ds) k9 i := fun k9 h9 => by
              rcases (show k9 = 0 ∨ k9 = 1 ∨ k9 = 2 by omega) with rfl | rfl | rfl
              · exact (show (updI (updI (updI (fun k9 => limv ds k9 i) 0 (P i)) 2 ((dQ ds i) - 1)) 1 ((dW ds i) + (100 - (dW ds i)))) 0 = (P i) from (updI_n _ _ (by decide)).trans ((updI_n _ _ (by decide)).trans (updI_s _ _ _))).trans (by rw [hL.1] <;> (omega))
              · exact (show (updI (updI (updI (fun k9 => limv ds k9 i) 0 (P i)) 2 ((dQ ds i) - 1)) 1 ((dW ds i) + (100 - (dW ds i)))) 1 = ((dW ds i) + (100 - (dW ds i))) from updI_s _ _ _).trans (by rw [hL.2.1] <;> (unfold wearBT wearMore; split <;> omega))
              · exact (show (updI (updI (updI (fun k9 => limv ds k9 i) 0 (P i)) 2 ((dQ ds i) - 1)) 1 ((dW ds i) + (100 - (dW ds i)))) 2 = ((dQ ds i) - 1) from (updI_n _ _ (by decide)).trans (updI_s _ _ _)).trans (by rw [hL.2.2] <;> (omega))
            have hP := wP_say 0 (fun k9 => limv (turn1 P i ds) k9 i) hP rfl hs
            have hD := wD_say 0 (.inl (G 0, 3, .inl (fun y9 => iv (limv (turn1 P i ds) y9 i)))) hD rfl
            have hP : va_P D vwCl (wjt G a (turn1 P i ds) i) _ := hP
            have hD : va_D A (wjt G a (turn1 P i ds) i) := hD
            exact e_int hx hb hr hlk dX3_turn_89 hS hP hD (by omega) (by omega) (⟨⟨_, rfl⟩, rfl⟩)
    · skip
      refine r_const hx hb dX3_turn_29 ?_
      have hd9 : dA ds i = P i := by omega
      have hL := turn1_lim0 (P := P) (i := i) (s := ds) hd9
      have hs : ∀ k9, k9 < 3 → (updI (fun k9 => limv ds k9 i) 0 (P i)) k9 = limv (turn1 P i ds) k9 i := fun k9 h9 => by
        rcases (show k9 = 0 ∨ k9 = 1 ∨ k9 = 2 by omega) with rfl | rfl | rfl
        · exact (show (updI (fun k9 => limv ds k9 i) 0 (P i)) 0 = (P i) from updI_s _ _ _).trans (by rw [hL.1] <;> (omega))
        · exact (show (updI (fun k9 => limv ds k9 i) 0 (P i)) 1 = dW ds i from updI_n _ _ (by decide)).trans (by rw [hL.2.1] <;> (omega))
        · exact (show (updI (fun k9 => limv ds k9 i) 0 (P i)) 2 = dQ ds i from updI_n _ _ (by decide)).trans (by rw [hL.2.2] <;> (omega))
      have hP := wP_say 0 (fun k9 => limv (turn1 P i ds) k9 i) hP rfl hs
      have hD := wD_say 0 (.inl (G 0, 3, .inl (fun y9 => iv (limv (turn1 P i ds) y9 i)))) hD rfl
      have hP : va_P D vwCl (wjt G a (turn1 P i ds) i) _ := hP
      have hD : va_D A (wjt G a (turn1 P i ds) i) := hD
      exact e_int hx hb hr hlk dX3_turn_30 hS hP hD (by omega) (by omega) (⟨⟨_, rfl⟩, rfl⟩)
