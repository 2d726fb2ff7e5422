set_option maxHeartbeats 4000000 in
set_option maxRecDepth 100000 in
theorem c_X3_turn_ (l : Launch) (D : va_G) (G : Nat → ClassId) (a : Nat → Nat) (ds : DS) (hok : okD ds) (jk : Int) (pp : Nat) (P : Nat → Int) (hP0 : okP P) (hcan : canT P ds = true)  : MtG l yX3_turn_ wsX3_turn_ 1 40 0 0 D (TY G) [.ref (a 0), .ref pp] (wSD G a ds jk ++ [(pp, .inl (G 0, 6, .inl (fun y9 => iv (P y9))))]) (qI D (fun r u => (∃ z : Int, r = iv z) ∧ u = wSD G a (turnN P 6 ds) jk ++ [(pp, .inl (G 0, 6, .inl (fun y9 => iv (P y9))))])) := by
  refine MtG.mk (cc := cX3_turn_) (maxL := 4) (ret := some .int) (by decide) rfl (Nat.le_of_ble_eq_true rfl) ?_
  intro p e s m below meth c A ls hx hb hr hlk hml hown hin hts hK hA hP hD hS hl
  replace hown : s.vm.findClass RX3 = some m.cls := hown
  have hl : lv_has ls 4 [(0, .ref (a 0)), (1, .ref pp)] := hl
  have hP : va_P D vwCl (wSD G a ds jk ++ [(pp, .inl (G 0, 6, .inl (fun y9 => iv (P y9))))]) s.heap := hP
  have hD : va_D A (wSD G a ds jk ++ [(pp, .inl (G 0, 6, .inl (fun y9 => iv (P y9))))]) := hD
  have lk9 := hts (.fieldLink RX3 9 "DollCitadelLaw$Doll" "joints" "[[I") (by decide +kernel)
  have in_X3 : ∀ w ∈ u_ws RX3 TX3 8, w ∈ wsX3_turn_ := by decide +kernel
  have hq : List.Perm (wSD G a ds jk ++ [(pp, .inl (G 0, 6, .inl (fun y9 => iv (P y9))))]) ([(a 0, .inr (3, [.ref (a 1), .ref (a 2), .ref (a 3), .int (iv (hJ ds)), .int (iv (xJ ds jk)), .int (iv (dv ds)), .int (iv (dn ds)), .int (iv (dt ds))])), (a 1, .inl (G 4, 6, .inr (.inr (.inr (.inr (jF a)))))), (a 2, .inl (G 1, 2, .inl (fun y9 => iv (dO ds y9)))), (a 3, .inl (G 0, 2, .inl (fun y9 => iv (dU ds y9)))), (pp, .inl (G 0, 6, .inl (fun y9 => iv (P y9))))] ++ (wJs G a ds)) := wperm (fun q9 => by
    have e_0 : cn q9 (wSD G a ds jk) = cn q9 ([(a 0, .inr (3, [.ref (a 1), .ref (a 2), .ref (a 3), .int (iv (hJ ds)), .int (iv (xJ ds jk)), .int (iv (dv ds)), .int (iv (dn ds)), .int (iv (dt ds))])), (a 1, .inl (G 4, 6, .inr (.inr (.inr (.inr (jF a)))))), (a 2, .inl (G 1, 2, .inl (fun y9 => iv (dO ds y9)))), (a 3, .inl (G 0, 2, .inl (fun y9 => iv (dU ds y9))))] ++ (wJs G a ds)) := rfl
    simp only [cn_app, cn_nil, cn_two] at e_0 ⊢
    omega)
  replace hP := wP_perm hP hq
  replace hD := wD_perm hD hq
  have hP : va_P D vwCl ([(a 0, .inr (3, [.ref (a 1), .ref (a 2), .ref (a 3), .int (iv (hJ ds)), .int (iv (xJ ds jk)), .int (iv (dv ds)), .int (iv (dn ds)), .int (iv (dt ds))])), (a 1, .inl (G 4, 6, .inr (.inr (.inr (.inr (jF a)))))), (a 2, .inl (G 1, 2, .inl (fun y9 => iv (dO ds y9)))), (a 3, .inl (G 0, 2, .inl (fun y9 => iv (dU ds y9)))), (pp, .inl (G 0, 6, .inl (fun y9 => iv (P y9))))] ++ (wJs G a ds)) _ := hP
  have hD : va_D A ([(a 0, .inr (3, [.ref (a 1), .ref (a 2), .ref (a 3), .int (iv (hJ ds)), .int (iv (xJ ds jk)), .int (iv (dv ds)), .int (iv (dn ds)), .int (iv (dt ds))])), (a 1, .inl (G 4, 6, .inr (.inr (.inr (.inr (jF a)))))), (a 2, .inl (G 1, 2, .inl (fun y9 => iv (dO ds y9)))), (a 3, .inl (G 0, 2, .inl (fun y9 => iv (dU ds y9)))), (pp, .inl (G 0, 6, .inl (fun y9 => iv (P y9))))] ++ (wJs G a ds)) := hD
  refine r_const hx hb dX3_turn__0 ?_
  refine lv_istore_n (lv' := [(2, .int (iv 0)), (0, .ref (a 0)), (1, .ref pp)]) hx hb dX3_turn__1 rfl hl (by decide) rfl (fun ls hl => ?_)
  refine r_const hx hb dX3_turn__2 ?_
  refine lv_istore_n (lv' := [(3, .int (iv 0)), (2, .int (iv 0)), (0, .ref (a 0)), (1, .ref pp)]) hx hb dX3_turn__3 rfl hl (by decide) rfl (fun ls hl => ?_)
  have K4 : ∀ (fu i : Nat) (x : Int), i ≤ 6 → 6 < i + fu → ∀ (H : Heap) (locs : List Loc), va_P D vwCl ([(a 0, .inr (3, [.ref (a 1), .ref (a 2), .ref (a 3), .int (iv (hJ ds)), .int (iv (xJ ds jk)), .int (iv (dv ds)), .int (iv (dn ds)), .int (iv (dt ds))])), (a 1, .inl (G 4, 6, .inr (.inr (.inr (.inr (jF a)))))), (a 2, .inl (G 1, 2, .inl (fun y9 => iv (dO ds y9)))), (a 3, .inl (G 0, 2, .inl (fun y9 => iv (dU ds y9)))), (pp, .inl (G 0, 6, .inl (fun y9 => iv (P y9))))] ++ (wJs G a (turnN P i ds))) H → va_D A ([(a 0, .inr (3, [.ref (a 1), .ref (a 2), .ref (a 3), .int (iv (hJ ds)), .int (iv (xJ ds jk)), .int (iv (dv ds)), .int (iv (dn ds)), .int (iv (dt ds))])), (a 1, .inl (G 4, 6, .inr (.inr (.inr (.inr (jF a)))))), (a 2, .inl (G 1, 2, .inl (fun y9 => iv (dO ds y9)))), (a 3, .inl (G 0, 2, .inl (fun y9 => iv (dU ds y9)))), (pp, .inl (G 0, 6, .inl (fun y9 => iv (P y9))))] ++ (wJs G a (turnN P i ds))) → va_S A s.heap H locs → ∀ (ls : Array Slot), lv_has ls 4 [(0, .ref (a 0)), (1, .ref pp), (2, .int (iv x)), (3, .int (iv (i : Int)))] → W p l e (rmOf 1 40 0 0) s m ([.ref (a 0), .ref pp] : List Value).toArray below meth c H locs (0) (0) (MQ below (qI D (fun r u => (∃ z : Int, r = iv z) ∧ u = wSD G a (turnN P 6 ds) jk ++ [(pp, .inl (G 0, 6, .inl (fun y9 => iv (P y9))))]) A) ([.ref (a 0), .ref pp] : List Value).toArray s 0 0 A) (F0 m 4 ls []) := by
    intro fu
    induction fu with
    | zero => intro i x h1 h2; exact absurd h2 (by omega)
    | succ fu ih4 =>
      intro i x hi_4 hn_4 H locs hP hD hS ls hl
      refine lv_iload_n hx hb dX3_turn__4 rfl (lv_at hl 3 rfl) ?_
      refine lv_bipush (v := iv 6) hx hb dX3_turn__5 (by decide) ?_
      refine r_icmp_ge hx hb 31 dX3_turn__7 (by decide) (by omega) (by omega) (fun c_7 => ?_) (fun c_7 => ?_)
      · skip
        refine lv_iload_n hx hb dX3_turn__31 rfl (lv_at hl 2 rfl) ?_
        obtain rfl : i = 6 := by omega
        have hq : List.Perm ([(a 0, .inr (3, [.ref (a 1), .ref (a 2), .ref (a 3), .int (iv (hJ ds)), .int (iv (xJ ds jk)), .int (iv (dv ds)), .int (iv (dn ds)), .int (iv (dt ds))])), (a 1, .inl (G 4, 6, .inr (.inr (.inr (.inr (jF a)))))), (a 2, .inl (G 1, 2, .inl (fun y9 => iv (dO ds y9)))), (a 3, .inl (G 0, 2, .inl (fun y9 => iv (dU ds y9)))), (pp, .inl (G 0, 6, .inl (fun y9 => iv (P y9))))] ++ (wJs G a (turnN P 6 ds))) (wSD G a (turnN P 6 ds) jk ++ [(pp, .inl (G 0, 6, .inl (fun y9 => iv (P y9))))]) := wperm (fun q9 => by
          have e_0 : cn q9 (wSD G a (turnN P 6 ds) jk) = cn q9 ([(a 0, .inr (3, [.ref (a 1), .ref (a 2), .ref (a 3), .int (iv (hJ ds)), .int (iv (xJ ds jk)), .int (iv (dv ds)), .int (iv (dn ds)), .int (iv (dt ds))])), (a 1, .inl (G 4, 6, .inr (.inr (.inr (.inr (jF a)))))), (a 2, .inl (G 1, 2, .inl (fun y9 => iv (dO ds y9)))), (a 3, .inl (G 0, 2, .inl (fun y9 => iv (dU ds y9))))] ++ (wJs G a (turnN P 6 ds))) := congrArg (cn q9) (wSD_fix (G := G) (a := a) (s := ds) (t := turnN P 6 ds) jk (turnN_fix P ds 6))
          simp only [cn_app, cn_nil, cn_two] at e_0 ⊢
          omega)
        replace hP := wP_perm hP hq
        replace hD := wD_perm hD hq
        have hP : va_P D vwCl (wSD G a (turnN P 6 ds) jk ++ [(pp, .inl (G 0, 6, .inl (fun y9 => iv (P y9))))]) _ := hP
        have hD : va_D A (wSD G a (turnN P 6 ds) jk ++ [(pp, .inl (G 0, 6, .inl (fun y9 => iv (P y9))))]) := hD
        exact e_int hx hb hr hlk dX3_turn__32 hS hP hD (by omega) (by omega) (⟨⟨_, rfl⟩, rfl⟩)
      · skip
        have hq : List.Perm ([(a 0, .inr (3, [.ref (a 1), .ref (a 2), .ref (a 3), .int (iv (hJ ds)), .int (iv (xJ ds jk)), .int (iv (dv ds)), .int (iv (dn ds)), .int (iv (dt ds))])), (a 1, .inl (G 4, 6, .inr (.inr (.inr (.inr (jF a)))))), (a 2, .inl (G 1, 2, .inl (fun y9 => iv (dO ds y9)))), (a 3, .inl (G 0, 2, .inl (fun y9 => iv (dU ds y9)))), (pp, .inl (G 0, 6, .inl (fun y9 => iv (P y9))))] ++ (wJs G a (turnN P i ds))) ([(a 0, .inr (3, [.ref (a 1), .ref (a 2), .ref (a 3), .int (iv (hJ ds)), .int (iv (xJ ds jk)), .int (iv (dv ds)), .int (iv (dn ds)), .int (iv (dt ds))])), (a 1, .inl (G 4, 6, .inr (.inr (.inr (.inr (jF a)))))), (a 2, .inl (G 1, 2, .inl (fun y9 => iv (dO ds y9)))), (a 3, .inl (G 0, 2, .inl (fun y9 => iv (dU ds y9)))), (pp, .inl (G 0, 6, .inl (fun y9 => iv (P y9)))), (a (4 + i), .inl (G 0, 3, .inl (fun y9 => iv ((fun k9 => limv (turnN P i ds) k9 i) y9))))] ++ (wJo G a (turnN P i ds) i)) := wperm (fun q9 => by
          have e_0 : cn q9 (wJs G a (turnN P i ds)) = cn q9 ([(a (4 + i), .inl (G 0, 3, .inl (fun y9 => iv ((fun k9 => limv (turnN P i ds) k9 i) y9))))] ++ (wJo G a (turnN P i ds) i)) := cn_perm (wJs_get (G := G) (a := a) (turnN P i ds) (d := i) (by omega)) q9
          simp only [cn_app, cn_nil, cn_two] at e_0 ⊢
          omega)
        replace hP := wP_perm hP hq
        replace hD := wD_perm hD hq
        have hP : va_P D vwCl ([(a 0, .inr (3, [.ref (a 1), .ref (a 2), .ref (a 3), .int (iv (hJ ds)), .int (iv (xJ ds jk)), .int (iv (dv ds)), .int (iv (dn ds)), .int (iv (dt ds))])), (a 1, .inl (G 4, 6, .inr (.inr (.inr (.inr (jF a)))))), (a 2, .inl (G 1, 2, .inl (fun y9 => iv (dO ds y9)))), (a 3, .inl (G 0, 2, .inl (fun y9 => iv (dU ds y9)))), (pp, .inl (G 0, 6, .inl (fun y9 => iv (P y9)))), (a (4 + i), .inl (G 0, 3, .inl (fun y9 => iv ((fun k9 => limv (turnN P i ds) k9 i) y9))))] ++ (wJo G a (turnN P i ds) i)) _ := hP
        have hD : va_D A ([(a 0, .inr (3, [.ref (a 1), .ref (a 2), .ref (a 3), .int (iv (hJ ds)), .int (iv (xJ ds jk)), .int (iv (dv ds)), .int (iv (dn ds)), .int (iv (dt ds))])), (a 1, .inl (G 4, 6, .inr (.inr (.inr (.inr (jF a)))))), (a 2, .inl (G 1, 2, .inl (fun y9 => iv (dO ds y9)))), (a 3, .inl (G 0, 2, .inl (fun y9 => iv (dU ds y9)))), (pp, .inl (G 0, 6, .inl (fun y9 => iv (P y9)))), (a (4 + i), .inl (G 0, 3, .inl (fun y9 => iv ((fun k9 => limv (turnN P i ds) k9 i) y9))))] ++ (wJo G a (turnN P i ds) i)) := hD
        refine lv_iload_n hx hb dX3_turn__10 rfl (lv_at hl 2 rfl) ?_
        refine lv_aload_n hx hb dX3_turn__11 rfl (lv_at hl 0 rfl) ?_
        refine va_get (D := D) (ci := 3) (v := .ref (a 1)) (C := RX3) (T := TX3) (N := 8) hx hb hts in_X3 hown hK hP 0 rfl rfl 0 (by decide) lk9 (fun _ h9 => h9) rfl dX3_turn__12 ?_
        refine lv_iload_n hx hb dX3_turn__15 rfl (lv_at hl 3 rfl) ?_
        refine r_aaldA (f := jF a) hx hb hK hP 1 4 rfl rfl i (by omega) (by omega) (by omega) dX3_turn__16 ?_
        rw [show va_rf (jF a i) = Value.ref (a (4 + i)) from jF_at (by omega)]
        refine lv_aload_n hx hb dX3_turn__17 rfl (lv_at hl 1 rfl) ?_
        refine lv_iload_n hx hb dX3_turn__18 rfl (lv_at hl 3 rfl) ?_
        refine r_iald (F := P) hx hb hK hP 4 0 rfl rfl i (by omega) (by omega) (by omega) dX3_turn__19 ?_
        have hk9 := turnN_keep P ds i i (Nat.le_refl i)
        have hc9 : dW (turnN P i ds) i < 100 ∨ dA (turnN P i ds) i = P i := by rw [hk9.1, hk9.2.1]; exact canT_at hcan (by omega)
        have hq : List.Perm ([(a 0, .inr (3, [.ref (a 1), .ref (a 2), .ref (a 3), .int (iv (hJ ds)), .int (iv (xJ ds jk)), .int (iv (dv ds)), .int (iv (dn ds)), .int (iv (dt ds))])), (a 1, .inl (G 4, 6, .inr (.inr (.inr (.inr (jF a)))))), (a 2, .inl (G 1, 2, .inl (fun y9 => iv (dO ds y9)))), (a 3, .inl (G 0, 2, .inl (fun y9 => iv (dU ds y9)))), (pp, .inl (G 0, 6, .inl (fun y9 => iv (P y9)))), (a (4 + i), .inl (G 0, 3, .inl (fun y9 => iv ((fun k9 => limv (turnN P i ds) k9 i) y9))))] ++ (wJo G a (turnN P i ds) i)) ((wjt G a (turnN P i ds) i) ++ ([(a 0, .inr (3, [.ref (a 1), .ref (a 2), .ref (a 3), .int (iv (hJ ds)), .int (iv (xJ ds jk)), .int (iv (dv ds)), .int (iv (dn ds)), .int (iv (dt ds))])), (a 1, .inl (G 4, 6, .inr (.inr (.inr (.inr (jF a)))))), (a 2, .inl (G 1, 2, .inl (fun y9 => iv (dO ds y9)))), (a 3, .inl (G 0, 2, .inl (fun y9 => iv (dU ds y9)))), (pp, .inl (G 0, 6, .inl (fun y9 => iv (P y9))))] ++ (wJo G a (turnN P i ds) i))) := wperm (fun q9 => by
          have e_0 : cn q9 (wjt G a (turnN P i ds) i) = cn q9 ([(a (4 + i), .inl (G 0, 3, .inl (fun y9 => iv ((fun k9 => limv (turnN P i ds) k9 i) y9))))]) := rfl
          simp only [cn_app, cn_nil, cn_two] at e_0 ⊢
          omega)
        replace hP := wP_perm hP hq
        replace hD := wD_perm hD hq
        have hP : va_P D vwCl ((wjt G a (turnN P i ds) i) ++ ([(a 0, .inr (3, [.ref (a 1), .ref (a 2), .ref (a 3), .int (iv (hJ ds)), .int (iv (xJ ds jk)), .int (iv (dv ds)), .int (iv (dn ds)), .int (iv (dt ds))])), (a 1, .inl (G 4, 6, .inr (.inr (.inr (.inr (jF a)))))), (a 2, .inl (G 1, 2, .inl (fun y9 => iv (dO ds y9)))), (a 3, .inl (G 0, 2, .inl (fun y9 => iv (dU ds y9)))), (pp, .inl (G 0, 6, .inl (fun y9 => iv (P y9))))] ++ (wJo G a (turnN P i ds) i))) H := hP
        have hD : va_D A ((wjt G a (turnN P i ds) i) ++ ([(a 0, .inr (3, [.ref (a 1), .ref (a 2), .ref (a 3), .int (iv (hJ ds)), .int (iv (xJ ds jk)), .int (iv (dv ds)), .int (iv (dn ds)), .int (iv (dt ds))])), (a 1, .inl (G 4, 6, .inr (.inr (.inr (.inr (jF a)))))), (a 2, .inl (G 1, 2, .inl (fun y9 => iv (dO ds y9)))), (a 3, .inl (G 0, 2, .inl (fun y9 => iv (dU ds y9)))), (pp, .inl (G 0, 6, .inl (fun y9 => iv (P y9))))] ++ (wJo G a (turnN P i ds) i))) := hD
        have hp : List.Perm ((wjt G a (turnN P i ds) i) ++ ([(a 0, .inr (3, [.ref (a 1), .ref (a 2), .ref (a 3), .int (iv (hJ ds)), .int (iv (xJ ds jk)), .int (iv (dv ds)), .int (iv (dn ds)), .int (iv (dt ds))])), (a 1, .inl (G 4, 6, .inr (.inr (.inr (.inr (jF a)))))), (a 2, .inl (G 1, 2, .inl (fun y9 => iv (dO ds y9)))), (a 3, .inl (G 0, 2, .inl (fun y9 => iv (dU ds y9)))), (pp, .inl (G 0, 6, .inl (fun y9 => iv (P y9))))] ++ (wJo G a (turnN P i ds) i))) ((wjt G a (turnN P i ds) i) ++ ([(a 0, .inr (3, [.ref (a 1), .ref (a 2), .ref (a 3), .int (iv (hJ ds)), .int (iv (xJ ds jk)), .int (iv (dv ds)), .int (iv (dn ds)), .int (iv (dt ds))])), (a 1, .inl (G 4, 6, .inr (.inr (.inr (.inr (jF a)))))), (a 2, .inl (G 1, 2, .inl (fun y9 => iv (dO ds y9)))), (a 3, .inl (G 0, 2, .inl (fun y9 => iv (dU ds y9)))), (pp, .inl (G 0, 6, .inl (fun y9 => iv (P y9))))] ++ (wJo G a (turnN P i ds) i))) := List.Perm.refl _
        refine k_int (g_S (As := [.ref (a (4 + i)), .int (iv (P i))]) (rest := [.int (iv x)]) ⟨hx, hb, hml, hown, hts⟩ (c_X3_turn l D G a (turnN P i ds) (turnN_ok hP0 hok i (by omega)) P hP0 i (by omega) hc9) (va_cwS 2 hts gX3_turn__X3_turn rfl rfl rfl (by decide +kernel) ⟨Nat.le_of_ble_eq_true rfl, Nat.le_of_ble_eq_true rfl⟩) hK hP hD hp rfl hl.1 rfl (Nat.le_of_ble_eq_true rfl) dX3_turn__20 ⟨by show _ ≤ (0 : Nat); omega, by show _ ≤ (0 : Nat); omega⟩) hP hD hS hA hp (fun v u H locs hw hP hD hS => ?_)
        obtain ⟨⟨y9, rfl⟩, rfl⟩ := hw
        have hP : va_P D vwCl ((wjt G a (turnN P (i + 1) ds) i) ++ ([(a 0, .inr (3, [.ref (a 1), .ref (a 2), .ref (a 3), .int (iv (hJ ds)), .int (iv (xJ ds jk)), .int (iv (dv ds)), .int (iv (dn ds)), .int (iv (dt ds))])), (a 1, .inl (G 4, 6, .inr (.inr (.inr (.inr (jF a)))))), (a 2, .inl (G 1, 2, .inl (fun y9 => iv (dO ds y9)))), (a 3, .inl (G 0, 2, .inl (fun y9 => iv (dU ds y9)))), (pp, .inl (G 0, 6, .inl (fun y9 => iv (P y9))))] ++ (wJo G a (turnN P i ds) i))) H := hP
        have hD : va_D A ((wjt G a (turnN P (i + 1) ds) i) ++ ([(a 0, .inr (3, [.ref (a 1), .ref (a 2), .ref (a 3), .int (iv (hJ ds)), .int (iv (xJ ds jk)), .int (iv (dv ds)), .int (iv (dn ds)), .int (iv (dt ds))])), (a 1, .inl (G 4, 6, .inr (.inr (.inr (.inr (jF a)))))), (a 2, .inl (G 1, 2, .inl (fun y9 => iv (dO ds y9)))), (a 3, .inl (G 0, 2, .inl (fun y9 => iv (dU ds y9)))), (pp, .inl (G 0, 6, .inl (fun y9 => iv (P y9))))] ++ (wJo G a (turnN P i ds) i))) := hD
        have hq : List.Perm ((wjt G a (turnN P (i + 1) ds) i) ++ ([(a 0, .inr (3, [.ref (a 1), .ref (a 2), .ref (a 3), .int (iv (hJ ds)), .int (iv (xJ ds jk)), .int (iv (dv ds)), .int (iv (dn ds)), .int (iv (dt ds))])), (a 1, .inl (G 4, 6, .inr (.inr (.inr (.inr (jF a)))))), (a 2, .inl (G 1, 2, .inl (fun y9 => iv (dO ds y9)))), (a 3, .inl (G 0, 2, .inl (fun y9 => iv (dU ds y9)))), (pp, .inl (G 0, 6, .inl (fun y9 => iv (P y9))))] ++ (wJo G a (turnN P i ds) i))) ([(a (4 + i), .inl (G 0, 3, .inl (fun y9 => iv ((fun k9 => limv (turnN P (i + 1) ds) k9 i) y9)))), (a 0, .inr (3, [.ref (a 1), .ref (a 2), .ref (a 3), .int (iv (hJ ds)), .int (iv (xJ ds jk)), .int (iv (dv ds)), .int (iv (dn ds)), .int (iv (dt ds))])), (a 1, .inl (G 4, 6, .inr (.inr (.inr (.inr (jF a)))))), (a 2, .inl (G 1, 2, .inl (fun y9 => iv (dO ds y9)))), (a 3, .inl (G 0, 2, .inl (fun y9 => iv (dU ds y9)))), (pp, .inl (G 0, 6, .inl (fun y9 => iv (P y9))))] ++ (wJo G a (turnN P i ds) i)) := wperm (fun q9 => by
          have e_0 : cn q9 (wjt G a (turnN P (i + 1) ds) i) = cn q9 ([(a (4 + i), .inl (G 0, 3, .inl (fun y9 => iv ((fun k9 => limv (turnN P (i + 1) ds) k9 i) y9))))]) := rfl
          simp only [cn_app, cn_nil, cn_two] at e_0 ⊢
          omega)
        replace hP := wP_perm hP hq
        replace hD := wD_perm hD hq
        have hP : va_P D vwCl ([(a (4 + i), .inl (G 0, 3, .inl (fun y9 => iv ((fun k9 => limv (turnN P (i + 1) ds) k9 i) y9)))), (a 0, .inr (3, [.ref (a 1), .ref (a 2), .ref (a 3), .int (iv (hJ ds)), .int (iv (xJ ds jk)), .int (iv (dv ds)), .int (iv (dn ds)), .int (iv (dt ds))])), (a 1, .inl (G 4, 6, .inr (.inr (.inr (.inr (jF a)))))), (a 2, .inl (G 1, 2, .inl (fun y9 => iv (dO ds y9)))), (a 3, .inl (G 0, 2, .inl (fun y9 => iv (dU ds y9)))), (pp, .inl (G 0, 6, .inl (fun y9 => iv (P y9))))] ++ (wJo G a (turnN P i ds) i)) _ := hP
        have hD : va_D A ([(a (4 + i), .inl (G 0, 3, .inl (fun y9 => iv ((fun k9 => limv (turnN P (i + 1) ds) k9 i) y9)))), (a 0, .inr (3, [.ref (a 1), .ref (a 2), .ref (a 3), .int (iv (hJ ds)), .int (iv (xJ ds jk)), .int (iv (dv ds)), .int (iv (dn ds)), .int (iv (dt ds))])), (a 1, .inl (G 4, 6, .inr (.inr (.inr (.inr (jF a)))))), (a 2, .inl (G 1, 2, .inl (fun y9 => iv (dO ds y9)))), (a 3, .inl (G 0, 2, .inl (fun y9 => iv (dU ds y9)))), (pp, .inl (G 0, 6, .inl (fun y9 => iv (P y9))))] ++ (wJo G a (turnN P i ds) i)) := hD
        refine r_add hx hb dX3_turn__23 ?_
        refine lv_istore_n (lv' := [(2, .int (iv (x + y9))), (0, .ref (a 0)), (1, .ref pp), (3, .int (iv (i : Int)))]) hx hb dX3_turn__24 rfl hl (by decide) rfl (fun ls hl => ?_)
        refine r_iinc (k := 3) (lv' := [(3, .int (iv ((i : Int) + 1))), (2, .int (iv (x + y9))), (0, .ref (a 0)), (1, .ref pp)]) hx hb dX3_turn__25 hl rfl (by decide) rfl (fun ls hl => ?_)
        refine r_goto hx hb 4 dX3_turn__28 (by decide) ?_
        have hq : List.Perm ([(a (4 + i), .inl (G 0, 3, .inl (fun y9 => iv ((fun k9 => limv (turnN P (i + 1) ds) k9 i) y9)))), (a 0, .inr (3, [.ref (a 1), .ref (a 2), .ref (a 3), .int (iv (hJ ds)), .int (iv (xJ ds jk)), .int (iv (dv ds)), .int (iv (dn ds)), .int (iv (dt ds))])), (a 1, .inl (G 4, 6, .inr (.inr (.inr (.inr (jF a)))))), (a 2, .inl (G 1, 2, .inl (fun y9 => iv (dO ds y9)))), (a 3, .inl (G 0, 2, .inl (fun y9 => iv (dU ds y9)))), (pp, .inl (G 0, 6, .inl (fun y9 => iv (P y9))))] ++ (wJo G a (turnN P i ds) i)) ([(a 0, .inr (3, [.ref (a 1), .ref (a 2), .ref (a 3), .int (iv (hJ ds)), .int (iv (xJ ds jk)), .int (iv (dv ds)), .int (iv (dn ds)), .int (iv (dt ds))])), (a 1, .inl (G 4, 6, .inr (.inr (.inr (.inr (jF a)))))), (a 2, .inl (G 1, 2, .inl (fun y9 => iv (dO ds y9)))), (a 3, .inl (G 0, 2, .inl (fun y9 => iv (dU ds y9)))), (pp, .inl (G 0, 6, .inl (fun y9 => iv (P y9))))] ++ (wJs G a (turnN P (i + 1) ds))) := wperm (fun q9 => by
          have e_0 : cn q9 (wJs G a (turnN P (i + 1) ds)) = cn q9 ([(a (4 + i), .inl (G 0, 3, .inl (fun y9 => iv ((fun k9 => limv (turnN P (i + 1) ds) k9 i) y9))))] ++ (wJo G a (turnN P i ds) i)) := cn_perm (wJs_pull (G := G) (a := a) (s := (turnN P (i + 1) ds)) (t := (turnN P i ds)) (d := i) (by omega) (fun e9 h9 k9 => limv_turn1 h9 k9)) q9
          simp only [cn_app, cn_nil, cn_two] at e_0 ⊢
          omega)
        replace hP := wP_perm hP hq
        replace hD := wD_perm hD hq
        have hP : va_P D vwCl ([(a 0, .inr (3, [.ref (a 1), .ref (a 2), .ref (a 3), .int (iv (hJ ds)), .int (iv (xJ ds jk)), .int (iv (dv ds)), .int (iv (dn ds)), .int (iv (dt ds))])), (a 1, .inl (G 4, 6, .inr (.inr (.inr (.inr (jF a)))))), (a 2, .inl (G 1, 2, .inl (fun y9 => iv (dO ds y9)))), (a 3, .inl (G 0, 2, .inl (fun y9 => iv (dU ds y9)))), (pp, .inl (G 0, 6, .inl (fun y9 => iv (P y9))))] ++ (wJs G a (turnN P (i + 1) ds))) _ := hP
        have hD : va_D A ([(a 0, .inr (3, [.ref (a 1), .ref (a 2), .ref (a 3), .int (iv (hJ ds)), .int (iv (xJ ds jk)), .int (iv (dv ds)), .int (iv (dn ds)), .int (iv (dt ds))])), (a 1, .inl (G 4, 6, .inr (.inr (.inr (.inr (jF a)))))), (a 2, .inl (G 1, 2, .inl (fun y9 => iv (dO ds y9)))), (a 3, .inl (G 0, 2, .inl (fun y9 => iv (dU ds y9)))), (pp, .inl (G 0, 6, .inl (fun y9 => iv (P y9))))] ++ (wJs G a (turnN P (i + 1) ds))) := hD
        refine W.widen (k := 0) (n := 0) (by omega) (by omega) ?_
        exact ih4 (i + 1) (x + y9) (by omega) (by omega) _ _ hP hD hS _ (lv_sub hl [2, 3, 1, 0] rfl)
  have hq : List.Perm ([(a 0, .inr (3, [.ref (a 1), .ref (a 2), .ref (a 3), .int (iv (hJ ds)), .int (iv (xJ ds jk)), .int (iv (dv ds)), .int (iv (dn ds)), .int (iv (dt ds))])), (a 1, .inl (G 4, 6, .inr (.inr (.inr (.inr (jF a)))))), (a 2, .inl (G 1, 2, .inl (fun y9 => iv (dO ds y9)))), (a 3, .inl (G 0, 2, .inl (fun y9 => iv (dU ds y9)))), (pp, .inl (G 0, 6, .inl (fun y9 => iv (P y9))))] ++ (wJs G a ds)) ([(a 0, .inr (3, [.ref (a 1), .ref (a 2), .ref (a 3), .int (iv (hJ ds)), .int (iv (xJ ds jk)), .int (iv (dv ds)), .int (iv (dn ds)), .int (iv (dt ds))])), (a 1, .inl (G 4, 6, .inr (.inr (.inr (.inr (jF a)))))), (a 2, .inl (G 1, 2, .inl (fun y9 => iv (dO ds y9)))), (a 3, .inl (G 0, 2, .inl (fun y9 => iv (dU ds y9)))), (pp, .inl (G 0, 6, .inl (fun y9 => iv (P y9))))] ++ (wJs G a (turnN P 0 ds))) := wperm (fun q9 => by
    have e_0 : cn q9 (wJs G a (turnN P 0 ds)) = cn q9 (wJs G a ds) := rfl
    simp only [cn_app, cn_nil, cn_two] at e_0 ⊢
    omega)
  replace hP := wP_perm hP hq
  replace hD := wD_perm hD hq
  have hP : va_P D vwCl ([(a 0, .inr (3, [.ref (a 1), .ref (a 2), .ref (a 3), .int (iv (hJ ds)), .int (iv (xJ ds jk)), .int (iv (dv ds)), .int (iv (dn ds)), .int (iv (dt ds))])), (a 1, .inl (G 4, 6, .inr (.inr (.inr (.inr (jF a)))))), (a 2, .inl (G 1, 2, .inl (fun y9 => iv (dO ds y9)))), (a 3, .inl (G 0, 2, .inl (fun y9 => iv (dU ds y9)))), (pp, .inl (G 0, 6, .inl (fun y9 => iv (P y9))))] ++ (wJs G a (turnN P 0 ds))) _ := hP
  have hD : va_D A ([(a 0, .inr (3, [.ref (a 1), .ref (a 2), .ref (a 3), .int (iv (hJ ds)), .int (iv (xJ ds jk)), .int (iv (dv ds)), .int (iv (dn ds)), .int (iv (dt ds))])), (a 1, .inl (G 4, 6, .inr (.inr (.inr (.inr (jF a)))))), (a 2, .inl (G 1, 2, .inl (fun y9 => iv (dO ds y9)))), (a 3, .inl (G 0, 2, .inl (fun y9 => iv (dU ds y9)))), (pp, .inl (G 0, 6, .inl (fun y9 => iv (P y9))))] ++ (wJs G a (turnN P 0 ds))) := hD
  refine W.widen (k := 0) (n := 0) (by omega) (by omega) ?_
  exact K4 7 0 0 (by omega) (by omega) _ _ hP hD hS _ (lv_sub hl [2, 3, 1, 0] rfl)
set_option maxHeartbeats 4000000 in
set_option maxRecDepth 100000 in
theorem c_X3_broken (l : Launch) (D : va_G) (G : Nat → ClassId) (a : Nat → Nat) (ds : DS) (hok : okD ds) (jk : Int)  : MtG l yX3_broken wsX3_broken 0 0 0 0 D (TY G) [.ref (a 0)] (wSD G a ds jk) (qI D (fun r u => r = iv (cntW 100 ds) ∧ u = wSD G a ds jk)) := by
  refine MtG.mk (cc := cX3_broken) (maxL := 6) (ret := some .int) (by decide) rfl (Nat.le_of_ble_eq_true rfl) ?_
  intro p e s m below meth c A ls hx hb hr hlk hml hown hin hts hK hA hP hD hS hl
  replace hown : s.vm.findClass RX3 = some m.cls := hown
  have hl : lv_has ls 6 [(0, .ref (a 0))] := hl
  have hP : va_P D vwCl (wSD G a ds jk) s.heap := hP
  have hD : va_D A (wSD G a ds jk) := hD
  have lk9 := hts (.fieldLink RX3 9 "DollCitadelLaw$Doll" "joints" "[[I") (by decide +kernel)
  have in_X3 : ∀ w ∈ u_ws RX3 TX3 8, w ∈ wsX3_broken := by decide +kernel
  have hq : List.Perm (wSD G a ds jk) ([(a 0, .inr (3, [.ref (a 1), .ref (a 2), .ref (a 3), .int (iv (hJ ds)), .int (iv (xJ ds jk)), .int (iv (dv ds)), .int (iv (dn ds)), .int (iv (dt ds))])), (a 1, .inl (G 4, 6, .inr (.inr (.inr (.inr (jF a)))))), (a 2, .inl (G 1, 2, .inl (fun y9 => iv (dO ds y9)))), (a 3, .inl (G 0, 2, .inl (fun y9 => iv (dU ds y9))))] ++ (wJs G a ds)) := wperm (fun q9 => by
    have e_0 : cn q9 (wSD G a ds jk) = cn q9 ([(a 0, .inr (3, [.ref (a 1), .ref (a 2), .ref (a 3), .int (iv (hJ ds)), .int (iv (xJ ds jk)), .int (iv (dv ds)), .int (iv (dn ds)), .int (iv (dt ds))])), (a 1, .inl (G 4, 6, .inr (.inr (.inr (.inr (jF a)))))), (a 2, .inl (G 1, 2, .inl (fun y9 => iv (dO ds y9)))), (a 3, .inl (G 0, 2, .inl (fun y9 => iv (dU ds y9))))] ++ (wJs G a ds)) := rfl
    simp only [cn_app, cn_nil, cn_two] at e_0 ⊢
    omega)
  replace hP := wP_perm hP hq
  replace hD := wD_perm hD hq
  have hP : va_P D vwCl ([(a 0, .inr (3, [.ref (a 1), .ref (a 2), .ref (a 3), .int (iv (hJ ds)), .int (iv (xJ ds jk)), .int (iv (dv ds)), .int (iv (dn ds)), .int (iv (dt ds))])), (a 1, .inl (G 4, 6, .inr (.inr (.inr (.inr (jF a)))))), (a 2, .inl (G 1, 2, .inl (fun y9 => iv (dO ds y9)))), (a 3, .inl (G 0, 2, .inl (fun y9 => iv (dU ds y9))))] ++ (wJs G a ds)) _ := hP
  have hD : va_D A ([(a 0, .inr (3, [.ref (a 1), .ref (a 2), .ref (a 3), .int (iv (hJ ds)), .int (iv (xJ ds jk)), .int (iv (dv ds)), .int (iv (dn ds)), .int (iv (dt ds))])), (a 1, .inl (G 4, 6, .inr (.inr (.inr (.inr (jF a)))))), (a 2, .inl (G 1, 2, .inl (fun y9 => iv (dO ds y9)))), (a 3, .inl (G 0, 2, .inl (fun y9 => iv (dU ds y9))))] ++ (wJs G a ds)) := hD
  refine r_const hx hb dX3_broken_0 ?_
  refine lv_istore_n (lv' := [(1, .int (iv 0)), (0, .ref (a 0))]) hx hb dX3_broken_1 rfl hl (by decide) rfl (fun ls hl => ?_)
  refine lv_aload_n hx hb dX3_broken_2 rfl (lv_at hl 1 rfl) ?_
  refine va_get (D := D) (ci := 3) (v := .ref (a 1)) (C := RX3) (T := TX3) (N := 8) hx hb hts in_X3 hown hK hP 0 rfl rfl 0 (by decide) lk9 (fun _ h9 => h9) rfl dX3_broken_3 ?_
  refine lv_astore_n (lv' := [(2, .ref (a 1)), (1, .int (iv 0)), (0, .ref (a 0))]) hx hb dX3_broken_6 rfl hl (by decide) rfl (fun ls hl => ?_)
  refine lv_aload_n hx hb dX3_broken_7 rfl (lv_at hl 0 rfl) ?_
  refine va_alen (v := iv 6) hx hb hK hP 1 4 rfl (ty := _) rfl rfl dX3_broken_8 ?_
  refine lv_istore_n (lv' := [(3, .int (iv 6)), (2, .ref (a 1)), (1, .int (iv 0)), (0, .ref (a 0))]) hx hb dX3_broken_9 rfl hl (by decide) rfl (fun ls hl => ?_)
  refine r_const hx hb dX3_broken_10 ?_
  refine lv_istore (lv' := [(4, .int (iv 0)), (3, .int (iv 6)), (2, .ref (a 1)), (1, .int (iv 0)), (0, .ref (a 0))]) hx hb dX3_broken_11 hl (by decide) rfl (fun ls hl => ?_)
  have K13 : ∀ (fu i : Nat) (x : Int), i ≤ 6 → 6 < i + fu → x = cnt (fun j9 => decide (dW ds j9 = 100)) i → ∀ (H : Heap) (locs : List Loc), va_P D vwCl ([(a 0, .inr (3, [.ref (a 1), .ref (a 2), .ref (a 3), .int (iv (hJ ds)), .int (iv (xJ ds jk)), .int (iv (dv ds)), .int (iv (dn ds)), .int (iv (dt ds))])), (a 1, .inl (G 4, 6, .inr (.inr (.inr (.inr (jF a)))))), (a 2, .inl (G 1, 2, .inl (fun y9 => iv (dO ds y9)))), (a 3, .inl (G 0, 2, .inl (fun y9 => iv (dU ds y9))))] ++ (wJs G a ds)) H → va_D A ([(a 0, .inr (3, [.ref (a 1), .ref (a 2), .ref (a 3), .int (iv (hJ ds)), .int (iv (xJ ds jk)), .int (iv (dv ds)), .int (iv (dn ds)), .int (iv (dt ds))])), (a 1, .inl (G 4, 6, .inr (.inr (.inr (.inr (jF a)))))), (a 2, .inl (G 1, 2, .inl (fun y9 => iv (dO ds y9)))), (a 3, .inl (G 0, 2, .inl (fun y9 => iv (dU ds y9))))] ++ (wJs G a ds)) → va_S A s.heap H locs → ∀ (ls : Array Slot), lv_has ls 6 [(0, .ref (a 0)), (1, .int (iv x)), (2, .ref (a 1)), (3, .int (iv 6)), (4, .int (iv (i : Int)))] → W p l e (rmOf 0 0 0 0) s m ([.ref (a 0)] : List Value).toArray below meth c H locs (0) (0) (MQ below (qI D (fun r u => r = iv (cntW 100 ds) ∧ u = wSD G a ds jk) A) ([.ref (a 0)] : List Value).toArray s 0 0 A) (F0 m 13 ls []) := by
    intro fu
    induction fu with
    | zero => intro i x h1 h2; exact absurd h2 (by omega)
    | succ fu ih13 =>
      intro i x hi_13 hn_13 ex H locs hP hD hS ls hl
      refine lv_iload hx hb dX3_broken_13 (lv_at hl 4 rfl) ?_
      refine lv_iload_n hx hb dX3_broken_15 rfl (lv_at hl 3 rfl) ?_
      refine r_icmp_ge hx hb 48 dX3_broken_16 (by decide) (by omega) (by omega) (fun c_16 => ?_) (fun c_16 => ?_)
      · skip
        refine lv_iload_n hx hb dX3_broken_48 rfl (lv_at hl 1 rfl) ?_
        have hq : List.Perm ([(a 0, .inr (3, [.ref (a 1), .ref (a 2), .ref (a 3), .int (iv (hJ ds)), .int (iv (xJ ds jk)), .int (iv (dv ds)), .int (iv (dn ds)), .int (iv (dt ds))])), (a 1, .inl (G 4, 6, .inr (.inr (.inr (.inr (jF a)))))), (a 2, .inl (G 1, 2, .inl (fun y9 => iv (dO ds y9)))), (a 3, .inl (G 0, 2, .inl (fun y9 => iv (dU ds y9))))] ++ (wJs G a ds)) (wSD G a ds jk) := wperm (fun q9 => by
          have e_0 : cn q9 (wSD G a ds jk) = cn q9 ([(a 0, .inr (3, [.ref (a 1), .ref (a 2), .ref (a 3), .int (iv (hJ ds)), .int (iv (xJ ds jk)), .int (iv (dv ds)), .int (iv (dn ds)), .int (iv (dt ds))])), (a 1, .inl (G 4, 6, .inr (.inr (.inr (.inr (jF a)))))), (a 2, .inl (G 1, 2, .inl (fun y9 => iv (dO ds y9)))), (a 3, .inl (G 0, 2, .inl (fun y9 => iv (dU ds y9))))] ++ (wJs G a ds)) := rfl
          simp only [cn_app, cn_nil, cn_two] at e_0 ⊢
          omega)
        replace hP := wP_perm hP hq
        replace hD := wD_perm hD hq
        have hP : va_P D vwCl (wSD G a ds jk) _ := hP
        have hD : va_D A (wSD G a ds jk) := hD
        exact e_int hx hb hr hlk dX3_broken_49 hS hP hD (by omega) (by omega) (⟨by rw [ex, show i = 6 by omega, cntE hok], rfl⟩)
      · skip
        have rW := okD_W hok i (by omega)
        have hq : List.Perm ([(a 0, .inr (3, [.ref (a 1), .ref (a 2), .ref (a 3), .int (iv (hJ ds)), .int (iv (xJ ds jk)), .int (iv (dv ds)), .int (iv (dn ds)), .int (iv (dt ds))])), (a 1, .inl (G 4, 6, .inr (.inr (.inr (.inr (jF a)))))), (a 2, .inl (G 1, 2, .inl (fun y9 => iv (dO ds y9)))), (a 3, .inl (G 0, 2, .inl (fun y9 => iv (dU ds y9))))] ++ (wJs G a ds)) ([(a 0, .inr (3, [.ref (a 1), .ref (a 2), .ref (a 3), .int (iv (hJ ds)), .int (iv (xJ ds jk)), .int (iv (dv ds)), .int (iv (dn ds)), .int (iv (dt ds))])), (a 1, .inl (G 4, 6, .inr (.inr (.inr (.inr (jF a)))))), (a 2, .inl (G 1, 2, .inl (fun y9 => iv (dO ds y9)))), (a 3, .inl (G 0, 2, .inl (fun y9 => iv (dU ds y9)))), (a (4 + i), .inl (G 0, 3, .inl (fun y9 => iv ((fun k9 => limv ds k9 i) y9))))] ++ (wJo G a ds i)) := wperm (fun q9 => by
          have e_0 : cn q9 (wJs G a ds) = cn q9 ([(a (4 + i), .inl (G 0, 3, .inl (fun y9 => iv ((fun k9 => limv ds k9 i) y9))))] ++ (wJo G a ds i)) := cn_perm (wJs_get (G := G) (a := a) ds (d := i) (by omega)) q9
          simp only [cn_app, cn_nil, cn_two] at e_0 ⊢
          omega)
        replace hP := wP_perm hP hq
        replace hD := wD_perm hD hq
        have hP : va_P D vwCl ([(a 0, .inr (3, [.ref (a 1), .ref (a 2), .ref (a 3), .int (iv (hJ ds)), .int (iv (xJ ds jk)), .int (iv (dv ds)), .int (iv (dn ds)), .int (iv (dt ds))])), (a 1, .inl (G 4, 6, .inr (.inr (.inr (.inr (jF a)))))), (a 2, .inl (G 1, 2, .inl (fun y9 => iv (dO ds y9)))), (a 3, .inl (G 0, 2, .inl (fun y9 => iv (dU ds y9)))), (a (4 + i), .inl (G 0, 3, .inl (fun y9 => iv ((fun k9 => limv ds k9 i) y9))))] ++ (wJo G a ds i)) _ := hP
        have hD : va_D A ([(a 0, .inr (3, [.ref (a 1), .ref (a 2), .ref (a 3), .int (iv (hJ ds)), .int (iv (xJ ds jk)), .int (iv (dv ds)), .int (iv (dn ds)), .int (iv (dt ds))])), (a 1, .inl (G 4, 6, .inr (.inr (.inr (.inr (jF a)))))), (a 2, .inl (G 1, 2, .inl (fun y9 => iv (dO ds y9)))), (a 3, .inl (G 0, 2, .inl (fun y9 => iv (dU ds y9)))), (a (4 + i), .inl (G 0, 3, .inl (fun y9 => iv ((fun k9 => limv ds k9 i) y9))))] ++ (wJo G a ds i)) := hD
        refine lv_aload_n hx hb dX3_broken_19 rfl (lv_at hl 2 rfl) ?_
        refine lv_iload hx hb dX3_broken_20 (lv_at hl 4 rfl) ?_
        refine r_aaldA (f := jF a) hx hb hK hP 1 4 rfl rfl i (by omega) (by omega) (by omega) dX3_broken_22 ?_
        rw [show va_rf (jF a i) = Value.ref (a (4 + i)) from jF_at (by omega)]
        refine lv_astore (lv' := [(5, .ref (a (4 + i))), (0, .ref (a 0)), (1, .int (iv x)), (2, .ref (a 1)), (3, .int (iv 6)), (4, .int (iv (i : Int)))]) hx hb dX3_broken_23 hl (by decide) rfl (fun ls hl => ?_)
        refine lv_iload_n hx hb dX3_broken_25 rfl (lv_at hl 2 rfl) ?_
        refine lv_aload hx hb dX3_broken_26 (lv_at hl 0 rfl) ?_
        refine r_const hx hb dX3_broken_28 ?_
        refine r_iald (F := (fun k9 => limv ds k9 i)) hx hb hK hP 4 0 rfl rfl 1 (by omega) (by omega) (by omega) dX3_broken_29 ?_
        rw [show limv ds 1 i = dW ds i from rfl]
        refine lv_bipush (v := iv 100) hx hb dX3_broken_30 (by decide) ?_
        refine r_icmp_ne hx hb 39 dX3_broken_32 (by decide) (by omega) (by omega) (fun c_32 => ?_) (fun c_32 => ?_)
        · skip
          refine r_const hx hb dX3_broken_39 ?_
          refine r_add hx hb dX3_broken_40 ?_
          refine lv_istore_n (lv' := [(1, .int (iv (x + 0))), (5, .ref (a (4 + i))), (0, .ref (a 0)), (2, .ref (a 1)), (3, .int (iv 6)), (4, .int (iv (i : Int)))]) hx hb dX3_broken_41 rfl hl (by decide) rfl (fun ls hl => ?_)
          refine r_iinc (k := 5) (lv' := [(4, .int (iv ((i : Int) + 1))), (1, .int (iv (x + 0))), (5, .ref (a (4 + i))), (0, .ref (a 0)), (2, .ref (a 1)), (3, .int (iv 6))]) hx hb dX3_broken_42 hl rfl (by decide) rfl (fun ls hl => ?_)
          refine r_goto hx hb 13 dX3_broken_45 (by decide) ?_
          have hq : List.Perm ([(a 0, .inr (3, [.ref (a 1), .ref (a 2), .ref (a 3), .int (iv (hJ ds)), .int (iv (xJ ds jk)), .int (iv (dv ds)), .int (iv (dn ds)), .int (iv (dt ds))])), (a 1, .inl (G 4, 6, .inr (.inr (.inr (.inr (jF a)))))), (a 2, .inl (G 1, 2, .inl (fun y9 => iv (dO ds y9)))), (a 3, .inl (G 0, 2, .inl (fun y9 => iv (dU ds y9)))), (a (4 + i), .inl (G 0, 3, .inl (fun y9 => iv ((fun k9 => limv ds k9 i) y9))))] ++ (wJo G a ds i)) ([(a 0, .inr (3, [.ref (a 1), .ref (a 2), .ref (a 3), .int (iv (hJ ds)), .int (iv (xJ ds jk)), .int (iv (dv ds)), .int (iv (dn ds)), .int (iv (dt ds))])), (a 1, .inl (G 4, 6, .inr (.inr (.inr (.inr (jF a)))))), (a 2, .inl (G 1, 2, .inl (fun y9 => iv (dO ds y9)))), (a 3, .inl (G 0, 2, .inl (fun y9 => iv (dU ds y9))))] ++ (wJs G a ds)) := wperm (fun q9 => by
            have e_0 : cn q9 (wJs G a ds) = cn q9 ([(a (4 + i), .inl (G 0, 3, .inl (fun y9 => iv ((fun k9 => limv ds k9 i) y9))))] ++ (wJo G a ds i)) := cn_perm (wJs_get (G := G) (a := a) ds (d := i) (by omega)) q9
            simp only [cn_app, cn_nil, cn_two] at e_0 ⊢
            omega)
          replace hP := wP_perm hP hq
          replace hD := wD_perm hD hq
          have hP : va_P D vwCl ([(a 0, .inr (3, [.ref (a 1), .ref (a 2), .ref (a 3), .int (iv (hJ ds)), .int (iv (xJ ds jk)), .int (iv (dv ds)), .int (iv (dn ds)), .int (iv (dt ds))])), (a 1, .inl (G 4, 6, .inr (.inr (.inr (.inr (jF a)))))), (a 2, .inl (G 1, 2, .inl (fun y9 => iv (dO ds y9)))), (a 3, .inl (G 0, 2, .inl (fun y9 => iv (dU ds y9))))] ++ (wJs G a ds)) _ := hP
          have hD : va_D A ([(a 0, .inr (3, [.ref (a 1), .ref (a 2), .ref (a 3), .int (iv (hJ ds)), .int (iv (xJ ds jk)), .int (iv (dv ds)), .int (iv (dn ds)), .int (iv (dt ds))])), (a 1, .inl (G 4, 6, .inr (.inr (.inr (.inr (jF a)))))), (a 2, .inl (G 1, 2, .inl (fun y9 => iv (dO ds y9)))), (a 3, .inl (G 0, 2, .inl (fun y9 => iv (dU ds y9))))] ++ (wJs G a ds)) := hD
          refine W.widen (k := 0) (n := 0) (by omega) (by omega) ?_
          exact ih13 (i + 1) (x + 0) (by omega) (by omega) (by rw [ex, Int.add_zero]; exact cnt_no (decide_eq_false (by omega))) _ _ hP hD hS _ (lv_sub hl [3, 1, 4, 5, 0] rfl)
        · skip
          refine r_const hx hb dX3_broken_35 ?_
          refine r_goto hx hb 40 dX3_broken_36 (by decide) ?_
          refine r_add hx hb dX3_broken_40 ?_
          refine lv_istore_n (lv' := [(1, .int (iv (x + 1))), (5, .ref (a (4 + i))), (0, .ref (a 0)), (2, .ref (a 1)), (3, .int (iv 6)), (4, .int (iv (i : Int)))]) hx hb dX3_broken_41 rfl hl (by decide) rfl (fun ls hl => ?_)
          refine r_iinc (k := 5) (lv' := [(4, .int (iv ((i : Int) + 1))), (1, .int (iv (x + 1))), (5, .ref (a (4 + i))), (0, .ref (a 0)), (2, .ref (a 1)), (3, .int (iv 6))]) hx hb dX3_broken_42 hl rfl (by decide) rfl (fun ls hl => ?_)
          refine r_goto hx hb 13 dX3_broken_45 (by decide) ?_
          have hq : List.Perm ([(a 0, .inr (3, [.ref (a 1), .ref (a 2), .ref (a 3), .int (iv (hJ ds)), .int (iv (xJ ds jk)), .int (iv (dv ds)), .int (iv (dn ds)), .int (iv (dt ds))])), (a 1, .inl (G 4, 6, .inr (.inr (.inr (.inr (jF a)))))), (a 2, .inl (G 1, 2, .inl (fun y9 => iv (dO ds y9)))), (a 3, .inl (G 0, 2, .inl (fun y9 => iv (dU ds y9)))), (a (4 + i), .inl (G 0, 3, .inl (fun y9 => iv ((fun k9 => limv ds k9 i) y9))))] ++ (wJo G a ds i)) ([(a 0, .inr (3, [.ref (a 1), .ref (a 2), .ref (a 3), .int (iv (hJ ds)), .int (iv (xJ ds jk)), .int (iv (dv ds)), .int (iv (dn ds)), .int (iv (dt ds))])), (a 1, .inl (G 4, 6, .inr (.inr (.inr (.inr (jF a)))))), (a 2, .inl (G 1, 2, .inl (fun y9 => iv (dO ds y9)))), (a 3, .inl (G 0, 2, .inl (fun y9 => iv (dU ds y9))))] ++ (wJs G a ds)) := wperm (fun q9 => by
            have e_0 : cn q9 (wJs G a ds) = cn q9 ([(a (4 + i), .inl (G 0, 3, .inl (fun y9 => iv ((fun k9 => limv ds k9 i) y9))))] ++ (wJo G a ds i)) := cn_perm (wJs_get (G := G) (a := a) ds (d := i) (by omega)) q9
            simp only [cn_app, cn_nil, cn_two] at e_0 ⊢
            omega)
          replace hP := wP_perm hP hq
          replace hD := wD_perm hD hq
          have hP : va_P D vwCl ([(a 0, .inr (3, [.ref (a 1), .ref (a 2), .ref (a 3), .int (iv (hJ ds)), .int (iv (xJ ds jk)), .int (iv (dv ds)), .int (iv (dn ds)), .int (iv (dt ds))])), (a 1, .inl (G 4, 6, .inr (.inr (.inr (.inr (jF a)))))), (a 2, .inl (G 1, 2, .inl (fun y9 => iv (dO ds y9)))), (a 3, .inl (G 0, 2, .inl (fun y9 => iv (dU ds y9))))] ++ (wJs G a ds)) _ := hP
          have hD : va_D A ([(a 0, .inr (3, [.ref (a 1), .ref (a 2), .ref (a 3), .int (iv (hJ ds)), .int (iv (xJ ds jk)), .int (iv (dv ds)), .int (iv (dn ds)), .int (iv (dt ds))])), (a 1, .inl (G 4, 6, .inr (.inr (.inr (.inr (jF a)))))), (a 2, .inl (G 1, 2, .inl (fun y9 => iv (dO ds y9)))), (a 3, .inl (G 0, 2, .inl (fun y9 => iv (dU ds y9))))] ++ (wJs G a ds)) := hD
          refine W.widen (k := 0) (n := 0) (by omega) (by omega) ?_
          exact ih13 (i + 1) (x + 1) (by omega) (by omega) (by rw [ex]; exact cnt_yes (decide_eq_true (by omega))) _ _ hP hD hS _ (lv_sub hl [3, 1, 4, 5, 0] rfl)
  refine W.widen (k := 0) (n := 0) (by omega) (by omega) ?_
  exact K13 7 0 0 (by omega) (by omega) rfl _ _ hP hD hS _ (lv_sub hl [4, 3, 2, 1, 0] rfl)
