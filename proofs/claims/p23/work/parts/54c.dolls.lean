set_option maxHeartbeats 4000000 in
set_option maxRecDepth 100000 in
theorem c_X3_pass (l : Launch) (D : va_G) (G : Nat → ClassId) (a : Nat → Nat) (ds : DS) (hok : okD ds) (jk : Int) (d mo : Int) (hd0 : 0 ≤ d ∧ d < 2000000000) (hmo : 0 ≤ mo ∧ mo ≤ 3)  : MtG l yX3_pass wsX3_pass 0 0 0 0 D (TY G) [.ref (a 0), .int (iv d), .int (iv mo)] (wSD G a ds jk) (qI D (fun r u => (∃ z : Int, r = iv z) ∧ ∃ j9 : Int, u = wSD G a (day1 d mo ds) j9)) := by
  refine MtG.mk (cc := cX3_pass) (maxL := 8) (ret := some .int) (by decide) rfl (Nat.le_of_ble_eq_true rfl) ?_
  intro p e s m below meth c A ls hx hb hr hlk hml hown hin hts hK hA hP hD hS hl
  replace hown : s.vm.findClass RX3 = some m.cls := hown
  have hl : lv_has ls 8 [(0, .ref (a 0)), (1, .int (iv d)), (2, .int (iv mo))] := hl
  have hP : va_P D vwCl (wSD G a ds jk) s.heap := hP
  have hD : va_D A (wSD G a ds jk) := hD
  have lk22 := hts (.fieldLink RX3 22 "DollCitadelLaw$Doll" "hasWig" "Z") (by decide +kernel)
  have in_X3 : ∀ w ∈ u_ws RX3 TX3 8, w ∈ wsX3_pass := by decide +kernel
  have lk32 := hts (.fieldLink RX3 32 "DollCitadelLaw$Doll" "eaten" "I") (by decide +kernel)
  have lk36 := hts (.fieldLink RX3 36 "DollCitadelLaw$Doll" "weight" "I") (by decide +kernel)
  have lk9 := hts (.fieldLink RX3 9 "DollCitadelLaw$Doll" "joints" "[[I") (by decide +kernel)
  have lk39 := hts (.fieldLink RX3 39 "DollCitadelLaw$Doll" "pins" "I") (by decide +kernel)
  have lk14 := hts (.fieldLink RX3 14 "DollCitadelLaw$Doll" "open" "[Z") (by decide +kernel)
  have lk18 := hts (.fieldLink RX3 18 "DollCitadelLaw$Doll" "dust" "[I") (by decide +kernel)
  have hjc := hJ_cases ds jk
  obtain ⟨-, -, og, ov, on, ovn, ovn2⟩ := id hok
  have hq : List.Perm (wSD G a ds jk) ([(a 0, .inr (3, [.ref (a 1), .ref (a 2), .ref (a 3), .int (iv (hJ ds)), .int (iv (xJ ds jk)), .int (iv (dv ds)), .int (iv (dn ds)), .int (iv (dt ds))])), (a 1, .inl (G 4, 6, .inr (.inr (.inr (.inr (jF a)))))), (a 2, .inl (G 1, 2, .inl (fun y9 => iv (dO ds y9)))), (a 3, .inl (G 0, 2, .inl (fun y9 => iv (dU ds y9))))] ++ (wJs G a ds)) := wperm (fun q9 => by
    have e_0 : cn q9 (wSD G a ds jk) = cn q9 ([(a 0, .inr (3, [.ref (a 1), .ref (a 2), .ref (a 3), .int (iv (hJ ds)), .int (iv (xJ ds jk)), .int (iv (dv ds)), .int (iv (dn ds)), .int (iv (dt ds))])), (a 1, .inl (G 4, 6, .inr (.inr (.inr (.inr (jF a)))))), (a 2, .inl (G 1, 2, .inl (fun y9 => iv (dO ds y9)))), (a 3, .inl (G 0, 2, .inl (fun y9 => iv (dU ds y9))))] ++ (wJs G a ds)) := rfl
    simp only [cn_app, cn_nil, cn_two] at e_0 ⊢ <;> omega)
  replace hP := wP_perm hP hq
  replace hD := wD_perm hD hq
  have hP : va_P D vwCl ([(a 0, .inr (3, [.ref (a 1), .ref (a 2), .ref (a 3), .int (iv (hJ ds)), .int (iv (xJ ds jk)), .int (iv (dv ds)), .int (iv (dn ds)), .int (iv (dt ds))])), (a 1, .inl (G 4, 6, .inr (.inr (.inr (.inr (jF a)))))), (a 2, .inl (G 1, 2, .inl (fun y9 => iv (dO ds y9)))), (a 3, .inl (G 0, 2, .inl (fun y9 => iv (dU ds y9))))] ++ (wJs G a ds)) _ := hP
  have hD : va_D A ([(a 0, .inr (3, [.ref (a 1), .ref (a 2), .ref (a 3), .int (iv (hJ ds)), .int (iv (xJ ds jk)), .int (iv (dv ds)), .int (iv (dn ds)), .int (iv (dt ds))])), (a 1, .inl (G 4, 6, .inr (.inr (.inr (.inr (jF a)))))), (a 2, .inl (G 1, 2, .inl (fun y9 => iv (dO ds y9)))), (a 3, .inl (G 0, 2, .inl (fun y9 => iv (dU ds y9))))] ++ (wJs G a ds)) := hD
  have J36 : ∀ (ds1 : DS) (j1 : Int) (z : Int), ds1 = eatW mo ds → ∀ (H : Heap) (locs : List Loc), va_P D vwCl ([(a 0, .inr (3, [.ref (a 1), .ref (a 2), .ref (a 3), .int (iv (hJ ds1)), .int (iv (xJ ds1 j1)), .int (iv (dv ds1)), .int (iv (dn ds1)), .int (iv (dt ds1))])), (a 1, .inl (G 4, 6, .inr (.inr (.inr (.inr (jF a)))))), (a 2, .inl (G 1, 2, .inl (fun y9 => iv (dO ds1 y9)))), (a 3, .inl (G 0, 2, .inl (fun y9 => iv (dU ds1 y9))))] ++ (wJs G a ds1)) H → va_D A ([(a 0, .inr (3, [.ref (a 1), .ref (a 2), .ref (a 3), .int (iv (hJ ds1)), .int (iv (xJ ds1 j1)), .int (iv (dv ds1)), .int (iv (dn ds1)), .int (iv (dt ds1))])), (a 1, .inl (G 4, 6, .inr (.inr (.inr (.inr (jF a)))))), (a 2, .inl (G 1, 2, .inl (fun y9 => iv (dO ds1 y9)))), (a 3, .inl (G 0, 2, .inl (fun y9 => iv (dU ds1 y9))))] ++ (wJs G a ds1)) → va_S A s.heap H locs → ∀ (ls : Array Slot), lv_has ls 8 [(0, .ref (a 0)), (1, .int (iv d)), (2, .int (iv mo)), (3, .int (iv z))] → W p l e (rmOf 0 0 0 0) s m ([.ref (a 0), .int (iv d), .int (iv mo)] : List Value).toArray below meth c H locs (0) (0) (MQ below (qI D (fun r u => (∃ z : Int, r = iv z) ∧ ∃ j9 : Int, u = wSD G a (day1 d mo ds) j9) A) ([.ref (a 0), .int (iv d), .int (iv mo)] : List Value).toArray s 0 0 A) (F0 m 36 ls []) := by
    intro ds1 j1 z es1 H locs hP hD hS ls hl
    have ok1 : okD ds1 := by rw [es1]; exact eatW_ok hmo hok
    have rW1 := okD_W ok1 5 (by omega)
    obtain ⟨-, -, og1, ov1, on1, ovn1, ovn3⟩ := id ok1
    have J73 : ∀ (n1 : Int) (z2 : Int), pinH ds1 n1 → ∀ (H : Heap) (locs : List Loc), va_P D vwCl ([(a 0, .inr (3, [.ref (a 1), .ref (a 2), .ref (a 3), .int (iv (hJ ds1)), .int (iv (xJ ds1 j1)), .int (iv (dv ds1)), .int (iv n1), .int (iv (dt ds1))])), (a 1, .inl (G 4, 6, .inr (.inr (.inr (.inr (jF a)))))), (a 2, .inl (G 1, 2, .inl (fun y9 => iv (dO ds1 y9)))), (a 3, .inl (G 0, 2, .inl (fun y9 => iv (dU ds1 y9))))] ++ (wJs G a ds1)) H → va_D A ([(a 0, .inr (3, [.ref (a 1), .ref (a 2), .ref (a 3), .int (iv (hJ ds1)), .int (iv (xJ ds1 j1)), .int (iv (dv ds1)), .int (iv n1), .int (iv (dt ds1))])), (a 1, .inl (G 4, 6, .inr (.inr (.inr (.inr (jF a)))))), (a 2, .inl (G 1, 2, .inl (fun y9 => iv (dO ds1 y9)))), (a 3, .inl (G 0, 2, .inl (fun y9 => iv (dU ds1 y9))))] ++ (wJs G a ds1)) → va_S A s.heap H locs → ∀ (ls : Array Slot), lv_has ls 8 [(0, .ref (a 0)), (1, .int (iv d)), (2, .int (iv mo)), (3, .int (iv z2))] → W p l e (rmOf 0 0 0 0) s m ([.ref (a 0), .int (iv d), .int (iv mo)] : List Value).toArray below meth c H locs (0) (0) (MQ below (qI D (fun r u => (∃ z : Int, r = iv z) ∧ ∃ j9 : Int, u = wSD G a (day1 d mo ds) j9) A) ([.ref (a 0), .int (iv d), .int (iv mo)] : List Value).toArray s 0 0 A) (F0 m 73 ls []) := by
      intro n1 z2 hn1 H locs hP hD hS ls hl
      have rn1 : 0 ≤ n1 ∧ n1 ≤ 12 := by obtain ⟨u1, u2⟩ := hn1; by_cases q : dv ds1 = 0 ∨ dW ds1 5 < 50; (have := u1 q; omega); (have := u2 q; omega)
      have J97 : ∀ (ds2 : DS) (z3 : Int), ds2 = loosen ds1 → ∀ (H : Heap) (locs : List Loc), va_P D vwCl ([(a 0, .inr (3, [.ref (a 1), .ref (a 2), .ref (a 3), .int (iv (hJ ds2)), .int (iv (xJ ds2 j1)), .int (iv (dv ds2)), .int (iv (dn ds2)), .int (iv (dt ds2))])), (a 1, .inl (G 4, 6, .inr (.inr (.inr (.inr (jF a)))))), (a 2, .inl (G 1, 2, .inl (fun y9 => iv (dO ds2 y9)))), (a 3, .inl (G 0, 2, .inl (fun y9 => iv (dU ds2 y9))))] ++ (wJs G a ds2)) H → va_D A ([(a 0, .inr (3, [.ref (a 1), .ref (a 2), .ref (a 3), .int (iv (hJ ds2)), .int (iv (xJ ds2 j1)), .int (iv (dv ds2)), .int (iv (dn ds2)), .int (iv (dt ds2))])), (a 1, .inl (G 4, 6, .inr (.inr (.inr (.inr (jF a)))))), (a 2, .inl (G 1, 2, .inl (fun y9 => iv (dO ds2 y9)))), (a 3, .inl (G 0, 2, .inl (fun y9 => iv (dU ds2 y9))))] ++ (wJs G a ds2)) → va_S A s.heap H locs → ∀ (ls : Array Slot), lv_has ls 8 [(0, .ref (a 0)), (1, .int (iv d)), (2, .int (iv mo)), (3, .int (iv z3))] → W p l e (rmOf 0 0 0 0) s m ([.ref (a 0), .int (iv d), .int (iv mo)] : List Value).toArray below meth c H locs (0) (0) (MQ below (qI D (fun r u => (∃ z : Int, r = iv z) ∧ ∃ j9 : Int, u = wSD G a (day1 d mo ds) j9) A) ([.ref (a 0), .int (iv d), .int (iv mo)] : List Value).toArray s 0 0 A) (F0 m 97 ls []) := by
        intro ds2 z3 es2 H locs hP hD hS ls hl
        have ok2 : okD ds2 := by rw [es2]; exact loosen_ok ok1
        refine lv_aload_n hx hb dX3_pass_97 rfl (lv_at hl 0 rfl) ?_
        refine va_get (D := D) (ci := 3) (v := .ref (a 1)) (C := RX3) (T := TX3) (N := 8) hx hb hts in_X3 hown hK hP 0 rfl rfl 0 (by decide) lk9 (fun _ h9 => h9) rfl dX3_pass_98 ?_
        refine lv_astore (lv' := [(4, .ref (a 1)), (0, .ref (a 0)), (1, .int (iv d)), (2, .int (iv mo)), (3, .int (iv z3))]) hx hb dX3_pass_101 hl (by decide) rfl (fun ls hl => ?_)
        refine lv_aload hx hb dX3_pass_103 (lv_at hl 0 rfl) ?_
        refine va_alen (v := iv 6) hx hb hK hP 1 4 rfl (ty := _) rfl rfl dX3_pass_105 ?_
        refine lv_istore (lv' := [(5, .int (iv 6)), (4, .ref (a 1)), (0, .ref (a 0)), (1, .int (iv d)), (2, .int (iv mo)), (3, .int (iv z3))]) hx hb dX3_pass_106 hl (by decide) rfl (fun ls hl => ?_)
        refine r_const hx hb dX3_pass_108 ?_
        refine lv_istore (lv' := [(6, .int (iv 0)), (5, .int (iv 6)), (4, .ref (a 1)), (0, .ref (a 0)), (1, .int (iv d)), (2, .int (iv mo)), (3, .int (iv z3))]) hx hb dX3_pass_109 hl (by decide) rfl (fun ls hl => ?_)
        have K111 : ∀ (fu i : Nat), i ≤ 6 → 6 < i + fu → ∀ (H : Heap) (locs : List Loc), va_P D vwCl ([(a 0, .inr (3, [.ref (a 1), .ref (a 2), .ref (a 3), .int (iv (hJ ds2)), .int (iv (xJ ds2 j1)), .int (iv (dv ds2)), .int (iv (dn ds2)), .int (iv (dt ds2))])), (a 1, .inl (G 4, 6, .inr (.inr (.inr (.inr (jF a)))))), (a 2, .inl (G 1, 2, .inl (fun y9 => iv (dO ds2 y9)))), (a 3, .inl (G 0, 2, .inl (fun y9 => iv (dU ds2 y9))))] ++ (wJs G a (dX d i ds2))) H → va_D A ([(a 0, .inr (3, [.ref (a 1), .ref (a 2), .ref (a 3), .int (iv (hJ ds2)), .int (iv (xJ ds2 j1)), .int (iv (dv ds2)), .int (iv (dn ds2)), .int (iv (dt ds2))])), (a 1, .inl (G 4, 6, .inr (.inr (.inr (.inr (jF a)))))), (a 2, .inl (G 1, 2, .inl (fun y9 => iv (dO ds2 y9)))), (a 3, .inl (G 0, 2, .inl (fun y9 => iv (dU ds2 y9))))] ++ (wJs G a (dX d i ds2))) → va_S A s.heap H locs → ∀ (ls : Array Slot), lv_has ls 8 [(0, .ref (a 0)), (1, .int (iv d)), (2, .int (iv mo)), (3, .int (iv z3)), (4, .ref (a 1)), (5, .int (iv 6)), (6, .int (iv (i : Int)))] → W p l e (rmOf 0 0 0 0) s m ([.ref (a 0), .int (iv d), .int (iv mo)] : List Value).toArray below meth c H locs (0) (0) (MQ below (qI D (fun r u => (∃ z : Int, r = iv z) ∧ ∃ j9 : Int, u = wSD G a (day1 d mo ds) j9) A) ([.ref (a 0), .int (iv d), .int (iv mo)] : List Value).toArray s 0 0 A) (F0 m 111 ls []) := by
          intro fu
          induction fu with
          | zero => intro i h1 h2; exact absurd h2 (by omega)
          | succ fu ih111 =>
            intro i hi_111 hn_111 H locs hP hD hS ls hl
            refine lv_iload hx hb dX3_pass_111 (lv_at hl 6 rfl) ?_
            refine lv_iload hx hb dX3_pass_113 (lv_at hl 5 rfl) ?_
            refine r_icmp_ge hx hb 152 dX3_pass_115 (by decide) (by omega) (by omega) (fun c_115 => ?_) (fun c_115 => ?_)
            · skip
              refine r_const hx hb dX3_pass_152 ?_
              refine lv_istore (lv' := [(4, .int (iv 0)), (0, .ref (a 0)), (1, .int (iv d)), (2, .int (iv mo)), (3, .int (iv z3)), (5, .int (iv 6)), (6, .int (iv (i : Int)))]) hx hb dX3_pass_153 hl (by decide) rfl (fun ls hl => ?_)
              have K155 : ∀ (fu i : Nat) (U : Nat → Int), i ≤ 2 → 2 < i + fu → gatH (dO ds2) (dU ds2) i U → ∀ (H : Heap) (locs : List Loc), va_P D vwCl ([(a 0, .inr (3, [.ref (a 1), .ref (a 2), .ref (a 3), .int (iv (hJ ds2)), .int (iv (xJ ds2 j1)), .int (iv (dv ds2)), .int (iv (dn ds2)), .int (iv (dt ds2))])), (a 1, .inl (G 4, 6, .inr (.inr (.inr (.inr (jF a)))))), (a 2, .inl (G 1, 2, .inl (fun y9 => iv (dO ds2 y9)))), (a 3, .inl (G 0, 2, .inl (fun y9 => iv (U y9))))] ++ (wJs G a (dX d 6 ds2))) H → va_D A ([(a 0, .inr (3, [.ref (a 1), .ref (a 2), .ref (a 3), .int (iv (hJ ds2)), .int (iv (xJ ds2 j1)), .int (iv (dv ds2)), .int (iv (dn ds2)), .int (iv (dt ds2))])), (a 1, .inl (G 4, 6, .inr (.inr (.inr (.inr (jF a)))))), (a 2, .inl (G 1, 2, .inl (fun y9 => iv (dO ds2 y9)))), (a 3, .inl (G 0, 2, .inl (fun y9 => iv (U y9))))] ++ (wJs G a (dX d 6 ds2))) → va_S A s.heap H locs → ∀ (ls : Array Slot), lv_has ls 8 [(0, .ref (a 0)), (1, .int (iv d)), (2, .int (iv mo)), (3, .int (iv z3)), (4, .int (iv (i : Int)))] → W p l e (rmOf 0 0 0 0) s m ([.ref (a 0), .int (iv d), .int (iv mo)] : List Value).toArray below meth c H locs (0) (0) (MQ below (qI D (fun r u => (∃ z : Int, r = iv z) ∧ ∃ j9 : Int, u = wSD G a (day1 d mo ds) j9) A) ([.ref (a 0), .int (iv d), .int (iv mo)] : List Value).toArray s 0 0 A) (F0 m 155 ls []) := by
                intro fu
                induction fu with
                | zero => intro i U h1 h2; exact absurd h2 (by omega)
                | succ fu ih155 =>
                  intro i U hi_155 hn_155 hU H locs hP hD hS ls hl
                  refine lv_iload hx hb dX3_pass_155 (lv_at hl 4 rfl) ?_
                  refine r_const hx hb dX3_pass_157 ?_
                  refine r_icmp_ge hx hb 200 dX3_pass_158 (by decide) (by omega) (by omega) (fun c_158 => ?_) (fun c_158 => ?_)
                  · skip
                    refine lv_iload_n hx hb dX3_pass_200 rfl (lv_at hl 3 rfl) ?_
                    obtain rfl : i = 2 := by omega
                    have ey : day1 d mo ds = gatN 2 (dX d 6 ds2) := by rw [es2, es1]; rfl
                    have fx := gatN_fx (dX d 6 ds2) 2
                    have fd := dX_fix d 6 ds2
                    have hU9 : gatH (dO ds2) (dU ds2) 2 (dU (day1 d mo ds)) := by rw [ey, ← fd.1, ← fd.2.1]; exact gat_2 _
                    replace hP := wP_say 3 (dU (day1 d mo ds)) hP rfl (gatH_eq hU hU9)
                    replace hD := wD_say 3 (.inl (G 0, 2, .inl (fun y9 => iv (dU (day1 d mo ds) y9)))) hD rfl
                    have hP : va_P D vwCl ([(a 0, .inr (3, [.ref (a 1), .ref (a 2), .ref (a 3), .int (iv (hJ ds2)), .int (iv (xJ ds2 j1)), .int (iv (dv ds2)), .int (iv (dn ds2)), .int (iv (dt ds2))])), (a 1, .inl (G 4, 6, .inr (.inr (.inr (.inr (jF a)))))), (a 2, .inl (G 1, 2, .inl (fun y9 => iv (dO ds2 y9)))), (a 3, .inl (G 0, 2, .inl (fun y9 => iv (dU (day1 d mo ds) y9))))] ++ (wJs G a (dX d 6 ds2))) _ := hP
                    have hD : va_D A ([(a 0, .inr (3, [.ref (a 1), .ref (a 2), .ref (a 3), .int (iv (hJ ds2)), .int (iv (xJ ds2 j1)), .int (iv (dv ds2)), .int (iv (dn ds2)), .int (iv (dt ds2))])), (a 1, .inl (G 4, 6, .inr (.inr (.inr (.inr (jF a)))))), (a 2, .inl (G 1, 2, .inl (fun y9 => iv (dO ds2 y9)))), (a 3, .inl (G 0, 2, .inl (fun y9 => iv (dU (day1 d mo ds) y9))))] ++ (wJs G a (dX d 6 ds2))) := hD
                    have e1 : dg ds2 = dg (day1 d mo ds) := by rw [ey, fx.2.2.2.2.1, fd.2.2.1]
                    have hw : ([(a 0, .inr (3, [.ref (a 1), .ref (a 2), .ref (a 3), .int (iv (hJ ds2)), .int (iv (xJ ds2 j1)), .int (iv (dv ds2)), .int (iv (dn ds2)), .int (iv (dt ds2))])), (a 1, .inl (G 4, 6, .inr (.inr (.inr (.inr (jF a)))))), (a 2, .inl (G 1, 2, .inl (fun y9 => iv (dO ds2 y9)))), (a 3, .inl (G 0, 2, .inl (fun y9 => iv (dU (day1 d mo ds) y9))))] ++ (wJs G a (dX d 6 ds2)) : va_W) = wSD G a (day1 d mo ds) j1 := wSD_of (s := dX d 6 ds2) (t := day1 d mo ds) (j := j1) (hJ_dg e1) (xJ_dg j1 e1) (by rw [ey, fx.2.2.2.2.2.1, fd.2.2.2.1]) (by rw [ey, fx.2.2.2.2.2.2.1, fd.2.2.2.2.1]) (by rw [ey, fx.2.2.2.2.2.2.2, fd.2.2.2.2.2]) (by rw [ey, fx.2.2.2.1, fd.1]) rfl (fun i k => by rw [ey]; unfold limv; rw [fx.1, fx.2.1, fx.2.2.1])
                    rw [hw] at hP hD
                    exact e_int hx hb hr hlk dX3_pass_201 hS hP hD (by omega) (by omega) (⟨⟨_, rfl⟩, j1, rfl⟩)
                  · skip
                    have rO2 := okD_O ok2 i (by omega)
                    have rU2 := okD_U ok2 i (by omega)
                    have hat := gatH_at hU (by omega)
                    refine lv_aload_n hx hb dX3_pass_161 rfl (lv_at hl 0 rfl) ?_
                    refine va_get (D := D) (ci := 3) (v := .ref (a 2)) (C := RX3) (T := TX3) (N := 8) hx hb hts in_X3 hown hK hP 0 rfl rfl 1 (by decide) lk14 (fun _ h9 => h9) rfl dX3_pass_162 ?_
                    refine lv_iload hx hb dX3_pass_165 (lv_at hl 4 rfl) ?_
                    refine r_zald (F := dO ds2) hx hb hK hP 2 1 rfl rfl i (by omega) (by omega) (by omega) dX3_pass_167 ?_
                    refine r_if_eq hx hb 194 dX3_pass_168 (by decide) (by omega) (fun c_168 => ?_) (fun c_168 => ?_)
                    · skip
                      refine r_iinc (k := 4) (lv' := [(4, .int (iv ((i : Int) + 1))), (0, .ref (a 0)), (1, .int (iv d)), (2, .int (iv mo)), (3, .int (iv z3))]) hx hb dX3_pass_194 hl rfl (by decide) rfl (fun ls hl => ?_)
                      refine r_goto hx hb 155 dX3_pass_197 (by decide) ?_
                      refine W.widen (k := 0) (n := 0) (by omega) (by omega) ?_
                      exact ih155 (i + 1) U (by omega) (by omega) (gatH_a hU c_168) _ _ hP hD hS _ (lv_sub hl [1, 2, 3, 4, 0] rfl)
                    · skip
                      refine lv_aload_n hx hb dX3_pass_171 rfl (lv_at hl 0 rfl) ?_
                      refine va_get (D := D) (ci := 3) (v := .ref (a 3)) (C := RX3) (T := TX3) (N := 8) hx hb hts in_X3 hown hK hP 0 rfl rfl 2 (by decide) lk18 (fun _ h9 => h9) rfl dX3_pass_172 ?_
                      refine lv_iload hx hb dX3_pass_175 (lv_at hl 4 rfl) ?_
                      refine r_iald (F := U) hx hb hK hP 3 0 rfl rfl i (by omega) (by omega) (by omega) dX3_pass_177 ?_
                      refine lv_bipush (v := iv 9) hx hb dX3_pass_178 (by decide) ?_
                      refine r_icmp_ge hx hb 194 dX3_pass_180 (by decide) (by omega) (by omega) (fun c_180 => ?_) (fun c_180 => ?_)
                      · skip
                        refine r_iinc (k := 4) (lv' := [(4, .int (iv ((i : Int) + 1))), (0, .ref (a 0)), (1, .int (iv d)), (2, .int (iv mo)), (3, .int (iv z3))]) hx hb dX3_pass_194 hl rfl (by decide) rfl (fun ls hl => ?_)
                        refine r_goto hx hb 155 dX3_pass_197 (by decide) ?_
                        refine W.widen (k := 0) (n := 0) (by omega) (by omega) ?_
                        exact ih155 (i + 1) U (by omega) (by omega) (gatH_b hU (by omega) c_168 c_180 (okD_U ok2 i (by omega)).2) _ _ hP hD hS _ (lv_sub hl [1, 2, 3, 4, 0] rfl)
                      · skip
                        refine lv_aload_n hx hb dX3_pass_183 rfl (lv_at hl 0 rfl) ?_
                        refine va_get (D := D) (ci := 3) (v := .ref (a 3)) (C := RX3) (T := TX3) (N := 8) hx hb hts in_X3 hown hK hP 0 rfl rfl 2 (by decide) lk18 (fun _ h9 => h9) rfl dX3_pass_184 ?_
                        refine lv_iload hx hb dX3_pass_187 (lv_at hl 4 rfl) ?_
                        refine lv_dup2_11 hx hb dX3_pass_189 rfl rfl ?_
                        refine r_iald (F := U) hx hb hK hP 3 0 rfl rfl i (by omega) (by omega) (by omega) dX3_pass_190 ?_
                        refine r_const hx hb dX3_pass_191 ?_
                        refine r_add hx hb dX3_pass_192 ?_
                        refine r_iast (F := U) hx hb hK hP hD hS 3 0 rfl rfl i (by omega) (by omega) (by omega) dX3_pass_193 (fun H locs hP hD hS => ?_)
                        have hP : va_P D vwCl ([(a 0, .inr (3, [.ref (a 1), .ref (a 2), .ref (a 3), .int (iv (hJ ds2)), .int (iv (xJ ds2 j1)), .int (iv (dv ds2)), .int (iv (dn ds2)), .int (iv (dt ds2))])), (a 1, .inl (G 4, 6, .inr (.inr (.inr (.inr (jF a)))))), (a 2, .inl (G 1, 2, .inl (fun y9 => iv (dO ds2 y9)))), (a 3, .inl (G 0, 2, .inl (fun y9 => iv (updI U i ((U i) + 1) y9))))] ++ (wJs G a (dX d 6 ds2))) _ := hP
                        have hD : va_D A ([(a 0, .inr (3, [.ref (a 1), .ref (a 2), .ref (a 3), .int (iv (hJ ds2)), .int (iv (xJ ds2 j1)), .int (iv (dv ds2)), .int (iv (dn ds2)), .int (iv (dt ds2))])), (a 1, .inl (G 4, 6, .inr (.inr (.inr (.inr (jF a)))))), (a 2, .inl (G 1, 2, .inl (fun y9 => iv (dO ds2 y9)))), (a 3, .inl (G 0, 2, .inl (fun y9 => iv (updI U i ((U i) + 1) y9))))] ++ (wJs G a (dX d 6 ds2))) := hD
                        refine r_iinc (k := 4) (lv' := [(4, .int (iv ((i : Int) + 1))), (0, .ref (a 0)), (1, .int (iv d)), (2, .int (iv mo)), (3, .int (iv z3))]) hx hb dX3_pass_194 hl rfl (by decide) rfl (fun ls hl => ?_)
                        refine r_goto hx hb 155 dX3_pass_197 (by decide) ?_
                        have hq : List.Perm ([(a 0, .inr (3, [.ref (a 1), .ref (a 2), .ref (a 3), .int (iv (hJ ds2)), .int (iv (xJ ds2 j1)), .int (iv (dv ds2)), .int (iv (dn ds2)), .int (iv (dt ds2))])), (a 1, .inl (G 4, 6, .inr (.inr (.inr (.inr (jF a)))))), (a 2, .inl (G 1, 2, .inl (fun y9 => iv (dO ds2 y9)))), (a 3, .inl (G 0, 2, .inl (fun y9 => iv (updI U i ((U i) + 1) y9))))] ++ (wJs G a (dX d 6 ds2))) ([(a 0, .inr (3, [.ref (a 1), .ref (a 2), .ref (a 3), .int (iv (hJ ds2)), .int (iv (xJ ds2 j1)), .int (iv (dv ds2)), .int (iv (dn ds2)), .int (iv (dt ds2))])), (a 1, .inl (G 4, 6, .inr (.inr (.inr (.inr (jF a)))))), (a 2, .inl (G 1, 2, .inl (fun y9 => iv (dO ds2 y9)))), (a 3, .inl (G 0, 2, .inl (fun y9 => iv ((updI U i ((U i) + 1)) y9))))] ++ (wJs G a (dX d 6 ds2))) := wperm (fun q9 => by
                          simp only [cn_app, cn_nil, cn_two] at ⊢ <;> omega)
                        replace hP := wP_perm hP hq
                        replace hD := wD_perm hD hq
                        have hP : va_P D vwCl ([(a 0, .inr (3, [.ref (a 1), .ref (a 2), .ref (a 3), .int (iv (hJ ds2)), .int (iv (xJ ds2 j1)), .int (iv (dv ds2)), .int (iv (dn ds2)), .int (iv (dt ds2))])), (a 1, .inl (G 4, 6, .inr (.inr (.inr (.inr (jF a)))))), (a 2, .inl (G 1, 2, .inl (fun y9 => iv (dO ds2 y9)))), (a 3, .inl (G 0, 2, .inl (fun y9 => iv ((updI U i ((U i) + 1)) y9))))] ++ (wJs G a (dX d 6 ds2))) _ := hP
                        have hD : va_D A ([(a 0, .inr (3, [.ref (a 1), .ref (a 2), .ref (a 3), .int (iv (hJ ds2)), .int (iv (xJ ds2 j1)), .int (iv (dv ds2)), .int (iv (dn ds2)), .int (iv (dt ds2))])), (a 1, .inl (G 4, 6, .inr (.inr (.inr (.inr (jF a)))))), (a 2, .inl (G 1, 2, .inl (fun y9 => iv (dO ds2 y9)))), (a 3, .inl (G 0, 2, .inl (fun y9 => iv ((updI U i ((U i) + 1)) y9))))] ++ (wJs G a (dX d 6 ds2))) := hD
                        refine W.widen (k := 0) (n := 0) (by omega) (by omega) ?_
                        exact ih155 (i + 1) (updI U i ((U i) + 1)) (by omega) (by omega) (gatH_c hU (by omega) c_168 c_180) _ _ hP hD hS _ (lv_sub hl [1, 2, 3, 4, 0] rfl)
              obtain rfl : i = 6 := by omega
              have hq : List.Perm ([(a 0, .inr (3, [.ref (a 1), .ref (a 2), .ref (a 3), .int (iv (hJ ds2)), .int (iv (xJ ds2 j1)), .int (iv (dv ds2)), .int (iv (dn ds2)), .int (iv (dt ds2))])), (a 1, .inl (G 4, 6, .inr (.inr (.inr (.inr (jF a)))))), (a 2, .inl (G 1, 2, .inl (fun y9 => iv (dO ds2 y9)))), (a 3, .inl (G 0, 2, .inl (fun y9 => iv (dU ds2 y9))))] ++ (wJs G a (dX d 6 ds2))) ([(a 0, .inr (3, [.ref (a 1), .ref (a 2), .ref (a 3), .int (iv (hJ ds2)), .int (iv (xJ ds2 j1)), .int (iv (dv ds2)), .int (iv (dn ds2)), .int (iv (dt ds2))])), (a 1, .inl (G 4, 6, .inr (.inr (.inr (.inr (jF a)))))), (a 2, .inl (G 1, 2, .inl (fun y9 => iv (dO ds2 y9)))), (a 3, .inl (G 0, 2, .inl (fun y9 => iv ((dU ds2) y9))))] ++ (wJs G a (dX d 6 ds2))) := wperm (fun q9 => by
                simp only [cn_app, cn_nil, cn_two] at ⊢ <;> omega)
              replace hP := wP_perm hP hq
              replace hD := wD_perm hD hq
              have hP : va_P D vwCl ([(a 0, .inr (3, [.ref (a 1), .ref (a 2), .ref (a 3), .int (iv (hJ ds2)), .int (iv (xJ ds2 j1)), .int (iv (dv ds2)), .int (iv (dn ds2)), .int (iv (dt ds2))])), (a 1, .inl (G 4, 6, .inr (.inr (.inr (.inr (jF a)))))), (a 2, .inl (G 1, 2, .inl (fun y9 => iv (dO ds2 y9)))), (a 3, .inl (G 0, 2, .inl (fun y9 => iv ((dU ds2) y9))))] ++ (wJs G a (dX d 6 ds2))) _ := hP
              have hD : va_D A ([(a 0, .inr (3, [.ref (a 1), .ref (a 2), .ref (a 3), .int (iv (hJ ds2)), .int (iv (xJ ds2 j1)), .int (iv (dv ds2)), .int (iv (dn ds2)), .int (iv (dt ds2))])), (a 1, .inl (G 4, 6, .inr (.inr (.inr (.inr (jF a)))))), (a 2, .inl (G 1, 2, .inl (fun y9 => iv (dO ds2 y9)))), (a 3, .inl (G 0, 2, .inl (fun y9 => iv ((dU ds2) y9))))] ++ (wJs G a (dX d 6 ds2))) := hD
              refine W.widen (k := 0) (n := 0) (by omega) (by omega) ?_
              exact K155 3 0 (dU ds2) (by omega) (by omega) (gatH_0 _ _) _ _ hP hD hS _ (lv_sub hl [1, 2, 3, 4, 0] rfl)
            · skip
              have okx : okD (dX d i ds2) := dX_ok ok2 (by omega)
              have rQx := okD_Q okx i (by omega)
              have hq : List.Perm ([(a 0, .inr (3, [.ref (a 1), .ref (a 2), .ref (a 3), .int (iv (hJ ds2)), .int (iv (xJ ds2 j1)), .int (iv (dv ds2)), .int (iv (dn ds2)), .int (iv (dt ds2))])), (a 1, .inl (G 4, 6, .inr (.inr (.inr (.inr (jF a)))))), (a 2, .inl (G 1, 2, .inl (fun y9 => iv (dO ds2 y9)))), (a 3, .inl (G 0, 2, .inl (fun y9 => iv (dU ds2 y9))))] ++ (wJs G a (dX d i ds2))) ([(a 0, .inr (3, [.ref (a 1), .ref (a 2), .ref (a 3), .int (iv (hJ ds2)), .int (iv (xJ ds2 j1)), .int (iv (dv ds2)), .int (iv (dn ds2)), .int (iv (dt ds2))])), (a 1, .inl (G 4, 6, .inr (.inr (.inr (.inr (jF a)))))), (a 2, .inl (G 1, 2, .inl (fun y9 => iv (dO ds2 y9)))), (a 3, .inl (G 0, 2, .inl (fun y9 => iv (dU ds2 y9)))), (a (4 + i), .inl (G 0, 3, .inl (fun y9 => iv ((fun k9 => limv (dX d i ds2) k9 i) y9))))] ++ (wJo G a (dX d i ds2) i)) := wperm (fun q9 => by
                have e_0 : cn q9 (wJs G a (dX d i ds2)) = cn q9 ([(a (4 + i), .inl (G 0, 3, .inl (fun y9 => iv ((fun k9 => limv (dX d i ds2) k9 i) y9))))] ++ (wJo G a (dX d i ds2) i)) := cn_perm (wJs_get (G := G) (a := a) (dX d i ds2) (d := i) (by omega)) q9
                simp only [cn_app, cn_nil, cn_two] at e_0 ⊢ <;> omega)
              replace hP := wP_perm hP hq
              replace hD := wD_perm hD hq
              have hP : va_P D vwCl ([(a 0, .inr (3, [.ref (a 1), .ref (a 2), .ref (a 3), .int (iv (hJ ds2)), .int (iv (xJ ds2 j1)), .int (iv (dv ds2)), .int (iv (dn ds2)), .int (iv (dt ds2))])), (a 1, .inl (G 4, 6, .inr (.inr (.inr (.inr (jF a)))))), (a 2, .inl (G 1, 2, .inl (fun y9 => iv (dO ds2 y9)))), (a 3, .inl (G 0, 2, .inl (fun y9 => iv (dU ds2 y9)))), (a (4 + i), .inl (G 0, 3, .inl (fun y9 => iv ((fun k9 => limv (dX d i ds2) k9 i) y9))))] ++ (wJo G a (dX d i ds2) i)) _ := hP
              have hD : va_D A ([(a 0, .inr (3, [.ref (a 1), .ref (a 2), .ref (a 3), .int (iv (hJ ds2)), .int (iv (xJ ds2 j1)), .int (iv (dv ds2)), .int (iv (dn ds2)), .int (iv (dt ds2))])), (a 1, .inl (G 4, 6, .inr (.inr (.inr (.inr (jF a)))))), (a 2, .inl (G 1, 2, .inl (fun y9 => iv (dO ds2 y9)))), (a 3, .inl (G 0, 2, .inl (fun y9 => iv (dU ds2 y9)))), (a (4 + i), .inl (G 0, 3, .inl (fun y9 => iv ((fun k9 => limv (dX d i ds2) k9 i) y9))))] ++ (wJo G a (dX d i ds2) i)) := hD
              refine lv_aload hx hb dX3_pass_118 (lv_at hl 4 rfl) ?_
              refine lv_iload hx hb dX3_pass_120 (lv_at hl 6 rfl) ?_
              refine r_aaldA (f := jF a) hx hb hK hP 1 4 rfl rfl i (by omega) (by omega) (by omega) dX3_pass_122 ?_
              rw [show va_rf (jF a i) = Value.ref (a (4 + i)) from jF_at (by omega)]
              refine lv_astore (lv' := [(7, .ref (a (4 + i))), (0, .ref (a 0)), (1, .int (iv d)), (2, .int (iv mo)), (3, .int (iv z3)), (4, .ref (a 1)), (5, .int (iv 6)), (6, .int (iv (i : Int)))]) hx hb dX3_pass_123 hl (by decide) rfl (fun ls hl => ?_)
              refine lv_iload_n hx hb dX3_pass_125 rfl (lv_at hl 2 rfl) ?_
              refine r_const hx hb dX3_pass_126 ?_
              refine r_rem hx hb dX3_pass_127 (by omega) (by omega) ?_
              refine r_if_ne hx hb 146 dX3_pass_128 (by decide) (by omega) (fun c_128 => ?_) (fun c_128 => ?_)
              · skip
                refine r_iinc (k := 7) (lv' := [(6, .int (iv ((i : Int) + 1))), (7, .ref (a (4 + i))), (0, .ref (a 0)), (1, .int (iv d)), (2, .int (iv mo)), (3, .int (iv z3)), (4, .ref (a 1)), (5, .int (iv 6))]) hx hb dX3_pass_146 hl rfl (by decide) rfl (fun ls hl => ?_)
                refine r_goto hx hb 111 dX3_pass_149 (by decide) ?_
                have hq : List.Perm ([(a 0, .inr (3, [.ref (a 1), .ref (a 2), .ref (a 3), .int (iv (hJ ds2)), .int (iv (xJ ds2 j1)), .int (iv (dv ds2)), .int (iv (dn ds2)), .int (iv (dt ds2))])), (a 1, .inl (G 4, 6, .inr (.inr (.inr (.inr (jF a)))))), (a 2, .inl (G 1, 2, .inl (fun y9 => iv (dO ds2 y9)))), (a 3, .inl (G 0, 2, .inl (fun y9 => iv (dU ds2 y9)))), (a (4 + i), .inl (G 0, 3, .inl (fun y9 => iv ((fun k9 => limv (dX d i ds2) k9 i) y9))))] ++ (wJo G a (dX d i ds2) i)) ([(a 0, .inr (3, [.ref (a 1), .ref (a 2), .ref (a 3), .int (iv (hJ ds2)), .int (iv (xJ ds2 j1)), .int (iv (dv ds2)), .int (iv (dn ds2)), .int (iv (dt ds2))])), (a 1, .inl (G 4, 6, .inr (.inr (.inr (.inr (jF a)))))), (a 2, .inl (G 1, 2, .inl (fun y9 => iv (dO ds2 y9)))), (a 3, .inl (G 0, 2, .inl (fun y9 => iv (dU ds2 y9))))] ++ (wJs G a (dX d (i + 1) ds2))) := wperm (fun q9 => by
                  have e_0 : cn q9 (wJs G a (dX d (i + 1) ds2)) = cn q9 (wJs G a (dX d i ds2)) := congrArg (fun t9 => cn q9 (wJs G a t9)) (dX_no c_128 i ds2)
                  have e_1 : cn q9 (wJs G a (dX d i ds2)) = cn q9 ([(a (4 + i), .inl (G 0, 3, .inl (fun y9 => iv ((fun k9 => limv (dX d i ds2) k9 i) y9))))] ++ (wJo G a (dX d i ds2) i)) := cn_perm (wJs_get (G := G) (a := a) (dX d i ds2) (d := i) (by omega)) q9
                  simp only [cn_app, cn_nil, cn_two] at e_0 e_1 ⊢ <;> omega)
                replace hP := wP_perm hP hq
                replace hD := wD_perm hD hq
                have hP : va_P D vwCl ([(a 0, .inr (3, [.ref (a 1), .ref (a 2), .ref (a 3), .int (iv (hJ ds2)), .int (iv (xJ ds2 j1)), .int (iv (dv ds2)), .int (iv (dn ds2)), .int (iv (dt ds2))])), (a 1, .inl (G 4, 6, .inr (.inr (.inr (.inr (jF a)))))), (a 2, .inl (G 1, 2, .inl (fun y9 => iv (dO ds2 y9)))), (a 3, .inl (G 0, 2, .inl (fun y9 => iv (dU ds2 y9))))] ++ (wJs G a (dX d (i + 1) ds2))) _ := hP
                have hD : va_D A ([(a 0, .inr (3, [.ref (a 1), .ref (a 2), .ref (a 3), .int (iv (hJ ds2)), .int (iv (xJ ds2 j1)), .int (iv (dv ds2)), .int (iv (dn ds2)), .int (iv (dt ds2))])), (a 1, .inl (G 4, 6, .inr (.inr (.inr (.inr (jF a)))))), (a 2, .inl (G 1, 2, .inl (fun y9 => iv (dO ds2 y9)))), (a 3, .inl (G 0, 2, .inl (fun y9 => iv (dU ds2 y9))))] ++ (wJs G a (dX d (i + 1) ds2))) := hD
                refine W.widen (k := 0) (n := 0) (by omega) (by omega) ?_
                exact ih111 (i + 1) (by omega) (by omega) _ _ hP hD hS _ (lv_sub hl [2, 3, 4, 5, 6, 7, 0] rfl)
              · skip
                refine lv_aload hx hb dX3_pass_131 (lv_at hl 0 rfl) ?_
                refine r_const hx hb dX3_pass_133 ?_
                refine r_iald (F := (fun k9 => limv (dX d i ds2) k9 i)) hx hb hK hP 4 0 rfl rfl 2 (by omega) (by omega) (by omega) dX3_pass_134 ?_
                rw [show limv (dX d i ds2) 2 i = dQ (dX d i ds2) i from rfl]
                refine r_if_le hx hb 146 dX3_pass_135 (by decide) (by omega) (fun c_135 => ?_) (fun c_135 => ?_)
                · skip
                  refine r_iinc (k := 7) (lv' := [(6, .int (iv ((i : Int) + 1))), (7, .ref (a (4 + i))), (0, .ref (a 0)), (1, .int (iv d)), (2, .int (iv mo)), (3, .int (iv z3)), (4, .ref (a 1)), (5, .int (iv 6))]) hx hb dX3_pass_146 hl rfl (by decide) rfl (fun ls hl => ?_)
                  refine r_goto hx hb 111 dX3_pass_149 (by decide) ?_
                  have hL := dX_lim c_128 i ds2
                  have hs : ∀ k9, k9 < 3 → ((fun k9 => limv (dX d i ds2) k9 i)) k9 = limv (dX d (i + 1) ds2) k9 i := fun k9 h9 => by
                    rcases (show k9 = 0 ∨ k9 = 1 ∨ k9 = 2 by omega) with rfl | rfl | rfl
                    · exact (show ((fun k9 => limv (dX d i ds2) k9 i)) 0 = dA (dX d i ds2) i from rfl).trans (by rw [hL.1] <;> (omega))
                    · exact (show ((fun k9 => limv (dX d i ds2) k9 i)) 1 = dW (dX d i ds2) i from rfl).trans (by rw [hL.2.1] <;> (omega))
                    · exact (show ((fun k9 => limv (dX d i ds2) k9 i)) 2 = dQ (dX d i ds2) i from rfl).trans (by rw [hL.2.2] <;> (omega))
                  replace hP := wP_say 4 (fun k9 => limv (dX d (i + 1) ds2) k9 i) hP rfl hs
                  replace hD := wD_say 4 (.inl (G 0, 3, .inl (fun y9 => iv (limv (dX d (i + 1) ds2) y9 i)))) hD rfl
                  have hP : va_P D vwCl ([(a 0, .inr (3, [.ref (a 1), .ref (a 2), .ref (a 3), .int (iv (hJ ds2)), .int (iv (xJ ds2 j1)), .int (iv (dv ds2)), .int (iv (dn ds2)), .int (iv (dt ds2))])), (a 1, .inl (G 4, 6, .inr (.inr (.inr (.inr (jF a)))))), (a 2, .inl (G 1, 2, .inl (fun y9 => iv (dO ds2 y9)))), (a 3, .inl (G 0, 2, .inl (fun y9 => iv (dU ds2 y9)))), (a (4 + i), .inl (G 0, 3, .inl (fun y9 => iv ((fun k9 => limv (dX d (i + 1) ds2) k9 i) y9))))] ++ (wJo G a (dX d i ds2) i)) _ := hP
                  have hD : va_D A ([(a 0, .inr (3, [.ref (a 1), .ref (a 2), .ref (a 3), .int (iv (hJ ds2)), .int (iv (xJ ds2 j1)), .int (iv (dv ds2)), .int (iv (dn ds2)), .int (iv (dt ds2))])), (a 1, .inl (G 4, 6, .inr (.inr (.inr (.inr (jF a)))))), (a 2, .inl (G 1, 2, .inl (fun y9 => iv (dO ds2 y9)))), (a 3, .inl (G 0, 2, .inl (fun y9 => iv (dU ds2 y9)))), (a (4 + i), .inl (G 0, 3, .inl (fun y9 => iv ((fun k9 => limv (dX d (i + 1) ds2) k9 i) y9))))] ++ (wJo G a (dX d i ds2) i)) := hD
                  have hq : List.Perm ([(a 0, .inr (3, [.ref (a 1), .ref (a 2), .ref (a 3), .int (iv (hJ ds2)), .int (iv (xJ ds2 j1)), .int (iv (dv ds2)), .int (iv (dn ds2)), .int (iv (dt ds2))])), (a 1, .inl (G 4, 6, .inr (.inr (.inr (.inr (jF a)))))), (a 2, .inl (G 1, 2, .inl (fun y9 => iv (dO ds2 y9)))), (a 3, .inl (G 0, 2, .inl (fun y9 => iv (dU ds2 y9)))), (a (4 + i), .inl (G 0, 3, .inl (fun y9 => iv ((fun k9 => limv (dX d (i + 1) ds2) k9 i) y9))))] ++ (wJo G a (dX d i ds2) i)) ([(a 0, .inr (3, [.ref (a 1), .ref (a 2), .ref (a 3), .int (iv (hJ ds2)), .int (iv (xJ ds2 j1)), .int (iv (dv ds2)), .int (iv (dn ds2)), .int (iv (dt ds2))])), (a 1, .inl (G 4, 6, .inr (.inr (.inr (.inr (jF a)))))), (a 2, .inl (G 1, 2, .inl (fun y9 => iv (dO ds2 y9)))), (a 3, .inl (G 0, 2, .inl (fun y9 => iv (dU ds2 y9))))] ++ (wJs G a (dX d (i + 1) ds2))) := wperm (fun q9 => by
                    have e_0 : cn q9 (wJs G a (dX d (i + 1) ds2)) = cn q9 ([(a (4 + i), .inl (G 0, 3, .inl (fun y9 => iv ((fun k9 => limv (dX d (i + 1) ds2) k9 i) y9))))] ++ (wJo G a (dX d i ds2) i)) := cn_perm (wJs_pull (G := G) (a := a) (s := (dX d (i + 1) ds2)) (t := (dX d i ds2)) (d := i) (by omega) (fun e9 h9 k9 => dX_o c_128 ds2 h9 k9)) q9
                    simp only [cn_app, cn_nil, cn_two] at e_0 ⊢ <;> omega)
                  replace hP := wP_perm hP hq
                  replace hD := wD_perm hD hq
                  have hP : va_P D vwCl ([(a 0, .inr (3, [.ref (a 1), .ref (a 2), .ref (a 3), .int (iv (hJ ds2)), .int (iv (xJ ds2 j1)), .int (iv (dv ds2)), .int (iv (dn ds2)), .int (iv (dt ds2))])), (a 1, .inl (G 4, 6, .inr (.inr (.inr (.inr (jF a)))))), (a 2, .inl (G 1, 2, .inl (fun y9 => iv (dO ds2 y9)))), (a 3, .inl (G 0, 2, .inl (fun y9 => iv (dU ds2 y9))))] ++ (wJs G a (dX d (i + 1) ds2))) _ := hP
                  have hD : va_D A ([(a 0, .inr (3, [.ref (a 1), .ref (a 2), .ref (a 3), .int (iv (hJ ds2)), .int (iv (xJ ds2 j1)), .int (iv (dv ds2)), .int (iv (dn ds2)), .int (iv (dt ds2))])), (a 1, .inl (G 4, 6, .inr (.inr (.inr (.inr (jF a)))))), (a 2, .inl (G 1, 2, .inl (fun y9 => iv (dO ds2 y9)))), (a 3, .inl (G 0, 2, .inl (fun y9 => iv (dU ds2 y9))))] ++ (wJs G a (dX d (i + 1) ds2))) := hD
                  refine W.widen (k := 0) (n := 0) (by omega) (by omega) ?_
                  exact ih111 (i + 1) (by omega) (by omega) _ _ hP hD hS _ (lv_sub hl [2, 3, 4, 5, 6, 7, 0] rfl)
                · skip
                  refine lv_aload hx hb dX3_pass_138 (lv_at hl 0 rfl) ?_
                  refine r_const hx hb dX3_pass_140 ?_
                  refine lv_dup2_11 hx hb dX3_pass_141 rfl rfl ?_
                  refine r_iald (F := (fun k9 => limv (dX d i ds2) k9 i)) hx hb hK hP 4 0 rfl rfl 2 (by omega) (by omega) (by omega) dX3_pass_142 ?_
                  rw [show limv (dX d i ds2) 2 i = dQ (dX d i ds2) i from rfl]
                  refine r_const hx hb dX3_pass_143 ?_
                  refine r_sub hx hb dX3_pass_144 ?_
                  refine r_iast (F := (fun k9 => limv (dX d i ds2) k9 i)) hx hb hK hP hD hS 4 0 rfl rfl 2 (by omega) (by omega) (by omega) dX3_pass_145 (fun H locs hP hD hS => ?_)
                  have hP : va_P D vwCl ([(a 0, .inr (3, [.ref (a 1), .ref (a 2), .ref (a 3), .int (iv (hJ ds2)), .int (iv (xJ ds2 j1)), .int (iv (dv ds2)), .int (iv (dn ds2)), .int (iv (dt ds2))])), (a 1, .inl (G 4, 6, .inr (.inr (.inr (.inr (jF a)))))), (a 2, .inl (G 1, 2, .inl (fun y9 => iv (dO ds2 y9)))), (a 3, .inl (G 0, 2, .inl (fun y9 => iv (dU ds2 y9)))), (a (4 + i), .inl (G 0, 3, .inl (fun y9 => iv (updI (fun k9 => limv (dX d i ds2) k9 i) 2 ((dQ (dX d i ds2) i) - 1) y9))))] ++ (wJo G a (dX d i ds2) i)) _ := hP
                  have hD : va_D A ([(a 0, .inr (3, [.ref (a 1), .ref (a 2), .ref (a 3), .int (iv (hJ ds2)), .int (iv (xJ ds2 j1)), .int (iv (dv ds2)), .int (iv (dn ds2)), .int (iv (dt ds2))])), (a 1, .inl (G 4, 6, .inr (.inr (.inr (.inr (jF a)))))), (a 2, .inl (G 1, 2, .inl (fun y9 => iv (dO ds2 y9)))), (a 3, .inl (G 0, 2, .inl (fun y9 => iv (dU ds2 y9)))), (a (4 + i), .inl (G 0, 3, .inl (fun y9 => iv (updI (fun k9 => limv (dX d i ds2) k9 i) 2 ((dQ (dX d i ds2) i) - 1) y9))))] ++ (wJo G a (dX d i ds2) i)) := hD
                  refine r_iinc (k := 7) (lv' := [(6, .int (iv ((i : Int) + 1))), (7, .ref (a (4 + i))), (0, .ref (a 0)), (1, .int (iv d)), (2, .int (iv mo)), (3, .int (iv z3)), (4, .ref (a 1)), (5, .int (iv 6))]) hx hb dX3_pass_146 hl rfl (by decide) rfl (fun ls hl => ?_)
                  refine r_goto hx hb 111 dX3_pass_149 (by decide) ?_
                  have hL := dX_lim c_128 i ds2
                  have hs : ∀ k9, k9 < 3 → (updI (fun k9 => limv (dX d i ds2) k9 i) 2 ((dQ (dX d i ds2) i) - 1)) k9 = limv (dX d (i + 1) ds2) k9 i := fun k9 h9 => by
                    rcases (show k9 = 0 ∨ k9 = 1 ∨ k9 = 2 by omega) with rfl | rfl | rfl
                    · exact (show (updI (fun k9 => limv (dX d i ds2) k9 i) 2 ((dQ (dX d i ds2) i) - 1)) 0 = dA (dX d i ds2) i from updI_n _ _ (by decide)).trans (by rw [hL.1] <;> (omega))
                    · exact (show (updI (fun k9 => limv (dX d i ds2) k9 i) 2 ((dQ (dX d i ds2) i) - 1)) 1 = dW (dX d i ds2) i from updI_n _ _ (by decide)).trans (by rw [hL.2.1] <;> (omega))
                    · exact (show (updI (fun k9 => limv (dX d i ds2) k9 i) 2 ((dQ (dX d i ds2) i) - 1)) 2 = ((dQ (dX d i ds2) i) - 1) from updI_s _ _ _).trans (by rw [hL.2.2] <;> (omega))
                  replace hP := wP_say 4 (fun k9 => limv (dX d (i + 1) ds2) k9 i) hP rfl hs
                  replace hD := wD_say 4 (.inl (G 0, 3, .inl (fun y9 => iv (limv (dX d (i + 1) ds2) y9 i)))) hD rfl
                  have hP : va_P D vwCl ([(a 0, .inr (3, [.ref (a 1), .ref (a 2), .ref (a 3), .int (iv (hJ ds2)), .int (iv (xJ ds2 j1)), .int (iv (dv ds2)), .int (iv (dn ds2)), .int (iv (dt ds2))])), (a 1, .inl (G 4, 6, .inr (.inr (.inr (.inr (jF a)))))), (a 2, .inl (G 1, 2, .inl (fun y9 => iv (dO ds2 y9)))), (a 3, .inl (G 0, 2, .inl (fun y9 => iv (dU ds2 y9)))), (a (4 + i), .inl (G 0, 3, .inl (fun y9 => iv ((fun k9 => limv (dX d (i + 1) ds2) k9 i) y9))))] ++ (wJo G a (dX d i ds2) i)) _ := hP
                  have hD : va_D A ([(a 0, .inr (3, [.ref (a 1), .ref (a 2), .ref (a 3), .int (iv (hJ ds2)), .int (iv (xJ ds2 j1)), .int (iv (dv ds2)), .int (iv (dn ds2)), .int (iv (dt ds2))])), (a 1, .inl (G 4, 6, .inr (.inr (.inr (.inr (jF a)))))), (a 2, .inl (G 1, 2, .inl (fun y9 => iv (dO ds2 y9)))), (a 3, .inl (G 0, 2, .inl (fun y9 => iv (dU ds2 y9)))), (a (4 + i), .inl (G 0, 3, .inl (fun y9 => iv ((fun k9 => limv (dX d (i + 1) ds2) k9 i) y9))))] ++ (wJo G a (dX d i ds2) i)) := hD
                  have hq : List.Perm ([(a 0, .inr (3, [.ref (a 1), .ref (a 2), .ref (a 3), .int (iv (hJ ds2)), .int (iv (xJ ds2 j1)), .int (iv (dv ds2)), .int (iv (dn ds2)), .int (iv (dt ds2))])), (a 1, .inl (G 4, 6, .inr (.inr (.inr (.inr (jF a)))))), (a 2, .inl (G 1, 2, .inl (fun y9 => iv (dO ds2 y9)))), (a 3, .inl (G 0, 2, .inl (fun y9 => iv (dU ds2 y9)))), (a (4 + i), .inl (G 0, 3, .inl (fun y9 => iv ((fun k9 => limv (dX d (i + 1) ds2) k9 i) y9))))] ++ (wJo G a (dX d i ds2) i)) ([(a 0, .inr (3, [.ref (a 1), .ref (a 2), .ref (a 3), .int (iv (hJ ds2)), .int (iv (xJ ds2 j1)), .int (iv (dv ds2)), .int (iv (dn ds2)), .int (iv (dt ds2))])), (a 1, .inl (G 4, 6, .inr (.inr (.inr (.inr (jF a)))))), (a 2, .inl (G 1, 2, .inl (fun y9 => iv (dO ds2 y9)))), (a 3, .inl (G 0, 2, .inl (fun y9 => iv (dU ds2 y9))))] ++ (wJs G a (dX d (i + 1) ds2))) := wperm (fun q9 => by
                    have e_0 : cn q9 (wJs G a (dX d (i + 1) ds2)) = cn q9 ([(a (4 + i), .inl (G 0, 3, .inl (fun y9 => iv ((fun k9 => limv (dX d (i + 1) ds2) k9 i) y9))))] ++ (wJo G a (dX d i ds2) i)) := cn_perm (wJs_pull (G := G) (a := a) (s := (dX d (i + 1) ds2)) (t := (dX d i ds2)) (d := i) (by omega) (fun e9 h9 k9 => dX_o c_128 ds2 h9 k9)) q9
                    simp only [cn_app, cn_nil, cn_two] at e_0 ⊢ <;> omega)
                  replace hP := wP_perm hP hq
                  replace hD := wD_perm hD hq
                  have hP : va_P D vwCl ([(a 0, .inr (3, [.ref (a 1), .ref (a 2), .ref (a 3), .int (iv (hJ ds2)), .int (iv (xJ ds2 j1)), .int (iv (dv ds2)), .int (iv (dn ds2)), .int (iv (dt ds2))])), (a 1, .inl (G 4, 6, .inr (.inr (.inr (.inr (jF a)))))), (a 2, .inl (G 1, 2, .inl (fun y9 => iv (dO ds2 y9)))), (a 3, .inl (G 0, 2, .inl (fun y9 => iv (dU ds2 y9))))] ++ (wJs G a (dX d (i + 1) ds2))) _ := hP
                  have hD : va_D A ([(a 0, .inr (3, [.ref (a 1), .ref (a 2), .ref (a 3), .int (iv (hJ ds2)), .int (iv (xJ ds2 j1)), .int (iv (dv ds2)), .int (iv (dn ds2)), .int (iv (dt ds2))])), (a 1, .inl (G 4, 6, .inr (.inr (.inr (.inr (jF a)))))), (a 2, .inl (G 1, 2, .inl (fun y9 => iv (dO ds2 y9)))), (a 3, .inl (G 0, 2, .inl (fun y9 => iv (dU ds2 y9))))] ++ (wJs G a (dX d (i + 1) ds2))) := hD
                  refine W.widen (k := 0) (n := 0) (by omega) (by omega) ?_
                  exact ih111 (i + 1) (by omega) (by omega) _ _ hP hD hS _ (lv_sub hl [2, 3, 4, 5, 6, 7, 0] rfl)
        have hq : List.Perm ([(a 0, .inr (3, [.ref (a 1), .ref (a 2), .ref (a 3), .int (iv (hJ ds2)), .int (iv (xJ ds2 j1)), .int (iv (dv ds2)), .int (iv (dn ds2)), .int (iv (dt ds2))])), (a 1, .inl (G 4, 6, .inr (.inr (.inr (.inr (jF a)))))), (a 2, .inl (G 1, 2, .inl (fun y9 => iv (dO ds2 y9)))), (a 3, .inl (G 0, 2, .inl (fun y9 => iv (dU ds2 y9))))] ++ (wJs G a ds2)) ([(a 0, .inr (3, [.ref (a 1), .ref (a 2), .ref (a 3), .int (iv (hJ ds2)), .int (iv (xJ ds2 j1)), .int (iv (dv ds2)), .int (iv (dn ds2)), .int (iv (dt ds2))])), (a 1, .inl (G 4, 6, .inr (.inr (.inr (.inr (jF a)))))), (a 2, .inl (G 1, 2, .inl (fun y9 => iv (dO ds2 y9)))), (a 3, .inl (G 0, 2, .inl (fun y9 => iv (dU ds2 y9))))] ++ (wJs G a (dX d 0 ds2))) := wperm (fun q9 => by
          have e_0 : cn q9 (wJs G a (dX d 0 ds2)) = cn q9 (wJs G a ds2) := congrArg (fun t9 => cn q9 (wJs G a t9)) (dX_0 d ds2)
          simp only [cn_app, cn_nil, cn_two] at e_0 ⊢ <;> omega)
        replace hP := wP_perm hP hq
        replace hD := wD_perm hD hq
        have hP : va_P D vwCl ([(a 0, .inr (3, [.ref (a 1), .ref (a 2), .ref (a 3), .int (iv (hJ ds2)), .int (iv (xJ ds2 j1)), .int (iv (dv ds2)), .int (iv (dn ds2)), .int (iv (dt ds2))])), (a 1, .inl (G 4, 6, .inr (.inr (.inr (.inr (jF a)))))), (a 2, .inl (G 1, 2, .inl (fun y9 => iv (dO ds2 y9)))), (a 3, .inl (G 0, 2, .inl (fun y9 => iv (dU ds2 y9))))] ++ (wJs G a (dX d 0 ds2))) _ := hP
        have hD : va_D A ([(a 0, .inr (3, [.ref (a 1), .ref (a 2), .ref (a 3), .int (iv (hJ ds2)), .int (iv (xJ ds2 j1)), .int (iv (dv ds2)), .int (iv (dn ds2)), .int (iv (dt ds2))])), (a 1, .inl (G 4, 6, .inr (.inr (.inr (.inr (jF a)))))), (a 2, .inl (G 1, 2, .inl (fun y9 => iv (dO ds2 y9)))), (a 3, .inl (G 0, 2, .inl (fun y9 => iv (dU ds2 y9))))] ++ (wJs G a (dX d 0 ds2))) := hD
        refine W.widen (k := 0) (n := 0) (by omega) (by omega) ?_
        exact K111 7 0 (by omega) (by omega) _ _ hP hD hS _ (lv_sub hl [3, 4, 5, 6, 2, 1, 0] rfl)
      refine lv_aload_n hx hb dX3_pass_73 rfl (lv_at hl 0 rfl) ?_
      refine va_get (D := D) (ci := 3) (v := .int (iv n1)) (C := RX3) (T := TX3) (N := 8) hx hb hts in_X3 hown hK hP 0 rfl rfl 6 (by decide) lk39 (fun _ h9 => h9) rfl dX3_pass_74 ?_
      refine lv_aload_n hx hb dX3_pass_77 rfl (lv_at hl 0 rfl) ?_
      refine va_get (D := D) (ci := 3) (v := .int (iv (dv ds1))) (C := RX3) (T := TX3) (N := 8) hx hb hts in_X3 hown hK hP 0 rfl rfl 5 (by decide) lk36 (fun _ h9 => h9) rfl dX3_pass_78 ?_
      refine r_icmp_ge hx hb 97 dX3_pass_81 (by decide) (by omega) (by omega) (fun c_81 => ?_) (fun c_81 => ?_)
      · skip
        have hz := loosen_keep ok1 hn1 (by omega)
        have fx := loosen_fix ds1
        have hw : ([(a 0, .inr (3, [.ref (a 1), .ref (a 2), .ref (a 3), .int (iv (hJ ds1)), .int (iv (xJ ds1 j1)), .int (iv (dv ds1)), .int (iv n1), .int (iv (dt ds1))])), (a 1, .inl (G 4, 6, .inr (.inr (.inr (.inr (jF a)))))), (a 2, .inl (G 1, 2, .inl (fun y9 => iv (dO ds1 y9)))), (a 3, .inl (G 0, 2, .inl (fun y9 => iv (dU ds1 y9))))] ++ (wJs G a ds1) : va_W) = wSD G a (loosen ds1) j1 := wSD_of (s := ds1) (t := loosen ds1) (j := j1) (hJ_dg fx.1.symm) (xJ_dg j1 fx.1.symm) hz.1 hz.2 fx.2.1.symm fx.2.2.1.symm fx.2.2.2.1.symm (fun i k => (fx.2.2.2.2 i k).symm)
        rw [hw] at hP hD
        replace hP : va_P D vwCl (([] : va_W) ++ (wSD G a (loosen ds1) j1)) _ := hP
        replace hD : va_D A (([] : va_W) ++ (wSD G a (loosen ds1) j1)) := hD
        have hq : List.Perm (([] : va_W) ++ (wSD G a (loosen ds1) j1)) ([(a 0, .inr (3, [.ref (a 1), .ref (a 2), .ref (a 3), .int (iv (hJ (loosen ds1))), .int (iv (xJ (loosen ds1) j1)), .int (iv (dv (loosen ds1))), .int (iv (dn (loosen ds1))), .int (iv (dt (loosen ds1)))])), (a 1, .inl (G 4, 6, .inr (.inr (.inr (.inr (jF a)))))), (a 2, .inl (G 1, 2, .inl (fun y9 => iv (dO (loosen ds1) y9)))), (a 3, .inl (G 0, 2, .inl (fun y9 => iv (dU (loosen ds1) y9))))] ++ (wJs G a (loosen ds1))) := wperm (fun q9 => by
          have e_0 : cn q9 (wSD G a (loosen ds1) j1) = cn q9 ([(a 0, .inr (3, [.ref (a 1), .ref (a 2), .ref (a 3), .int (iv (hJ (loosen ds1))), .int (iv (xJ (loosen ds1) j1)), .int (iv (dv (loosen ds1))), .int (iv (dn (loosen ds1))), .int (iv (dt (loosen ds1)))])), (a 1, .inl (G 4, 6, .inr (.inr (.inr (.inr (jF a)))))), (a 2, .inl (G 1, 2, .inl (fun y9 => iv (dO (loosen ds1) y9)))), (a 3, .inl (G 0, 2, .inl (fun y9 => iv (dU (loosen ds1) y9))))] ++ (wJs G a (loosen ds1))) := rfl
          simp only [cn_app, cn_nil, cn_two] at e_0 ⊢ <;> omega)
        replace hP := wP_perm hP hq
        replace hD := wD_perm hD hq
        have hP : va_P D vwCl ([(a 0, .inr (3, [.ref (a 1), .ref (a 2), .ref (a 3), .int (iv (hJ (loosen ds1))), .int (iv (xJ (loosen ds1) j1)), .int (iv (dv (loosen ds1))), .int (iv (dn (loosen ds1))), .int (iv (dt (loosen ds1)))])), (a 1, .inl (G 4, 6, .inr (.inr (.inr (.inr (jF a)))))), (a 2, .inl (G 1, 2, .inl (fun y9 => iv (dO (loosen ds1) y9)))), (a 3, .inl (G 0, 2, .inl (fun y9 => iv (dU (loosen ds1) y9))))] ++ (wJs G a (loosen ds1))) _ := hP
        have hD : va_D A ([(a 0, .inr (3, [.ref (a 1), .ref (a 2), .ref (a 3), .int (iv (hJ (loosen ds1))), .int (iv (xJ (loosen ds1) j1)), .int (iv (dv (loosen ds1))), .int (iv (dn (loosen ds1))), .int (iv (dt (loosen ds1)))])), (a 1, .inl (G 4, 6, .inr (.inr (.inr (.inr (jF a)))))), (a 2, .inl (G 1, 2, .inl (fun y9 => iv (dO (loosen ds1) y9)))), (a 3, .inl (G 0, 2, .inl (fun y9 => iv (dU (loosen ds1) y9))))] ++ (wJs G a (loosen ds1))) := hD
        refine W.widen (k := 0) (n := 0) (by omega) (by omega) ?_
        exact J97 (loosen ds1) z2 rfl _ _ hP hD hS _ (lv_sub hl [0, 1, 2, 3] rfl)
      · skip
        refine lv_aload_n hx hb dX3_pass_84 rfl (lv_at hl 0 rfl) ?_
        refine r_const hx hb dX3_pass_85 ?_
        refine va_put (D := D) (ci := 3) (v := .int (iv 0)) (ty := .int) (C := RX3) (T := TX3) (N := 8) hx hb hts in_X3 tyX3 tyX3_ok nmX3 hown hK hP hD hS 0 rfl rfl 5 (by decide) lk36 (fun _ h9 => h9) rfl (by decide +kernel) rfl rfl (Nat.le_of_ble_eq_true rfl) dX3_pass_86 (fun H locs hP hD hS => ?_)
        have hP : va_P D vwCl ([(a 0, .inr (3, [.ref (a 1), .ref (a 2), .ref (a 3), .int (iv (hJ ds1)), .int (iv (xJ ds1 j1)), .int (iv 0), .int (iv n1), .int (iv (dt ds1))])), (a 1, .inl (G 4, 6, .inr (.inr (.inr (.inr (jF a)))))), (a 2, .inl (G 1, 2, .inl (fun y9 => iv (dO ds1 y9)))), (a 3, .inl (G 0, 2, .inl (fun y9 => iv (dU ds1 y9))))] ++ (wJs G a ds1)) _ := hP
        have hD : va_D A ([(a 0, .inr (3, [.ref (a 1), .ref (a 2), .ref (a 3), .int (iv (hJ ds1)), .int (iv (xJ ds1 j1)), .int (iv 0), .int (iv n1), .int (iv (dt ds1))])), (a 1, .inl (G 4, 6, .inr (.inr (.inr (.inr (jF a)))))), (a 2, .inl (G 1, 2, .inl (fun y9 => iv (dO ds1 y9)))), (a 3, .inl (G 0, 2, .inl (fun y9 => iv (dU ds1 y9))))] ++ (wJs G a ds1)) := hD
        refine lv_aload_n hx hb dX3_pass_89 rfl (lv_at hl 0 rfl) ?_
        refine r_const hx hb dX3_pass_90 ?_
        refine va_put (D := D) (ci := 3) (v := .int (iv 0)) (ty := .int) (C := RX3) (T := TX3) (N := 8) hx hb hts in_X3 tyX3 tyX3_ok nmX3 hown hK hP hD hS 0 rfl rfl 6 (by decide) lk39 (fun _ h9 => h9) rfl (by decide +kernel) rfl rfl (Nat.le_of_ble_eq_true rfl) dX3_pass_91 (fun H locs hP hD hS => ?_)
        have hP : va_P D vwCl ([(a 0, .inr (3, [.ref (a 1), .ref (a 2), .ref (a 3), .int (iv (hJ ds1)), .int (iv (xJ ds1 j1)), .int (iv 0), .int (iv 0), .int (iv (dt ds1))])), (a 1, .inl (G 4, 6, .inr (.inr (.inr (.inr (jF a)))))), (a 2, .inl (G 1, 2, .inl (fun y9 => iv (dO ds1 y9)))), (a 3, .inl (G 0, 2, .inl (fun y9 => iv (dU ds1 y9))))] ++ (wJs G a ds1)) _ := hP
        have hD : va_D A ([(a 0, .inr (3, [.ref (a 1), .ref (a 2), .ref (a 3), .int (iv (hJ ds1)), .int (iv (xJ ds1 j1)), .int (iv 0), .int (iv 0), .int (iv (dt ds1))])), (a 1, .inl (G 4, 6, .inr (.inr (.inr (.inr (jF a)))))), (a 2, .inl (G 1, 2, .inl (fun y9 => iv (dO ds1 y9)))), (a 3, .inl (G 0, 2, .inl (fun y9 => iv (dU ds1 y9))))] ++ (wJs G a ds1)) := hD
        refine r_iinc (k := 3) (lv' := [(3, .int (iv (z2 + 1))), (0, .ref (a 0)), (1, .int (iv d)), (2, .int (iv mo))]) hx hb dX3_pass_94 hl rfl (by decide) rfl (fun ls hl => ?_)
        have hz := loosen_fall ok1 hn1 (by omega)
        have fx := loosen_fix ds1
        have hw : ([(a 0, .inr (3, [.ref (a 1), .ref (a 2), .ref (a 3), .int (iv (hJ ds1)), .int (iv (xJ ds1 j1)), .int (iv 0), .int (iv 0), .int (iv (dt ds1))])), (a 1, .inl (G 4, 6, .inr (.inr (.inr (.inr (jF a)))))), (a 2, .inl (G 1, 2, .inl (fun y9 => iv (dO ds1 y9)))), (a 3, .inl (G 0, 2, .inl (fun y9 => iv (dU ds1 y9))))] ++ (wJs G a ds1) : va_W) = wSD G a (loosen ds1) j1 := wSD_of (s := ds1) (t := loosen ds1) (j := j1) (hJ_dg fx.1.symm) (xJ_dg j1 fx.1.symm) hz.1 hz.2 fx.2.1.symm fx.2.2.1.symm fx.2.2.2.1.symm (fun i k => (fx.2.2.2.2 i k).symm)
        rw [hw] at hP hD
        replace hP : va_P D vwCl (([] : va_W) ++ (wSD G a (loosen ds1) j1)) _ := hP
        replace hD : va_D A (([] : va_W) ++ (wSD G a (loosen ds1) j1)) := hD
        have hq : List.Perm (([] : va_W) ++ (wSD G a (loosen ds1) j1)) ([(a 0, .inr (3, [.ref (a 1), .ref (a 2), .ref (a 3), .int (iv (hJ (loosen ds1))), .int (iv (xJ (loosen ds1) j1)), .int (iv (dv (loosen ds1))), .int (iv (dn (loosen ds1))), .int (iv (dt (loosen ds1)))])), (a 1, .inl (G 4, 6, .inr (.inr (.inr (.inr (jF a)))))), (a 2, .inl (G 1, 2, .inl (fun y9 => iv (dO (loosen ds1) y9)))), (a 3, .inl (G 0, 2, .inl (fun y9 => iv (dU (loosen ds1) y9))))] ++ (wJs G a (loosen ds1))) := wperm (fun q9 => by
          have e_0 : cn q9 (wSD G a (loosen ds1) j1) = cn q9 ([(a 0, .inr (3, [.ref (a 1), .ref (a 2), .ref (a 3), .int (iv (hJ (loosen ds1))), .int (iv (xJ (loosen ds1) j1)), .int (iv (dv (loosen ds1))), .int (iv (dn (loosen ds1))), .int (iv (dt (loosen ds1)))])), (a 1, .inl (G 4, 6, .inr (.inr (.inr (.inr (jF a)))))), (a 2, .inl (G 1, 2, .inl (fun y9 => iv (dO (loosen ds1) y9)))), (a 3, .inl (G 0, 2, .inl (fun y9 => iv (dU (loosen ds1) y9))))] ++ (wJs G a (loosen ds1))) := rfl
          simp only [cn_app, cn_nil, cn_two] at e_0 ⊢ <;> omega)
        replace hP := wP_perm hP hq
        replace hD := wD_perm hD hq
        have hP : va_P D vwCl ([(a 0, .inr (3, [.ref (a 1), .ref (a 2), .ref (a 3), .int (iv (hJ (loosen ds1))), .int (iv (xJ (loosen ds1) j1)), .int (iv (dv (loosen ds1))), .int (iv (dn (loosen ds1))), .int (iv (dt (loosen ds1)))])), (a 1, .inl (G 4, 6, .inr (.inr (.inr (.inr (jF a)))))), (a 2, .inl (G 1, 2, .inl (fun y9 => iv (dO (loosen ds1) y9)))), (a 3, .inl (G 0, 2, .inl (fun y9 => iv (dU (loosen ds1) y9))))] ++ (wJs G a (loosen ds1))) _ := hP
        have hD : va_D A ([(a 0, .inr (3, [.ref (a 1), .ref (a 2), .ref (a 3), .int (iv (hJ (loosen ds1))), .int (iv (xJ (loosen ds1) j1)), .int (iv (dv (loosen ds1))), .int (iv (dn (loosen ds1))), .int (iv (dt (loosen ds1)))])), (a 1, .inl (G 4, 6, .inr (.inr (.inr (.inr (jF a)))))), (a 2, .inl (G 1, 2, .inl (fun y9 => iv (dO (loosen ds1) y9)))), (a 3, .inl (G 0, 2, .inl (fun y9 => iv (dU (loosen ds1) y9))))] ++ (wJs G a (loosen ds1))) := hD
        refine W.widen (k := 0) (n := 0) (by omega) (by omega) ?_
        exact J97 (loosen ds1) (z2 + 1) rfl _ _ hP hD hS _ (lv_sub hl [1, 2, 3, 0] rfl)
    refine lv_aload_n hx hb dX3_pass_36 rfl (lv_at hl 0 rfl) ?_
    refine va_get (D := D) (ci := 3) (v := .int (iv (dv ds1))) (C := RX3) (T := TX3) (N := 8) hx hb hts in_X3 hown hK hP 0 rfl rfl 5 (by decide) lk36 (fun _ h9 => h9) rfl dX3_pass_37 ?_
    refine r_if_le hx hb 73 dX3_pass_40 (by decide) (by omega) (fun c_40 => ?_) (fun c_40 => ?_)
    · skip
      refine W.widen (k := 0) (n := 0) (by omega) (by omega) ?_
      exact J73 (dn ds1) z ⟨fun h => by omega, fun h => by omega⟩ _ _ hP hD hS _ (lv_sub hl [0, 1, 2, 3] rfl)
    · skip
      have hq : List.Perm ([(a 0, .inr (3, [.ref (a 1), .ref (a 2), .ref (a 3), .int (iv (hJ ds1)), .int (iv (xJ ds1 j1)), .int (iv (dv ds1)), .int (iv (dn ds1)), .int (iv (dt ds1))])), (a 1, .inl (G 4, 6, .inr (.inr (.inr (.inr (jF a)))))), (a 2, .inl (G 1, 2, .inl (fun y9 => iv (dO ds1 y9)))), (a 3, .inl (G 0, 2, .inl (fun y9 => iv (dU ds1 y9))))] ++ (wJs G a ds1)) ([(a 0, .inr (3, [.ref (a 1), .ref (a 2), .ref (a 3), .int (iv (hJ ds1)), .int (iv (xJ ds1 j1)), .int (iv (dv ds1)), .int (iv (dn ds1)), .int (iv (dt ds1))])), (a 1, .inl (G 4, 6, .inr (.inr (.inr (.inr (jF a)))))), (a 2, .inl (G 1, 2, .inl (fun y9 => iv (dO ds1 y9)))), (a 3, .inl (G 0, 2, .inl (fun y9 => iv (dU ds1 y9)))), (a (4 + 5), .inl (G 0, 3, .inl (fun y9 => iv ((fun k9 => limv ds1 k9 5) y9))))] ++ (wJo G a ds1 5)) := wperm (fun q9 => by
        have e_0 : cn q9 (wJs G a ds1) = cn q9 ([(a (4 + 5), .inl (G 0, 3, .inl (fun y9 => iv ((fun k9 => limv ds1 k9 5) y9))))] ++ (wJo G a ds1 5)) := cn_perm (wJs_get (G := G) (a := a) ds1 (d := 5) (by omega)) q9
        simp only [cn_app, cn_nil, cn_two] at e_0 ⊢ <;> omega)
      replace hP := wP_perm hP hq
      replace hD := wD_perm hD hq
      have hP : va_P D vwCl ([(a 0, .inr (3, [.ref (a 1), .ref (a 2), .ref (a 3), .int (iv (hJ ds1)), .int (iv (xJ ds1 j1)), .int (iv (dv ds1)), .int (iv (dn ds1)), .int (iv (dt ds1))])), (a 1, .inl (G 4, 6, .inr (.inr (.inr (.inr (jF a)))))), (a 2, .inl (G 1, 2, .inl (fun y9 => iv (dO ds1 y9)))), (a 3, .inl (G 0, 2, .inl (fun y9 => iv (dU ds1 y9)))), (a (4 + 5), .inl (G 0, 3, .inl (fun y9 => iv ((fun k9 => limv ds1 k9 5) y9))))] ++ (wJo G a ds1 5)) _ := hP
      have hD : va_D A ([(a 0, .inr (3, [.ref (a 1), .ref (a 2), .ref (a 3), .int (iv (hJ ds1)), .int (iv (xJ ds1 j1)), .int (iv (dv ds1)), .int (iv (dn ds1)), .int (iv (dt ds1))])), (a 1, .inl (G 4, 6, .inr (.inr (.inr (.inr (jF a)))))), (a 2, .inl (G 1, 2, .inl (fun y9 => iv (dO ds1 y9)))), (a 3, .inl (G 0, 2, .inl (fun y9 => iv (dU ds1 y9)))), (a (4 + 5), .inl (G 0, 3, .inl (fun y9 => iv ((fun k9 => limv ds1 k9 5) y9))))] ++ (wJo G a ds1 5)) := hD
      refine lv_aload_n hx hb dX3_pass_43 rfl (lv_at hl 0 rfl) ?_
      refine va_get (D := D) (ci := 3) (v := .ref (a 1)) (C := RX3) (T := TX3) (N := 8) hx hb hts in_X3 hown hK hP 0 rfl rfl 0 (by decide) lk9 (fun _ h9 => h9) rfl dX3_pass_44 ?_
      refine r_const hx hb dX3_pass_47 ?_
      refine r_aaldA (f := jF a) hx hb hK hP 1 4 rfl rfl 5 (by omega) (by omega) (by omega) dX3_pass_48 ?_
      rw [show va_rf (jF a 5) = Value.ref (a (4 + 5)) from jF_at (by omega)]
      refine r_const hx hb dX3_pass_49 ?_
      refine r_iald (F := (fun k9 => limv ds1 k9 5)) hx hb hK hP 4 0 rfl rfl 1 (by omega) (by omega) (by omega) dX3_pass_50 ?_
      rw [show limv ds1 1 5 = dW ds1 5 from rfl]
      refine lv_bipush (v := iv 49) hx hb dX3_pass_51 (by decide) ?_
      refine r_icmp_le hx hb 73 dX3_pass_53 (by decide) (by omega) (by omega) (fun c_53 => ?_) (fun c_53 => ?_)
      · skip
        have hq : List.Perm ([(a 0, .inr (3, [.ref (a 1), .ref (a 2), .ref (a 3), .int (iv (hJ ds1)), .int (iv (xJ ds1 j1)), .int (iv (dv ds1)), .int (iv (dn ds1)), .int (iv (dt ds1))])), (a 1, .inl (G 4, 6, .inr (.inr (.inr (.inr (jF a)))))), (a 2, .inl (G 1, 2, .inl (fun y9 => iv (dO ds1 y9)))), (a 3, .inl (G 0, 2, .inl (fun y9 => iv (dU ds1 y9)))), (a (4 + 5), .inl (G 0, 3, .inl (fun y9 => iv ((fun k9 => limv ds1 k9 5) y9))))] ++ (wJo G a ds1 5)) ([(a 0, .inr (3, [.ref (a 1), .ref (a 2), .ref (a 3), .int (iv (hJ ds1)), .int (iv (xJ ds1 j1)), .int (iv (dv ds1)), .int (iv (dn ds1)), .int (iv (dt ds1))])), (a 1, .inl (G 4, 6, .inr (.inr (.inr (.inr (jF a)))))), (a 2, .inl (G 1, 2, .inl (fun y9 => iv (dO ds1 y9)))), (a 3, .inl (G 0, 2, .inl (fun y9 => iv (dU ds1 y9))))] ++ (wJs G a ds1)) := wperm (fun q9 => by
          have e_0 : cn q9 (wJs G a ds1) = cn q9 ([(a (4 + 5), .inl (G 0, 3, .inl (fun y9 => iv ((fun k9 => limv ds1 k9 5) y9))))] ++ (wJo G a ds1 5)) := cn_perm (wJs_get (G := G) (a := a) ds1 (d := 5) (by omega)) q9
          simp only [cn_app, cn_nil, cn_two] at e_0 ⊢ <;> omega)
        replace hP := wP_perm hP hq
        replace hD := wD_perm hD hq
        have hP : va_P D vwCl ([(a 0, .inr (3, [.ref (a 1), .ref (a 2), .ref (a 3), .int (iv (hJ ds1)), .int (iv (xJ ds1 j1)), .int (iv (dv ds1)), .int (iv (dn ds1)), .int (iv (dt ds1))])), (a 1, .inl (G 4, 6, .inr (.inr (.inr (.inr (jF a)))))), (a 2, .inl (G 1, 2, .inl (fun y9 => iv (dO ds1 y9)))), (a 3, .inl (G 0, 2, .inl (fun y9 => iv (dU ds1 y9))))] ++ (wJs G a ds1)) _ := hP
        have hD : va_D A ([(a 0, .inr (3, [.ref (a 1), .ref (a 2), .ref (a 3), .int (iv (hJ ds1)), .int (iv (xJ ds1 j1)), .int (iv (dv ds1)), .int (iv (dn ds1)), .int (iv (dt ds1))])), (a 1, .inl (G 4, 6, .inr (.inr (.inr (.inr (jF a)))))), (a 2, .inl (G 1, 2, .inl (fun y9 => iv (dO ds1 y9)))), (a 3, .inl (G 0, 2, .inl (fun y9 => iv (dU ds1 y9))))] ++ (wJs G a ds1)) := hD
        refine W.widen (k := 0) (n := 0) (by omega) (by omega) ?_
        exact J73 (dn ds1) z ⟨fun h => by omega, fun h => by omega⟩ _ _ hP hD hS _ (lv_sub hl [0, 1, 2, 3] rfl)
      · skip
        refine lv_aload_n hx hb dX3_pass_56 rfl (lv_at hl 0 rfl) ?_
        refine va_get (D := D) (ci := 3) (v := .int (iv (dn ds1))) (C := RX3) (T := TX3) (N := 8) hx hb hts in_X3 hown hK hP 0 rfl rfl 6 (by decide) lk39 (fun _ h9 => h9) rfl dX3_pass_57 ?_
        refine r_if_le hx hb 73 dX3_pass_60 (by decide) (by omega) (fun c_60 => ?_) (fun c_60 => ?_)
        · skip
          have hq : List.Perm ([(a 0, .inr (3, [.ref (a 1), .ref (a 2), .ref (a 3), .int (iv (hJ ds1)), .int (iv (xJ ds1 j1)), .int (iv (dv ds1)), .int (iv (dn ds1)), .int (iv (dt ds1))])), (a 1, .inl (G 4, 6, .inr (.inr (.inr (.inr (jF a)))))), (a 2, .inl (G 1, 2, .inl (fun y9 => iv (dO ds1 y9)))), (a 3, .inl (G 0, 2, .inl (fun y9 => iv (dU ds1 y9)))), (a (4 + 5), .inl (G 0, 3, .inl (fun y9 => iv ((fun k9 => limv ds1 k9 5) y9))))] ++ (wJo G a ds1 5)) ([(a 0, .inr (3, [.ref (a 1), .ref (a 2), .ref (a 3), .int (iv (hJ ds1)), .int (iv (xJ ds1 j1)), .int (iv (dv ds1)), .int (iv (dn ds1)), .int (iv (dt ds1))])), (a 1, .inl (G 4, 6, .inr (.inr (.inr (.inr (jF a)))))), (a 2, .inl (G 1, 2, .inl (fun y9 => iv (dO ds1 y9)))), (a 3, .inl (G 0, 2, .inl (fun y9 => iv (dU ds1 y9))))] ++ (wJs G a ds1)) := wperm (fun q9 => by
            have e_0 : cn q9 (wJs G a ds1) = cn q9 ([(a (4 + 5), .inl (G 0, 3, .inl (fun y9 => iv ((fun k9 => limv ds1 k9 5) y9))))] ++ (wJo G a ds1 5)) := cn_perm (wJs_get (G := G) (a := a) ds1 (d := 5) (by omega)) q9
            simp only [cn_app, cn_nil, cn_two] at e_0 ⊢ <;> omega)
          replace hP := wP_perm hP hq
          replace hD := wD_perm hD hq
          have hP : va_P D vwCl ([(a 0, .inr (3, [.ref (a 1), .ref (a 2), .ref (a 3), .int (iv (hJ ds1)), .int (iv (xJ ds1 j1)), .int (iv (dv ds1)), .int (iv (dn ds1)), .int (iv (dt ds1))])), (a 1, .inl (G 4, 6, .inr (.inr (.inr (.inr (jF a)))))), (a 2, .inl (G 1, 2, .inl (fun y9 => iv (dO ds1 y9)))), (a 3, .inl (G 0, 2, .inl (fun y9 => iv (dU ds1 y9))))] ++ (wJs G a ds1)) _ := hP
          have hD : va_D A ([(a 0, .inr (3, [.ref (a 1), .ref (a 2), .ref (a 3), .int (iv (hJ ds1)), .int (iv (xJ ds1 j1)), .int (iv (dv ds1)), .int (iv (dn ds1)), .int (iv (dt ds1))])), (a 1, .inl (G 4, 6, .inr (.inr (.inr (.inr (jF a)))))), (a 2, .inl (G 1, 2, .inl (fun y9 => iv (dO ds1 y9)))), (a 3, .inl (G 0, 2, .inl (fun y9 => iv (dU ds1 y9))))] ++ (wJs G a ds1)) := hD
          refine W.widen (k := 0) (n := 0) (by omega) (by omega) ?_
          exact J73 (dn ds1) z ⟨fun h => by omega, fun h => by omega⟩ _ _ hP hD hS _ (lv_sub hl [0, 1, 2, 3] rfl)
        · skip
          refine lv_aload_n hx hb dX3_pass_63 rfl (lv_at hl 0 rfl) ?_
          refine lv_dup hx hb dX3_pass_64 rfl ?_
          refine va_get (D := D) (ci := 3) (v := .int (iv (dn ds1))) (C := RX3) (T := TX3) (N := 8) hx hb hts in_X3 hown hK hP 0 rfl rfl 6 (by decide) lk39 (fun _ h9 => h9) rfl dX3_pass_65 ?_
          refine r_const hx hb dX3_pass_68 ?_
          refine r_sub hx hb dX3_pass_69 ?_
          refine va_put (D := D) (ci := 3) (v := .int (iv ((dn ds1) - 1))) (ty := .int) (C := RX3) (T := TX3) (N := 8) hx hb hts in_X3 tyX3 tyX3_ok nmX3 hown hK hP hD hS 0 rfl rfl 6 (by decide) lk39 (fun _ h9 => h9) rfl (by decide +kernel) rfl rfl (Nat.le_of_ble_eq_true rfl) dX3_pass_70 (fun H locs hP hD hS => ?_)
          have hP : va_P D vwCl ([(a 0, .inr (3, [.ref (a 1), .ref (a 2), .ref (a 3), .int (iv (hJ ds1)), .int (iv (xJ ds1 j1)), .int (iv (dv ds1)), .int (iv ((dn ds1) - 1)), .int (iv (dt ds1))])), (a 1, .inl (G 4, 6, .inr (.inr (.inr (.inr (jF a)))))), (a 2, .inl (G 1, 2, .inl (fun y9 => iv (dO ds1 y9)))), (a 3, .inl (G 0, 2, .inl (fun y9 => iv (dU ds1 y9)))), (a (4 + 5), .inl (G 0, 3, .inl (fun y9 => iv ((fun k9 => limv ds1 k9 5) y9))))] ++ (wJo G a ds1 5)) _ := hP
          have hD : va_D A ([(a 0, .inr (3, [.ref (a 1), .ref (a 2), .ref (a 3), .int (iv (hJ ds1)), .int (iv (xJ ds1 j1)), .int (iv (dv ds1)), .int (iv ((dn ds1) - 1)), .int (iv (dt ds1))])), (a 1, .inl (G 4, 6, .inr (.inr (.inr (.inr (jF a)))))), (a 2, .inl (G 1, 2, .inl (fun y9 => iv (dO ds1 y9)))), (a 3, .inl (G 0, 2, .inl (fun y9 => iv (dU ds1 y9)))), (a (4 + 5), .inl (G 0, 3, .inl (fun y9 => iv ((fun k9 => limv ds1 k9 5) y9))))] ++ (wJo G a ds1 5)) := hD
          have hq : List.Perm ([(a 0, .inr (3, [.ref (a 1), .ref (a 2), .ref (a 3), .int (iv (hJ ds1)), .int (iv (xJ ds1 j1)), .int (iv (dv ds1)), .int (iv ((dn ds1) - 1)), .int (iv (dt ds1))])), (a 1, .inl (G 4, 6, .inr (.inr (.inr (.inr (jF a)))))), (a 2, .inl (G 1, 2, .inl (fun y9 => iv (dO ds1 y9)))), (a 3, .inl (G 0, 2, .inl (fun y9 => iv (dU ds1 y9)))), (a (4 + 5), .inl (G 0, 3, .inl (fun y9 => iv ((fun k9 => limv ds1 k9 5) y9))))] ++ (wJo G a ds1 5)) ([(a 0, .inr (3, [.ref (a 1), .ref (a 2), .ref (a 3), .int (iv (hJ ds1)), .int (iv (xJ ds1 j1)), .int (iv (dv ds1)), .int (iv (dn ds1 - 1)), .int (iv (dt ds1))])), (a 1, .inl (G 4, 6, .inr (.inr (.inr (.inr (jF a)))))), (a 2, .inl (G 1, 2, .inl (fun y9 => iv (dO ds1 y9)))), (a 3, .inl (G 0, 2, .inl (fun y9 => iv (dU ds1 y9))))] ++ (wJs G a ds1)) := wperm (fun q9 => by
            have e_0 : cn q9 (wJs G a ds1) = cn q9 ([(a (4 + 5), .inl (G 0, 3, .inl (fun y9 => iv ((fun k9 => limv ds1 k9 5) y9))))] ++ (wJo G a ds1 5)) := cn_perm (wJs_get (G := G) (a := a) ds1 (d := 5) (by omega)) q9
            simp only [cn_app, cn_nil, cn_two] at e_0 ⊢ <;> omega)
          replace hP := wP_perm hP hq
          replace hD := wD_perm hD hq
          have hP : va_P D vwCl ([(a 0, .inr (3, [.ref (a 1), .ref (a 2), .ref (a 3), .int (iv (hJ ds1)), .int (iv (xJ ds1 j1)), .int (iv (dv ds1)), .int (iv (dn ds1 - 1)), .int (iv (dt ds1))])), (a 1, .inl (G 4, 6, .inr (.inr (.inr (.inr (jF a)))))), (a 2, .inl (G 1, 2, .inl (fun y9 => iv (dO ds1 y9)))), (a 3, .inl (G 0, 2, .inl (fun y9 => iv (dU ds1 y9))))] ++ (wJs G a ds1)) _ := hP
          have hD : va_D A ([(a 0, .inr (3, [.ref (a 1), .ref (a 2), .ref (a 3), .int (iv (hJ ds1)), .int (iv (xJ ds1 j1)), .int (iv (dv ds1)), .int (iv (dn ds1 - 1)), .int (iv (dt ds1))])), (a 1, .inl (G 4, 6, .inr (.inr (.inr (.inr (jF a)))))), (a 2, .inl (G 1, 2, .inl (fun y9 => iv (dO ds1 y9)))), (a 3, .inl (G 0, 2, .inl (fun y9 => iv (dU ds1 y9))))] ++ (wJs G a ds1)) := hD
          refine W.widen (k := 0) (n := 0) (by omega) (by omega) ?_
          exact J73 (dn ds1 - 1) z ⟨fun h => by omega, fun h => by omega⟩ _ _ hP hD hS _ (lv_sub hl [0, 1, 2, 3] rfl)
  refine r_const hx hb dX3_pass_0 ?_
  refine lv_istore_n (lv' := [(3, .int (iv 0)), (0, .ref (a 0)), (1, .int (iv d)), (2, .int (iv mo))]) hx hb dX3_pass_1 rfl hl (by decide) rfl (fun ls hl => ?_)
  refine lv_aload_n hx hb dX3_pass_2 rfl (lv_at hl 1 rfl) ?_
  refine va_get (D := D) (ci := 3) (v := .int (iv (hJ ds))) (C := RX3) (T := TX3) (N := 8) hx hb hts in_X3 hown hK hP 0 rfl rfl 3 (by decide) lk22 (fun _ h9 => h9) rfl dX3_pass_3 ?_
  refine r_if_eq hx hb 36 dX3_pass_6 (by decide) (by omega) (fun c_6 => ?_) (fun c_6 => ?_)
  · skip
    have hg : dg ds = -1 := by omega
    have fx := eatW_fix mo ds
    have hw : ([(a 0, .inr (3, [.ref (a 1), .ref (a 2), .ref (a 3), .int (iv (hJ ds)), .int (iv (xJ ds jk)), .int (iv (dv ds)), .int (iv (dn ds)), .int (iv (dt ds))])), (a 1, .inl (G 4, 6, .inr (.inr (.inr (.inr (jF a)))))), (a 2, .inl (G 1, 2, .inl (fun y9 => iv (dO ds y9)))), (a 3, .inl (G 0, 2, .inl (fun y9 => iv (dU ds y9))))] ++ (wJs G a ds) : va_W) = wSD G a (eatW mo ds) jk := wSD_of (s := ds) (t := eatW mo ds) (j := jk) (by rw [eatW_no hg]) (by rw [eatW_no hg]) fx.1.symm fx.2.1.symm fx.2.2.1.symm fx.2.2.2.1.symm fx.2.2.2.2.1.symm (fun i k => (fx.2.2.2.2.2 i k).symm)
    rw [hw] at hP hD
    replace hP : va_P D vwCl (([] : va_W) ++ (wSD G a (eatW mo ds) jk)) _ := hP
    replace hD : va_D A (([] : va_W) ++ (wSD G a (eatW mo ds) jk)) := hD
    have hq : List.Perm (([] : va_W) ++ (wSD G a (eatW mo ds) jk)) ([(a 0, .inr (3, [.ref (a 1), .ref (a 2), .ref (a 3), .int (iv (hJ (eatW mo ds))), .int (iv (xJ (eatW mo ds) jk)), .int (iv (dv (eatW mo ds))), .int (iv (dn (eatW mo ds))), .int (iv (dt (eatW mo ds)))])), (a 1, .inl (G 4, 6, .inr (.inr (.inr (.inr (jF a)))))), (a 2, .inl (G 1, 2, .inl (fun y9 => iv (dO (eatW mo ds) y9)))), (a 3, .inl (G 0, 2, .inl (fun y9 => iv (dU (eatW mo ds) y9))))] ++ (wJs G a (eatW mo ds))) := wperm (fun q9 => by
      have e_0 : cn q9 (wSD G a (eatW mo ds) jk) = cn q9 ([(a 0, .inr (3, [.ref (a 1), .ref (a 2), .ref (a 3), .int (iv (hJ (eatW mo ds))), .int (iv (xJ (eatW mo ds) jk)), .int (iv (dv (eatW mo ds))), .int (iv (dn (eatW mo ds))), .int (iv (dt (eatW mo ds)))])), (a 1, .inl (G 4, 6, .inr (.inr (.inr (.inr (jF a)))))), (a 2, .inl (G 1, 2, .inl (fun y9 => iv (dO (eatW mo ds) y9)))), (a 3, .inl (G 0, 2, .inl (fun y9 => iv (dU (eatW mo ds) y9))))] ++ (wJs G a (eatW mo ds))) := rfl
      simp only [cn_app, cn_nil, cn_two] at e_0 ⊢ <;> omega)
    replace hP := wP_perm hP hq
    replace hD := wD_perm hD hq
    have hP : va_P D vwCl ([(a 0, .inr (3, [.ref (a 1), .ref (a 2), .ref (a 3), .int (iv (hJ (eatW mo ds))), .int (iv (xJ (eatW mo ds) jk)), .int (iv (dv (eatW mo ds))), .int (iv (dn (eatW mo ds))), .int (iv (dt (eatW mo ds)))])), (a 1, .inl (G 4, 6, .inr (.inr (.inr (.inr (jF a)))))), (a 2, .inl (G 1, 2, .inl (fun y9 => iv (dO (eatW mo ds) y9)))), (a 3, .inl (G 0, 2, .inl (fun y9 => iv (dU (eatW mo ds) y9))))] ++ (wJs G a (eatW mo ds))) _ := hP
    have hD : va_D A ([(a 0, .inr (3, [.ref (a 1), .ref (a 2), .ref (a 3), .int (iv (hJ (eatW mo ds))), .int (iv (xJ (eatW mo ds) jk)), .int (iv (dv (eatW mo ds))), .int (iv (dn (eatW mo ds))), .int (iv (dt (eatW mo ds)))])), (a 1, .inl (G 4, 6, .inr (.inr (.inr (.inr (jF a)))))), (a 2, .inl (G 1, 2, .inl (fun y9 => iv (dO (eatW mo ds) y9)))), (a 3, .inl (G 0, 2, .inl (fun y9 => iv (dU (eatW mo ds) y9))))] ++ (wJs G a (eatW mo ds))) := hD
    refine W.widen (k := 0) (n := 0) (by omega) (by omega) ?_
    exact J36 (eatW mo ds) jk 0 rfl _ _ hP hD hS _ (lv_sub hl [1, 2, 3, 0] rfl)
  · skip
    refine lv_aload_n hx hb dX3_pass_9 rfl (lv_at hl 1 rfl) ?_
    refine lv_dup hx hb dX3_pass_10 rfl ?_
    refine va_get (D := D) (ci := 3) (v := .int (iv (xJ ds jk))) (C := RX3) (T := TX3) (N := 8) hx hb hts in_X3 hown hK hP 0 rfl rfl 4 (by decide) lk32 (fun _ h9 => h9) rfl dX3_pass_11 ?_
    refine lv_iload_n hx hb dX3_pass_14 rfl (lv_at hl 3 rfl) ?_
    refine r_add hx hb dX3_pass_15 ?_
    refine va_put (D := D) (ci := 3) (v := .int (iv ((xJ ds jk) + mo))) (ty := .int) (C := RX3) (T := TX3) (N := 8) hx hb hts in_X3 tyX3 tyX3_ok nmX3 hown hK hP hD hS 0 rfl rfl 4 (by decide) lk32 (fun _ h9 => h9) rfl (by decide +kernel) rfl rfl (Nat.le_of_ble_eq_true rfl) dX3_pass_16 (fun H locs hP hD hS => ?_)
    have hP : va_P D vwCl ([(a 0, .inr (3, [.ref (a 1), .ref (a 2), .ref (a 3), .int (iv (hJ ds)), .int (iv ((xJ ds jk) + mo)), .int (iv (dv ds)), .int (iv (dn ds)), .int (iv (dt ds))])), (a 1, .inl (G 4, 6, .inr (.inr (.inr (.inr (jF a)))))), (a 2, .inl (G 1, 2, .inl (fun y9 => iv (dO ds y9)))), (a 3, .inl (G 0, 2, .inl (fun y9 => iv (dU ds y9))))] ++ (wJs G a ds)) _ := hP
    have hD : va_D A ([(a 0, .inr (3, [.ref (a 1), .ref (a 2), .ref (a 3), .int (iv (hJ ds)), .int (iv ((xJ ds jk) + mo)), .int (iv (dv ds)), .int (iv (dn ds)), .int (iv (dt ds))])), (a 1, .inl (G 4, 6, .inr (.inr (.inr (.inr (jF a)))))), (a 2, .inl (G 1, 2, .inl (fun y9 => iv (dO ds y9)))), (a 3, .inl (G 0, 2, .inl (fun y9 => iv (dU ds y9))))] ++ (wJs G a ds)) := hD
    refine lv_aload_n hx hb dX3_pass_19 rfl (lv_at hl 1 rfl) ?_
    refine va_get (D := D) (ci := 3) (v := .int (iv ((xJ ds jk) + mo))) (C := RX3) (T := TX3) (N := 8) hx hb hts in_X3 hown hK hP 0 rfl rfl 4 (by decide) lk32 (fun _ h9 => h9) rfl dX3_pass_20 ?_
    refine lv_bipush (v := iv 9) hx hb dX3_pass_23 (by decide) ?_
    refine r_icmp_le hx hb 36 dX3_pass_25 (by decide) (by omega) (by omega) (fun c_25 => ?_) (fun c_25 => ?_)
    · skip
      have hg : ¬ dg ds = -1 := by omega
      have hz := eatW_on (s := ds) (mo := mo) jk (by omega) (by omega) hg (by omega)
      have fx := eatW_fix mo ds
      have hw : ([(a 0, .inr (3, [.ref (a 1), .ref (a 2), .ref (a 3), .int (iv (hJ ds)), .int (iv ((xJ ds jk) + mo)), .int (iv (dv ds)), .int (iv (dn ds)), .int (iv (dt ds))])), (a 1, .inl (G 4, 6, .inr (.inr (.inr (.inr (jF a)))))), (a 2, .inl (G 1, 2, .inl (fun y9 => iv (dO ds y9)))), (a 3, .inl (G 0, 2, .inl (fun y9 => iv (dU ds y9))))] ++ (wJs G a ds) : va_W) = wSD G a (eatW mo ds) jk := wSD_of (s := ds) (t := eatW mo ds) (j := jk) (by rw [← hz.1]; omega) (by rw [← hz.2]; omega) fx.1.symm fx.2.1.symm fx.2.2.1.symm fx.2.2.2.1.symm fx.2.2.2.2.1.symm (fun i k => (fx.2.2.2.2.2 i k).symm)
      rw [hw] at hP hD
      replace hP : va_P D vwCl (([] : va_W) ++ (wSD G a (eatW mo ds) jk)) _ := hP
      replace hD : va_D A (([] : va_W) ++ (wSD G a (eatW mo ds) jk)) := hD
      have hq : List.Perm (([] : va_W) ++ (wSD G a (eatW mo ds) jk)) ([(a 0, .inr (3, [.ref (a 1), .ref (a 2), .ref (a 3), .int (iv (hJ (eatW mo ds))), .int (iv (xJ (eatW mo ds) jk)), .int (iv (dv (eatW mo ds))), .int (iv (dn (eatW mo ds))), .int (iv (dt (eatW mo ds)))])), (a 1, .inl (G 4, 6, .inr (.inr (.inr (.inr (jF a)))))), (a 2, .inl (G 1, 2, .inl (fun y9 => iv (dO (eatW mo ds) y9)))), (a 3, .inl (G 0, 2, .inl (fun y9 => iv (dU (eatW mo ds) y9))))] ++ (wJs G a (eatW mo ds))) := wperm (fun q9 => by
        have e_0 : cn q9 (wSD G a (eatW mo ds) jk) = cn q9 ([(a 0, .inr (3, [.ref (a 1), .ref (a 2), .ref (a 3), .int (iv (hJ (eatW mo ds))), .int (iv (xJ (eatW mo ds) jk)), .int (iv (dv (eatW mo ds))), .int (iv (dn (eatW mo ds))), .int (iv (dt (eatW mo ds)))])), (a 1, .inl (G 4, 6, .inr (.inr (.inr (.inr (jF a)))))), (a 2, .inl (G 1, 2, .inl (fun y9 => iv (dO (eatW mo ds) y9)))), (a 3, .inl (G 0, 2, .inl (fun y9 => iv (dU (eatW mo ds) y9))))] ++ (wJs G a (eatW mo ds))) := rfl
        simp only [cn_app, cn_nil, cn_two] at e_0 ⊢ <;> omega)
      replace hP := wP_perm hP hq
      replace hD := wD_perm hD hq
      have hP : va_P D vwCl ([(a 0, .inr (3, [.ref (a 1), .ref (a 2), .ref (a 3), .int (iv (hJ (eatW mo ds))), .int (iv (xJ (eatW mo ds) jk)), .int (iv (dv (eatW mo ds))), .int (iv (dn (eatW mo ds))), .int (iv (dt (eatW mo ds)))])), (a 1, .inl (G 4, 6, .inr (.inr (.inr (.inr (jF a)))))), (a 2, .inl (G 1, 2, .inl (fun y9 => iv (dO (eatW mo ds) y9)))), (a 3, .inl (G 0, 2, .inl (fun y9 => iv (dU (eatW mo ds) y9))))] ++ (wJs G a (eatW mo ds))) _ := hP
      have hD : va_D A ([(a 0, .inr (3, [.ref (a 1), .ref (a 2), .ref (a 3), .int (iv (hJ (eatW mo ds))), .int (iv (xJ (eatW mo ds) jk)), .int (iv (dv (eatW mo ds))), .int (iv (dn (eatW mo ds))), .int (iv (dt (eatW mo ds)))])), (a 1, .inl (G 4, 6, .inr (.inr (.inr (.inr (jF a)))))), (a 2, .inl (G 1, 2, .inl (fun y9 => iv (dO (eatW mo ds) y9)))), (a 3, .inl (G 0, 2, .inl (fun y9 => iv (dU (eatW mo ds) y9))))] ++ (wJs G a (eatW mo ds))) := hD
      refine W.widen (k := 0) (n := 0) (by omega) (by omega) ?_
      exact J36 (eatW mo ds) jk 0 rfl _ _ hP hD hS _ (lv_sub hl [1, 2, 3, 0] rfl)
    · skip
      refine lv_aload_n hx hb dX3_pass_28 rfl (lv_at hl 1 rfl) ?_
      refine r_const hx hb dX3_pass_29 ?_
      refine va_put (D := D) (ci := 3) (v := .int (iv 0)) (ty := .boolean) (C := RX3) (T := TX3) (N := 8) hx hb hts in_X3 tyX3 tyX3_ok nmX3 hown hK hP hD hS 0 rfl rfl 3 (by decide) lk22 (fun _ h9 => h9) rfl (by decide +kernel) (by decide) rfl (Nat.le_of_ble_eq_true rfl) dX3_pass_30 (fun H locs hP hD hS => ?_)
      have hP : va_P D vwCl ([(a 0, .inr (3, [.ref (a 1), .ref (a 2), .ref (a 3), .int (iv 0), .int (iv ((xJ ds jk) + mo)), .int (iv (dv ds)), .int (iv (dn ds)), .int (iv (dt ds))])), (a 1, .inl (G 4, 6, .inr (.inr (.inr (.inr (jF a)))))), (a 2, .inl (G 1, 2, .inl (fun y9 => iv (dO ds y9)))), (a 3, .inl (G 0, 2, .inl (fun y9 => iv (dU ds y9))))] ++ (wJs G a ds)) _ := hP
      have hD : va_D A ([(a 0, .inr (3, [.ref (a 1), .ref (a 2), .ref (a 3), .int (iv 0), .int (iv ((xJ ds jk) + mo)), .int (iv (dv ds)), .int (iv (dn ds)), .int (iv (dt ds))])), (a 1, .inl (G 4, 6, .inr (.inr (.inr (.inr (jF a)))))), (a 2, .inl (G 1, 2, .inl (fun y9 => iv (dO ds y9)))), (a 3, .inl (G 0, 2, .inl (fun y9 => iv (dU ds y9))))] ++ (wJs G a ds)) := hD
      refine r_iinc (k := 0) (lv' := [(3, .int (iv (0 + 1))), (0, .ref (a 0)), (1, .int (iv d)), (2, .int (iv mo))]) hx hb dX3_pass_33 hl rfl (by decide) rfl (fun ls hl => ?_)
      have hg : ¬ dg ds = -1 := by omega
      have hz := eatW_off (s := ds) (mo := mo) (xJ ds jk + mo) hg (by omega)
      have fx := eatW_fix mo ds
      have hw : ([(a 0, .inr (3, [.ref (a 1), .ref (a 2), .ref (a 3), .int (iv 0), .int (iv ((xJ ds jk) + mo)), .int (iv (dv ds)), .int (iv (dn ds)), .int (iv (dt ds))])), (a 1, .inl (G 4, 6, .inr (.inr (.inr (.inr (jF a)))))), (a 2, .inl (G 1, 2, .inl (fun y9 => iv (dO ds y9)))), (a 3, .inl (G 0, 2, .inl (fun y9 => iv (dU ds y9))))] ++ (wJs G a ds) : va_W) = wSD G a (eatW mo ds) (xJ ds jk + mo) := wSD_of (s := ds) (t := eatW mo ds) (j := (xJ ds jk + mo)) hz.1 hz.2 fx.1.symm fx.2.1.symm fx.2.2.1.symm fx.2.2.2.1.symm fx.2.2.2.2.1.symm (fun i k => (fx.2.2.2.2.2 i k).symm)
      rw [hw] at hP hD
      replace hP : va_P D vwCl (([] : va_W) ++ (wSD G a (eatW mo ds) (xJ ds jk + mo))) _ := hP
      replace hD : va_D A (([] : va_W) ++ (wSD G a (eatW mo ds) (xJ ds jk + mo))) := hD
      have hq : List.Perm (([] : va_W) ++ (wSD G a (eatW mo ds) (xJ ds jk + mo))) ([(a 0, .inr (3, [.ref (a 1), .ref (a 2), .ref (a 3), .int (iv (hJ (eatW mo ds))), .int (iv (xJ (eatW mo ds) (xJ ds jk + mo))), .int (iv (dv (eatW mo ds))), .int (iv (dn (eatW mo ds))), .int (iv (dt (eatW mo ds)))])), (a 1, .inl (G 4, 6, .inr (.inr (.inr (.inr (jF a)))))), (a 2, .inl (G 1, 2, .inl (fun y9 => iv (dO (eatW mo ds) y9)))), (a 3, .inl (G 0, 2, .inl (fun y9 => iv (dU (eatW mo ds) y9))))] ++ (wJs G a (eatW mo ds))) := wperm (fun q9 => by
        have e_0 : cn q9 (wSD G a (eatW mo ds) (xJ ds jk + mo)) = cn q9 ([(a 0, .inr (3, [.ref (a 1), .ref (a 2), .ref (a 3), .int (iv (hJ (eatW mo ds))), .int (iv (xJ (eatW mo ds) (xJ ds jk + mo))), .int (iv (dv (eatW mo ds))), .int (iv (dn (eatW mo ds))), .int (iv (dt (eatW mo ds)))])), (a 1, .inl (G 4, 6, .inr (.inr (.inr (.inr (jF a)))))), (a 2, .inl (G 1, 2, .inl (fun y9 => iv (dO (eatW mo ds) y9)))), (a 3, .inl (G 0, 2, .inl (fun y9 => iv (dU (eatW mo ds) y9))))] ++ (wJs G a (eatW mo ds))) := rfl
        simp only [cn_app, cn_nil, cn_two] at e_0 ⊢ <;> omega)
      replace hP := wP_perm hP hq
      replace hD := wD_perm hD hq
      have hP : va_P D vwCl ([(a 0, .inr (3, [.ref (a 1), .ref (a 2), .ref (a 3), .int (iv (hJ (eatW mo ds))), .int (iv (xJ (eatW mo ds) (xJ ds jk + mo))), .int (iv (dv (eatW mo ds))), .int (iv (dn (eatW mo ds))), .int (iv (dt (eatW mo ds)))])), (a 1, .inl (G 4, 6, .inr (.inr (.inr (.inr (jF a)))))), (a 2, .inl (G 1, 2, .inl (fun y9 => iv (dO (eatW mo ds) y9)))), (a 3, .inl (G 0, 2, .inl (fun y9 => iv (dU (eatW mo ds) y9))))] ++ (wJs G a (eatW mo ds))) _ := hP
      have hD : va_D A ([(a 0, .inr (3, [.ref (a 1), .ref (a 2), .ref (a 3), .int (iv (hJ (eatW mo ds))), .int (iv (xJ (eatW mo ds) (xJ ds jk + mo))), .int (iv (dv (eatW mo ds))), .int (iv (dn (eatW mo ds))), .int (iv (dt (eatW mo ds)))])), (a 1, .inl (G 4, 6, .inr (.inr (.inr (.inr (jF a)))))), (a 2, .inl (G 1, 2, .inl (fun y9 => iv (dO (eatW mo ds) y9)))), (a 3, .inl (G 0, 2, .inl (fun y9 => iv (dU (eatW mo ds) y9))))] ++ (wJs G a (eatW mo ds))) := hD
      refine W.widen (k := 0) (n := 0) (by omega) (by omega) ?_
      exact J36 (eatW mo ds) (xJ ds jk + mo) (0 + 1) rfl _ _ hP hD hS _ (lv_sub hl [1, 2, 3, 0] rfl)
