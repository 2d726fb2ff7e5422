set_option maxHeartbeats 4000000 in
set_option maxRecDepth 100000 in
theorem k_lw_B2 {p : Program} {l : Launch} {e : Env} {s : State} {m : MethodId} {below : List Frame} {meth : Method} {c : Code} {H : Heap} {locs : List Loc} {cells slots : Nat} {ls : Array Slot} {Q : State → Prop} {D : va_G} {G : Nat → ClassId} {b L : Nat} {xs : Nat → Int32} {A : Nat → Prop} (hB : LBx p l s m meth c D G b L xs A) {a ar az : Nat → Nat} {z t : Nat} {ad : AD} {ap : AD} {ts : DS} {bb : Nat → Nat} {sd : AD} {sp : AD} {jj : Nat → Int} {cs : CS} (hok : okC cs) (ht : t < 34) {wa ja : AD} {jz : Nat → Nat → Nat} {w y : Nat}  (hc1 : cells + 2000 ≤ 741649) (hc2 : slots + 9000 ≤ 6876824) (hP : va_P D vwCl ([(w, .inl (G 4, kn cs, .inr (.inr (.inr (.inr (aF wa (kn cs))))))), (y, .inl (G 6, kn cs, .inr (.inr (.inr (.inr (aF ja (kn cs)))))))] ++ ((wRw G 8 wa (fun _ => zz) (kn cs)) ++ ((wKs G ja jz (fun _ _ => zz) (kn cs)) ++ ((wC G a ar az ad ap ts cs) ++ (wSim G bb sd sp jj cs))))) H) (hD : va_D A ([(w, .inl (G 4, kn cs, .inr (.inr (.inr (.inr (aF wa (kn cs))))))), (y, .inl (G 6, kn cs, .inr (.inr (.inr (.inr (aF ja (kn cs)))))))] ++ ((wRw G 8 wa (fun _ => zz) (kn cs)) ++ ((wKs G ja jz (fun _ _ => zz) (kn cs)) ++ ((wC G a ar az ad ap ts cs) ++ (wSim G bb sd sp jj cs)))))) (hS : va_S A s.heap H locs) (hl : lv_has ls 21 [(0, .ref b), (1, .ref (a 0)), (2, .ref z), (3, .int (iv (t : Int))), (5, .int (iv (kn cs : Int))), (6, .ref w), (7, .ref y)])
  (kk : ∀ (ad : AD) (ap : AD) (ts : DS) (F : Nat → Nat → Int) (J : Nat → Nat → Nat → Int) (H : Heap) (locs : List Loc), va_P D vwCl ([(w, .inl (G 4, kn cs, .inr (.inr (.inr (.inr (aF wa (kn cs))))))), (y, .inl (G 6, kn cs, .inr (.inr (.inr (.inr (aF ja (kn cs)))))))] ++ ((wRw G 8 wa F (kn cs)) ++ ((wKs G ja jz J (kn cs)) ++ ((wC G a ar az ad ap ts cs) ++ (wSim G bb sd sp jj cs))))) H → va_D A ([(w, .inl (G 4, kn cs, .inr (.inr (.inr (.inr (aF wa (kn cs))))))), (y, .inl (G 6, kn cs, .inr (.inr (.inr (.inr (aF ja (kn cs)))))))] ++ ((wRw G 8 wa F (kn cs)) ++ ((wKs G ja jz J (kn cs)) ++ ((wC G a ar az ad ap ts cs) ++ (wSim G bb sd sp jj cs))))) → va_S A s.heap H locs → ∀ (ls : Array Slot), lv_has ls 21 [(0, .ref b), (1, .ref (a 0)), (2, .ref z), (3, .int (iv (t : Int))), (5, .int (iv (kn cs : Int))), (6, .ref w), (7, .ref y)] → (∀ e9, e9 < kn cs → ∀ w9, w9 < 8 → F e9 w9 = roomv (kS cs e9) w9) → (∀ e9, e9 < kn cs → ∀ j9, j9 < 6 → ∀ w9, w9 < 3 → J e9 j9 w9 = limv (kS cs e9) w9 j9) → W p l e room_1 s m #[Value.ref b] below meth c H locs (cells + 256) (slots + 1536) Q (F0 m 316 ls [])) : W p l e room_1 s m #[Value.ref b] below meth c H locs (cells) (slots) Q (F0 m 117 ls []) := by
  obtain ⟨hx, hb, hml, hown, hts, hK, hT, hA, hX, hL, hl0, h128⟩ := hB
  obtain ⟨on8, op8, -, -, -, oday, omo⟩ := id hok
  have hP : va_P D vwCl ([(w, .inl (G 4, kn cs, .inr (.inr (.inr (.inr (aF wa (kn cs))))))), (y, .inl (G 6, kn cs, .inr (.inr (.inr (.inr (aF ja (kn cs)))))))] ++ ((wRw G 8 wa (fun _ => zz) (kn cs)) ++ ((wKs G ja jz (fun _ _ => zz) (kn cs)) ++ ((wC G a ar az ad ap ts cs) ++ (wSim G bb sd sp jj cs))))) _ := hP
  have hD : va_D A ([(w, .inl (G 4, kn cs, .inr (.inr (.inr (.inr (aF wa (kn cs))))))), (y, .inl (G 6, kn cs, .inr (.inr (.inr (.inr (aF ja (kn cs)))))))] ++ ((wRw G 8 wa (fun _ => zz) (kn cs)) ++ ((wKs G ja jz (fun _ _ => zz) (kn cs)) ++ ((wC G a ar az ad ap ts cs) ++ (wSim G bb sd sp jj cs))))) := hD
  refine r_const hx hb dL_law_117 ?_
  refine lv_istore (lv' := [(8, .int (iv 0)), (0, .ref b), (1, .ref (a 0)), (2, .ref z), (3, .int (iv (t : Int))), (5, .int (iv (kn cs : Int))), (6, .ref w), (7, .ref y)]) hx hb dL_law_118 hl (by decide) rfl (fun ls hl => ?_)
  have K120 : ∀ (fu k : Nat) (ad : AD) (ap : AD) (ts : DS) (F : Nat → Nat → Int) (J : Nat → Nat → Nat → Int), k ≤ kn cs → kn cs < k + fu → (∀ e9, e9 < k → ∀ w9, w9 < 8 → F e9 w9 = roomv (kS cs e9) w9) → (∀ e9, e9 < k → ∀ j9, j9 < 6 → ∀ w9, w9 < 3 → J e9 j9 w9 = limv (kS cs e9) w9 j9) → ∀ (H : Heap) (locs : List Loc), va_P D vwCl ([(w, .inl (G 4, kn cs, .inr (.inr (.inr (.inr (aF wa (kn cs))))))), (y, .inl (G 6, kn cs, .inr (.inr (.inr (.inr (aF ja (kn cs)))))))] ++ ((wRw G 8 wa F (kn cs)) ++ ((wKs G ja jz J (kn cs)) ++ ((wC G a ar az ad ap ts cs) ++ (wSim G bb sd sp jj cs))))) H → va_D A ([(w, .inl (G 4, kn cs, .inr (.inr (.inr (.inr (aF wa (kn cs))))))), (y, .inl (G 6, kn cs, .inr (.inr (.inr (.inr (aF ja (kn cs)))))))] ++ ((wRw G 8 wa F (kn cs)) ++ ((wKs G ja jz J (kn cs)) ++ ((wC G a ar az ad ap ts cs) ++ (wSim G bb sd sp jj cs))))) → va_S A s.heap H locs → ∀ (ls : Array Slot), lv_has ls 21 [(0, .ref b), (1, .ref (a 0)), (2, .ref z), (3, .int (iv (t : Int))), (5, .int (iv (kn cs : Int))), (6, .ref w), (7, .ref y), (8, .int (iv (k : Int)))] → W p l e room_1 s m #[Value.ref b] below meth c H locs (cells + 32 * k) (slots + 192 * k) Q (F0 m 120 ls []) := by
    intro fu
    induction fu with
    | zero => intro k ad ap ts F J h1 h2; exact absurd h2 (by omega)
    | succ fu ih120 =>
      intro k ad ap ts F J hi_120 hn_120 hF hJ H locs hP hD hS ls hl
      refine lv_iload hx hb dL_law_120 (lv_at hl 7 rfl) ?_
      refine lv_iload hx hb dL_law_122 (lv_at hl 4 rfl) ?_
      refine r_icmp_ge hx hb 316 dL_law_124 (by decide) (by omega) (by omega) (fun c_124 => ?_) (fun c_124 => ?_)
      · skip
        obtain rfl : k = kn cs := by omega
        refine W.widen (k := cells + 256) (n := slots + 1536) (by omega) (by omega) ?_
        exact kk ad ap ts F J _ _ hP hD hS _ (lv_sub hl [0, 1, 2, 3, 4, 5, 6] rfl) hF hJ
      · skip
        refine r_const hx hb dL_law_127 ?_
        refine lv_istore (lv' := [(9, .int (iv 0)), (0, .ref b), (1, .ref (a 0)), (2, .ref z), (3, .int (iv (t : Int))), (5, .int (iv (kn cs : Int))), (6, .ref w), (7, .ref y), (8, .int (iv (k : Int)))]) hx hb dL_law_128 hl (by decide) rfl (fun ls hl => ?_)
        have K130 : ∀ (fu uu : Nat) (pr : Nat → Int), uu ≤ 8 → 8 < uu + fu → (∀ w9, w9 < uu → pr w9 = roomv (kS cs k) w9) → ∀ (H : Heap) (locs : List Loc), va_P D vwCl ([(w, .inl (G 4, kn cs, .inr (.inr (.inr (.inr (aF wa (kn cs))))))), (y, .inl (G 6, kn cs, .inr (.inr (.inr (.inr (aF ja (kn cs))))))), (wa k 0, .inl (G 0, 8, .inl (fun y9 => iv (pr y9))))] ++ ((wRwo G 8 wa F (kn cs) k) ++ ((wKs G ja jz J (kn cs)) ++ ((wC G a ar az ad ap ts cs) ++ (wSim G bb sd sp jj cs))))) H → va_D A ([(w, .inl (G 4, kn cs, .inr (.inr (.inr (.inr (aF wa (kn cs))))))), (y, .inl (G 6, kn cs, .inr (.inr (.inr (.inr (aF ja (kn cs))))))), (wa k 0, .inl (G 0, 8, .inl (fun y9 => iv (pr y9))))] ++ ((wRwo G 8 wa F (kn cs) k) ++ ((wKs G ja jz J (kn cs)) ++ ((wC G a ar az ad ap ts cs) ++ (wSim G bb sd sp jj cs))))) → va_S A s.heap H locs → ∀ (ls : Array Slot), lv_has ls 21 [(0, .ref b), (1, .ref (a 0)), (2, .ref z), (3, .int (iv (t : Int))), (5, .int (iv (kn cs : Int))), (6, .ref w), (7, .ref y), (8, .int (iv (k : Int))), (9, .int (iv (uu : Int)))] → W p l e room_1 s m #[Value.ref b] below meth c H locs (cells + 32 * k) (slots + 192 * k) Q (F0 m 130 ls []) := by
          intro fu
          induction fu with
          | zero => intro uu pr h1 h2; exact absurd h2 (by omega)
          | succ fu ih130 =>
            intro uu pr hi_130 hn_130 hpr H locs hP hD hS ls hl
            refine lv_iload hx hb dL_law_130 (lv_at hl 8 rfl) ?_
            refine lv_bipush (v := iv 8) hx hb dL_law_132 (by decide) ?_
            refine r_icmp_ge hx hb 159 dL_law_134 (by decide) (by omega) (by omega) (fun c_134 => ?_) (fun c_134 => ?_)
            · skip
              refine r_const hx hb dL_law_159 ?_
              refine lv_istore (lv' := [(9, .int (iv 0)), (0, .ref b), (1, .ref (a 0)), (2, .ref z), (3, .int (iv (t : Int))), (5, .int (iv (kn cs : Int))), (6, .ref w), (7, .ref y), (8, .int (iv (k : Int)))]) hx hb dL_law_160 hl (by decide) rfl (fun ls hl => ?_)
              have K162 : ∀ (fu j : Nat) (Jk : Nat → Nat → Int), j ≤ 6 → 6 < j + fu → (∀ j9, j9 < j → ∀ w9, w9 < 3 → Jk j9 w9 = limv (kS cs k) w9 j9) → ∀ (H : Heap) (locs : List Loc), va_P D vwCl ([(w, .inl (G 4, kn cs, .inr (.inr (.inr (.inr (aF wa (kn cs))))))), (y, .inl (G 6, kn cs, .inr (.inr (.inr (.inr (aF ja (kn cs))))))), (ja k 0, .inl (G 4, 6, .inr (.inr (.inr (.inr (zF (jz k)))))))] ++ ((wRw G 8 wa (updP F k pr) (kn cs)) ++ ((wKso G ja jz J (kn cs) k) ++ ((wKr G (jz k) Jk) ++ ((wC G a ar az ad ap ts cs) ++ (wSim G bb sd sp jj cs)))))) H → va_D A ([(w, .inl (G 4, kn cs, .inr (.inr (.inr (.inr (aF wa (kn cs))))))), (y, .inl (G 6, kn cs, .inr (.inr (.inr (.inr (aF ja (kn cs))))))), (ja k 0, .inl (G 4, 6, .inr (.inr (.inr (.inr (zF (jz k)))))))] ++ ((wRw G 8 wa (updP F k pr) (kn cs)) ++ ((wKso G ja jz J (kn cs) k) ++ ((wKr G (jz k) Jk) ++ ((wC G a ar az ad ap ts cs) ++ (wSim G bb sd sp jj cs)))))) → va_S A s.heap H locs → ∀ (ls : Array Slot), lv_has ls 21 [(0, .ref b), (1, .ref (a 0)), (2, .ref z), (3, .int (iv (t : Int))), (5, .int (iv (kn cs : Int))), (6, .ref w), (7, .ref y), (8, .int (iv (k : Int))), (9, .int (iv (j : Int)))] → W p l e room_1 s m #[Value.ref b] below meth c H locs (cells + 32 * k) (slots + 192 * k) Q (F0 m 162 ls []) := by
                intro fu
                induction fu with
                | zero => intro j Jk h1 h2; exact absurd h2 (by omega)
                | succ fu ih162 =>
                  intro j Jk hi_162 hn_162 hjk H locs hP hD hS ls hl
                  refine lv_iload hx hb dL_law_162 (lv_at hl 8 rfl) ?_
                  refine lv_bipush (v := iv 6) hx hb dL_law_164 (by decide) ?_
                  refine r_icmp_ge hx hb 211 dL_law_166 (by decide) (by omega) (by omega) (fun c_166 => ?_) (fun c_166 => ?_)
                  · skip
                    refine r_const hx hb dL_law_211 ?_
                    refine lv_istore (lv' := [(9, .int (iv 0)), (0, .ref b), (1, .ref (a 0)), (2, .ref z), (3, .int (iv (t : Int))), (5, .int (iv (kn cs : Int))), (6, .ref w), (7, .ref y), (8, .int (iv (k : Int)))]) hx hb dL_law_212 hl (by decide) rfl (fun ls hl => ?_)
                    have K214 : ∀ (fu q : Nat) (ad : AD) (ap : AD) (ts : DS), q ≤ kp cs → kp cs < q + fu → ∀ (H : Heap) (locs : List Loc), va_P D vwCl ([(w, .inl (G 4, kn cs, .inr (.inr (.inr (.inr (aF wa (kn cs))))))), (y, .inl (G 6, kn cs, .inr (.inr (.inr (.inr (aF ja (kn cs)))))))] ++ ((wRw G 8 wa (updP F k pr) (kn cs)) ++ ((wKs G ja jz (updQ J k Jk) (kn cs)) ++ ((wC G a ar az ad ap ts cs) ++ (wSim G bb sd sp jj cs))))) H → va_D A ([(w, .inl (G 4, kn cs, .inr (.inr (.inr (.inr (aF wa (kn cs))))))), (y, .inl (G 6, kn cs, .inr (.inr (.inr (.inr (aF ja (kn cs)))))))] ++ ((wRw G 8 wa (updP F k pr) (kn cs)) ++ ((wKs G ja jz (updQ J k Jk) (kn cs)) ++ ((wC G a ar az ad ap ts cs) ++ (wSim G bb sd sp jj cs))))) → va_S A s.heap H locs → ∀ (ls : Array Slot), lv_has ls 21 [(0, .ref b), (1, .ref (a 0)), (2, .ref z), (3, .int (iv (t : Int))), (5, .int (iv (kn cs : Int))), (6, .ref w), (7, .ref y), (8, .int (iv (k : Int))), (9, .int (iv (q : Int)))] → W p l e room_1 s m #[Value.ref b] below meth c H locs (cells + 32 * k + 4 * q) (slots + 192 * k + 24 * q) Q (F0 m 214 ls []) := by
                      intro fu
                      induction fu with
                      | zero => intro q ad ap ts h1 h2; exact absurd h2 (by omega)
                      | succ fu ih214 =>
                        intro q ad ap ts hi_214 hn_214 H locs hP hD hS ls hl
                        refine lv_iload hx hb dL_law_214 (lv_at hl 8 rfl) ?_
                        refine lv_aload_n hx hb dL_law_216 rfl (lv_at hl 1 rfl) ?_
                        refine r_const hx hb dL_law_217 ?_
                        have hq : List.Perm (α := Nat × va_E) ([(w, .inl (G 4, kn cs, .inr (.inr (.inr (.inr (aF wa (kn cs))))))), (y, .inl (G 6, kn cs, .inr (.inr (.inr (.inr (aF ja (kn cs)))))))] ++ ((wRw G 8 wa (updP F k pr) (kn cs)) ++ ((wKs G ja jz (updQ J k Jk) (kn cs)) ++ ((wC G a ar az ad ap ts cs) ++ (wSim G bb sd sp jj cs))))) ((wC G a ar az ad ap ts cs) ++ ([(w, .inl (G 4, kn cs, .inr (.inr (.inr (.inr (aF wa (kn cs))))))), (y, .inl (G 6, kn cs, .inr (.inr (.inr (.inr (aF ja (kn cs)))))))] ++ ((wRw G 8 wa (updP F k pr) (kn cs)) ++ ((wKs G ja jz (updQ J k Jk) (kn cs)) ++ (wSim G bb sd sp jj cs))))) := wperm (fun q9 => by
                          simp only [cn_app, cn_nil, cn_two] at ⊢ <;> omega)
                        replace hP := wP_perm hP hq
                        replace hD := wD_perm hD hq
                        have hP : va_P D vwCl ((wC G a ar az ad ap ts cs) ++ ([(w, .inl (G 4, kn cs, .inr (.inr (.inr (.inr (aF wa (kn cs))))))), (y, .inl (G 6, kn cs, .inr (.inr (.inr (.inr (aF ja (kn cs)))))))] ++ ((wRw G 8 wa (updP F k pr) (kn cs)) ++ ((wKs G ja jz (updQ J k Jk) (kn cs)) ++ (wSim G bb sd sp jj cs))))) _ := hP
                        have hD : va_D A ((wC G a ar az ad ap ts cs) ++ ([(w, .inl (G 4, kn cs, .inr (.inr (.inr (.inr (aF wa (kn cs))))))), (y, .inl (G 6, kn cs, .inr (.inr (.inr (.inr (aF ja (kn cs)))))))] ++ ((wRw G 8 wa (updP F k pr) (kn cs)) ++ ((wKs G ja jz (updQ J k Jk) (kn cs)) ++ (wSim G bb sd sp jj cs))))) := hD
                        have hp : List.Perm (α := Nat × va_E) ((wC G a ar az ad ap ts cs) ++ ([(w, .inl (G 4, kn cs, .inr (.inr (.inr (.inr (aF wa (kn cs))))))), (y, .inl (G 6, kn cs, .inr (.inr (.inr (.inr (aF ja (kn cs)))))))] ++ ((wRw G 8 wa (updP F k pr) (kn cs)) ++ ((wKs G ja jz (updQ J k Jk) (kn cs)) ++ (wSim G bb sd sp jj cs))))) ((wC G a ar az ad ap ts cs) ++ ([(w, .inl (G 4, kn cs, .inr (.inr (.inr (.inr (aF wa (kn cs))))))), (y, .inl (G 6, kn cs, .inr (.inr (.inr (.inr (aF ja (kn cs)))))))] ++ ((wRw G 8 wa (updP F k pr) (kn cs)) ++ ((wKs G ja jz (updQ J k Jk) (kn cs)) ++ (wSim G bb sd sp jj cs))))) := List.Perm.refl _
                        refine k_int (g_V (As := [.int (iv 2)]) (rest := [.int (iv (q : Int))]) (q0 := 0) (ci := 2) ⟨hx, hb, hml, hown, hts⟩ (n_X2_count l D G a ar az ad ap ts cs hok 2 (by omega)) (cwV 1 hts gL_law_X2_count rfl rfl rfl (by decide +kernel) ⟨Nat.le_of_ble_eq_true rfl, Nat.le_of_ble_eq_true rfl⟩) hK hP hD hp rfl rfl rfl rfl hl.1 rfl (Nat.le_of_ble_eq_true rfl) dL_law_218 ⟨by show _ ≤ (741649 : Nat); omega, by show _ ≤ (6876824 : Nat); omega⟩) hP hD hS hA hp (fun v u H locs hw hP hD hS => ?_)
                        obtain ⟨hv, hu⟩ := hw
                        replace hv : v = (iv (countV cs 2)) := hv
                        subst hv
                        subst hu
                        have hP : va_P D vwCl ((wC G a ar az ad ap ts cs) ++ ([(w, .inl (G 4, kn cs, .inr (.inr (.inr (.inr (aF wa (kn cs))))))), (y, .inl (G 6, kn cs, .inr (.inr (.inr (.inr (aF ja (kn cs)))))))] ++ ((wRw G 8 wa (updP F k pr) (kn cs)) ++ ((wKs G ja jz (updQ J k Jk) (kn cs)) ++ (wSim G bb sd sp jj cs))))) _ := hP
                        have hD : va_D A ((wC G a ar az ad ap ts cs) ++ ([(w, .inl (G 4, kn cs, .inr (.inr (.inr (.inr (aF wa (kn cs))))))), (y, .inl (G 6, kn cs, .inr (.inr (.inr (.inr (aF ja (kn cs)))))))] ++ ((wRw G 8 wa (updP F k pr) (kn cs)) ++ ((wKs G ja jz (updQ J k Jk) (kn cs)) ++ (wSim G bb sd sp jj cs))))) := hD
                        have hq : List.Perm (α := Nat × va_E) ((wC G a ar az ad ap ts cs) ++ ([(w, .inl (G 4, kn cs, .inr (.inr (.inr (.inr (aF wa (kn cs))))))), (y, .inl (G 6, kn cs, .inr (.inr (.inr (.inr (aF ja (kn cs)))))))] ++ ((wRw G 8 wa (updP F k pr) (kn cs)) ++ ((wKs G ja jz (updQ J k Jk) (kn cs)) ++ (wSim G bb sd sp jj cs))))) ([(w, .inl (G 4, kn cs, .inr (.inr (.inr (.inr (aF wa (kn cs))))))), (y, .inl (G 6, kn cs, .inr (.inr (.inr (.inr (aF ja (kn cs)))))))] ++ ((wRw G 8 wa (updP F k pr) (kn cs)) ++ ((wKs G ja jz (updQ J k Jk) (kn cs)) ++ ((wC G a ar az ad ap ts cs) ++ (wSim G bb sd sp jj cs))))) := wperm (fun q9 => by
                          simp only [cn_app, cn_nil, cn_two] at ⊢ <;> omega)
                        replace hP := wP_perm hP hq
                        replace hD := wD_perm hD hq
                        have hP : va_P D vwCl ([(w, .inl (G 4, kn cs, .inr (.inr (.inr (.inr (aF wa (kn cs))))))), (y, .inl (G 6, kn cs, .inr (.inr (.inr (.inr (aF ja (kn cs)))))))] ++ ((wRw G 8 wa (updP F k pr) (kn cs)) ++ ((wKs G ja jz (updQ J k Jk) (kn cs)) ++ ((wC G a ar az ad ap ts cs) ++ (wSim G bb sd sp jj cs))))) _ := hP
                        have hD : va_D A ([(w, .inl (G 4, kn cs, .inr (.inr (.inr (.inr (aF wa (kn cs))))))), (y, .inl (G 6, kn cs, .inr (.inr (.inr (.inr (aF ja (kn cs)))))))] ++ ((wRw G 8 wa (updP F k pr) (kn cs)) ++ ((wKs G ja jz (updQ J k Jk) (kn cs)) ++ ((wC G a ar az ad ap ts cs) ++ (wSim G bb sd sp jj cs))))) := hD
                        rw [show countV cs 2 = (kp cs : Int) from rfl]
                        refine r_icmp_ge hx hb 310 dL_law_221 (by decide) (by omega) (by omega) (fun c_221 => ?_) (fun c_221 => ?_)
                        · skip
                          have hF2 : ∀ e9, e9 < k + 1 → ∀ w9, w9 < 8 → (updP F k pr) e9 w9 = roomv (kS cs e9) w9 := fun e9 h9 w9 hw9 => by by_cases q9 : e9 = k; (rw [q9, updP_s]; exact hpr w9 (by omega)); (rw [updP_n _ _ q9]; exact hF e9 (by omega) w9 hw9)
                          have hJ2 : ∀ e9, e9 < k + 1 → ∀ j9, j9 < 6 → ∀ w9, w9 < 3 → (updQ J k Jk) e9 j9 w9 = limv (kS cs e9) w9 j9 := fun e9 h9 j9 hj9 w9 hw9 => by by_cases q9 : e9 = k; (rw [q9, updQ_s]; exact hjk j9 (by omega) w9 hw9); (rw [updQ_n _ _ q9]; exact hJ e9 (by omega) j9 hj9 w9 hw9)
                          refine r_iinc (k := 7) (lv' := [(8, .int (iv ((k : Int) + 1))), (0, .ref b), (1, .ref (a 0)), (2, .ref z), (3, .int (iv (t : Int))), (5, .int (iv (kn cs : Int))), (6, .ref w), (7, .ref y), (9, .int (iv (q : Int)))]) hx hb dL_law_310 hl rfl (by decide) rfl (fun ls hl => ?_)
                          refine r_goto hx hb 120 dL_law_313 (by decide) ?_
                          refine W.widen (k := cells + 32 * (k + 1)) (n := slots + 192 * (k + 1)) (by omega) (by omega) ?_
                          exact ih120 (k + 1) ad ap ts (updP F k pr) (updQ J k Jk) (by omega) (by omega) hF2 hJ2 _ _ hP hD hS _ (lv_sub hl [1, 2, 3, 4, 5, 6, 7, 0] rfl)
                        · skip
                          obtain ⟨vc, vo, hvc, hvo, hvv⟩ := co_val hok (d := k) (q := q) (by omega) (by omega)
                          refine lv_aload_n hx hb dL_law_224 rfl (lv_at hl 1 rfl) ?_
                          refine lv_iload hx hb dL_law_225 (lv_at hl 7 rfl) ?_
                          refine lv_iload hx hb dL_law_227 (lv_at hl 8 rfl) ?_
                          have hq : List.Perm (α := Nat × va_E) ([(w, .inl (G 4, kn cs, .inr (.inr (.inr (.inr (aF wa (kn cs))))))), (y, .inl (G 6, kn cs, .inr (.inr (.inr (.inr (aF ja (kn cs)))))))] ++ ((wRw G 8 wa (updP F k pr) (kn cs)) ++ ((wKs G ja jz (updQ J k Jk) (kn cs)) ++ ((wC G a ar az ad ap ts cs) ++ (wSim G bb sd sp jj cs))))) ((wC G a ar az ad ap ts cs) ++ ([(w, .inl (G 4, kn cs, .inr (.inr (.inr (.inr (aF wa (kn cs))))))), (y, .inl (G 6, kn cs, .inr (.inr (.inr (.inr (aF ja (kn cs)))))))] ++ ((wRw G 8 wa (updP F k pr) (kn cs)) ++ ((wKs G ja jz (updQ J k Jk) (kn cs)) ++ (wSim G bb sd sp jj cs))))) := wperm (fun q9 => by
                            simp only [cn_app, cn_nil, cn_two] at ⊢ <;> omega)
                          replace hP := wP_perm hP hq
                          replace hD := wD_perm hD hq
                          have hP : va_P D vwCl ((wC G a ar az ad ap ts cs) ++ ([(w, .inl (G 4, kn cs, .inr (.inr (.inr (.inr (aF wa (kn cs))))))), (y, .inl (G 6, kn cs, .inr (.inr (.inr (.inr (aF ja (kn cs)))))))] ++ ((wRw G 8 wa (updP F k pr) (kn cs)) ++ ((wKs G ja jz (updQ J k Jk) (kn cs)) ++ (wSim G bb sd sp jj cs))))) _ := hP
                          have hD : va_D A ((wC G a ar az ad ap ts cs) ++ ([(w, .inl (G 4, kn cs, .inr (.inr (.inr (.inr (aF wa (kn cs))))))), (y, .inl (G 6, kn cs, .inr (.inr (.inr (.inr (aF ja (kn cs)))))))] ++ ((wRw G 8 wa (updP F k pr) (kn cs)) ++ ((wKs G ja jz (updQ J k Jk) (kn cs)) ++ (wSim G bb sd sp jj cs))))) := hD
                          have hp : List.Perm (α := Nat × va_E) ((wC G a ar az ad ap ts cs) ++ ([(w, .inl (G 4, kn cs, .inr (.inr (.inr (.inr (aF wa (kn cs))))))), (y, .inl (G 6, kn cs, .inr (.inr (.inr (.inr (aF ja (kn cs)))))))] ++ ((wRw G 8 wa (updP F k pr) (kn cs)) ++ ((wKs G ja jz (updQ J k Jk) (kn cs)) ++ (wSim G bb sd sp jj cs))))) ((wC G a ar az ad ap ts cs) ++ ([(w, .inl (G 4, kn cs, .inr (.inr (.inr (.inr (aF wa (kn cs))))))), (y, .inl (G 6, kn cs, .inr (.inr (.inr (.inr (aF ja (kn cs)))))))] ++ ((wRw G 8 wa (updP F k pr) (kn cs)) ++ ((wKs G ja jz (updQ J k Jk) (kn cs)) ++ (wSim G bb sd sp jj cs))))) := List.Perm.refl _
                          refine k_int (g_VT (As := [.int (iv (k : Int)), .int (iv (q : Int))]) (rest := []) (q0 := 0) (ci := 2) ⟨hx, hb, hml, hown, hts⟩ ((c_X2_costs l D G hl0 a ar az ad ap ts cs hok (k : Int) (q : Int) (by omega) (by omega)).noX (fun E => PX_no (by rw [hvc]) (by decide))) (cwV 2 hts gL_law_X2_costs rfl rfl rfl (by decide +kernel) ⟨Nat.le_of_ble_eq_true rfl, Nat.le_of_ble_eq_true rfl⟩) hK hT hA hP hD hS hp rfl rfl rfl rfl hl.1 rfl (Nat.le_of_ble_eq_true rfl) dL_law_229 ⟨by show _ ≤ (741649 : Nat); omega, by show _ ≤ (6876824 : Nat); omega⟩) hP hD hS hA hp (fun v u H locs hw hP hD hS => ?_)
                          obtain ⟨-, rfl, ad_1, ap_1, ts_1, rfl⟩ := hw
                          have hP : va_P D vwCl ((wC G a ar az ad_1 ap_1 ts_1 (opCosts cs (k : Int) (q : Int)).2.2) ++ ([(w, .inl (G 4, kn cs, .inr (.inr (.inr (.inr (aF wa (kn cs))))))), (y, .inl (G 6, kn cs, .inr (.inr (.inr (.inr (aF ja (kn cs)))))))] ++ ((wRw G 8 wa (updP F k pr) (kn cs)) ++ ((wKs G ja jz (updQ J k Jk) (kn cs)) ++ (wSim G bb sd sp jj cs))))) _ := hP
                          have hD : va_D A ((wC G a ar az ad_1 ap_1 ts_1 (opCosts cs (k : Int) (q : Int)).2.2) ++ ([(w, .inl (G 4, kn cs, .inr (.inr (.inr (.inr (aF wa (kn cs))))))), (y, .inl (G 6, kn cs, .inr (.inr (.inr (.inr (aF ja (kn cs)))))))] ++ ((wRw G 8 wa (updP F k pr) (kn cs)) ++ ((wKs G ja jz (updQ J k Jk) (kn cs)) ++ (wSim G bb sd sp jj cs))))) := hD
                          rw [hvc] at hP hD
                          have hP : va_P D vwCl ((wC G a ar az ad_1 ap_1 ts_1 cs) ++ ([(w, .inl (G 4, kn cs, .inr (.inr (.inr (.inr (aF wa (kn cs))))))), (y, .inl (G 6, kn cs, .inr (.inr (.inr (.inr (aF ja (kn cs)))))))] ++ ((wRw G 8 wa (updP F k pr) (kn cs)) ++ ((wKs G ja jz (updQ J k Jk) (kn cs)) ++ (wSim G bb sd sp jj cs))))) _ := hP
                          have hD : va_D A ((wC G a ar az ad_1 ap_1 ts_1 cs) ++ ([(w, .inl (G 4, kn cs, .inr (.inr (.inr (.inr (aF wa (kn cs))))))), (y, .inl (G 6, kn cs, .inr (.inr (.inr (.inr (aF ja (kn cs)))))))] ++ ((wRw G 8 wa (updP F k pr) (kn cs)) ++ ((wKs G ja jz (updQ J k Jk) (kn cs)) ++ (wSim G bb sd sp jj cs))))) := hD
                          have hq : List.Perm (α := Nat × va_E) ((wC G a ar az ad_1 ap_1 ts_1 cs) ++ ([(w, .inl (G 4, kn cs, .inr (.inr (.inr (.inr (aF wa (kn cs))))))), (y, .inl (G 6, kn cs, .inr (.inr (.inr (.inr (aF ja (kn cs)))))))] ++ ((wRw G 8 wa (updP F k pr) (kn cs)) ++ ((wKs G ja jz (updQ J k Jk) (kn cs)) ++ (wSim G bb sd sp jj cs))))) ([(w, .inl (G 4, kn cs, .inr (.inr (.inr (.inr (aF wa (kn cs))))))), (y, .inl (G 6, kn cs, .inr (.inr (.inr (.inr (aF ja (kn cs)))))))] ++ ((wRw G 8 wa (updP F k pr) (kn cs)) ++ ((wKs G ja jz (updQ J k Jk) (kn cs)) ++ ((wSim G bb sd sp jj cs) ++ (wC G a ar az ad_1 ap_1 ts_1 cs))))) := wperm (fun q9 => by
                            simp only [cn_app, cn_nil, cn_two] at ⊢ <;> omega)
                          replace hP := wP_perm hP hq
                          replace hD := wD_perm hD hq
                          have hP : va_P D vwCl ([(w, .inl (G 4, kn cs, .inr (.inr (.inr (.inr (aF wa (kn cs))))))), (y, .inl (G 6, kn cs, .inr (.inr (.inr (.inr (aF ja (kn cs)))))))] ++ ((wRw G 8 wa (updP F k pr) (kn cs)) ++ ((wKs G ja jz (updQ J k Jk) (kn cs)) ++ ((wSim G bb sd sp jj cs) ++ (wC G a ar az ad_1 ap_1 ts_1 cs))))) _ := hP
                          have hD : va_D A ([(w, .inl (G 4, kn cs, .inr (.inr (.inr (.inr (aF wa (kn cs))))))), (y, .inl (G 6, kn cs, .inr (.inr (.inr (.inr (aF ja (kn cs)))))))] ++ ((wRw G 8 wa (updP F k pr) (kn cs)) ++ ((wKs G ja jz (updQ J k Jk) (kn cs)) ++ ((wSim G bb sd sp jj cs) ++ (wC G a ar az ad_1 ap_1 ts_1 cs))))) := hD
                          rw [show (opCosts cs (k : Int) (q : Int)).2.1 = vc from by rw [hvc]]
                          refine lv_istore (lv' := [(10, .int (iv vc)), (0, .ref b), (1, .ref (a 0)), (2, .ref z), (3, .int (iv (t : Int))), (5, .int (iv (kn cs : Int))), (6, .ref w), (7, .ref y), (8, .int (iv (k : Int))), (9, .int (iv (q : Int)))]) hx hb dL_law_232 hl (by decide) rfl (fun ls hl => ?_)
                          refine lv_iload_n hx hb dL_law_234 rfl (lv_at hl 4 rfl) ?_
                          refine lv_bipush (v := iv 6) hx hb dL_law_235 (by decide) ?_
                          refine r_rem hx hb dL_law_237 (by omega) (by omega) ?_
                          refine r_if_ne hx hb 252 dL_law_238 (by decide) (by omega) (fun c_238 => ?_) (fun c_238 => ?_)
                          · skip
                            refine lv_iload hx hb dL_law_252 (lv_at hl 0 rfl) ?_
                            refine r_if_ge hx hb 261 dL_law_254 (by decide) (by omega) (fun c_254 => ?_) (fun c_254 => ?_)
                            · skip
                              refine r_const hx hb dL_law_261 ?_
                              refine lv_istore (lv' := [(11, .int (iv 1)), (10, .int (iv vc)), (0, .ref b), (1, .ref (a 0)), (2, .ref z), (3, .int (iv (t : Int))), (5, .int (iv (kn cs : Int))), (6, .ref w), (7, .ref y), (8, .int (iv (k : Int))), (9, .int (iv (q : Int)))]) hx hb dL_law_262 hl (by decide) rfl (fun ls hl => ?_)
                              refine lv_iload hx hb dL_law_264 (lv_at hl 1 rfl) ?_
                              refine r_if_ge hx hb 273 dL_law_266 (by decide) (by omega) (fun c_266 => ?_) (fun c_266 => ?_)
                              · skip
                                refine r_const hx hb dL_law_273 ?_
                                refine lv_iload hx hb dL_law_274 (lv_at hl 0 rfl) ?_
                                refine r_if_ne hx hb 283 dL_law_276 (by decide) (by omega) (fun _ => ?_) (fun c_276 => absurd c_276 (by decide))
                                refine r_const hx hb dL_law_283 ?_
                                refine lv_icmp_ne (tgt := 302) hx hb dL_law_284 (by decide) (fun h9 => absurd rfl h9) (fun _ => ?_)
                                refine lv_iload hx hb dL_law_287 (lv_at hl 0 rfl) ?_
                                refine lv_bipush (v := iv 50) hx hb dL_law_289 (by decide) ?_
                                refine r_icmp_gt hx hb 302 dL_law_291 (by decide) (by omega) (by omega) (fun c_291 => ?_) (fun c_291 => ?_)
                                · exact absurd c_291 (by decide)
                                · skip
                                  refine lv_iload hx hb dL_law_294 (lv_at hl 1 rfl) ?_
                                  refine lv_sipush (v := iv 600) hx hb dL_law_296 (by decide) ?_
                                  refine r_icmp_le hx hb 304 dL_law_299 (by decide) (by omega) (by omega) (fun c_299 => ?_) (fun c_299 => ?_)
                                  · skip
                                    refine r_iinc (k := 10) (lv' := [(9, .int (iv ((q : Int) + 1))), (11, .int (iv 1)), (10, .int (iv vc)), (0, .ref b), (1, .ref (a 0)), (2, .ref z), (3, .int (iv (t : Int))), (5, .int (iv (kn cs : Int))), (6, .ref w), (7, .ref y), (8, .int (iv (k : Int)))]) hx hb dL_law_304 hl rfl (by decide) rfl (fun ls hl => ?_)
                                    refine r_goto hx hb 214 dL_law_307 (by decide) ?_
                                    have hq : List.Perm (α := Nat × va_E) ([(w, .inl (G 4, kn cs, .inr (.inr (.inr (.inr (aF wa (kn cs))))))), (y, .inl (G 6, kn cs, .inr (.inr (.inr (.inr (aF ja (kn cs)))))))] ++ ((wRw G 8 wa (updP F k pr) (kn cs)) ++ ((wKs G ja jz (updQ J k Jk) (kn cs)) ++ ((wSim G bb sd sp jj cs) ++ (wC G a ar az ad_1 ap_1 ts_1 cs))))) ([(w, .inl (G 4, kn cs, .inr (.inr (.inr (.inr (aF wa (kn cs))))))), (y, .inl (G 6, kn cs, .inr (.inr (.inr (.inr (aF ja (kn cs)))))))] ++ ((wRw G 8 wa (updP F k pr) (kn cs)) ++ ((wKs G ja jz (updQ J k Jk) (kn cs)) ++ ((wC G a ar az ad_1 ap_1 ts_1 cs) ++ (wSim G bb sd sp jj cs))))) := wperm (fun q9 => by
                                      simp only [cn_app, cn_nil, cn_two] at ⊢ <;> omega)
                                    replace hP := wP_perm hP hq
                                    replace hD := wD_perm hD hq
                                    have hP : va_P D vwCl ([(w, .inl (G 4, kn cs, .inr (.inr (.inr (.inr (aF wa (kn cs))))))), (y, .inl (G 6, kn cs, .inr (.inr (.inr (.inr (aF ja (kn cs)))))))] ++ ((wRw G 8 wa (updP F k pr) (kn cs)) ++ ((wKs G ja jz (updQ J k Jk) (kn cs)) ++ ((wC G a ar az ad_1 ap_1 ts_1 cs) ++ (wSim G bb sd sp jj cs))))) _ := hP
                                    have hD : va_D A ([(w, .inl (G 4, kn cs, .inr (.inr (.inr (.inr (aF wa (kn cs))))))), (y, .inl (G 6, kn cs, .inr (.inr (.inr (.inr (aF ja (kn cs)))))))] ++ ((wRw G 8 wa (updP F k pr) (kn cs)) ++ ((wKs G ja jz (updQ J k Jk) (kn cs)) ++ ((wC G a ar az ad_1 ap_1 ts_1 cs) ++ (wSim G bb sd sp jj cs))))) := hD
                                    refine W.widen (k := cells + 32 * k + 4 * (q + 1)) (n := slots + 192 * k + 24 * (q + 1)) (by omega) (by omega) ?_
                                    exact ih214 (q + 1) ad_1 ap_1 ts_1 (by omega) (by omega) _ _ hP hD hS _ (lv_sub hl [3, 4, 5, 6, 7, 8, 9, 10, 0] rfl)
                                  · skip
                                    exact (by omega : False).elim
                              · skip
                                refine r_const hx hb dL_law_269 ?_
                                refine r_goto hx hb 274 dL_law_270 (by decide) ?_
                                refine lv_iload hx hb dL_law_274 (lv_at hl 0 rfl) ?_
                                refine r_if_ne hx hb 283 dL_law_276 (by decide) (by omega) (fun _ => ?_) (fun c_276 => absurd c_276 (by decide))
                                refine r_const hx hb dL_law_283 ?_
                                refine r_icmp_ne hx hb 302 dL_law_284 (by decide) (by omega) (by omega) (fun c_284 => ?_) (fun c_284 => ?_)
                                · skip
                                  exact (by omega : False).elim
                                · exact absurd c_284 (by decide)
                            · skip
                              refine r_const hx hb dL_law_257 ?_
                              refine r_goto hx hb 262 dL_law_258 (by decide) ?_
                              refine lv_istore (lv' := [(11, .int (iv 0)), (10, .int (iv vc)), (0, .ref b), (1, .ref (a 0)), (2, .ref z), (3, .int (iv (t : Int))), (5, .int (iv (kn cs : Int))), (6, .ref w), (7, .ref y), (8, .int (iv (k : Int))), (9, .int (iv (q : Int)))]) hx hb dL_law_262 hl (by decide) rfl (fun ls hl => ?_)
                              refine lv_iload hx hb dL_law_264 (lv_at hl 1 rfl) ?_
                              refine r_if_ge hx hb 273 dL_law_266 (by decide) (by omega) (fun c_266 => ?_) (fun c_266 => ?_)
                              · skip
                                refine r_const hx hb dL_law_273 ?_
                                refine lv_iload hx hb dL_law_274 (lv_at hl 0 rfl) ?_
                                refine r_if_ne hx hb 283 dL_law_276 (by decide) (by omega) (fun c_276 => absurd c_276 (by decide)) (fun _ => ?_)
                                refine r_const hx hb dL_law_279 ?_
                                refine r_goto hx hb 284 dL_law_280 (by decide) ?_
                                refine r_icmp_ne hx hb 302 dL_law_284 (by decide) (by omega) (by omega) (fun c_284 => ?_) (fun c_284 => ?_)
                                · skip
                                  exact (by omega : False).elim
                                · exact absurd c_284 (by decide)
                              · skip
                                refine r_const hx hb dL_law_269 ?_
                                refine r_goto hx hb 274 dL_law_270 (by decide) ?_
                                refine lv_iload hx hb dL_law_274 (lv_at hl 0 rfl) ?_
                                refine r_if_ne hx hb 283 dL_law_276 (by decide) (by omega) (fun c_276 => absurd c_276 (by decide)) (fun _ => ?_)
                                refine r_const hx hb dL_law_279 ?_
                                refine r_goto hx hb 284 dL_law_280 (by decide) ?_
                                refine lv_icmp_ne (tgt := 302) hx hb dL_law_284 (by decide) (fun h9 => absurd rfl h9) (fun _ => ?_)
                                refine lv_iload hx hb dL_law_287 (lv_at hl 0 rfl) ?_
                                refine lv_bipush (v := iv 50) hx hb dL_law_289 (by decide) ?_
                                refine r_icmp_gt hx hb 302 dL_law_291 (by decide) (by omega) (by omega) (fun c_291 => ?_) (fun c_291 => ?_)
                                · exact absurd c_291 (by decide)
                                · skip
                                  refine lv_iload hx hb dL_law_294 (lv_at hl 1 rfl) ?_
                                  refine lv_sipush (v := iv 600) hx hb dL_law_296 (by decide) ?_
                                  refine r_icmp_le hx hb 304 dL_law_299 (by decide) (by omega) (by omega) (fun c_299 => ?_) (fun c_299 => ?_)
                                  · skip
                                    refine r_iinc (k := 10) (lv' := [(9, .int (iv ((q : Int) + 1))), (11, .int (iv 0)), (10, .int (iv vc)), (0, .ref b), (1, .ref (a 0)), (2, .ref z), (3, .int (iv (t : Int))), (5, .int (iv (kn cs : Int))), (6, .ref w), (7, .ref y), (8, .int (iv (k : Int)))]) hx hb dL_law_304 hl rfl (by decide) rfl (fun ls hl => ?_)
                                    refine r_goto hx hb 214 dL_law_307 (by decide) ?_
                                    have hq : List.Perm (α := Nat × va_E) ([(w, .inl (G 4, kn cs, .inr (.inr (.inr (.inr (aF wa (kn cs))))))), (y, .inl (G 6, kn cs, .inr (.inr (.inr (.inr (aF ja (kn cs)))))))] ++ ((wRw G 8 wa (updP F k pr) (kn cs)) ++ ((wKs G ja jz (updQ J k Jk) (kn cs)) ++ ((wSim G bb sd sp jj cs) ++ (wC G a ar az ad_1 ap_1 ts_1 cs))))) ([(w, .inl (G 4, kn cs, .inr (.inr (.inr (.inr (aF wa (kn cs))))))), (y, .inl (G 6, kn cs, .inr (.inr (.inr (.inr (aF ja (kn cs)))))))] ++ ((wRw G 8 wa (updP F k pr) (kn cs)) ++ ((wKs G ja jz (updQ J k Jk) (kn cs)) ++ ((wC G a ar az ad_1 ap_1 ts_1 cs) ++ (wSim G bb sd sp jj cs))))) := wperm (fun q9 => by
                                      simp only [cn_app, cn_nil, cn_two] at ⊢ <;> omega)
                                    replace hP := wP_perm hP hq
                                    replace hD := wD_perm hD hq
                                    have hP : va_P D vwCl ([(w, .inl (G 4, kn cs, .inr (.inr (.inr (.inr (aF wa (kn cs))))))), (y, .inl (G 6, kn cs, .inr (.inr (.inr (.inr (aF ja (kn cs)))))))] ++ ((wRw G 8 wa (updP F k pr) (kn cs)) ++ ((wKs G ja jz (updQ J k Jk) (kn cs)) ++ ((wC G a ar az ad_1 ap_1 ts_1 cs) ++ (wSim G bb sd sp jj cs))))) _ := hP
                                    have hD : va_D A ([(w, .inl (G 4, kn cs, .inr (.inr (.inr (.inr (aF wa (kn cs))))))), (y, .inl (G 6, kn cs, .inr (.inr (.inr (.inr (aF ja (kn cs)))))))] ++ ((wRw G 8 wa (updP F k pr) (kn cs)) ++ ((wKs G ja jz (updQ J k Jk) (kn cs)) ++ ((wC G a ar az ad_1 ap_1 ts_1 cs) ++ (wSim G bb sd sp jj cs))))) := hD
                                    refine W.widen (k := cells + 32 * k + 4 * (q + 1)) (n := slots + 192 * k + 24 * (q + 1)) (by omega) (by omega) ?_
                                    exact ih214 (q + 1) ad_1 ap_1 ts_1 (by omega) (by omega) _ _ hP hD hS _ (lv_sub hl [3, 4, 5, 6, 7, 8, 9, 10, 0] rfl)
                                  · skip
                                    exact (by omega : False).elim
                          · skip
                            refine lv_aload_n hx hb dL_law_241 rfl (lv_at hl 2 rfl) ?_
                            refine lv_iload hx hb dL_law_242 (lv_at hl 8 rfl) ?_
                            refine lv_iload hx hb dL_law_244 (lv_at hl 9 rfl) ?_
                            have hq : List.Perm (α := Nat × va_E) ([(w, .inl (G 4, kn cs, .inr (.inr (.inr (.inr (aF wa (kn cs))))))), (y, .inl (G 6, kn cs, .inr (.inr (.inr (.inr (aF ja (kn cs)))))))] ++ ((wRw G 8 wa (updP F k pr) (kn cs)) ++ ((wKs G ja jz (updQ J k Jk) (kn cs)) ++ ((wSim G bb sd sp jj cs) ++ (wC G a ar az ad_1 ap_1 ts_1 cs))))) ((wC G a ar az ad_1 ap_1 ts_1 cs) ++ ([(w, .inl (G 4, kn cs, .inr (.inr (.inr (.inr (aF wa (kn cs))))))), (y, .inl (G 6, kn cs, .inr (.inr (.inr (.inr (aF ja (kn cs)))))))] ++ ((wRw G 8 wa (updP F k pr) (kn cs)) ++ ((wKs G ja jz (updQ J k Jk) (kn cs)) ++ (wSim G bb sd sp jj cs))))) := wperm (fun q9 => by
                              simp only [cn_app, cn_nil, cn_two] at ⊢ <;> omega)
                            replace hP := wP_perm hP hq
                            replace hD := wD_perm hD hq
                            have hP : va_P D vwCl ((wC G a ar az ad_1 ap_1 ts_1 cs) ++ ([(w, .inl (G 4, kn cs, .inr (.inr (.inr (.inr (aF wa (kn cs))))))), (y, .inl (G 6, kn cs, .inr (.inr (.inr (.inr (aF ja (kn cs)))))))] ++ ((wRw G 8 wa (updP F k pr) (kn cs)) ++ ((wKs G ja jz (updQ J k Jk) (kn cs)) ++ (wSim G bb sd sp jj cs))))) _ := hP
                            have hD : va_D A ((wC G a ar az ad_1 ap_1 ts_1 cs) ++ ([(w, .inl (G 4, kn cs, .inr (.inr (.inr (.inr (aF wa (kn cs))))))), (y, .inl (G 6, kn cs, .inr (.inr (.inr (.inr (aF ja (kn cs)))))))] ++ ((wRw G 8 wa (updP F k pr) (kn cs)) ++ ((wKs G ja jz (updQ J k Jk) (kn cs)) ++ (wSim G bb sd sp jj cs))))) := hD
                            have hp : List.Perm (α := Nat × va_E) ((wC G a ar az ad_1 ap_1 ts_1 cs) ++ ([(w, .inl (G 4, kn cs, .inr (.inr (.inr (.inr (aF wa (kn cs))))))), (y, .inl (G 6, kn cs, .inr (.inr (.inr (.inr (aF ja (kn cs)))))))] ++ ((wRw G 8 wa (updP F k pr) (kn cs)) ++ ((wKs G ja jz (updQ J k Jk) (kn cs)) ++ (wSim G bb sd sp jj cs))))) ((wC G a ar az ad_1 ap_1 ts_1 cs) ++ ([(w, .inl (G 4, kn cs, .inr (.inr (.inr (.inr (aF wa (kn cs))))))), (y, .inl (G 6, kn cs, .inr (.inr (.inr (.inr (aF ja (kn cs)))))))] ++ ((wRw G 8 wa (updP F k pr) (kn cs)) ++ ((wKs G ja jz (updQ J k Jk) (kn cs)) ++ (wSim G bb sd sp jj cs))))) := List.Perm.refl _
                            refine k_int (g_VT (As := [.int (iv (k : Int)), .int (iv (q : Int))]) (rest := []) (q0 := 0) (ci := 2) ⟨hx, hb, hml, hown, hts⟩ ((c_X2_often l D G hl0 a ar az ad_1 ap_1 ts_1 cs hok (k : Int) (q : Int) (by omega) (by omega)).noX (fun E => PX_no (by rw [hvo]) (by decide))) (cwV 2 hts gL_law_X2_often rfl rfl rfl (by decide +kernel) ⟨Nat.le_of_ble_eq_true rfl, Nat.le_of_ble_eq_true rfl⟩) hK hT hA hP hD hS hp rfl rfl rfl rfl hl.1 rfl (Nat.le_of_ble_eq_true rfl) dL_law_246 ⟨by show _ ≤ (741649 : Nat); omega, by show _ ≤ (6876824 : Nat); omega⟩) hP hD hS hA hp (fun v u H locs hw hP hD hS => ?_)
                            obtain ⟨-, rfl, ad_2, ap_2, ts_2, rfl⟩ := hw
                            have hP : va_P D vwCl ((wC G a ar az ad_2 ap_2 ts_2 (opOften cs (k : Int) (q : Int)).2.2) ++ ([(w, .inl (G 4, kn cs, .inr (.inr (.inr (.inr (aF wa (kn cs))))))), (y, .inl (G 6, kn cs, .inr (.inr (.inr (.inr (aF ja (kn cs)))))))] ++ ((wRw G 8 wa (updP F k pr) (kn cs)) ++ ((wKs G ja jz (updQ J k Jk) (kn cs)) ++ (wSim G bb sd sp jj cs))))) _ := hP
                            have hD : va_D A ((wC G a ar az ad_2 ap_2 ts_2 (opOften cs (k : Int) (q : Int)).2.2) ++ ([(w, .inl (G 4, kn cs, .inr (.inr (.inr (.inr (aF wa (kn cs))))))), (y, .inl (G 6, kn cs, .inr (.inr (.inr (.inr (aF ja (kn cs)))))))] ++ ((wRw G 8 wa (updP F k pr) (kn cs)) ++ ((wKs G ja jz (updQ J k Jk) (kn cs)) ++ (wSim G bb sd sp jj cs))))) := hD
                            rw [hvo] at hP hD
                            have hP : va_P D vwCl ((wC G a ar az ad_2 ap_2 ts_2 cs) ++ ([(w, .inl (G 4, kn cs, .inr (.inr (.inr (.inr (aF wa (kn cs))))))), (y, .inl (G 6, kn cs, .inr (.inr (.inr (.inr (aF ja (kn cs)))))))] ++ ((wRw G 8 wa (updP F k pr) (kn cs)) ++ ((wKs G ja jz (updQ J k Jk) (kn cs)) ++ (wSim G bb sd sp jj cs))))) _ := hP
                            have hD : va_D A ((wC G a ar az ad_2 ap_2 ts_2 cs) ++ ([(w, .inl (G 4, kn cs, .inr (.inr (.inr (.inr (aF wa (kn cs))))))), (y, .inl (G 6, kn cs, .inr (.inr (.inr (.inr (aF ja (kn cs)))))))] ++ ((wRw G 8 wa (updP F k pr) (kn cs)) ++ ((wKs G ja jz (updQ J k Jk) (kn cs)) ++ (wSim G bb sd sp jj cs))))) := hD
                            have hq : List.Perm (α := Nat × va_E) ((wC G a ar az ad_2 ap_2 ts_2 cs) ++ ([(w, .inl (G 4, kn cs, .inr (.inr (.inr (.inr (aF wa (kn cs))))))), (y, .inl (G 6, kn cs, .inr (.inr (.inr (.inr (aF ja (kn cs)))))))] ++ ((wRw G 8 wa (updP F k pr) (kn cs)) ++ ((wKs G ja jz (updQ J k Jk) (kn cs)) ++ (wSim G bb sd sp jj cs))))) ([(w, .inl (G 4, kn cs, .inr (.inr (.inr (.inr (aF wa (kn cs))))))), (y, .inl (G 6, kn cs, .inr (.inr (.inr (.inr (aF ja (kn cs)))))))] ++ ((wRw G 8 wa (updP F k pr) (kn cs)) ++ ((wKs G ja jz (updQ J k Jk) (kn cs)) ++ ((wSim G bb sd sp jj cs) ++ (wC G a ar az ad_2 ap_2 ts_2 cs))))) := wperm (fun q9 => by
                              simp only [cn_app, cn_nil, cn_two] at ⊢ <;> omega)
                            replace hP := wP_perm hP hq
                            replace hD := wD_perm hD hq
                            have hP : va_P D vwCl ([(w, .inl (G 4, kn cs, .inr (.inr (.inr (.inr (aF wa (kn cs))))))), (y, .inl (G 6, kn cs, .inr (.inr (.inr (.inr (aF ja (kn cs)))))))] ++ ((wRw G 8 wa (updP F k pr) (kn cs)) ++ ((wKs G ja jz (updQ J k Jk) (kn cs)) ++ ((wSim G bb sd sp jj cs) ++ (wC G a ar az ad_2 ap_2 ts_2 cs))))) _ := hP
                            have hD : va_D A ([(w, .inl (G 4, kn cs, .inr (.inr (.inr (.inr (aF wa (kn cs))))))), (y, .inl (G 6, kn cs, .inr (.inr (.inr (.inr (aF ja (kn cs)))))))] ++ ((wRw G 8 wa (updP F k pr) (kn cs)) ++ ((wKs G ja jz (updQ J k Jk) (kn cs)) ++ ((wSim G bb sd sp jj cs) ++ (wC G a ar az ad_2 ap_2 ts_2 cs))))) := hD
                            rw [show (opOften cs (k : Int) (q : Int)).2.1 = vo from by rw [hvo]]
                            refine r_goto hx hb 262 dL_law_249 (by decide) ?_
                            refine lv_istore (lv' := [(11, .int (iv vo)), (10, .int (iv vc)), (0, .ref b), (1, .ref (a 0)), (2, .ref z), (3, .int (iv (t : Int))), (5, .int (iv (kn cs : Int))), (6, .ref w), (7, .ref y), (8, .int (iv (k : Int))), (9, .int (iv (q : Int)))]) hx hb dL_law_262 hl (by decide) rfl (fun ls hl => ?_)
                            refine lv_iload hx hb dL_law_264 (lv_at hl 1 rfl) ?_
                            refine r_if_ge hx hb 273 dL_law_266 (by decide) (by omega) (fun c_266 => ?_) (fun c_266 => ?_)
                            · skip
                              refine r_const hx hb dL_law_273 ?_
                              refine lv_iload hx hb dL_law_274 (lv_at hl 0 rfl) ?_
                              refine r_if_ne hx hb 283 dL_law_276 (by decide) (by omega) (fun c_276 => ?_) (fun c_276 => ?_)
                              · skip
                                refine r_const hx hb dL_law_283 ?_
                                refine lv_icmp_ne (tgt := 302) hx hb dL_law_284 (by decide) (fun h9 => absurd rfl h9) (fun _ => ?_)
                                refine lv_iload hx hb dL_law_287 (lv_at hl 0 rfl) ?_
                                refine lv_bipush (v := iv 50) hx hb dL_law_289 (by decide) ?_
                                refine r_icmp_gt hx hb 302 dL_law_291 (by decide) (by omega) (by omega) (fun c_291 => ?_) (fun c_291 => ?_)
                                · skip
                                  exact (by omega : False).elim
                                · skip
                                  refine lv_iload hx hb dL_law_294 (lv_at hl 1 rfl) ?_
                                  refine lv_sipush (v := iv 600) hx hb dL_law_296 (by decide) ?_
                                  refine r_icmp_le hx hb 304 dL_law_299 (by decide) (by omega) (by omega) (fun c_299 => ?_) (fun c_299 => ?_)
                                  · skip
                                    refine r_iinc (k := 10) (lv' := [(9, .int (iv ((q : Int) + 1))), (11, .int (iv vo)), (10, .int (iv vc)), (0, .ref b), (1, .ref (a 0)), (2, .ref z), (3, .int (iv (t : Int))), (5, .int (iv (kn cs : Int))), (6, .ref w), (7, .ref y), (8, .int (iv (k : Int)))]) hx hb dL_law_304 hl rfl (by decide) rfl (fun ls hl => ?_)
                                    refine r_goto hx hb 214 dL_law_307 (by decide) ?_
                                    have hq : List.Perm (α := Nat × va_E) ([(w, .inl (G 4, kn cs, .inr (.inr (.inr (.inr (aF wa (kn cs))))))), (y, .inl (G 6, kn cs, .inr (.inr (.inr (.inr (aF ja (kn cs)))))))] ++ ((wRw G 8 wa (updP F k pr) (kn cs)) ++ ((wKs G ja jz (updQ J k Jk) (kn cs)) ++ ((wSim G bb sd sp jj cs) ++ (wC G a ar az ad_2 ap_2 ts_2 cs))))) ([(w, .inl (G 4, kn cs, .inr (.inr (.inr (.inr (aF wa (kn cs))))))), (y, .inl (G 6, kn cs, .inr (.inr (.inr (.inr (aF ja (kn cs)))))))] ++ ((wRw G 8 wa (updP F k pr) (kn cs)) ++ ((wKs G ja jz (updQ J k Jk) (kn cs)) ++ ((wC G a ar az ad_2 ap_2 ts_2 cs) ++ (wSim G bb sd sp jj cs))))) := wperm (fun q9 => by
                                      simp only [cn_app, cn_nil, cn_two] at ⊢ <;> omega)
                                    replace hP := wP_perm hP hq
                                    replace hD := wD_perm hD hq
                                    have hP : va_P D vwCl ([(w, .inl (G 4, kn cs, .inr (.inr (.inr (.inr (aF wa (kn cs))))))), (y, .inl (G 6, kn cs, .inr (.inr (.inr (.inr (aF ja (kn cs)))))))] ++ ((wRw G 8 wa (updP F k pr) (kn cs)) ++ ((wKs G ja jz (updQ J k Jk) (kn cs)) ++ ((wC G a ar az ad_2 ap_2 ts_2 cs) ++ (wSim G bb sd sp jj cs))))) _ := hP
                                    have hD : va_D A ([(w, .inl (G 4, kn cs, .inr (.inr (.inr (.inr (aF wa (kn cs))))))), (y, .inl (G 6, kn cs, .inr (.inr (.inr (.inr (aF ja (kn cs)))))))] ++ ((wRw G 8 wa (updP F k pr) (kn cs)) ++ ((wKs G ja jz (updQ J k Jk) (kn cs)) ++ ((wC G a ar az ad_2 ap_2 ts_2 cs) ++ (wSim G bb sd sp jj cs))))) := hD
                                    refine W.widen (k := cells + 32 * k + 4 * (q + 1)) (n := slots + 192 * k + 24 * (q + 1)) (by omega) (by omega) ?_
                                    exact ih214 (q + 1) ad_2 ap_2 ts_2 (by omega) (by omega) _ _ hP hD hS _ (lv_sub hl [3, 4, 5, 6, 7, 8, 9, 10, 0] rfl)
                                  · skip
                                    exact (by omega : False).elim
                              · skip
                                refine r_const hx hb dL_law_279 ?_
                                refine r_goto hx hb 284 dL_law_280 (by decide) ?_
                                refine r_icmp_ne hx hb 302 dL_law_284 (by decide) (by omega) (by omega) (fun c_284 => ?_) (fun c_284 => ?_)
                                · skip
                                  exact (by omega : False).elim
                                · exact absurd c_284 (by decide)
                            · skip
                              refine r_const hx hb dL_law_269 ?_
                              refine r_goto hx hb 274 dL_law_270 (by decide) ?_
                              refine lv_iload hx hb dL_law_274 (lv_at hl 0 rfl) ?_
                              refine r_if_ne hx hb 283 dL_law_276 (by decide) (by omega) (fun c_276 => ?_) (fun c_276 => ?_)
                              · skip
                                refine r_const hx hb dL_law_283 ?_
                                refine r_icmp_ne hx hb 302 dL_law_284 (by decide) (by omega) (by omega) (fun c_284 => ?_) (fun c_284 => ?_)
                                · skip
                                  exact (by omega : False).elim
                                · exact absurd c_284 (by decide)
                              · skip
                                refine r_const hx hb dL_law_279 ?_
                                refine r_goto hx hb 284 dL_law_280 (by decide) ?_
                                refine lv_icmp_ne (tgt := 302) hx hb dL_law_284 (by decide) (fun h9 => absurd rfl h9) (fun _ => ?_)
                                refine lv_iload hx hb dL_law_287 (lv_at hl 0 rfl) ?_
                                refine lv_bipush (v := iv 50) hx hb dL_law_289 (by decide) ?_
                                refine r_icmp_gt hx hb 302 dL_law_291 (by decide) (by omega) (by omega) (fun c_291 => ?_) (fun c_291 => ?_)
                                · skip
                                  exact (by omega : False).elim
                                · skip
                                  refine lv_iload hx hb dL_law_294 (lv_at hl 1 rfl) ?_
                                  refine lv_sipush (v := iv 600) hx hb dL_law_296 (by decide) ?_
                                  refine r_icmp_le hx hb 304 dL_law_299 (by decide) (by omega) (by omega) (fun c_299 => ?_) (fun c_299 => ?_)
                                  · skip
                                    refine r_iinc (k := 10) (lv' := [(9, .int (iv ((q : Int) + 1))), (11, .int (iv vo)), (10, .int (iv vc)), (0, .ref b), (1, .ref (a 0)), (2, .ref z), (3, .int (iv (t : Int))), (5, .int (iv (kn cs : Int))), (6, .ref w), (7, .ref y), (8, .int (iv (k : Int)))]) hx hb dL_law_304 hl rfl (by decide) rfl (fun ls hl => ?_)
                                    refine r_goto hx hb 214 dL_law_307 (by decide) ?_
                                    have hq : List.Perm (α := Nat × va_E) ([(w, .inl (G 4, kn cs, .inr (.inr (.inr (.inr (aF wa (kn cs))))))), (y, .inl (G 6, kn cs, .inr (.inr (.inr (.inr (aF ja (kn cs)))))))] ++ ((wRw G 8 wa (updP F k pr) (kn cs)) ++ ((wKs G ja jz (updQ J k Jk) (kn cs)) ++ ((wSim G bb sd sp jj cs) ++ (wC G a ar az ad_2 ap_2 ts_2 cs))))) ([(w, .inl (G 4, kn cs, .inr (.inr (.inr (.inr (aF wa (kn cs))))))), (y, .inl (G 6, kn cs, .inr (.inr (.inr (.inr (aF ja (kn cs)))))))] ++ ((wRw G 8 wa (updP F k pr) (kn cs)) ++ ((wKs G ja jz (updQ J k Jk) (kn cs)) ++ ((wC G a ar az ad_2 ap_2 ts_2 cs) ++ (wSim G bb sd sp jj cs))))) := wperm (fun q9 => by
                                      simp only [cn_app, cn_nil, cn_two] at ⊢ <;> omega)
                                    replace hP := wP_perm hP hq
                                    replace hD := wD_perm hD hq
                                    have hP : va_P D vwCl ([(w, .inl (G 4, kn cs, .inr (.inr (.inr (.inr (aF wa (kn cs))))))), (y, .inl (G 6, kn cs, .inr (.inr (.inr (.inr (aF ja (kn cs)))))))] ++ ((wRw G 8 wa (updP F k pr) (kn cs)) ++ ((wKs G ja jz (updQ J k Jk) (kn cs)) ++ ((wC G a ar az ad_2 ap_2 ts_2 cs) ++ (wSim G bb sd sp jj cs))))) _ := hP
                                    have hD : va_D A ([(w, .inl (G 4, kn cs, .inr (.inr (.inr (.inr (aF wa (kn cs))))))), (y, .inl (G 6, kn cs, .inr (.inr (.inr (.inr (aF ja (kn cs)))))))] ++ ((wRw G 8 wa (updP F k pr) (kn cs)) ++ ((wKs G ja jz (updQ J k Jk) (kn cs)) ++ ((wC G a ar az ad_2 ap_2 ts_2 cs) ++ (wSim G bb sd sp jj cs))))) := hD
                                    refine W.widen (k := cells + 32 * k + 4 * (q + 1)) (n := slots + 192 * k + 24 * (q + 1)) (by omega) (by omega) ?_
                                    exact ih214 (q + 1) ad_2 ap_2 ts_2 (by omega) (by omega) _ _ hP hD hS _ (lv_sub hl [3, 4, 5, 6, 7, 8, 9, 10, 0] rfl)
                                  · skip
                                    exact (by omega : False).elim
                    have hq : List.Perm (α := Nat × va_E) ([(w, .inl (G 4, kn cs, .inr (.inr (.inr (.inr (aF wa (kn cs))))))), (y, .inl (G 6, kn cs, .inr (.inr (.inr (.inr (aF ja (kn cs))))))), (ja k 0, .inl (G 4, 6, .inr (.inr (.inr (.inr (zF (jz k)))))))] ++ ((wRw G 8 wa (updP F k pr) (kn cs)) ++ ((wKso G ja jz J (kn cs) k) ++ ((wKr G (jz k) Jk) ++ ((wC G a ar az ad ap ts cs) ++ (wSim G bb sd sp jj cs)))))) ([(w, .inl (G 4, kn cs, .inr (.inr (.inr (.inr (aF wa (kn cs))))))), (y, .inl (G 6, kn cs, .inr (.inr (.inr (.inr (aF ja (kn cs)))))))] ++ ((wRw G 8 wa (updP F k pr) (kn cs)) ++ ((wKs G ja jz (updQ J k Jk) (kn cs)) ++ ((wC G a ar az ad ap ts cs) ++ (wSim G bb sd sp jj cs))))) := wperm (fun q9 => by
                      have e_0 : cn q9 (wKs G ja jz (updQ J k Jk) (kn cs)) = cn q9 (([(ja k 0, .inl (G 4, 6, .inr (.inr (.inr (.inr (zF (jz k)))))))] ++ wKr G (jz k) Jk) ++ wKso G ja jz J (kn cs) k) := cn_perm (wKs_put (G := G) (ja := ja) (jz := jz) (J := J) (n := kn cs) (d := k) (by omega) Jk) q9
                      simp only [cn_app, cn_nil, cn_two] at e_0 ⊢ <;> omega)
                    replace hP := wP_perm hP hq
                    replace hD := wD_perm hD hq
                    have hP : va_P D vwCl ([(w, .inl (G 4, kn cs, .inr (.inr (.inr (.inr (aF wa (kn cs))))))), (y, .inl (G 6, kn cs, .inr (.inr (.inr (.inr (aF ja (kn cs)))))))] ++ ((wRw G 8 wa (updP F k pr) (kn cs)) ++ ((wKs G ja jz (updQ J k Jk) (kn cs)) ++ ((wC G a ar az ad ap ts cs) ++ (wSim G bb sd sp jj cs))))) _ := hP
                    have hD : va_D A ([(w, .inl (G 4, kn cs, .inr (.inr (.inr (.inr (aF wa (kn cs))))))), (y, .inl (G 6, kn cs, .inr (.inr (.inr (.inr (aF ja (kn cs)))))))] ++ ((wRw G 8 wa (updP F k pr) (kn cs)) ++ ((wKs G ja jz (updQ J k Jk) (kn cs)) ++ ((wC G a ar az ad ap ts cs) ++ (wSim G bb sd sp jj cs))))) := hD
                    refine W.widen (k := cells + 32 * k + 4 * 0) (n := slots + 192 * k + 24 * 0) (by omega) (by omega) ?_
                    exact K214 (kp cs + 1) 0 ad ap ts (by omega) (by omega) _ _ hP hD hS _ (lv_sub hl [1, 2, 3, 4, 5, 6, 7, 8, 0] rfl)
                  · skip
                    refine r_const hx hb dL_law_169 ?_
                    refine lv_istore (lv' := [(10, .int (iv 0)), (0, .ref b), (1, .ref (a 0)), (2, .ref z), (3, .int (iv (t : Int))), (5, .int (iv (kn cs : Int))), (6, .ref w), (7, .ref y), (8, .int (iv (k : Int))), (9, .int (iv (j : Int)))]) hx hb dL_law_170 hl (by decide) rfl (fun ls hl => ?_)
                    have K172 : ∀ (fu vv : Nat) (pw : Nat → Int), vv ≤ 3 → 3 < vv + fu → (∀ w9, w9 < vv → pw w9 = limv (kS cs k) w9 j) → ∀ (H : Heap) (locs : List Loc), va_P D vwCl ([(w, .inl (G 4, kn cs, .inr (.inr (.inr (.inr (aF wa (kn cs))))))), (y, .inl (G 6, kn cs, .inr (.inr (.inr (.inr (aF ja (kn cs))))))), (ja k 0, .inl (G 4, 6, .inr (.inr (.inr (.inr (zF (jz k))))))), (jz k j, .inl (G 0, 3, .inl (fun y9 => iv (pw y9))))] ++ ((wRw G 8 wa (updP F k pr) (kn cs)) ++ ((wKso G ja jz J (kn cs) k) ++ ((wKro G (jz k) Jk j) ++ ((wC G a ar az ad ap ts cs) ++ (wSim G bb sd sp jj cs)))))) H → va_D A ([(w, .inl (G 4, kn cs, .inr (.inr (.inr (.inr (aF wa (kn cs))))))), (y, .inl (G 6, kn cs, .inr (.inr (.inr (.inr (aF ja (kn cs))))))), (ja k 0, .inl (G 4, 6, .inr (.inr (.inr (.inr (zF (jz k))))))), (jz k j, .inl (G 0, 3, .inl (fun y9 => iv (pw y9))))] ++ ((wRw G 8 wa (updP F k pr) (kn cs)) ++ ((wKso G ja jz J (kn cs) k) ++ ((wKro G (jz k) Jk j) ++ ((wC G a ar az ad ap ts cs) ++ (wSim G bb sd sp jj cs)))))) → va_S A s.heap H locs → ∀ (ls : Array Slot), lv_has ls 21 [(0, .ref b), (1, .ref (a 0)), (2, .ref z), (3, .int (iv (t : Int))), (5, .int (iv (kn cs : Int))), (6, .ref w), (7, .ref y), (8, .int (iv (k : Int))), (9, .int (iv (j : Int))), (10, .int (iv (vv : Int)))] → W p l e room_1 s m #[Value.ref b] below meth c H locs (cells + 32 * k) (slots + 192 * k) Q (F0 m 172 ls []) := by
                      intro fu
                      induction fu with
                      | zero => intro vv pw h1 h2; exact absurd h2 (by omega)
                      | succ fu ih172 =>
                        intro vv pw hi_172 hn_172 hpw H locs hP hD hS ls hl
                        refine lv_iload hx hb dL_law_172 (lv_at hl 9 rfl) ?_
                        refine r_const hx hb dL_law_174 ?_
                        refine r_icmp_ge hx hb 205 dL_law_175 (by decide) (by omega) (by omega) (fun c_175 => ?_) (fun c_175 => ?_)
                        · skip
                          refine r_iinc (k := 8) (lv' := [(9, .int (iv ((j : Int) + 1))), (0, .ref b), (1, .ref (a 0)), (2, .ref z), (3, .int (iv (t : Int))), (5, .int (iv (kn cs : Int))), (6, .ref w), (7, .ref y), (8, .int (iv (k : Int))), (10, .int (iv (vv : Int)))]) hx hb dL_law_205 hl rfl (by decide) rfl (fun ls hl => ?_)
                          refine r_goto hx hb 162 dL_law_208 (by decide) ?_
                          have hq : List.Perm (α := Nat × va_E) ([(w, .inl (G 4, kn cs, .inr (.inr (.inr (.inr (aF wa (kn cs))))))), (y, .inl (G 6, kn cs, .inr (.inr (.inr (.inr (aF ja (kn cs))))))), (ja k 0, .inl (G 4, 6, .inr (.inr (.inr (.inr (zF (jz k))))))), (jz k j, .inl (G 0, 3, .inl (fun y9 => iv (pw y9))))] ++ ((wRw G 8 wa (updP F k pr) (kn cs)) ++ ((wKso G ja jz J (kn cs) k) ++ ((wKro G (jz k) Jk j) ++ ((wC G a ar az ad ap ts cs) ++ (wSim G bb sd sp jj cs)))))) ([(w, .inl (G 4, kn cs, .inr (.inr (.inr (.inr (aF wa (kn cs))))))), (y, .inl (G 6, kn cs, .inr (.inr (.inr (.inr (aF ja (kn cs))))))), (ja k 0, .inl (G 4, 6, .inr (.inr (.inr (.inr (zF (jz k)))))))] ++ ((wRw G 8 wa (updP F k pr) (kn cs)) ++ ((wKso G ja jz J (kn cs) k) ++ ((wKr G (jz k) (updP Jk j pw)) ++ ((wC G a ar az ad ap ts cs) ++ (wSim G bb sd sp jj cs)))))) := wperm (fun q9 => by
                            have e_0 : cn q9 (wKr G (jz k) (updP Jk j pw)) = cn q9 ([(jz k j, .inl (G 0, 3, .inl (fun y9 => iv (pw y9))))] ++ wKro G (jz k) Jk j) := cn_perm (wKr_put (G := G) (z := jz k) (J := Jk) (d := j) (by omega) pw) q9
                            simp only [cn_app, cn_nil, cn_two] at e_0 ⊢ <;> omega)
                          replace hP := wP_perm hP hq
                          replace hD := wD_perm hD hq
                          have hP : va_P D vwCl ([(w, .inl (G 4, kn cs, .inr (.inr (.inr (.inr (aF wa (kn cs))))))), (y, .inl (G 6, kn cs, .inr (.inr (.inr (.inr (aF ja (kn cs))))))), (ja k 0, .inl (G 4, 6, .inr (.inr (.inr (.inr (zF (jz k)))))))] ++ ((wRw G 8 wa (updP F k pr) (kn cs)) ++ ((wKso G ja jz J (kn cs) k) ++ ((wKr G (jz k) (updP Jk j pw)) ++ ((wC G a ar az ad ap ts cs) ++ (wSim G bb sd sp jj cs)))))) _ := hP
                          have hD : va_D A ([(w, .inl (G 4, kn cs, .inr (.inr (.inr (.inr (aF wa (kn cs))))))), (y, .inl (G 6, kn cs, .inr (.inr (.inr (.inr (aF ja (kn cs))))))), (ja k 0, .inl (G 4, 6, .inr (.inr (.inr (.inr (zF (jz k)))))))] ++ ((wRw G 8 wa (updP F k pr) (kn cs)) ++ ((wKso G ja jz J (kn cs) k) ++ ((wKr G (jz k) (updP Jk j pw)) ++ ((wC G a ar az ad ap ts cs) ++ (wSim G bb sd sp jj cs)))))) := hD
                          refine W.widen (k := cells + 32 * k) (n := slots + 192 * k) (by omega) (by omega) ?_
                          exact ih162 (j + 1) (updP Jk j pw) (by omega) (by omega) (fun j9 h9 w9 hw9 => by by_cases q : j9 = j; (rw [q, updP_s]; exact hpw w9 (by omega)); (rw [updP_n _ _ q]; exact hjk j9 (by omega) w9 hw9)) _ _ hP hD hS _ (lv_sub hl [1, 2, 3, 4, 5, 6, 7, 8, 0] rfl)
                        · skip
                          refine lv_aload hx hb dL_law_178 (lv_at hl 6 rfl) ?_
                          refine lv_iload hx hb dL_law_180 (lv_at hl 7 rfl) ?_
                          refine r_aaldA (f := aF ja (kn cs)) hx hb hK hP 1 6 rfl rfl k (by omega) (by omega) (by omega) dL_law_182 ?_
                          rw [show va_rf (aF ja (kn cs) k) = Value.ref (ja k 0) from congrArg va_rf (aF_yes (by omega))]
                          refine lv_iload hx hb dL_law_183 (lv_at hl 8 rfl) ?_
                          refine r_aaldA (f := zF (jz k)) hx hb hK hP 2 4 rfl rfl j (by omega) (by omega) (by omega) dL_law_185 ?_
                          rw [show va_rf (zF (jz k) j) = Value.ref (jz k j) from zF_at (by omega)]
                          refine lv_iload hx hb dL_law_186 (lv_at hl 9 rfl) ?_
                          refine lv_aload_n hx hb dL_law_188 rfl (lv_at hl 1 rfl) ?_
                          refine lv_iload hx hb dL_law_189 (lv_at hl 7 rfl) ?_
                          refine lv_iload hx hb dL_law_191 (lv_at hl 8 rfl) ?_
                          refine lv_iload hx hb dL_law_193 (lv_at hl 9 rfl) ?_
                          have hq : List.Perm (α := Nat × va_E) ([(w, .inl (G 4, kn cs, .inr (.inr (.inr (.inr (aF wa (kn cs))))))), (y, .inl (G 6, kn cs, .inr (.inr (.inr (.inr (aF ja (kn cs))))))), (ja k 0, .inl (G 4, 6, .inr (.inr (.inr (.inr (zF (jz k))))))), (jz k j, .inl (G 0, 3, .inl (fun y9 => iv (pw y9))))] ++ ((wRw G 8 wa (updP F k pr) (kn cs)) ++ ((wKso G ja jz J (kn cs) k) ++ ((wKro G (jz k) Jk j) ++ ((wC G a ar az ad ap ts cs) ++ (wSim G bb sd sp jj cs)))))) ((wC G a ar az ad ap ts cs) ++ ([(w, .inl (G 4, kn cs, .inr (.inr (.inr (.inr (aF wa (kn cs))))))), (y, .inl (G 6, kn cs, .inr (.inr (.inr (.inr (aF ja (kn cs))))))), (ja k 0, .inl (G 4, 6, .inr (.inr (.inr (.inr (zF (jz k))))))), (jz k j, .inl (G 0, 3, .inl (fun y9 => iv (pw y9))))] ++ ((wRw G 8 wa (updP F k pr) (kn cs)) ++ ((wKso G ja jz J (kn cs) k) ++ ((wKro G (jz k) Jk j) ++ (wSim G bb sd sp jj cs)))))) := wperm (fun q9 => by
                            simp only [cn_app, cn_nil, cn_two] at ⊢ <;> omega)
                          replace hP := wP_perm hP hq
                          replace hD := wD_perm hD hq
                          have hP : va_P D vwCl ((wC G a ar az ad ap ts cs) ++ ([(w, .inl (G 4, kn cs, .inr (.inr (.inr (.inr (aF wa (kn cs))))))), (y, .inl (G 6, kn cs, .inr (.inr (.inr (.inr (aF ja (kn cs))))))), (ja k 0, .inl (G 4, 6, .inr (.inr (.inr (.inr (zF (jz k))))))), (jz k j, .inl (G 0, 3, .inl (fun y9 => iv (pw y9))))] ++ ((wRw G 8 wa (updP F k pr) (kn cs)) ++ ((wKso G ja jz J (kn cs) k) ++ ((wKro G (jz k) Jk j) ++ (wSim G bb sd sp jj cs)))))) _ := hP
                          have hD : va_D A ((wC G a ar az ad ap ts cs) ++ ([(w, .inl (G 4, kn cs, .inr (.inr (.inr (.inr (aF wa (kn cs))))))), (y, .inl (G 6, kn cs, .inr (.inr (.inr (.inr (aF ja (kn cs))))))), (ja k 0, .inl (G 4, 6, .inr (.inr (.inr (.inr (zF (jz k))))))), (jz k j, .inl (G 0, 3, .inl (fun y9 => iv (pw y9))))] ++ ((wRw G 8 wa (updP F k pr) (kn cs)) ++ ((wKso G ja jz J (kn cs) k) ++ ((wKro G (jz k) Jk j) ++ (wSim G bb sd sp jj cs)))))) := hD
                          have hp : List.Perm (α := Nat × va_E) ((wC G a ar az ad ap ts cs) ++ ([(w, .inl (G 4, kn cs, .inr (.inr (.inr (.inr (aF wa (kn cs))))))), (y, .inl (G 6, kn cs, .inr (.inr (.inr (.inr (aF ja (kn cs))))))), (ja k 0, .inl (G 4, 6, .inr (.inr (.inr (.inr (zF (jz k))))))), (jz k j, .inl (G 0, 3, .inl (fun y9 => iv (pw y9))))] ++ ((wRw G 8 wa (updP F k pr) (kn cs)) ++ ((wKso G ja jz J (kn cs) k) ++ ((wKro G (jz k) Jk j) ++ (wSim G bb sd sp jj cs)))))) ((wC G a ar az ad ap ts cs) ++ ([(w, .inl (G 4, kn cs, .inr (.inr (.inr (.inr (aF wa (kn cs))))))), (y, .inl (G 6, kn cs, .inr (.inr (.inr (.inr (aF ja (kn cs))))))), (ja k 0, .inl (G 4, 6, .inr (.inr (.inr (.inr (zF (jz k))))))), (jz k j, .inl (G 0, 3, .inl (fun y9 => iv (pw y9))))] ++ ((wRw G 8 wa (updP F k pr) (kn cs)) ++ ((wKso G ja jz J (kn cs) k) ++ ((wKro G (jz k) Jk j) ++ (wSim G bb sd sp jj cs)))))) := List.Perm.refl _
                          refine k_int (g_V (As := [.int (iv (k : Int)), .int (iv (j : Int)), .int (iv (vv : Int))]) (rest := [.int (iv (vv : Int)), .ref (jz k j)]) (q0 := 0) (ci := 2) ⟨hx, hb, hml, hown, hts⟩ (n_X2_joint l D G a ar az ad ap ts cs hok k j vv (by omega) (by omega) (by omega)) (cwV 3 hts gL_law_X2_joint rfl rfl rfl (by decide +kernel) ⟨Nat.le_of_ble_eq_true rfl, Nat.le_of_ble_eq_true rfl⟩) hK hP hD hp rfl rfl rfl rfl hl.1 rfl (Nat.le_of_ble_eq_true rfl) dL_law_195 ⟨by show _ ≤ (741649 : Nat); omega, by show _ ≤ (6876824 : Nat); omega⟩) hP hD hS hA hp (fun v u H locs hw hP hD hS => ?_)
                          obtain ⟨hv, hu⟩ := hw
                          replace hv : v = (iv (jtold (kS cs k) j vv)) := hv
                          subst hv
                          subst hu
                          have hP : va_P D vwCl ((wC G a ar az ad ap ts cs) ++ ([(w, .inl (G 4, kn cs, .inr (.inr (.inr (.inr (aF wa (kn cs))))))), (y, .inl (G 6, kn cs, .inr (.inr (.inr (.inr (aF ja (kn cs))))))), (ja k 0, .inl (G 4, 6, .inr (.inr (.inr (.inr (zF (jz k))))))), (jz k j, .inl (G 0, 3, .inl (fun y9 => iv (pw y9))))] ++ ((wRw G 8 wa (updP F k pr) (kn cs)) ++ ((wKso G ja jz J (kn cs) k) ++ ((wKro G (jz k) Jk j) ++ (wSim G bb sd sp jj cs)))))) _ := hP
                          have hD : va_D A ((wC G a ar az ad ap ts cs) ++ ([(w, .inl (G 4, kn cs, .inr (.inr (.inr (.inr (aF wa (kn cs))))))), (y, .inl (G 6, kn cs, .inr (.inr (.inr (.inr (aF ja (kn cs))))))), (ja k 0, .inl (G 4, 6, .inr (.inr (.inr (.inr (zF (jz k))))))), (jz k j, .inl (G 0, 3, .inl (fun y9 => iv (pw y9))))] ++ ((wRw G 8 wa (updP F k pr) (kn cs)) ++ ((wKso G ja jz J (kn cs) k) ++ ((wKro G (jz k) Jk j) ++ (wSim G bb sd sp jj cs)))))) := hD
                          have hq : List.Perm (α := Nat × va_E) ((wC G a ar az ad ap ts cs) ++ ([(w, .inl (G 4, kn cs, .inr (.inr (.inr (.inr (aF wa (kn cs))))))), (y, .inl (G 6, kn cs, .inr (.inr (.inr (.inr (aF ja (kn cs))))))), (ja k 0, .inl (G 4, 6, .inr (.inr (.inr (.inr (zF (jz k))))))), (jz k j, .inl (G 0, 3, .inl (fun y9 => iv (pw y9))))] ++ ((wRw G 8 wa (updP F k pr) (kn cs)) ++ ((wKso G ja jz J (kn cs) k) ++ ((wKro G (jz k) Jk j) ++ (wSim G bb sd sp jj cs)))))) ([(w, .inl (G 4, kn cs, .inr (.inr (.inr (.inr (aF wa (kn cs))))))), (y, .inl (G 6, kn cs, .inr (.inr (.inr (.inr (aF ja (kn cs))))))), (ja k 0, .inl (G 4, 6, .inr (.inr (.inr (.inr (zF (jz k))))))), (jz k j, .inl (G 0, 3, .inl (fun y9 => iv (pw y9))))] ++ ((wRw G 8 wa (updP F k pr) (kn cs)) ++ ((wKso G ja jz J (kn cs) k) ++ ((wKro G (jz k) Jk j) ++ ((wC G a ar az ad ap ts cs) ++ (wSim G bb sd sp jj cs)))))) := wperm (fun q9 => by
                            simp only [cn_app, cn_nil, cn_two] at ⊢ <;> omega)
                          replace hP := wP_perm hP hq
                          replace hD := wD_perm hD hq
                          have hP : va_P D vwCl ([(w, .inl (G 4, kn cs, .inr (.inr (.inr (.inr (aF wa (kn cs))))))), (y, .inl (G 6, kn cs, .inr (.inr (.inr (.inr (aF ja (kn cs))))))), (ja k 0, .inl (G 4, 6, .inr (.inr (.inr (.inr (zF (jz k))))))), (jz k j, .inl (G 0, 3, .inl (fun y9 => iv (pw y9))))] ++ ((wRw G 8 wa (updP F k pr) (kn cs)) ++ ((wKso G ja jz J (kn cs) k) ++ ((wKro G (jz k) Jk j) ++ ((wC G a ar az ad ap ts cs) ++ (wSim G bb sd sp jj cs)))))) _ := hP
                          have hD : va_D A ([(w, .inl (G 4, kn cs, .inr (.inr (.inr (.inr (aF wa (kn cs))))))), (y, .inl (G 6, kn cs, .inr (.inr (.inr (.inr (aF ja (kn cs))))))), (ja k 0, .inl (G 4, 6, .inr (.inr (.inr (.inr (zF (jz k))))))), (jz k j, .inl (G 0, 3, .inl (fun y9 => iv (pw y9))))] ++ ((wRw G 8 wa (updP F k pr) (kn cs)) ++ ((wKso G ja jz J (kn cs) k) ++ ((wKro G (jz k) Jk j) ++ ((wC G a ar az ad ap ts cs) ++ (wSim G bb sd sp jj cs)))))) := hD
                          rw [show jtold (kS cs k) j vv = limv (kS cs k) vv j from if_pos (by omega)]
                          refine r_iast (F := pw) hx hb hK hP hD hS 3 0 rfl rfl vv (by omega) (by omega) (by omega) dL_law_198 (fun H locs hP hD hS => ?_)
                          have hP : va_P D vwCl ([(w, .inl (G 4, kn cs, .inr (.inr (.inr (.inr (aF wa (kn cs))))))), (y, .inl (G 6, kn cs, .inr (.inr (.inr (.inr (aF ja (kn cs))))))), (ja k 0, .inl (G 4, 6, .inr (.inr (.inr (.inr (zF (jz k))))))), (jz k j, .inl (G 0, 3, .inl (fun y9 => iv (updI pw vv (limv (kS cs k) vv j) y9))))] ++ ((wRw G 8 wa (updP F k pr) (kn cs)) ++ ((wKso G ja jz J (kn cs) k) ++ ((wKro G (jz k) Jk j) ++ ((wC G a ar az ad ap ts cs) ++ (wSim G bb sd sp jj cs)))))) _ := hP
                          have hD : va_D A ([(w, .inl (G 4, kn cs, .inr (.inr (.inr (.inr (aF wa (kn cs))))))), (y, .inl (G 6, kn cs, .inr (.inr (.inr (.inr (aF ja (kn cs))))))), (ja k 0, .inl (G 4, 6, .inr (.inr (.inr (.inr (zF (jz k))))))), (jz k j, .inl (G 0, 3, .inl (fun y9 => iv (updI pw vv (limv (kS cs k) vv j) y9))))] ++ ((wRw G 8 wa (updP F k pr) (kn cs)) ++ ((wKso G ja jz J (kn cs) k) ++ ((wKro G (jz k) Jk j) ++ ((wC G a ar az ad ap ts cs) ++ (wSim G bb sd sp jj cs)))))) := hD
                          refine r_iinc (k := 9) (lv' := [(10, .int (iv ((vv : Int) + 1))), (0, .ref b), (1, .ref (a 0)), (2, .ref z), (3, .int (iv (t : Int))), (5, .int (iv (kn cs : Int))), (6, .ref w), (7, .ref y), (8, .int (iv (k : Int))), (9, .int (iv (j : Int)))]) hx hb dL_law_199 hl rfl (by decide) rfl (fun ls hl => ?_)
                          refine r_goto hx hb 172 dL_law_202 (by decide) ?_
                          have hq : List.Perm (α := Nat × va_E) ([(w, .inl (G 4, kn cs, .inr (.inr (.inr (.inr (aF wa (kn cs))))))), (y, .inl (G 6, kn cs, .inr (.inr (.inr (.inr (aF ja (kn cs))))))), (ja k 0, .inl (G 4, 6, .inr (.inr (.inr (.inr (zF (jz k))))))), (jz k j, .inl (G 0, 3, .inl (fun y9 => iv (updI pw vv (limv (kS cs k) vv j) y9))))] ++ ((wRw G 8 wa (updP F k pr) (kn cs)) ++ ((wKso G ja jz J (kn cs) k) ++ ((wKro G (jz k) Jk j) ++ ((wC G a ar az ad ap ts cs) ++ (wSim G bb sd sp jj cs)))))) ([(w, .inl (G 4, kn cs, .inr (.inr (.inr (.inr (aF wa (kn cs))))))), (y, .inl (G 6, kn cs, .inr (.inr (.inr (.inr (aF ja (kn cs))))))), (ja k 0, .inl (G 4, 6, .inr (.inr (.inr (.inr (zF (jz k))))))), (jz k j, .inl (G 0, 3, .inl (fun y9 => iv ((updI pw vv (limv (kS cs k) vv j)) y9))))] ++ ((wRw G 8 wa (updP F k pr) (kn cs)) ++ ((wKso G ja jz J (kn cs) k) ++ ((wKro G (jz k) Jk j) ++ ((wC G a ar az ad ap ts cs) ++ (wSim G bb sd sp jj cs)))))) := wperm (fun q9 => by
                            simp only [cn_app, cn_nil, cn_two] at ⊢ <;> omega)
                          replace hP := wP_perm hP hq
                          replace hD := wD_perm hD hq
                          have hP : va_P D vwCl ([(w, .inl (G 4, kn cs, .inr (.inr (.inr (.inr (aF wa (kn cs))))))), (y, .inl (G 6, kn cs, .inr (.inr (.inr (.inr (aF ja (kn cs))))))), (ja k 0, .inl (G 4, 6, .inr (.inr (.inr (.inr (zF (jz k))))))), (jz k j, .inl (G 0, 3, .inl (fun y9 => iv ((updI pw vv (limv (kS cs k) vv j)) y9))))] ++ ((wRw G 8 wa (updP F k pr) (kn cs)) ++ ((wKso G ja jz J (kn cs) k) ++ ((wKro G (jz k) Jk j) ++ ((wC G a ar az ad ap ts cs) ++ (wSim G bb sd sp jj cs)))))) _ := hP
                          have hD : va_D A ([(w, .inl (G 4, kn cs, .inr (.inr (.inr (.inr (aF wa (kn cs))))))), (y, .inl (G 6, kn cs, .inr (.inr (.inr (.inr (aF ja (kn cs))))))), (ja k 0, .inl (G 4, 6, .inr (.inr (.inr (.inr (zF (jz k))))))), (jz k j, .inl (G 0, 3, .inl (fun y9 => iv ((updI pw vv (limv (kS cs k) vv j)) y9))))] ++ ((wRw G 8 wa (updP F k pr) (kn cs)) ++ ((wKso G ja jz J (kn cs) k) ++ ((wKro G (jz k) Jk j) ++ ((wC G a ar az ad ap ts cs) ++ (wSim G bb sd sp jj cs)))))) := hD
                          refine W.widen (k := cells + 32 * k) (n := slots + 192 * k) (by omega) (by omega) ?_
                          exact ih172 (vv + 1) (updI pw vv (limv (kS cs k) vv j)) (by omega) (by omega) (upd_step (f := fun w9 => limv (kS cs k) w9 j) hpw) _ _ hP hD hS _ (lv_sub hl [1, 2, 3, 4, 5, 6, 7, 8, 9, 0] rfl)
                    have hq : List.Perm (α := Nat × va_E) ([(w, .inl (G 4, kn cs, .inr (.inr (.inr (.inr (aF wa (kn cs))))))), (y, .inl (G 6, kn cs, .inr (.inr (.inr (.inr (aF ja (kn cs))))))), (ja k 0, .inl (G 4, 6, .inr (.inr (.inr (.inr (zF (jz k)))))))] ++ ((wRw G 8 wa (updP F k pr) (kn cs)) ++ ((wKso G ja jz J (kn cs) k) ++ ((wKr G (jz k) Jk) ++ ((wC G a ar az ad ap ts cs) ++ (wSim G bb sd sp jj cs)))))) ([(w, .inl (G 4, kn cs, .inr (.inr (.inr (.inr (aF wa (kn cs))))))), (y, .inl (G 6, kn cs, .inr (.inr (.inr (.inr (aF ja (kn cs))))))), (ja k 0, .inl (G 4, 6, .inr (.inr (.inr (.inr (zF (jz k))))))), (jz k j, .inl (G 0, 3, .inl (fun y9 => iv ((Jk j) y9))))] ++ ((wRw G 8 wa (updP F k pr) (kn cs)) ++ ((wKso G ja jz J (kn cs) k) ++ ((wKro G (jz k) Jk j) ++ ((wC G a ar az ad ap ts cs) ++ (wSim G bb sd sp jj cs)))))) := wperm (fun q9 => by
                      have e_0 : cn q9 (wKr G (jz k) Jk) = cn q9 ([(jz k j, .inl (G 0, 3, .inl (fun y9 => iv ((Jk j) y9))))] ++ wKro G (jz k) Jk j) := cn_perm (wKr_get (G := G) (z := jz k) (J := Jk) (d := j) (by omega)) q9
                      simp only [cn_app, cn_nil, cn_two] at e_0 ⊢ <;> omega)
                    replace hP := wP_perm hP hq
                    replace hD := wD_perm hD hq
                    have hP : va_P D vwCl ([(w, .inl (G 4, kn cs, .inr (.inr (.inr (.inr (aF wa (kn cs))))))), (y, .inl (G 6, kn cs, .inr (.inr (.inr (.inr (aF ja (kn cs))))))), (ja k 0, .inl (G 4, 6, .inr (.inr (.inr (.inr (zF (jz k))))))), (jz k j, .inl (G 0, 3, .inl (fun y9 => iv ((Jk j) y9))))] ++ ((wRw G 8 wa (updP F k pr) (kn cs)) ++ ((wKso G ja jz J (kn cs) k) ++ ((wKro G (jz k) Jk j) ++ ((wC G a ar az ad ap ts cs) ++ (wSim G bb sd sp jj cs)))))) _ := hP
                    have hD : va_D A ([(w, .inl (G 4, kn cs, .inr (.inr (.inr (.inr (aF wa (kn cs))))))), (y, .inl (G 6, kn cs, .inr (.inr (.inr (.inr (aF ja (kn cs))))))), (ja k 0, .inl (G 4, 6, .inr (.inr (.inr (.inr (zF (jz k))))))), (jz k j, .inl (G 0, 3, .inl (fun y9 => iv ((Jk j) y9))))] ++ ((wRw G 8 wa (updP F k pr) (kn cs)) ++ ((wKso G ja jz J (kn cs) k) ++ ((wKro G (jz k) Jk j) ++ ((wC G a ar az ad ap ts cs) ++ (wSim G bb sd sp jj cs)))))) := hD
                    refine W.widen (k := cells + 32 * k) (n := slots + 192 * k) (by omega) (by omega) ?_
                    exact K172 4 0 (Jk j) (by omega) (by omega) (fun w9 h9 => absurd h9 (Nat.not_lt_zero w9)) _ _ hP hD hS _ (lv_sub hl [1, 2, 3, 4, 5, 6, 7, 8, 9, 0] rfl)
              have hq : List.Perm (α := Nat × va_E) ([(w, .inl (G 4, kn cs, .inr (.inr (.inr (.inr (aF wa (kn cs))))))), (y, .inl (G 6, kn cs, .inr (.inr (.inr (.inr (aF ja (kn cs))))))), (wa k 0, .inl (G 0, 8, .inl (fun y9 => iv (pr y9))))] ++ ((wRwo G 8 wa F (kn cs) k) ++ ((wKs G ja jz J (kn cs)) ++ ((wC G a ar az ad ap ts cs) ++ (wSim G bb sd sp jj cs))))) ([(w, .inl (G 4, kn cs, .inr (.inr (.inr (.inr (aF wa (kn cs))))))), (y, .inl (G 6, kn cs, .inr (.inr (.inr (.inr (aF ja (kn cs))))))), (ja k 0, .inl (G 4, 6, .inr (.inr (.inr (.inr (zF (jz k)))))))] ++ ((wRw G 8 wa (updP F k pr) (kn cs)) ++ ((wKso G ja jz J (kn cs) k) ++ ((wKr G (jz k) (J k)) ++ ((wC G a ar az ad ap ts cs) ++ (wSim G bb sd sp jj cs)))))) := wperm (fun q9 => by
                have e_0 : cn q9 (wRw G 8 wa (updP F k pr) (kn cs)) = cn q9 ([(wa k 0, .inl (G 0, 8, .inl (fun y9 => iv (pr y9))))] ++ wRwo G 8 wa F (kn cs) k) := cn_perm (wRw_put (G := G) (len := 8) (sp := wa) (P := F) (n := kn cs) (d := k) (by omega) pr) q9
                have e_1 : cn q9 (wKs G ja jz J (kn cs)) = cn q9 (([(ja k 0, .inl (G 4, 6, .inr (.inr (.inr (.inr (zF (jz k)))))))] ++ wKr G (jz k) (J k)) ++ wKso G ja jz J (kn cs) k) := cn_perm (wKs_get (G := G) (ja := ja) (jz := jz) (J := J) (n := kn cs) (d := k) (by omega)) q9
                simp only [cn_app, cn_nil, cn_two] at e_0 e_1 ⊢ <;> omega)
              replace hP := wP_perm hP hq
              replace hD := wD_perm hD hq
              have hP : va_P D vwCl ([(w, .inl (G 4, kn cs, .inr (.inr (.inr (.inr (aF wa (kn cs))))))), (y, .inl (G 6, kn cs, .inr (.inr (.inr (.inr (aF ja (kn cs))))))), (ja k 0, .inl (G 4, 6, .inr (.inr (.inr (.inr (zF (jz k)))))))] ++ ((wRw G 8 wa (updP F k pr) (kn cs)) ++ ((wKso G ja jz J (kn cs) k) ++ ((wKr G (jz k) (J k)) ++ ((wC G a ar az ad ap ts cs) ++ (wSim G bb sd sp jj cs)))))) _ := hP
              have hD : va_D A ([(w, .inl (G 4, kn cs, .inr (.inr (.inr (.inr (aF wa (kn cs))))))), (y, .inl (G 6, kn cs, .inr (.inr (.inr (.inr (aF ja (kn cs))))))), (ja k 0, .inl (G 4, 6, .inr (.inr (.inr (.inr (zF (jz k)))))))] ++ ((wRw G 8 wa (updP F k pr) (kn cs)) ++ ((wKso G ja jz J (kn cs) k) ++ ((wKr G (jz k) (J k)) ++ ((wC G a ar az ad ap ts cs) ++ (wSim G bb sd sp jj cs)))))) := hD
              refine W.widen (k := cells + 32 * k) (n := slots + 192 * k) (by omega) (by omega) ?_
              exact K162 7 0 (J k) (by omega) (by omega) (fun w9 h9 => absurd h9 (Nat.not_lt_zero w9)) _ _ hP hD hS _ (lv_sub hl [1, 2, 3, 4, 5, 6, 7, 8, 0] rfl)
            · skip
              refine lv_aload hx hb dL_law_137 (lv_at hl 5 rfl) ?_
              refine lv_iload hx hb dL_law_139 (lv_at hl 7 rfl) ?_
              refine r_aaldA (f := aF wa (kn cs)) hx hb hK hP 0 4 rfl rfl k (by omega) (by omega) (by omega) dL_law_141 ?_
              rw [show va_rf (aF wa (kn cs) k) = Value.ref (wa k 0) from congrArg va_rf (aF_yes (by omega))]
              refine lv_iload hx hb dL_law_142 (lv_at hl 8 rfl) ?_
              refine lv_aload_n hx hb dL_law_144 rfl (lv_at hl 1 rfl) ?_
              refine lv_iload hx hb dL_law_145 (lv_at hl 7 rfl) ?_
              refine lv_iload hx hb dL_law_147 (lv_at hl 8 rfl) ?_
              have hq : List.Perm (α := Nat × va_E) ([(w, .inl (G 4, kn cs, .inr (.inr (.inr (.inr (aF wa (kn cs))))))), (y, .inl (G 6, kn cs, .inr (.inr (.inr (.inr (aF ja (kn cs))))))), (wa k 0, .inl (G 0, 8, .inl (fun y9 => iv (pr y9))))] ++ ((wRwo G 8 wa F (kn cs) k) ++ ((wKs G ja jz J (kn cs)) ++ ((wC G a ar az ad ap ts cs) ++ (wSim G bb sd sp jj cs))))) ((wC G a ar az ad ap ts cs) ++ ([(w, .inl (G 4, kn cs, .inr (.inr (.inr (.inr (aF wa (kn cs))))))), (y, .inl (G 6, kn cs, .inr (.inr (.inr (.inr (aF ja (kn cs))))))), (wa k 0, .inl (G 0, 8, .inl (fun y9 => iv (pr y9))))] ++ ((wRwo G 8 wa F (kn cs) k) ++ ((wKs G ja jz J (kn cs)) ++ (wSim G bb sd sp jj cs))))) := wperm (fun q9 => by
                simp only [cn_app, cn_nil, cn_two] at ⊢ <;> omega)
              replace hP := wP_perm hP hq
              replace hD := wD_perm hD hq
              have hP : va_P D vwCl ((wC G a ar az ad ap ts cs) ++ ([(w, .inl (G 4, kn cs, .inr (.inr (.inr (.inr (aF wa (kn cs))))))), (y, .inl (G 6, kn cs, .inr (.inr (.inr (.inr (aF ja (kn cs))))))), (wa k 0, .inl (G 0, 8, .inl (fun y9 => iv (pr y9))))] ++ ((wRwo G 8 wa F (kn cs) k) ++ ((wKs G ja jz J (kn cs)) ++ (wSim G bb sd sp jj cs))))) _ := hP
              have hD : va_D A ((wC G a ar az ad ap ts cs) ++ ([(w, .inl (G 4, kn cs, .inr (.inr (.inr (.inr (aF wa (kn cs))))))), (y, .inl (G 6, kn cs, .inr (.inr (.inr (.inr (aF ja (kn cs))))))), (wa k 0, .inl (G 0, 8, .inl (fun y9 => iv (pr y9))))] ++ ((wRwo G 8 wa F (kn cs) k) ++ ((wKs G ja jz J (kn cs)) ++ (wSim G bb sd sp jj cs))))) := hD
              have hp : List.Perm (α := Nat × va_E) ((wC G a ar az ad ap ts cs) ++ ([(w, .inl (G 4, kn cs, .inr (.inr (.inr (.inr (aF wa (kn cs))))))), (y, .inl (G 6, kn cs, .inr (.inr (.inr (.inr (aF ja (kn cs))))))), (wa k 0, .inl (G 0, 8, .inl (fun y9 => iv (pr y9))))] ++ ((wRwo G 8 wa F (kn cs) k) ++ ((wKs G ja jz J (kn cs)) ++ (wSim G bb sd sp jj cs))))) ((wC G a ar az ad ap ts cs) ++ ([(w, .inl (G 4, kn cs, .inr (.inr (.inr (.inr (aF wa (kn cs))))))), (y, .inl (G 6, kn cs, .inr (.inr (.inr (.inr (aF ja (kn cs))))))), (wa k 0, .inl (G 0, 8, .inl (fun y9 => iv (pr y9))))] ++ ((wRwo G 8 wa F (kn cs) k) ++ ((wKs G ja jz J (kn cs)) ++ (wSim G bb sd sp jj cs))))) := List.Perm.refl _
              refine k_int (g_V (As := [.int (iv (k : Int)), .int (iv (uu : Int))]) (rest := [.int (iv (uu : Int)), .ref (wa k 0)]) (q0 := 0) (ci := 2) ⟨hx, hb, hml, hown, hts⟩ (n_X2_doll l D G a ar az ad ap ts cs hok k uu (by omega) (by omega)) (cwV 2 hts gL_law_X2_doll rfl rfl rfl (by decide +kernel) ⟨Nat.le_of_ble_eq_true rfl, Nat.le_of_ble_eq_true rfl⟩) hK hP hD hp rfl rfl rfl rfl hl.1 rfl (Nat.le_of_ble_eq_true rfl) dL_law_149 ⟨by show _ ≤ (741649 : Nat); omega, by show _ ≤ (6876824 : Nat); omega⟩) hP hD hS hA hp (fun v u H locs hw hP hD hS => ?_)
              obtain ⟨hv, hu⟩ := hw
              replace hv : v = (iv (roomv (kS cs k) uu)) := hv
              subst hv
              subst hu
              have hP : va_P D vwCl ((wC G a ar az ad ap ts cs) ++ ([(w, .inl (G 4, kn cs, .inr (.inr (.inr (.inr (aF wa (kn cs))))))), (y, .inl (G 6, kn cs, .inr (.inr (.inr (.inr (aF ja (kn cs))))))), (wa k 0, .inl (G 0, 8, .inl (fun y9 => iv (pr y9))))] ++ ((wRwo G 8 wa F (kn cs) k) ++ ((wKs G ja jz J (kn cs)) ++ (wSim G bb sd sp jj cs))))) _ := hP
              have hD : va_D A ((wC G a ar az ad ap ts cs) ++ ([(w, .inl (G 4, kn cs, .inr (.inr (.inr (.inr (aF wa (kn cs))))))), (y, .inl (G 6, kn cs, .inr (.inr (.inr (.inr (aF ja (kn cs))))))), (wa k 0, .inl (G 0, 8, .inl (fun y9 => iv (pr y9))))] ++ ((wRwo G 8 wa F (kn cs) k) ++ ((wKs G ja jz J (kn cs)) ++ (wSim G bb sd sp jj cs))))) := hD
              have hq : List.Perm (α := Nat × va_E) ((wC G a ar az ad ap ts cs) ++ ([(w, .inl (G 4, kn cs, .inr (.inr (.inr (.inr (aF wa (kn cs))))))), (y, .inl (G 6, kn cs, .inr (.inr (.inr (.inr (aF ja (kn cs))))))), (wa k 0, .inl (G 0, 8, .inl (fun y9 => iv (pr y9))))] ++ ((wRwo G 8 wa F (kn cs) k) ++ ((wKs G ja jz J (kn cs)) ++ (wSim G bb sd sp jj cs))))) ([(w, .inl (G 4, kn cs, .inr (.inr (.inr (.inr (aF wa (kn cs))))))), (y, .inl (G 6, kn cs, .inr (.inr (.inr (.inr (aF ja (kn cs))))))), (wa k 0, .inl (G 0, 8, .inl (fun y9 => iv (pr y9))))] ++ ((wRwo G 8 wa F (kn cs) k) ++ ((wKs G ja jz J (kn cs)) ++ ((wC G a ar az ad ap ts cs) ++ (wSim G bb sd sp jj cs))))) := wperm (fun q9 => by
                simp only [cn_app, cn_nil, cn_two] at ⊢ <;> omega)
              replace hP := wP_perm hP hq
              replace hD := wD_perm hD hq
              have hP : va_P D vwCl ([(w, .inl (G 4, kn cs, .inr (.inr (.inr (.inr (aF wa (kn cs))))))), (y, .inl (G 6, kn cs, .inr (.inr (.inr (.inr (aF ja (kn cs))))))), (wa k 0, .inl (G 0, 8, .inl (fun y9 => iv (pr y9))))] ++ ((wRwo G 8 wa F (kn cs) k) ++ ((wKs G ja jz J (kn cs)) ++ ((wC G a ar az ad ap ts cs) ++ (wSim G bb sd sp jj cs))))) _ := hP
              have hD : va_D A ([(w, .inl (G 4, kn cs, .inr (.inr (.inr (.inr (aF wa (kn cs))))))), (y, .inl (G 6, kn cs, .inr (.inr (.inr (.inr (aF ja (kn cs))))))), (wa k 0, .inl (G 0, 8, .inl (fun y9 => iv (pr y9))))] ++ ((wRwo G 8 wa F (kn cs) k) ++ ((wKs G ja jz J (kn cs)) ++ ((wC G a ar az ad ap ts cs) ++ (wSim G bb sd sp jj cs))))) := hD
              refine r_iast (F := pr) hx hb hK hP hD hS 2 0 rfl rfl uu (by omega) (by omega) (by omega) dL_law_152 (fun H locs hP hD hS => ?_)
              have hP : va_P D vwCl ([(w, .inl (G 4, kn cs, .inr (.inr (.inr (.inr (aF wa (kn cs))))))), (y, .inl (G 6, kn cs, .inr (.inr (.inr (.inr (aF ja (kn cs))))))), (wa k 0, .inl (G 0, 8, .inl (fun y9 => iv (updI pr uu (roomv (kS cs k) uu) y9))))] ++ ((wRwo G 8 wa F (kn cs) k) ++ ((wKs G ja jz J (kn cs)) ++ ((wC G a ar az ad ap ts cs) ++ (wSim G bb sd sp jj cs))))) _ := hP
              have hD : va_D A ([(w, .inl (G 4, kn cs, .inr (.inr (.inr (.inr (aF wa (kn cs))))))), (y, .inl (G 6, kn cs, .inr (.inr (.inr (.inr (aF ja (kn cs))))))), (wa k 0, .inl (G 0, 8, .inl (fun y9 => iv (updI pr uu (roomv (kS cs k) uu) y9))))] ++ ((wRwo G 8 wa F (kn cs) k) ++ ((wKs G ja jz J (kn cs)) ++ ((wC G a ar az ad ap ts cs) ++ (wSim G bb sd sp jj cs))))) := hD
              refine r_iinc (k := 8) (lv' := [(9, .int (iv ((uu : Int) + 1))), (0, .ref b), (1, .ref (a 0)), (2, .ref z), (3, .int (iv (t : Int))), (5, .int (iv (kn cs : Int))), (6, .ref w), (7, .ref y), (8, .int (iv (k : Int)))]) hx hb dL_law_153 hl rfl (by decide) rfl (fun ls hl => ?_)
              refine r_goto hx hb 130 dL_law_156 (by decide) ?_
              have hq : List.Perm (α := Nat × va_E) ([(w, .inl (G 4, kn cs, .inr (.inr (.inr (.inr (aF wa (kn cs))))))), (y, .inl (G 6, kn cs, .inr (.inr (.inr (.inr (aF ja (kn cs))))))), (wa k 0, .inl (G 0, 8, .inl (fun y9 => iv (updI pr uu (roomv (kS cs k) uu) y9))))] ++ ((wRwo G 8 wa F (kn cs) k) ++ ((wKs G ja jz J (kn cs)) ++ ((wC G a ar az ad ap ts cs) ++ (wSim G bb sd sp jj cs))))) ([(w, .inl (G 4, kn cs, .inr (.inr (.inr (.inr (aF wa (kn cs))))))), (y, .inl (G 6, kn cs, .inr (.inr (.inr (.inr (aF ja (kn cs))))))), (wa k 0, .inl (G 0, 8, .inl (fun y9 => iv ((updI pr uu (roomv (kS cs k) uu)) y9))))] ++ ((wRwo G 8 wa F (kn cs) k) ++ ((wKs G ja jz J (kn cs)) ++ ((wC G a ar az ad ap ts cs) ++ (wSim G bb sd sp jj cs))))) := wperm (fun q9 => by
                simp only [cn_app, cn_nil, cn_two] at ⊢ <;> omega)
              replace hP := wP_perm hP hq
              replace hD := wD_perm hD hq
              have hP : va_P D vwCl ([(w, .inl (G 4, kn cs, .inr (.inr (.inr (.inr (aF wa (kn cs))))))), (y, .inl (G 6, kn cs, .inr (.inr (.inr (.inr (aF ja (kn cs))))))), (wa k 0, .inl (G 0, 8, .inl (fun y9 => iv ((updI pr uu (roomv (kS cs k) uu)) y9))))] ++ ((wRwo G 8 wa F (kn cs) k) ++ ((wKs G ja jz J (kn cs)) ++ ((wC G a ar az ad ap ts cs) ++ (wSim G bb sd sp jj cs))))) _ := hP
              have hD : va_D A ([(w, .inl (G 4, kn cs, .inr (.inr (.inr (.inr (aF wa (kn cs))))))), (y, .inl (G 6, kn cs, .inr (.inr (.inr (.inr (aF ja (kn cs))))))), (wa k 0, .inl (G 0, 8, .inl (fun y9 => iv ((updI pr uu (roomv (kS cs k) uu)) y9))))] ++ ((wRwo G 8 wa F (kn cs) k) ++ ((wKs G ja jz J (kn cs)) ++ ((wC G a ar az ad ap ts cs) ++ (wSim G bb sd sp jj cs))))) := hD
              refine W.widen (k := cells + 32 * k) (n := slots + 192 * k) (by omega) (by omega) ?_
              exact ih130 (uu + 1) (updI pr uu (roomv (kS cs k) uu)) (by omega) (by omega) (upd_step (f := fun w9 => roomv (kS cs k) w9) hpr) _ _ hP hD hS _ (lv_sub hl [1, 2, 3, 4, 5, 6, 7, 8, 0] rfl)
        have hq : List.Perm (α := Nat × va_E) ([(w, .inl (G 4, kn cs, .inr (.inr (.inr (.inr (aF wa (kn cs))))))), (y, .inl (G 6, kn cs, .inr (.inr (.inr (.inr (aF ja (kn cs)))))))] ++ ((wRw G 8 wa F (kn cs)) ++ ((wKs G ja jz J (kn cs)) ++ ((wC G a ar az ad ap ts cs) ++ (wSim G bb sd sp jj cs))))) ([(w, .inl (G 4, kn cs, .inr (.inr (.inr (.inr (aF wa (kn cs))))))), (y, .inl (G 6, kn cs, .inr (.inr (.inr (.inr (aF ja (kn cs))))))), (wa k 0, .inl (G 0, 8, .inl (fun y9 => iv ((F k) y9))))] ++ ((wRwo G 8 wa F (kn cs) k) ++ ((wKs G ja jz J (kn cs)) ++ ((wC G a ar az ad ap ts cs) ++ (wSim G bb sd sp jj cs))))) := wperm (fun q9 => by
          have e_0 : cn q9 (wRw G 8 wa F (kn cs)) = cn q9 ([(wa k 0, .inl (G 0, 8, .inl (fun y9 => iv ((F k) y9))))] ++ wRwo G 8 wa F (kn cs) k) := cn_perm (wRw_get (G := G) (len := 8) (sp := wa) (P := F) (n := kn cs) (d := k) (by omega)) q9
          simp only [cn_app, cn_nil, cn_two] at e_0 ⊢ <;> omega)
        replace hP := wP_perm hP hq
        replace hD := wD_perm hD hq
        have hP : va_P D vwCl ([(w, .inl (G 4, kn cs, .inr (.inr (.inr (.inr (aF wa (kn cs))))))), (y, .inl (G 6, kn cs, .inr (.inr (.inr (.inr (aF ja (kn cs))))))), (wa k 0, .inl (G 0, 8, .inl (fun y9 => iv ((F k) y9))))] ++ ((wRwo G 8 wa F (kn cs) k) ++ ((wKs G ja jz J (kn cs)) ++ ((wC G a ar az ad ap ts cs) ++ (wSim G bb sd sp jj cs))))) _ := hP
        have hD : va_D A ([(w, .inl (G 4, kn cs, .inr (.inr (.inr (.inr (aF wa (kn cs))))))), (y, .inl (G 6, kn cs, .inr (.inr (.inr (.inr (aF ja (kn cs))))))), (wa k 0, .inl (G 0, 8, .inl (fun y9 => iv ((F k) y9))))] ++ ((wRwo G 8 wa F (kn cs) k) ++ ((wKs G ja jz J (kn cs)) ++ ((wC G a ar az ad ap ts cs) ++ (wSim G bb sd sp jj cs))))) := hD
        refine W.widen (k := cells + 32 * k) (n := slots + 192 * k) (by omega) (by omega) ?_
        exact K130 9 0 (F k) (by omega) (by omega) (fun w9 h9 => absurd h9 (Nat.not_lt_zero w9)) _ _ hP hD hS _ (lv_sub hl [1, 2, 3, 4, 5, 6, 7, 8, 0] rfl)
  refine W.widen (k := cells + 32 * 0) (n := slots + 192 * 0) (by omega) (by omega) ?_
  exact K120 (kn cs + 1) 0 ad ap ts (fun _ => zz) (fun _ _ => zz) (by omega) (by omega) (fun e9 h9 => absurd h9 (Nat.not_lt_zero e9)) (fun e9 h9 => absurd h9 (Nat.not_lt_zero e9)) _ _ hP hD hS _ (lv_sub hl [1, 2, 3, 4, 5, 6, 7, 0] rfl)
