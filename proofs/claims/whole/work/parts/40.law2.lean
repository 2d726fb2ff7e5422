set_option maxHeartbeats 4000000 in
set_option maxRecDepth 100000 in
theorem k_law_make {p : Program} {l : Launch} {e : Env} {s : State} {m : MethodId} {below : List Frame} {meth : Method} {c : Code} {H : Heap} {locs : List Loc} {cells slots : Nat} {ls : Array Slot} {A : Nat → Prop} {Q : State → Prop} {D : va_G} {G : Nat → ClassId} {b L : Nat} {xs : Nat → Int32} (hB : LB p l s m meth c D G b L xs A) {a ar az mb : Nat → Nat} {ad ap : AD} {ts : DS} {cs : CS} {th : Int} {w : Nat} {F : Nat → Int64} {i : Nat} (hi : 7 * i + 7 ≤ L) (hok : okC cs) (hdl : kd cs ≤ 1000000) (hc1 : cells + 10 ≤ room_1.cells) (hc2 : slots + 250 ≤ room_1.slots) (hP : va_P D vwCl (wOut G w F ++ (wMod G mb th cs ++ wC G a ar az ad ap ts cs)) H) (hD : va_D A (wOut G w F ++ (wMod G mb th cs ++ wC G a ar az ad ap ts cs))) (hS : va_S A s.heap H locs) (hl : lv_has ls 9 [(0, .ref b), (1, .ref (a 0)), (2, .ref (mb 0)), (3, .ref w), (4, .int (iv ((7 * i : Nat) : Int)))])
  (kk : ∀ (th : Int) (cs2 : CS) (ad ap : AD) (ts : DS) (F : Nat → Int64) (H : Heap) (locs : List Loc), va_P D vwCl (wOut G w F ++ (wMod G mb th cs2 ++ wC G a ar az ad ap ts cs2)) H → va_D A (wOut G w F ++ (wMod G mb th cs2 ++ wC G a ar az ad ap ts cs2)) → va_S A s.heap H locs → ∀ (ls : Array Slot), lv_has ls 9 [(0, .ref b), (1, .ref (a 0)), (2, .ref (mb 0)), (3, .ref w), (4, .int (iv ((7 * i : Nat) : Int)))] → okC cs2 → kd cs2 ≤ kd cs + 60 → W p l e room_1 s m #[Value.ref b] below meth c H locs (cells + 10) (slots + 250) Q (F0 m 1381 ls [])) : W p l e room_1 s m #[Value.ref b] below meth c H locs cells slots Q (F0 m 136 ls []) := by
  obtain ⟨hx, hb, hml, hown, hts, hK, hT, hN, hA, hX, hbl, hbA, hL, hl0⟩ := hB
  refine lv_aload_n hx hb dL_law_136 rfl (lv_at hl 1 rfl) ?_
  refine lv_aload_n hx hb dL_law_137 rfl (lv_at hl 3 rfl) ?_
  refine k_int (g_SH (As := [.ref (a 0), .ref w]) (rest := []) ⟨hx, hb, hml, hown, hts⟩ (c_L_make l D G hl0 a ar az ad ap ts cs hok w F  ) (vx_cwSW 2 hts gL_law_L_make rfl rfl rfl (by decide +kernel) ⟨Nat.le_of_ble_eq_true rfl, Nat.le_of_ble_eq_true rfl⟩) hK hT hN hA hP hD hS (pm1 _ _ _) rfl hl.1 rfl (Nat.le_of_ble_eq_true rfl) dL_law_138 ⟨Nat.le_trans (by omega) hc1, Nat.le_trans (by omega) hc2⟩) hP hD hS hA (pm1 _ _ _) (fun v u H locs hw hP hD hS => ?_)
  obtain ⟨rfl, ad2, ap2, ts2, F2, rfl, hF⟩ := hw
  have hP := wP_perm hP (pm1 _ _ _).symm
  have hD := wD_perm hD (pm1 _ _ _).symm
  have hP : va_P D vwCl (wOut G w F2 ++ (wMod G mb th cs ++ wC G a ar az ad2 ap2 ts2 ((opMake cs).2.2))) H := hP
  have hD : va_D A (wOut G w F2 ++ (wMod G mb th cs ++ wC G a ar az ad2 ap2 ts2 ((opMake cs).2.2))) := hD
  refine lv_istore (lv' := [(5, .int (iv ((opMake cs).1))), (0, .ref b), (1, .ref (a 0)), (2, .ref (mb 0)), (3, .ref w), (4, .int (iv ((7 * i : Nat) : Int)))]) hx hb dL_law_141 hl (by decide) rfl (fun ls hl => ?_)
  refine lv_aload_n hx hb dL_law_143 rfl (lv_at hl 3 rfl) ?_
  replace hP := wP_perm hP (pm3 _ _ _)
  replace hD := wD_perm hD (pm3 _ _ _)
  have hp : List.Perm (wMod G mb th cs ++ ([(w, .inl (G 5, 1, .inr (.inl (F2))))] ++ wC G a ar az ad2 ap2 ts2 ((opMake cs).2.2))) (wMod G mb th cs ++ ([(w, .inl (G 5, 1, .inr (.inl (F2))))] ++ wC G a ar az ad2 ap2 ts2 ((opMake cs).2.2))) := List.Perm.refl _
  refine k_int (g_V (As := []) (rest := []) (q0 := 0) (ci := 3) ⟨hx, hb, hml, hown, hts⟩ (c_X3_make l D G mb th cs hok  ) (cwV 0 hts gL_law_X3_make rfl rfl rfl (by decide +kernel) ⟨Nat.le_of_ble_eq_true rfl, Nat.le_of_ble_eq_true rfl⟩) hK hP hD hp rfl rfl rfl rfl hl.1 rfl (Nat.le_of_ble_eq_true rfl) dL_law_144 ⟨Nat.le_trans (by omega) hc1, Nat.le_trans (by omega) hc2⟩) hP hD hS hA hp (fun v u H locs hw hP hD hS => ?_)
  obtain ⟨rfl, rfl⟩ := hw
  replace hP : va_P D vwCl (wMod G mb ((opMake cs).1) ((opMake cs).2.2) ++ ([(w, .inl (G 5, 1, .inr (.inl (F2))))] ++ wC G a ar az ad2 ap2 ts2 ((opMake cs).2.2))) H := hP
  replace hD : va_D A (wMod G mb ((opMake cs).1) ((opMake cs).2.2) ++ ([(w, .inl (G 5, 1, .inr (.inl (F2))))] ++ wC G a ar az ad2 ap2 ts2 ((opMake cs).2.2))) := hD
  replace hP := wP_perm hP (pm3 _ _ _).symm
  replace hD := wD_perm hD (pm3 _ _ _).symm
  have hP : va_P D vwCl (wOut G w F2 ++ (wMod G mb ((opMake cs).1) ((opMake cs).2.2) ++ wC G a ar az ad2 ap2 ts2 ((opMake cs).2.2))) H := hP
  have hD : va_D A (wOut G w F2 ++ (wMod G mb ((opMake cs).1) ((opMake cs).2.2) ++ wC G a ar az ad2 ap2 ts2 ((opMake cs).2.2))) := hD
  refine lv_istore (lv' := [(6, .int (iv ((opMake cs).2.1))), (5, .int (iv ((opMake cs).1))), (0, .ref b), (1, .ref (a 0)), (2, .ref (mb 0)), (3, .ref w), (4, .int (iv ((7 * i : Nat) : Int)))]) hx hb dL_law_147 hl (by decide) rfl (fun ls hl => ?_)
  refine lv_aload_n hx hb dL_law_149 rfl (lv_at hl 4 rfl) ?_
  replace hP := wP_perm hP (pm3 _ _ _)
  replace hD := wD_perm hD (pm3 _ _ _)
  have hp : List.Perm (wMod G mb ((opMake cs).1) ((opMake cs).2.2) ++ ([(w, .inl (G 5, 1, .inr (.inl (F2))))] ++ wC G a ar az ad2 ap2 ts2 ((opMake cs).2.2))) ([wM0 mb ((opMake cs).1) (kn ((opMake cs).2.2) : Int) (kp ((opMake cs).2.2) : Int) (km ((opMake cs).2.2))] ++ ((wMod G mb ((opMake cs).1) ((opMake cs).2.2)).tail ++ ([(w, .inl (G 5, 1, .inr (.inl (F2))))] ++ wC G a ar az ad2 ap2 ts2 ((opMake cs).2.2)))) := List.Perm.refl _
  refine k_int (g_V (As := []) (rest := []) (q0 := 0) (ci := 3) ⟨hx, hb, hml, hown, hts⟩ (c_X3_thrown l D G mb ((opMake cs).1) (kn ((opMake cs).2.2) : Int) (kp ((opMake cs).2.2) : Int) (km ((opMake cs).2.2))) (cwV 0 hts gL_law_X3_thrown rfl rfl rfl (by decide +kernel) ⟨Nat.le_of_ble_eq_true rfl, Nat.le_of_ble_eq_true rfl⟩) hK hP hD hp rfl rfl rfl rfl hl.1 rfl (Nat.le_of_ble_eq_true rfl) dL_law_150 ⟨Nat.le_trans (by omega) hc1, Nat.le_trans (by omega) hc2⟩) hP hD hS hA hp (fun v u H locs hw hP hD hS => ?_)
  obtain ⟨rfl, rfl⟩ := hw
  replace hP : va_P D vwCl (wMod G mb ((opMake cs).1) ((opMake cs).2.2) ++ ([(w, .inl (G 5, 1, .inr (.inl (F2))))] ++ wC G a ar az ad2 ap2 ts2 ((opMake cs).2.2))) H := hP
  replace hD : va_D A (wMod G mb ((opMake cs).1) ((opMake cs).2.2) ++ ([(w, .inl (G 5, 1, .inr (.inl (F2))))] ++ wC G a ar az ad2 ap2 ts2 ((opMake cs).2.2))) := hD
  replace hP := wP_perm hP (pm3 _ _ _).symm
  replace hD := wD_perm hD (pm3 _ _ _).symm
  have hP : va_P D vwCl (wOut G w F2 ++ (wMod G mb ((opMake cs).1) ((opMake cs).2.2) ++ wC G a ar az ad2 ap2 ts2 ((opMake cs).2.2))) H := hP
  have hD : va_D A (wOut G w F2 ++ (wMod G mb ((opMake cs).1) ((opMake cs).2.2) ++ wC G a ar az ad2 ap2 ts2 ((opMake cs).2.2))) := hD
  refine lv_iload hx hb dL_law_153 (lv_at hl 1 rfl) ?_
  refine lv_icmp_eq (tgt := 160) hx hb dL_law_155 (by decide) (fun _ => ?_) (fun h9 => absurd rfl h9)
  refine lv_iload hx hb dL_law_160 (lv_at hl 1 rfl) ?_
  refine lv_if_ne (tgt := 177) hx hb dL_law_162 (by decide) (fun c_162 => ?_) (fun c_162 => ?_)
  · skip
    refine r_goto hx hb 1381 dL_law_177 (by decide) ?_
    exact W.widen (by omega) (by omega) (kk ((opMake cs).1) ((opMake cs).2.2) ad2 ap2 ts2 F2 _ _ hP hD hS _ (lv_sub hl [2, 3, 4, 5, 6] rfl) (g_make hok ).1 (g_make hok ).2)
  · have hF0 := hF c_162
    refine lv_aload_n hx hb dL_law_165 rfl (lv_at hl 5 rfl) ?_
    refine r_const hx hb dL_law_166 ?_
    refine r_lald0 (F := F2) hx hb hK hP 0 rfl dL_law_167 ?_
    refine lv_iload hx hb dL_law_168 (lv_at hl 0 rfl) ?_
    refine lv_i2l (v := ((iv ((opMake cs).2.1))).toInt64) hx hb dL_law_170 rfl ?_
    rw [hF0]
    refine r_lcmp_eq hx hb dL_law_171 ?_
    refine lv_if_eq (tgt := 177) hx hb dL_law_172 (by decide) (fun _ => ?_) (fun h9 => absurd rfl h9)
    refine r_goto hx hb 1381 dL_law_177 (by decide) ?_
    exact W.widen (by omega) (by omega) (kk ((opMake cs).1) ((opMake cs).2.2) ad2 ap2 ts2 F2 _ _ hP hD hS _ (lv_sub hl [2, 3, 4, 5, 6] rfl) (g_make hok ).1 (g_make hok ).2)
set_option maxHeartbeats 4000000 in
set_option maxRecDepth 100000 in
theorem k_law_pose {p : Program} {l : Launch} {e : Env} {s : State} {m : MethodId} {below : List Frame} {meth : Method} {c : Code} {H : Heap} {locs : List Loc} {cells slots : Nat} {ls : Array Slot} {A : Nat → Prop} {Q : State → Prop} {D : va_G} {G : Nat → ClassId} {b L : Nat} {xs : Nat → Int32} (hB : LB p l s m meth c D G b L xs A) {a ar az mb : Nat → Nat} {ad ap : AD} {ts : DS} {cs : CS} {th : Int} {w : Nat} {F : Nat → Int64} {i : Nat} (hi : 7 * i + 7 ≤ L) (hok : okC cs) (hdl : kd cs ≤ 1000000) (hc1 : cells + 10 ≤ room_1.cells) (hc2 : slots + 250 ≤ room_1.slots) (hP : va_P D vwCl (wOut G w F ++ (wMod G mb th cs ++ wC G a ar az ad ap ts cs)) H) (hD : va_D A (wOut G w F ++ (wMod G mb th cs ++ wC G a ar az ad ap ts cs))) (hS : va_S A s.heap H locs) (hl : lv_has ls 9 [(0, .ref b), (1, .ref (a 0)), (2, .ref (mb 0)), (3, .ref w), (4, .int (iv ((7 * i : Nat) : Int)))])
  (kk : ∀ (th : Int) (cs2 : CS) (ad ap : AD) (ts : DS) (F : Nat → Int64) (H : Heap) (locs : List Loc), va_P D vwCl (wOut G w F ++ (wMod G mb th cs2 ++ wC G a ar az ad ap ts cs2)) H → va_D A (wOut G w F ++ (wMod G mb th cs2 ++ wC G a ar az ad ap ts cs2)) → va_S A s.heap H locs → ∀ (ls : Array Slot), lv_has ls 9 [(0, .ref b), (1, .ref (a 0)), (2, .ref (mb 0)), (3, .ref w), (4, .int (iv ((7 * i : Nat) : Int)))] → okC cs2 → kd cs2 ≤ kd cs + 60 → W p l e room_1 s m #[Value.ref b] below meth c H locs (cells + 10) (slots + 250) Q (F0 m 1381 ls [])) : W p l e room_1 s m #[Value.ref b] below meth c H locs cells slots Q (F0 m 180 ls []) := by
  obtain ⟨hx, hb, hml, hown, hts, hK, hT, hN, hA, hX, hbl, hbA, hL, hl0⟩ := hB
  refine lv_aload_n hx hb dL_law_180 rfl (lv_at hl 1 rfl) ?_
  refine lv_aload_n hx hb dL_law_181 rfl (lv_at hl 0 rfl) ?_
  refine lv_iload hx hb dL_law_182 (lv_at hl 4 rfl) ?_
  refine r_const hx hb dL_law_184 ?_
  refine r_add hx hb dL_law_185 ?_
  refine r_sld hx hb hX hbl hbA hS (7 * i + 1) (by omega) (by omega) hL dL_law_186 ?_
  refine lv_aload_n hx hb dL_law_187 rfl (lv_at hl 0 rfl) ?_
  refine lv_iload hx hb dL_law_188 (lv_at hl 4 rfl) ?_
  refine r_const hx hb dL_law_190 ?_
  refine r_add hx hb dL_law_191 ?_
  refine r_sld hx hb hX hbl hbA hS (7 * i + 2) (by omega) (by omega) hL dL_law_192 ?_
  refine lv_aload_n hx hb dL_law_193 rfl (lv_at hl 0 rfl) ?_
  refine lv_iload hx hb dL_law_194 (lv_at hl 4 rfl) ?_
  refine r_const hx hb dL_law_196 ?_
  refine r_add hx hb dL_law_197 ?_
  refine r_sld hx hb hX hbl hbA hS (7 * i + 3) (by omega) (by omega) hL dL_law_198 ?_
  refine lv_aload_n hx hb dL_law_199 rfl (lv_at hl 0 rfl) ?_
  refine lv_iload hx hb dL_law_200 (lv_at hl 4 rfl) ?_
  refine r_const hx hb dL_law_202 ?_
  refine r_add hx hb dL_law_203 ?_
  refine r_sld hx hb hX hbl hbA hS (7 * i + 4) (by omega) (by omega) hL dL_law_204 ?_
  refine lv_aload_n hx hb dL_law_205 rfl (lv_at hl 0 rfl) ?_
  refine lv_iload hx hb dL_law_206 (lv_at hl 4 rfl) ?_
  refine r_const hx hb dL_law_208 ?_
  refine r_add hx hb dL_law_209 ?_
  refine r_sld hx hb hX hbl hbA hS (7 * i + 5) (by omega) (by omega) hL dL_law_210 ?_
  refine lv_aload_n hx hb dL_law_211 rfl (lv_at hl 0 rfl) ?_
  refine lv_iload hx hb dL_law_212 (lv_at hl 4 rfl) ?_
  refine lv_bipush (v := iv 6) hx hb dL_law_214 (by decide) ?_
  refine r_add hx hb dL_law_216 ?_
  refine r_sld hx hb hX hbl hbA hS (7 * i + 6) (by omega) (by omega) hL dL_law_217 ?_
  refine lv_aload_n hx hb dL_law_218 rfl (lv_at hl 3 rfl) ?_
  refine k_int (g_SH (As := [.ref (a 0), .int (iv ((xs (7 * i + 1)).toInt)), .int (iv ((xs (7 * i + 2)).toInt)), .int (iv ((xs (7 * i + 3)).toInt)), .int (iv ((xs (7 * i + 4)).toInt)), .int (iv ((xs (7 * i + 5)).toInt)), .int (iv ((xs (7 * i + 6)).toInt)), .ref w]) (rest := []) ⟨hx, hb, hml, hown, hts⟩ (c_L_pose l D G hl0 a ar az ad ap ts cs hok w F ((xs (7 * i + 1)).toInt) ((xs (7 * i + 2)).toInt) ((xs (7 * i + 3)).toInt) ((xs (7 * i + 4)).toInt) ((xs (7 * i + 5)).toInt) ((xs (7 * i + 6)).toInt) (xs_rng _) (xs_rng _) (xs_rng _) (xs_rng _) (xs_rng _) (xs_rng _)) (vx_cwSW 8 hts gL_law_L_pose rfl rfl rfl (by decide +kernel) ⟨Nat.le_of_ble_eq_true rfl, Nat.le_of_ble_eq_true rfl⟩) hK hT hN hA hP hD hS (pm1 _ _ _) rfl hl.1 rfl (Nat.le_of_ble_eq_true rfl) dL_law_219 ⟨Nat.le_trans (by omega) hc1, Nat.le_trans (by omega) hc2⟩) hP hD hS hA (pm1 _ _ _) (fun v u H locs hw hP hD hS => ?_)
  obtain ⟨rfl, ad2, ap2, ts2, F2, rfl, hF⟩ := hw
  have hP := wP_perm hP (pm1 _ _ _).symm
  have hD := wD_perm hD (pm1 _ _ _).symm
  have hP : va_P D vwCl (wOut G w F2 ++ (wMod G mb th cs ++ wC G a ar az ad2 ap2 ts2 ((opPose cs ((xs (7 * i + 1)).toInt) ((xs (7 * i + 2)).toInt) ((xs (7 * i + 3)).toInt) ((xs (7 * i + 4)).toInt) ((xs (7 * i + 5)).toInt) ((xs (7 * i + 6)).toInt)).2.2))) H := hP
  have hD : va_D A (wOut G w F2 ++ (wMod G mb th cs ++ wC G a ar az ad2 ap2 ts2 ((opPose cs ((xs (7 * i + 1)).toInt) ((xs (7 * i + 2)).toInt) ((xs (7 * i + 3)).toInt) ((xs (7 * i + 4)).toInt) ((xs (7 * i + 5)).toInt) ((xs (7 * i + 6)).toInt)).2.2))) := hD
  refine lv_istore (lv' := [(5, .int (iv ((opPose cs ((xs (7 * i + 1)).toInt) ((xs (7 * i + 2)).toInt) ((xs (7 * i + 3)).toInt) ((xs (7 * i + 4)).toInt) ((xs (7 * i + 5)).toInt) ((xs (7 * i + 6)).toInt)).1))), (0, .ref b), (1, .ref (a 0)), (2, .ref (mb 0)), (3, .ref w), (4, .int (iv ((7 * i : Nat) : Int)))]) hx hb dL_law_222 hl (by decide) rfl (fun ls hl => ?_)
  refine lv_aload_n hx hb dL_law_224 rfl (lv_at hl 3 rfl) ?_
  refine lv_aload_n hx hb dL_law_225 rfl (lv_at hl 1 rfl) ?_
  refine lv_iload hx hb dL_law_226 (lv_at hl 5 rfl) ?_
  refine r_const hx hb dL_law_228 ?_
  refine r_add hx hb dL_law_229 ?_
  refine r_sld hx hb hX hbl hbA hS (7 * i + 1) (by omega) (by omega) hL dL_law_230 ?_
  refine lv_aload_n hx hb dL_law_231 rfl (lv_at hl 1 rfl) ?_
  refine lv_iload hx hb dL_law_232 (lv_at hl 5 rfl) ?_
  refine r_const hx hb dL_law_234 ?_
  refine r_add hx hb dL_law_235 ?_
  refine r_sld hx hb hX hbl hbA hS (7 * i + 2) (by omega) (by omega) hL dL_law_236 ?_
  refine lv_aload_n hx hb dL_law_237 rfl (lv_at hl 1 rfl) ?_
  refine lv_iload hx hb dL_law_238 (lv_at hl 5 rfl) ?_
  refine r_const hx hb dL_law_240 ?_
  refine r_add hx hb dL_law_241 ?_
  refine r_sld hx hb hX hbl hbA hS (7 * i + 3) (by omega) (by omega) hL dL_law_242 ?_
  refine lv_aload_n hx hb dL_law_243 rfl (lv_at hl 1 rfl) ?_
  refine lv_iload hx hb dL_law_244 (lv_at hl 5 rfl) ?_
  refine r_const hx hb dL_law_246 ?_
  refine r_add hx hb dL_law_247 ?_
  refine r_sld hx hb hX hbl hbA hS (7 * i + 4) (by omega) (by omega) hL dL_law_248 ?_
  refine lv_aload_n hx hb dL_law_249 rfl (lv_at hl 1 rfl) ?_
  refine lv_iload hx hb dL_law_250 (lv_at hl 5 rfl) ?_
  refine r_const hx hb dL_law_252 ?_
  refine r_add hx hb dL_law_253 ?_
  refine r_sld hx hb hX hbl hbA hS (7 * i + 5) (by omega) (by omega) hL dL_law_254 ?_
  refine lv_aload_n hx hb dL_law_255 rfl (lv_at hl 1 rfl) ?_
  refine lv_iload hx hb dL_law_256 (lv_at hl 5 rfl) ?_
  refine lv_bipush (v := iv 6) hx hb dL_law_258 (by decide) ?_
  refine r_add hx hb dL_law_260 ?_
  refine r_sld hx hb hX hbl hbA hS (7 * i + 6) (by omega) (by omega) hL dL_law_261 ?_
  replace hP := wP_perm hP (pm3 _ _ _)
  replace hD := wD_perm hD (pm3 _ _ _)
  have hp : List.Perm (wMod G mb th cs ++ ([(w, .inl (G 5, 1, .inr (.inl (F2))))] ++ wC G a ar az ad2 ap2 ts2 ((opPose cs ((xs (7 * i + 1)).toInt) ((xs (7 * i + 2)).toInt) ((xs (7 * i + 3)).toInt) ((xs (7 * i + 4)).toInt) ((xs (7 * i + 5)).toInt) ((xs (7 * i + 6)).toInt)).2.2))) (wMod G mb th cs ++ ([(w, .inl (G 5, 1, .inr (.inl (F2))))] ++ wC G a ar az ad2 ap2 ts2 ((opPose cs ((xs (7 * i + 1)).toInt) ((xs (7 * i + 2)).toInt) ((xs (7 * i + 3)).toInt) ((xs (7 * i + 4)).toInt) ((xs (7 * i + 5)).toInt) ((xs (7 * i + 6)).toInt)).2.2))) := List.Perm.refl _
  refine k_int (g_V (As := [.int (iv ((xs (7 * i + 1)).toInt)), .int (iv ((xs (7 * i + 2)).toInt)), .int (iv ((xs (7 * i + 3)).toInt)), .int (iv ((xs (7 * i + 4)).toInt)), .int (iv ((xs (7 * i + 5)).toInt)), .int (iv ((xs (7 * i + 6)).toInt))]) (rest := []) (q0 := 0) (ci := 3) ⟨hx, hb, hml, hown, hts⟩ (c_X3_pose l D G mb th cs hok ((xs (7 * i + 1)).toInt) ((xs (7 * i + 2)).toInt) ((xs (7 * i + 3)).toInt) ((xs (7 * i + 4)).toInt) ((xs (7 * i + 5)).toInt) ((xs (7 * i + 6)).toInt) (xs_rng _) (xs_rng _) (xs_rng _) (xs_rng _) (xs_rng _) (xs_rng _)) (cwV 6 hts gL_law_X3_pose rfl rfl rfl (by decide +kernel) ⟨Nat.le_of_ble_eq_true rfl, Nat.le_of_ble_eq_true rfl⟩) hK hP hD hp rfl rfl rfl rfl hl.1 rfl (Nat.le_of_ble_eq_true rfl) dL_law_262 ⟨Nat.le_trans (by omega) hc1, Nat.le_trans (by omega) hc2⟩) hP hD hS hA hp (fun v u H locs hw hP hD hS => ?_)
  obtain ⟨rfl, rfl⟩ := hw
  replace hP : va_P D vwCl (wMod G mb ((opPose cs ((xs (7 * i + 1)).toInt) ((xs (7 * i + 2)).toInt) ((xs (7 * i + 3)).toInt) ((xs (7 * i + 4)).toInt) ((xs (7 * i + 5)).toInt) ((xs (7 * i + 6)).toInt)).1) ((opPose cs ((xs (7 * i + 1)).toInt) ((xs (7 * i + 2)).toInt) ((xs (7 * i + 3)).toInt) ((xs (7 * i + 4)).toInt) ((xs (7 * i + 5)).toInt) ((xs (7 * i + 6)).toInt)).2.2) ++ ([(w, .inl (G 5, 1, .inr (.inl (F2))))] ++ wC G a ar az ad2 ap2 ts2 ((opPose cs ((xs (7 * i + 1)).toInt) ((xs (7 * i + 2)).toInt) ((xs (7 * i + 3)).toInt) ((xs (7 * i + 4)).toInt) ((xs (7 * i + 5)).toInt) ((xs (7 * i + 6)).toInt)).2.2))) H := hP
  replace hD : va_D A (wMod G mb ((opPose cs ((xs (7 * i + 1)).toInt) ((xs (7 * i + 2)).toInt) ((xs (7 * i + 3)).toInt) ((xs (7 * i + 4)).toInt) ((xs (7 * i + 5)).toInt) ((xs (7 * i + 6)).toInt)).1) ((opPose cs ((xs (7 * i + 1)).toInt) ((xs (7 * i + 2)).toInt) ((xs (7 * i + 3)).toInt) ((xs (7 * i + 4)).toInt) ((xs (7 * i + 5)).toInt) ((xs (7 * i + 6)).toInt)).2.2) ++ ([(w, .inl (G 5, 1, .inr (.inl (F2))))] ++ wC G a ar az ad2 ap2 ts2 ((opPose cs ((xs (7 * i + 1)).toInt) ((xs (7 * i + 2)).toInt) ((xs (7 * i + 3)).toInt) ((xs (7 * i + 4)).toInt) ((xs (7 * i + 5)).toInt) ((xs (7 * i + 6)).toInt)).2.2))) := hD
  replace hP := wP_perm hP (pm3 _ _ _).symm
  replace hD := wD_perm hD (pm3 _ _ _).symm
  have hP : va_P D vwCl (wOut G w F2 ++ (wMod G mb ((opPose cs ((xs (7 * i + 1)).toInt) ((xs (7 * i + 2)).toInt) ((xs (7 * i + 3)).toInt) ((xs (7 * i + 4)).toInt) ((xs (7 * i + 5)).toInt) ((xs (7 * i + 6)).toInt)).1) ((opPose cs ((xs (7 * i + 1)).toInt) ((xs (7 * i + 2)).toInt) ((xs (7 * i + 3)).toInt) ((xs (7 * i + 4)).toInt) ((xs (7 * i + 5)).toInt) ((xs (7 * i + 6)).toInt)).2.2) ++ wC G a ar az ad2 ap2 ts2 ((opPose cs ((xs (7 * i + 1)).toInt) ((xs (7 * i + 2)).toInt) ((xs (7 * i + 3)).toInt) ((xs (7 * i + 4)).toInt) ((xs (7 * i + 5)).toInt) ((xs (7 * i + 6)).toInt)).2.2))) H := hP
  have hD : va_D A (wOut G w F2 ++ (wMod G mb ((opPose cs ((xs (7 * i + 1)).toInt) ((xs (7 * i + 2)).toInt) ((xs (7 * i + 3)).toInt) ((xs (7 * i + 4)).toInt) ((xs (7 * i + 5)).toInt) ((xs (7 * i + 6)).toInt)).1) ((opPose cs ((xs (7 * i + 1)).toInt) ((xs (7 * i + 2)).toInt) ((xs (7 * i + 3)).toInt) ((xs (7 * i + 4)).toInt) ((xs (7 * i + 5)).toInt) ((xs (7 * i + 6)).toInt)).2.2) ++ wC G a ar az ad2 ap2 ts2 ((opPose cs ((xs (7 * i + 1)).toInt) ((xs (7 * i + 2)).toInt) ((xs (7 * i + 3)).toInt) ((xs (7 * i + 4)).toInt) ((xs (7 * i + 5)).toInt) ((xs (7 * i + 6)).toInt)).2.2))) := hD
  refine lv_istore (lv' := [(6, .int (iv ((opPose cs ((xs (7 * i + 1)).toInt) ((xs (7 * i + 2)).toInt) ((xs (7 * i + 3)).toInt) ((xs (7 * i + 4)).toInt) ((xs (7 * i + 5)).toInt) ((xs (7 * i + 6)).toInt)).2.1))), (5, .int (iv ((opPose cs ((xs (7 * i + 1)).toInt) ((xs (7 * i + 2)).toInt) ((xs (7 * i + 3)).toInt) ((xs (7 * i + 4)).toInt) ((xs (7 * i + 5)).toInt) ((xs (7 * i + 6)).toInt)).1))), (0, .ref b), (1, .ref (a 0)), (2, .ref (mb 0)), (3, .ref w), (4, .int (iv ((7 * i : Nat) : Int)))]) hx hb dL_law_265 hl (by decide) rfl (fun ls hl => ?_)
  refine lv_aload_n hx hb dL_law_267 rfl (lv_at hl 4 rfl) ?_
  replace hP := wP_perm hP (pm3 _ _ _)
  replace hD := wD_perm hD (pm3 _ _ _)
  have hp : List.Perm (wMod G mb ((opPose cs ((xs (7 * i + 1)).toInt) ((xs (7 * i + 2)).toInt) ((xs (7 * i + 3)).toInt) ((xs (7 * i + 4)).toInt) ((xs (7 * i + 5)).toInt) ((xs (7 * i + 6)).toInt)).1) ((opPose cs ((xs (7 * i + 1)).toInt) ((xs (7 * i + 2)).toInt) ((xs (7 * i + 3)).toInt) ((xs (7 * i + 4)).toInt) ((xs (7 * i + 5)).toInt) ((xs (7 * i + 6)).toInt)).2.2) ++ ([(w, .inl (G 5, 1, .inr (.inl (F2))))] ++ wC G a ar az ad2 ap2 ts2 ((opPose cs ((xs (7 * i + 1)).toInt) ((xs (7 * i + 2)).toInt) ((xs (7 * i + 3)).toInt) ((xs (7 * i + 4)).toInt) ((xs (7 * i + 5)).toInt) ((xs (7 * i + 6)).toInt)).2.2))) ([wM0 mb ((opPose cs ((xs (7 * i + 1)).toInt) ((xs (7 * i + 2)).toInt) ((xs (7 * i + 3)).toInt) ((xs (7 * i + 4)).toInt) ((xs (7 * i + 5)).toInt) ((xs (7 * i + 6)).toInt)).1) (kn ((opPose cs ((xs (7 * i + 1)).toInt) ((xs (7 * i + 2)).toInt) ((xs (7 * i + 3)).toInt) ((xs (7 * i + 4)).toInt) ((xs (7 * i + 5)).toInt) ((xs (7 * i + 6)).toInt)).2.2) : Int) (kp ((opPose cs ((xs (7 * i + 1)).toInt) ((xs (7 * i + 2)).toInt) ((xs (7 * i + 3)).toInt) ((xs (7 * i + 4)).toInt) ((xs (7 * i + 5)).toInt) ((xs (7 * i + 6)).toInt)).2.2) : Int) (km ((opPose cs ((xs (7 * i + 1)).toInt) ((xs (7 * i + 2)).toInt) ((xs (7 * i + 3)).toInt) ((xs (7 * i + 4)).toInt) ((xs (7 * i + 5)).toInt) ((xs (7 * i + 6)).toInt)).2.2))] ++ ((wMod G mb ((opPose cs ((xs (7 * i + 1)).toInt) ((xs (7 * i + 2)).toInt) ((xs (7 * i + 3)).toInt) ((xs (7 * i + 4)).toInt) ((xs (7 * i + 5)).toInt) ((xs (7 * i + 6)).toInt)).1) ((opPose cs ((xs (7 * i + 1)).toInt) ((xs (7 * i + 2)).toInt) ((xs (7 * i + 3)).toInt) ((xs (7 * i + 4)).toInt) ((xs (7 * i + 5)).toInt) ((xs (7 * i + 6)).toInt)).2.2)).tail ++ ([(w, .inl (G 5, 1, .inr (.inl (F2))))] ++ wC G a ar az ad2 ap2 ts2 ((opPose cs ((xs (7 * i + 1)).toInt) ((xs (7 * i + 2)).toInt) ((xs (7 * i + 3)).toInt) ((xs (7 * i + 4)).toInt) ((xs (7 * i + 5)).toInt) ((xs (7 * i + 6)).toInt)).2.2)))) := List.Perm.refl _
  refine k_int (g_V (As := []) (rest := []) (q0 := 0) (ci := 3) ⟨hx, hb, hml, hown, hts⟩ (c_X3_thrown l D G mb ((opPose cs ((xs (7 * i + 1)).toInt) ((xs (7 * i + 2)).toInt) ((xs (7 * i + 3)).toInt) ((xs (7 * i + 4)).toInt) ((xs (7 * i + 5)).toInt) ((xs (7 * i + 6)).toInt)).1) (kn ((opPose cs ((xs (7 * i + 1)).toInt) ((xs (7 * i + 2)).toInt) ((xs (7 * i + 3)).toInt) ((xs (7 * i + 4)).toInt) ((xs (7 * i + 5)).toInt) ((xs (7 * i + 6)).toInt)).2.2) : Int) (kp ((opPose cs ((xs (7 * i + 1)).toInt) ((xs (7 * i + 2)).toInt) ((xs (7 * i + 3)).toInt) ((xs (7 * i + 4)).toInt) ((xs (7 * i + 5)).toInt) ((xs (7 * i + 6)).toInt)).2.2) : Int) (km ((opPose cs ((xs (7 * i + 1)).toInt) ((xs (7 * i + 2)).toInt) ((xs (7 * i + 3)).toInt) ((xs (7 * i + 4)).toInt) ((xs (7 * i + 5)).toInt) ((xs (7 * i + 6)).toInt)).2.2))) (cwV 0 hts gL_law_X3_thrown rfl rfl rfl (by decide +kernel) ⟨Nat.le_of_ble_eq_true rfl, Nat.le_of_ble_eq_true rfl⟩) hK hP hD hp rfl rfl rfl rfl hl.1 rfl (Nat.le_of_ble_eq_true rfl) dL_law_268 ⟨Nat.le_trans (by omega) hc1, Nat.le_trans (by omega) hc2⟩) hP hD hS hA hp (fun v u H locs hw hP hD hS => ?_)
  obtain ⟨rfl, rfl⟩ := hw
  replace hP : va_P D vwCl (wMod G mb ((opPose cs ((xs (7 * i + 1)).toInt) ((xs (7 * i + 2)).toInt) ((xs (7 * i + 3)).toInt) ((xs (7 * i + 4)).toInt) ((xs (7 * i + 5)).toInt) ((xs (7 * i + 6)).toInt)).1) ((opPose cs ((xs (7 * i + 1)).toInt) ((xs (7 * i + 2)).toInt) ((xs (7 * i + 3)).toInt) ((xs (7 * i + 4)).toInt) ((xs (7 * i + 5)).toInt) ((xs (7 * i + 6)).toInt)).2.2) ++ ([(w, .inl (G 5, 1, .inr (.inl (F2))))] ++ wC G a ar az ad2 ap2 ts2 ((opPose cs ((xs (7 * i + 1)).toInt) ((xs (7 * i + 2)).toInt) ((xs (7 * i + 3)).toInt) ((xs (7 * i + 4)).toInt) ((xs (7 * i + 5)).toInt) ((xs (7 * i + 6)).toInt)).2.2))) H := hP
  replace hD : va_D A (wMod G mb ((opPose cs ((xs (7 * i + 1)).toInt) ((xs (7 * i + 2)).toInt) ((xs (7 * i + 3)).toInt) ((xs (7 * i + 4)).toInt) ((xs (7 * i + 5)).toInt) ((xs (7 * i + 6)).toInt)).1) ((opPose cs ((xs (7 * i + 1)).toInt) ((xs (7 * i + 2)).toInt) ((xs (7 * i + 3)).toInt) ((xs (7 * i + 4)).toInt) ((xs (7 * i + 5)).toInt) ((xs (7 * i + 6)).toInt)).2.2) ++ ([(w, .inl (G 5, 1, .inr (.inl (F2))))] ++ wC G a ar az ad2 ap2 ts2 ((opPose cs ((xs (7 * i + 1)).toInt) ((xs (7 * i + 2)).toInt) ((xs (7 * i + 3)).toInt) ((xs (7 * i + 4)).toInt) ((xs (7 * i + 5)).toInt) ((xs (7 * i + 6)).toInt)).2.2))) := hD
  replace hP := wP_perm hP (pm3 _ _ _).symm
  replace hD := wD_perm hD (pm3 _ _ _).symm
  have hP : va_P D vwCl (wOut G w F2 ++ (wMod G mb ((opPose cs ((xs (7 * i + 1)).toInt) ((xs (7 * i + 2)).toInt) ((xs (7 * i + 3)).toInt) ((xs (7 * i + 4)).toInt) ((xs (7 * i + 5)).toInt) ((xs (7 * i + 6)).toInt)).1) ((opPose cs ((xs (7 * i + 1)).toInt) ((xs (7 * i + 2)).toInt) ((xs (7 * i + 3)).toInt) ((xs (7 * i + 4)).toInt) ((xs (7 * i + 5)).toInt) ((xs (7 * i + 6)).toInt)).2.2) ++ wC G a ar az ad2 ap2 ts2 ((opPose cs ((xs (7 * i + 1)).toInt) ((xs (7 * i + 2)).toInt) ((xs (7 * i + 3)).toInt) ((xs (7 * i + 4)).toInt) ((xs (7 * i + 5)).toInt) ((xs (7 * i + 6)).toInt)).2.2))) H := hP
  have hD : va_D A (wOut G w F2 ++ (wMod G mb ((opPose cs ((xs (7 * i + 1)).toInt) ((xs (7 * i + 2)).toInt) ((xs (7 * i + 3)).toInt) ((xs (7 * i + 4)).toInt) ((xs (7 * i + 5)).toInt) ((xs (7 * i + 6)).toInt)).1) ((opPose cs ((xs (7 * i + 1)).toInt) ((xs (7 * i + 2)).toInt) ((xs (7 * i + 3)).toInt) ((xs (7 * i + 4)).toInt) ((xs (7 * i + 5)).toInt) ((xs (7 * i + 6)).toInt)).2.2) ++ wC G a ar az ad2 ap2 ts2 ((opPose cs ((xs (7 * i + 1)).toInt) ((xs (7 * i + 2)).toInt) ((xs (7 * i + 3)).toInt) ((xs (7 * i + 4)).toInt) ((xs (7 * i + 5)).toInt) ((xs (7 * i + 6)).toInt)).2.2))) := hD
  refine lv_iload hx hb dL_law_271 (lv_at hl 1 rfl) ?_
  refine lv_icmp_eq (tgt := 278) hx hb dL_law_273 (by decide) (fun _ => ?_) (fun h9 => absurd rfl h9)
  refine lv_iload hx hb dL_law_278 (lv_at hl 1 rfl) ?_
  refine lv_if_ne (tgt := 295) hx hb dL_law_280 (by decide) (fun c_280 => ?_) (fun c_280 => ?_)
  · skip
    refine r_goto hx hb 1381 dL_law_295 (by decide) ?_
    exact W.widen (by omega) (by omega) (kk ((opPose cs ((xs (7 * i + 1)).toInt) ((xs (7 * i + 2)).toInt) ((xs (7 * i + 3)).toInt) ((xs (7 * i + 4)).toInt) ((xs (7 * i + 5)).toInt) ((xs (7 * i + 6)).toInt)).1) ((opPose cs ((xs (7 * i + 1)).toInt) ((xs (7 * i + 2)).toInt) ((xs (7 * i + 3)).toInt) ((xs (7 * i + 4)).toInt) ((xs (7 * i + 5)).toInt) ((xs (7 * i + 6)).toInt)).2.2) ad2 ap2 ts2 F2 _ _ hP hD hS _ (lv_sub hl [2, 3, 4, 5, 6] rfl) (g_pose hok _ _ _ _ _ _).1 (g_pose hok _ _ _ _ _ _).2)
  · have hF0 := hF c_280
    refine lv_aload_n hx hb dL_law_283 rfl (lv_at hl 5 rfl) ?_
    refine r_const hx hb dL_law_284 ?_
    refine r_lald0 (F := F2) hx hb hK hP 0 rfl dL_law_285 ?_
    refine lv_iload hx hb dL_law_286 (lv_at hl 0 rfl) ?_
    refine lv_i2l (v := ((iv ((opPose cs ((xs (7 * i + 1)).toInt) ((xs (7 * i + 2)).toInt) ((xs (7 * i + 3)).toInt) ((xs (7 * i + 4)).toInt) ((xs (7 * i + 5)).toInt) ((xs (7 * i + 6)).toInt)).2.1))).toInt64) hx hb dL_law_288 rfl ?_
    rw [hF0]
    refine r_lcmp_eq hx hb dL_law_289 ?_
    refine lv_if_eq (tgt := 295) hx hb dL_law_290 (by decide) (fun _ => ?_) (fun h9 => absurd rfl h9)
    refine r_goto hx hb 1381 dL_law_295 (by decide) ?_
    exact W.widen (by omega) (by omega) (kk ((opPose cs ((xs (7 * i + 1)).toInt) ((xs (7 * i + 2)).toInt) ((xs (7 * i + 3)).toInt) ((xs (7 * i + 4)).toInt) ((xs (7 * i + 5)).toInt) ((xs (7 * i + 6)).toInt)).1) ((opPose cs ((xs (7 * i + 1)).toInt) ((xs (7 * i + 2)).toInt) ((xs (7 * i + 3)).toInt) ((xs (7 * i + 4)).toInt) ((xs (7 * i + 5)).toInt) ((xs (7 * i + 6)).toInt)).2.2) ad2 ap2 ts2 F2 _ _ hP hD hS _ (lv_sub hl [2, 3, 4, 5, 6] rfl) (g_pose hok _ _ _ _ _ _).1 (g_pose hok _ _ _ _ _ _).2)
set_option maxHeartbeats 4000000 in
set_option maxRecDepth 100000 in
theorem k_law_take {p : Program} {l : Launch} {e : Env} {s : State} {m : MethodId} {below : List Frame} {meth : Method} {c : Code} {H : Heap} {locs : List Loc} {cells slots : Nat} {ls : Array Slot} {A : Nat → Prop} {Q : State → Prop} {D : va_G} {G : Nat → ClassId} {b L : Nat} {xs : Nat → Int32} (hB : LB p l s m meth c D G b L xs A) {a ar az mb : Nat → Nat} {ad ap : AD} {ts : DS} {cs : CS} {th : Int} {w : Nat} {F : Nat → Int64} {i : Nat} (hi : 7 * i + 7 ≤ L) (hok : okC cs) (hdl : kd cs ≤ 1000000) (hc1 : cells + 10 ≤ room_1.cells) (hc2 : slots + 250 ≤ room_1.slots) (hP : va_P D vwCl (wOut G w F ++ (wMod G mb th cs ++ wC G a ar az ad ap ts cs)) H) (hD : va_D A (wOut G w F ++ (wMod G mb th cs ++ wC G a ar az ad ap ts cs))) (hS : va_S A s.heap H locs) (hl : lv_has ls 9 [(0, .ref b), (1, .ref (a 0)), (2, .ref (mb 0)), (3, .ref w), (4, .int (iv ((7 * i : Nat) : Int)))])
  (kk : ∀ (th : Int) (cs2 : CS) (ad ap : AD) (ts : DS) (F : Nat → Int64) (H : Heap) (locs : List Loc), va_P D vwCl (wOut G w F ++ (wMod G mb th cs2 ++ wC G a ar az ad ap ts cs2)) H → va_D A (wOut G w F ++ (wMod G mb th cs2 ++ wC G a ar az ad ap ts cs2)) → va_S A s.heap H locs → ∀ (ls : Array Slot), lv_has ls 9 [(0, .ref b), (1, .ref (a 0)), (2, .ref (mb 0)), (3, .ref w), (4, .int (iv ((7 * i : Nat) : Int)))] → okC cs2 → kd cs2 ≤ kd cs + 60 → W p l e room_1 s m #[Value.ref b] below meth c H locs (cells + 10) (slots + 250) Q (F0 m 1381 ls [])) : W p l e room_1 s m #[Value.ref b] below meth c H locs cells slots Q (F0 m 298 ls []) := by
  obtain ⟨hx, hb, hml, hown, hts, hK, hT, hN, hA, hX, hbl, hbA, hL, hl0⟩ := hB
  refine lv_aload_n hx hb dL_law_298 rfl (lv_at hl 1 rfl) ?_
  refine lv_aload_n hx hb dL_law_299 rfl (lv_at hl 0 rfl) ?_
  refine lv_iload hx hb dL_law_300 (lv_at hl 4 rfl) ?_
  refine r_const hx hb dL_law_302 ?_
  refine r_add hx hb dL_law_303 ?_
  refine r_sld hx hb hX hbl hbA hS (7 * i + 1) (by omega) (by omega) hL dL_law_304 ?_
  refine lv_aload_n hx hb dL_law_305 rfl (lv_at hl 0 rfl) ?_
  refine lv_iload hx hb dL_law_306 (lv_at hl 4 rfl) ?_
  refine r_const hx hb dL_law_308 ?_
  refine r_add hx hb dL_law_309 ?_
  refine r_sld hx hb hX hbl hbA hS (7 * i + 2) (by omega) (by omega) hL dL_law_310 ?_
  refine lv_aload_n hx hb dL_law_311 rfl (lv_at hl 3 rfl) ?_
  refine k_int (g_SH (As := [.ref (a 0), .int (iv ((xs (7 * i + 1)).toInt)), .int (iv ((xs (7 * i + 2)).toInt)), .ref w]) (rest := []) ⟨hx, hb, hml, hown, hts⟩ (c_L_take l D G hl0 a ar az ad ap ts cs hok w F ((xs (7 * i + 1)).toInt) ((xs (7 * i + 2)).toInt) (xs_rng _) (xs_rng _)) (vx_cwSW 4 hts gL_law_L_take rfl rfl rfl (by decide +kernel) ⟨Nat.le_of_ble_eq_true rfl, Nat.le_of_ble_eq_true rfl⟩) hK hT hN hA hP hD hS (pm1 _ _ _) rfl hl.1 rfl (Nat.le_of_ble_eq_true rfl) dL_law_312 ⟨Nat.le_trans (by omega) hc1, Nat.le_trans (by omega) hc2⟩) hP hD hS hA (pm1 _ _ _) (fun v u H locs hw hP hD hS => ?_)
  obtain ⟨rfl, ad2, ap2, ts2, F2, rfl, hF⟩ := hw
  have hP := wP_perm hP (pm1 _ _ _).symm
  have hD := wD_perm hD (pm1 _ _ _).symm
  have hP : va_P D vwCl (wOut G w F2 ++ (wMod G mb th cs ++ wC G a ar az ad2 ap2 ts2 ((opTake cs ((xs (7 * i + 1)).toInt) ((xs (7 * i + 2)).toInt)).2.2))) H := hP
  have hD : va_D A (wOut G w F2 ++ (wMod G mb th cs ++ wC G a ar az ad2 ap2 ts2 ((opTake cs ((xs (7 * i + 1)).toInt) ((xs (7 * i + 2)).toInt)).2.2))) := hD
  refine lv_istore (lv' := [(5, .int (iv ((opTake cs ((xs (7 * i + 1)).toInt) ((xs (7 * i + 2)).toInt)).1))), (0, .ref b), (1, .ref (a 0)), (2, .ref (mb 0)), (3, .ref w), (4, .int (iv ((7 * i : Nat) : Int)))]) hx hb dL_law_315 hl (by decide) rfl (fun ls hl => ?_)
  refine lv_aload_n hx hb dL_law_317 rfl (lv_at hl 3 rfl) ?_
  refine lv_aload_n hx hb dL_law_318 rfl (lv_at hl 1 rfl) ?_
  refine lv_iload hx hb dL_law_319 (lv_at hl 5 rfl) ?_
  refine r_const hx hb dL_law_321 ?_
  refine r_add hx hb dL_law_322 ?_
  refine r_sld hx hb hX hbl hbA hS (7 * i + 1) (by omega) (by omega) hL dL_law_323 ?_
  refine lv_aload_n hx hb dL_law_324 rfl (lv_at hl 1 rfl) ?_
  refine lv_iload hx hb dL_law_325 (lv_at hl 5 rfl) ?_
  refine r_const hx hb dL_law_327 ?_
  refine r_add hx hb dL_law_328 ?_
  refine r_sld hx hb hX hbl hbA hS (7 * i + 2) (by omega) (by omega) hL dL_law_329 ?_
  replace hP := wP_perm hP (pm3 _ _ _)
  replace hD := wD_perm hD (pm3 _ _ _)
  have hp : List.Perm (wMod G mb th cs ++ ([(w, .inl (G 5, 1, .inr (.inl (F2))))] ++ wC G a ar az ad2 ap2 ts2 ((opTake cs ((xs (7 * i + 1)).toInt) ((xs (7 * i + 2)).toInt)).2.2))) (wMod G mb th cs ++ ([(w, .inl (G 5, 1, .inr (.inl (F2))))] ++ wC G a ar az ad2 ap2 ts2 ((opTake cs ((xs (7 * i + 1)).toInt) ((xs (7 * i + 2)).toInt)).2.2))) := List.Perm.refl _
  refine k_int (g_V (As := [.int (iv ((xs (7 * i + 1)).toInt)), .int (iv ((xs (7 * i + 2)).toInt))]) (rest := []) (q0 := 0) (ci := 3) ⟨hx, hb, hml, hown, hts⟩ (c_X3_take l D G mb th cs hok ((xs (7 * i + 1)).toInt) ((xs (7 * i + 2)).toInt) (xs_rng _) (xs_rng _)) (cwV 2 hts gL_law_X3_take rfl rfl rfl (by decide +kernel) ⟨Nat.le_of_ble_eq_true rfl, Nat.le_of_ble_eq_true rfl⟩) hK hP hD hp rfl rfl rfl rfl hl.1 rfl (Nat.le_of_ble_eq_true rfl) dL_law_330 ⟨Nat.le_trans (by omega) hc1, Nat.le_trans (by omega) hc2⟩) hP hD hS hA hp (fun v u H locs hw hP hD hS => ?_)
  obtain ⟨rfl, rfl⟩ := hw
  replace hP : va_P D vwCl (wMod G mb ((opTake cs ((xs (7 * i + 1)).toInt) ((xs (7 * i + 2)).toInt)).1) ((opTake cs ((xs (7 * i + 1)).toInt) ((xs (7 * i + 2)).toInt)).2.2) ++ ([(w, .inl (G 5, 1, .inr (.inl (F2))))] ++ wC G a ar az ad2 ap2 ts2 ((opTake cs ((xs (7 * i + 1)).toInt) ((xs (7 * i + 2)).toInt)).2.2))) H := hP
  replace hD : va_D A (wMod G mb ((opTake cs ((xs (7 * i + 1)).toInt) ((xs (7 * i + 2)).toInt)).1) ((opTake cs ((xs (7 * i + 1)).toInt) ((xs (7 * i + 2)).toInt)).2.2) ++ ([(w, .inl (G 5, 1, .inr (.inl (F2))))] ++ wC G a ar az ad2 ap2 ts2 ((opTake cs ((xs (7 * i + 1)).toInt) ((xs (7 * i + 2)).toInt)).2.2))) := hD
  replace hP := wP_perm hP (pm3 _ _ _).symm
  replace hD := wD_perm hD (pm3 _ _ _).symm
  have hP : va_P D vwCl (wOut G w F2 ++ (wMod G mb ((opTake cs ((xs (7 * i + 1)).toInt) ((xs (7 * i + 2)).toInt)).1) ((opTake cs ((xs (7 * i + 1)).toInt) ((xs (7 * i + 2)).toInt)).2.2) ++ wC G a ar az ad2 ap2 ts2 ((opTake cs ((xs (7 * i + 1)).toInt) ((xs (7 * i + 2)).toInt)).2.2))) H := hP
  have hD : va_D A (wOut G w F2 ++ (wMod G mb ((opTake cs ((xs (7 * i + 1)).toInt) ((xs (7 * i + 2)).toInt)).1) ((opTake cs ((xs (7 * i + 1)).toInt) ((xs (7 * i + 2)).toInt)).2.2) ++ wC G a ar az ad2 ap2 ts2 ((opTake cs ((xs (7 * i + 1)).toInt) ((xs (7 * i + 2)).toInt)).2.2))) := hD
  refine lv_istore (lv' := [(6, .int (iv ((opTake cs ((xs (7 * i + 1)).toInt) ((xs (7 * i + 2)).toInt)).2.1))), (5, .int (iv ((opTake cs ((xs (7 * i + 1)).toInt) ((xs (7 * i + 2)).toInt)).1))), (0, .ref b), (1, .ref (a 0)), (2, .ref (mb 0)), (3, .ref w), (4, .int (iv ((7 * i : Nat) : Int)))]) hx hb dL_law_333 hl (by decide) rfl (fun ls hl => ?_)
  refine lv_aload_n hx hb dL_law_335 rfl (lv_at hl 4 rfl) ?_
  replace hP := wP_perm hP (pm3 _ _ _)
  replace hD := wD_perm hD (pm3 _ _ _)
  have hp : List.Perm (wMod G mb ((opTake cs ((xs (7 * i + 1)).toInt) ((xs (7 * i + 2)).toInt)).1) ((opTake cs ((xs (7 * i + 1)).toInt) ((xs (7 * i + 2)).toInt)).2.2) ++ ([(w, .inl (G 5, 1, .inr (.inl (F2))))] ++ wC G a ar az ad2 ap2 ts2 ((opTake cs ((xs (7 * i + 1)).toInt) ((xs (7 * i + 2)).toInt)).2.2))) ([wM0 mb ((opTake cs ((xs (7 * i + 1)).toInt) ((xs (7 * i + 2)).toInt)).1) (kn ((opTake cs ((xs (7 * i + 1)).toInt) ((xs (7 * i + 2)).toInt)).2.2) : Int) (kp ((opTake cs ((xs (7 * i + 1)).toInt) ((xs (7 * i + 2)).toInt)).2.2) : Int) (km ((opTake cs ((xs (7 * i + 1)).toInt) ((xs (7 * i + 2)).toInt)).2.2))] ++ ((wMod G mb ((opTake cs ((xs (7 * i + 1)).toInt) ((xs (7 * i + 2)).toInt)).1) ((opTake cs ((xs (7 * i + 1)).toInt) ((xs (7 * i + 2)).toInt)).2.2)).tail ++ ([(w, .inl (G 5, 1, .inr (.inl (F2))))] ++ wC G a ar az ad2 ap2 ts2 ((opTake cs ((xs (7 * i + 1)).toInt) ((xs (7 * i + 2)).toInt)).2.2)))) := List.Perm.refl _
  refine k_int (g_V (As := []) (rest := []) (q0 := 0) (ci := 3) ⟨hx, hb, hml, hown, hts⟩ (c_X3_thrown l D G mb ((opTake cs ((xs (7 * i + 1)).toInt) ((xs (7 * i + 2)).toInt)).1) (kn ((opTake cs ((xs (7 * i + 1)).toInt) ((xs (7 * i + 2)).toInt)).2.2) : Int) (kp ((opTake cs ((xs (7 * i + 1)).toInt) ((xs (7 * i + 2)).toInt)).2.2) : Int) (km ((opTake cs ((xs (7 * i + 1)).toInt) ((xs (7 * i + 2)).toInt)).2.2))) (cwV 0 hts gL_law_X3_thrown rfl rfl rfl (by decide +kernel) ⟨Nat.le_of_ble_eq_true rfl, Nat.le_of_ble_eq_true rfl⟩) hK hP hD hp rfl rfl rfl rfl hl.1 rfl (Nat.le_of_ble_eq_true rfl) dL_law_336 ⟨Nat.le_trans (by omega) hc1, Nat.le_trans (by omega) hc2⟩) hP hD hS hA hp (fun v u H locs hw hP hD hS => ?_)
  obtain ⟨rfl, rfl⟩ := hw
  replace hP : va_P D vwCl (wMod G mb ((opTake cs ((xs (7 * i + 1)).toInt) ((xs (7 * i + 2)).toInt)).1) ((opTake cs ((xs (7 * i + 1)).toInt) ((xs (7 * i + 2)).toInt)).2.2) ++ ([(w, .inl (G 5, 1, .inr (.inl (F2))))] ++ wC G a ar az ad2 ap2 ts2 ((opTake cs ((xs (7 * i + 1)).toInt) ((xs (7 * i + 2)).toInt)).2.2))) H := hP
  replace hD : va_D A (wMod G mb ((opTake cs ((xs (7 * i + 1)).toInt) ((xs (7 * i + 2)).toInt)).1) ((opTake cs ((xs (7 * i + 1)).toInt) ((xs (7 * i + 2)).toInt)).2.2) ++ ([(w, .inl (G 5, 1, .inr (.inl (F2))))] ++ wC G a ar az ad2 ap2 ts2 ((opTake cs ((xs (7 * i + 1)).toInt) ((xs (7 * i + 2)).toInt)).2.2))) := hD
  replace hP := wP_perm hP (pm3 _ _ _).symm
  replace hD := wD_perm hD (pm3 _ _ _).symm
  have hP : va_P D vwCl (wOut G w F2 ++ (wMod G mb ((opTake cs ((xs (7 * i + 1)).toInt) ((xs (7 * i + 2)).toInt)).1) ((opTake cs ((xs (7 * i + 1)).toInt) ((xs (7 * i + 2)).toInt)).2.2) ++ wC G a ar az ad2 ap2 ts2 ((opTake cs ((xs (7 * i + 1)).toInt) ((xs (7 * i + 2)).toInt)).2.2))) H := hP
  have hD : va_D A (wOut G w F2 ++ (wMod G mb ((opTake cs ((xs (7 * i + 1)).toInt) ((xs (7 * i + 2)).toInt)).1) ((opTake cs ((xs (7 * i + 1)).toInt) ((xs (7 * i + 2)).toInt)).2.2) ++ wC G a ar az ad2 ap2 ts2 ((opTake cs ((xs (7 * i + 1)).toInt) ((xs (7 * i + 2)).toInt)).2.2))) := hD
  refine lv_iload hx hb dL_law_339 (lv_at hl 1 rfl) ?_
  refine lv_icmp_eq (tgt := 346) hx hb dL_law_341 (by decide) (fun _ => ?_) (fun h9 => absurd rfl h9)
  refine lv_iload hx hb dL_law_346 (lv_at hl 1 rfl) ?_
  refine lv_if_ne (tgt := 363) hx hb dL_law_348 (by decide) (fun c_348 => ?_) (fun c_348 => ?_)
  · skip
    refine r_goto hx hb 1381 dL_law_363 (by decide) ?_
    exact W.widen (by omega) (by omega) (kk ((opTake cs ((xs (7 * i + 1)).toInt) ((xs (7 * i + 2)).toInt)).1) ((opTake cs ((xs (7 * i + 1)).toInt) ((xs (7 * i + 2)).toInt)).2.2) ad2 ap2 ts2 F2 _ _ hP hD hS _ (lv_sub hl [2, 3, 4, 5, 6] rfl) (g_take hok _ _).1 (g_take hok _ _).2)
  · have hF0 := hF c_348
    refine lv_aload_n hx hb dL_law_351 rfl (lv_at hl 5 rfl) ?_
    refine r_const hx hb dL_law_352 ?_
    refine r_lald0 (F := F2) hx hb hK hP 0 rfl dL_law_353 ?_
    refine lv_iload hx hb dL_law_354 (lv_at hl 0 rfl) ?_
    refine lv_i2l (v := ((iv ((opTake cs ((xs (7 * i + 1)).toInt) ((xs (7 * i + 2)).toInt)).2.1))).toInt64) hx hb dL_law_356 rfl ?_
    rw [hF0]
    refine r_lcmp_eq hx hb dL_law_357 ?_
    refine lv_if_eq (tgt := 363) hx hb dL_law_358 (by decide) (fun _ => ?_) (fun h9 => absurd rfl h9)
    refine r_goto hx hb 1381 dL_law_363 (by decide) ?_
    exact W.widen (by omega) (by omega) (kk ((opTake cs ((xs (7 * i + 1)).toInt) ((xs (7 * i + 2)).toInt)).1) ((opTake cs ((xs (7 * i + 1)).toInt) ((xs (7 * i + 2)).toInt)).2.2) ad2 ap2 ts2 F2 _ _ hP hD hS _ (lv_sub hl [2, 3, 4, 5, 6] rfl) (g_take hok _ _).1 (g_take hok _ _).2)
set_option maxHeartbeats 4000000 in
set_option maxRecDepth 100000 in
theorem k_law_blink {p : Program} {l : Launch} {e : Env} {s : State} {m : MethodId} {below : List Frame} {meth : Method} {c : Code} {H : Heap} {locs : List Loc} {cells slots : Nat} {ls : Array Slot} {A : Nat → Prop} {Q : State → Prop} {D : va_G} {G : Nat → ClassId} {b L : Nat} {xs : Nat → Int32} (hB : LB p l s m meth c D G b L xs A) {a ar az mb : Nat → Nat} {ad ap : AD} {ts : DS} {cs : CS} {th : Int} {w : Nat} {F : Nat → Int64} {i : Nat} (hi : 7 * i + 7 ≤ L) (hok : okC cs) (hdl : kd cs ≤ 1000000) (hc1 : cells + 10 ≤ room_1.cells) (hc2 : slots + 250 ≤ room_1.slots) (hP : va_P D vwCl (wOut G w F ++ (wMod G mb th cs ++ wC G a ar az ad ap ts cs)) H) (hD : va_D A (wOut G w F ++ (wMod G mb th cs ++ wC G a ar az ad ap ts cs))) (hS : va_S A s.heap H locs) (hl : lv_has ls 9 [(0, .ref b), (1, .ref (a 0)), (2, .ref (mb 0)), (3, .ref w), (4, .int (iv ((7 * i : Nat) : Int)))])
  (kk : ∀ (th : Int) (cs2 : CS) (ad ap : AD) (ts : DS) (F : Nat → Int64) (H : Heap) (locs : List Loc), va_P D vwCl (wOut G w F ++ (wMod G mb th cs2 ++ wC G a ar az ad ap ts cs2)) H → va_D A (wOut G w F ++ (wMod G mb th cs2 ++ wC G a ar az ad ap ts cs2)) → va_S A s.heap H locs → ∀ (ls : Array Slot), lv_has ls 9 [(0, .ref b), (1, .ref (a 0)), (2, .ref (mb 0)), (3, .ref w), (4, .int (iv ((7 * i : Nat) : Int)))] → okC cs2 → kd cs2 ≤ kd cs + 60 → W p l e room_1 s m #[Value.ref b] below meth c H locs (cells + 10) (slots + 250) Q (F0 m 1381 ls [])) : W p l e room_1 s m #[Value.ref b] below meth c H locs cells slots Q (F0 m 366 ls []) := by
  obtain ⟨hx, hb, hml, hown, hts, hK, hT, hN, hA, hX, hbl, hbA, hL, hl0⟩ := hB
  refine lv_aload_n hx hb dL_law_366 rfl (lv_at hl 1 rfl) ?_
  refine lv_aload_n hx hb dL_law_367 rfl (lv_at hl 0 rfl) ?_
  refine lv_iload hx hb dL_law_368 (lv_at hl 4 rfl) ?_
  refine r_const hx hb dL_law_370 ?_
  refine r_add hx hb dL_law_371 ?_
  refine r_sld hx hb hX hbl hbA hS (7 * i + 1) (by omega) (by omega) hL dL_law_372 ?_
  refine lv_aload_n hx hb dL_law_373 rfl (lv_at hl 0 rfl) ?_
  refine lv_iload hx hb dL_law_374 (lv_at hl 4 rfl) ?_
  refine r_const hx hb dL_law_376 ?_
  refine r_add hx hb dL_law_377 ?_
  refine r_sld hx hb hX hbl hbA hS (7 * i + 2) (by omega) (by omega) hL dL_law_378 ?_
  refine lv_aload_n hx hb dL_law_379 rfl (lv_at hl 3 rfl) ?_
  refine k_int (g_SH (As := [.ref (a 0), .int (iv ((xs (7 * i + 1)).toInt)), .int (iv ((xs (7 * i + 2)).toInt)), .ref w]) (rest := []) ⟨hx, hb, hml, hown, hts⟩ (c_L_blink l D G hl0 a ar az ad ap ts cs hok w F ((xs (7 * i + 1)).toInt) ((xs (7 * i + 2)).toInt) (xs_rng _) (xs_rng _)) (vx_cwSW 4 hts gL_law_L_blink rfl rfl rfl (by decide +kernel) ⟨Nat.le_of_ble_eq_true rfl, Nat.le_of_ble_eq_true rfl⟩) hK hT hN hA hP hD hS (pm1 _ _ _) rfl hl.1 rfl (Nat.le_of_ble_eq_true rfl) dL_law_380 ⟨Nat.le_trans (by omega) hc1, Nat.le_trans (by omega) hc2⟩) hP hD hS hA (pm1 _ _ _) (fun v u H locs hw hP hD hS => ?_)
  obtain ⟨rfl, ad2, ap2, ts2, F2, rfl, hF⟩ := hw
  have hP := wP_perm hP (pm1 _ _ _).symm
  have hD := wD_perm hD (pm1 _ _ _).symm
  have hP : va_P D vwCl (wOut G w F2 ++ (wMod G mb th cs ++ wC G a ar az ad2 ap2 ts2 ((opBlink cs ((xs (7 * i + 1)).toInt) ((xs (7 * i + 2)).toInt)).2.2))) H := hP
  have hD : va_D A (wOut G w F2 ++ (wMod G mb th cs ++ wC G a ar az ad2 ap2 ts2 ((opBlink cs ((xs (7 * i + 1)).toInt) ((xs (7 * i + 2)).toInt)).2.2))) := hD
  refine lv_istore (lv' := [(5, .int (iv ((opBlink cs ((xs (7 * i + 1)).toInt) ((xs (7 * i + 2)).toInt)).1))), (0, .ref b), (1, .ref (a 0)), (2, .ref (mb 0)), (3, .ref w), (4, .int (iv ((7 * i : Nat) : Int)))]) hx hb dL_law_383 hl (by decide) rfl (fun ls hl => ?_)
  refine lv_aload_n hx hb dL_law_385 rfl (lv_at hl 3 rfl) ?_
  refine lv_aload_n hx hb dL_law_386 rfl (lv_at hl 1 rfl) ?_
  refine lv_iload hx hb dL_law_387 (lv_at hl 5 rfl) ?_
  refine r_const hx hb dL_law_389 ?_
  refine r_add hx hb dL_law_390 ?_
  refine r_sld hx hb hX hbl hbA hS (7 * i + 1) (by omega) (by omega) hL dL_law_391 ?_
  refine lv_aload_n hx hb dL_law_392 rfl (lv_at hl 1 rfl) ?_
  refine lv_iload hx hb dL_law_393 (lv_at hl 5 rfl) ?_
  refine r_const hx hb dL_law_395 ?_
  refine r_add hx hb dL_law_396 ?_
  refine r_sld hx hb hX hbl hbA hS (7 * i + 2) (by omega) (by omega) hL dL_law_397 ?_
  replace hP := wP_perm hP (pm3 _ _ _)
  replace hD := wD_perm hD (pm3 _ _ _)
  have hp : List.Perm (wMod G mb th cs ++ ([(w, .inl (G 5, 1, .inr (.inl (F2))))] ++ wC G a ar az ad2 ap2 ts2 ((opBlink cs ((xs (7 * i + 1)).toInt) ((xs (7 * i + 2)).toInt)).2.2))) (wMod G mb th cs ++ ([(w, .inl (G 5, 1, .inr (.inl (F2))))] ++ wC G a ar az ad2 ap2 ts2 ((opBlink cs ((xs (7 * i + 1)).toInt) ((xs (7 * i + 2)).toInt)).2.2))) := List.Perm.refl _
  refine k_int (g_V (As := [.int (iv ((xs (7 * i + 1)).toInt)), .int (iv ((xs (7 * i + 2)).toInt))]) (rest := []) (q0 := 0) (ci := 3) ⟨hx, hb, hml, hown, hts⟩ (c_X3_blink l D G mb th cs hok ((xs (7 * i + 1)).toInt) ((xs (7 * i + 2)).toInt) (xs_rng _) (xs_rng _)) (cwV 2 hts gL_law_X3_blink rfl rfl rfl (by decide +kernel) ⟨Nat.le_of_ble_eq_true rfl, Nat.le_of_ble_eq_true rfl⟩) hK hP hD hp rfl rfl rfl rfl hl.1 rfl (Nat.le_of_ble_eq_true rfl) dL_law_398 ⟨Nat.le_trans (by omega) hc1, Nat.le_trans (by omega) hc2⟩) hP hD hS hA hp (fun v u H locs hw hP hD hS => ?_)
  obtain ⟨rfl, rfl⟩ := hw
  replace hP : va_P D vwCl (wMod G mb ((opBlink cs ((xs (7 * i + 1)).toInt) ((xs (7 * i + 2)).toInt)).1) ((opBlink cs ((xs (7 * i + 1)).toInt) ((xs (7 * i + 2)).toInt)).2.2) ++ ([(w, .inl (G 5, 1, .inr (.inl (F2))))] ++ wC G a ar az ad2 ap2 ts2 ((opBlink cs ((xs (7 * i + 1)).toInt) ((xs (7 * i + 2)).toInt)).2.2))) H := hP
  replace hD : va_D A (wMod G mb ((opBlink cs ((xs (7 * i + 1)).toInt) ((xs (7 * i + 2)).toInt)).1) ((opBlink cs ((xs (7 * i + 1)).toInt) ((xs (7 * i + 2)).toInt)).2.2) ++ ([(w, .inl (G 5, 1, .inr (.inl (F2))))] ++ wC G a ar az ad2 ap2 ts2 ((opBlink cs ((xs (7 * i + 1)).toInt) ((xs (7 * i + 2)).toInt)).2.2))) := hD
  replace hP := wP_perm hP (pm3 _ _ _).symm
  replace hD := wD_perm hD (pm3 _ _ _).symm
  have hP : va_P D vwCl (wOut G w F2 ++ (wMod G mb ((opBlink cs ((xs (7 * i + 1)).toInt) ((xs (7 * i + 2)).toInt)).1) ((opBlink cs ((xs (7 * i + 1)).toInt) ((xs (7 * i + 2)).toInt)).2.2) ++ wC G a ar az ad2 ap2 ts2 ((opBlink cs ((xs (7 * i + 1)).toInt) ((xs (7 * i + 2)).toInt)).2.2))) H := hP
  have hD : va_D A (wOut G w F2 ++ (wMod G mb ((opBlink cs ((xs (7 * i + 1)).toInt) ((xs (7 * i + 2)).toInt)).1) ((opBlink cs ((xs (7 * i + 1)).toInt) ((xs (7 * i + 2)).toInt)).2.2) ++ wC G a ar az ad2 ap2 ts2 ((opBlink cs ((xs (7 * i + 1)).toInt) ((xs (7 * i + 2)).toInt)).2.2))) := hD
  refine lv_istore (lv' := [(6, .int (iv ((opBlink cs ((xs (7 * i + 1)).toInt) ((xs (7 * i + 2)).toInt)).2.1))), (5, .int (iv ((opBlink cs ((xs (7 * i + 1)).toInt) ((xs (7 * i + 2)).toInt)).1))), (0, .ref b), (1, .ref (a 0)), (2, .ref (mb 0)), (3, .ref w), (4, .int (iv ((7 * i : Nat) : Int)))]) hx hb dL_law_401 hl (by decide) rfl (fun ls hl => ?_)
  refine lv_aload_n hx hb dL_law_403 rfl (lv_at hl 4 rfl) ?_
  replace hP := wP_perm hP (pm3 _ _ _)
  replace hD := wD_perm hD (pm3 _ _ _)
  have hp : List.Perm (wMod G mb ((opBlink cs ((xs (7 * i + 1)).toInt) ((xs (7 * i + 2)).toInt)).1) ((opBlink cs ((xs (7 * i + 1)).toInt) ((xs (7 * i + 2)).toInt)).2.2) ++ ([(w, .inl (G 5, 1, .inr (.inl (F2))))] ++ wC G a ar az ad2 ap2 ts2 ((opBlink cs ((xs (7 * i + 1)).toInt) ((xs (7 * i + 2)).toInt)).2.2))) ([wM0 mb ((opBlink cs ((xs (7 * i + 1)).toInt) ((xs (7 * i + 2)).toInt)).1) (kn ((opBlink cs ((xs (7 * i + 1)).toInt) ((xs (7 * i + 2)).toInt)).2.2) : Int) (kp ((opBlink cs ((xs (7 * i + 1)).toInt) ((xs (7 * i + 2)).toInt)).2.2) : Int) (km ((opBlink cs ((xs (7 * i + 1)).toInt) ((xs (7 * i + 2)).toInt)).2.2))] ++ ((wMod G mb ((opBlink cs ((xs (7 * i + 1)).toInt) ((xs (7 * i + 2)).toInt)).1) ((opBlink cs ((xs (7 * i + 1)).toInt) ((xs (7 * i + 2)).toInt)).2.2)).tail ++ ([(w, .inl (G 5, 1, .inr (.inl (F2))))] ++ wC G a ar az ad2 ap2 ts2 ((opBlink cs ((xs (7 * i + 1)).toInt) ((xs (7 * i + 2)).toInt)).2.2)))) := List.Perm.refl _
  refine k_int (g_V (As := []) (rest := []) (q0 := 0) (ci := 3) ⟨hx, hb, hml, hown, hts⟩ (c_X3_thrown l D G mb ((opBlink cs ((xs (7 * i + 1)).toInt) ((xs (7 * i + 2)).toInt)).1) (kn ((opBlink cs ((xs (7 * i + 1)).toInt) ((xs (7 * i + 2)).toInt)).2.2) : Int) (kp ((opBlink cs ((xs (7 * i + 1)).toInt) ((xs (7 * i + 2)).toInt)).2.2) : Int) (km ((opBlink cs ((xs (7 * i + 1)).toInt) ((xs (7 * i + 2)).toInt)).2.2))) (cwV 0 hts gL_law_X3_thrown rfl rfl rfl (by decide +kernel) ⟨Nat.le_of_ble_eq_true rfl, Nat.le_of_ble_eq_true rfl⟩) hK hP hD hp rfl rfl rfl rfl hl.1 rfl (Nat.le_of_ble_eq_true rfl) dL_law_404 ⟨Nat.le_trans (by omega) hc1, Nat.le_trans (by omega) hc2⟩) hP hD hS hA hp (fun v u H locs hw hP hD hS => ?_)
  obtain ⟨rfl, rfl⟩ := hw
  replace hP : va_P D vwCl (wMod G mb ((opBlink cs ((xs (7 * i + 1)).toInt) ((xs (7 * i + 2)).toInt)).1) ((opBlink cs ((xs (7 * i + 1)).toInt) ((xs (7 * i + 2)).toInt)).2.2) ++ ([(w, .inl (G 5, 1, .inr (.inl (F2))))] ++ wC G a ar az ad2 ap2 ts2 ((opBlink cs ((xs (7 * i + 1)).toInt) ((xs (7 * i + 2)).toInt)).2.2))) H := hP
  replace hD : va_D A (wMod G mb ((opBlink cs ((xs (7 * i + 1)).toInt) ((xs (7 * i + 2)).toInt)).1) ((opBlink cs ((xs (7 * i + 1)).toInt) ((xs (7 * i + 2)).toInt)).2.2) ++ ([(w, .inl (G 5, 1, .inr (.inl (F2))))] ++ wC G a ar az ad2 ap2 ts2 ((opBlink cs ((xs (7 * i + 1)).toInt) ((xs (7 * i + 2)).toInt)).2.2))) := hD
  replace hP := wP_perm hP (pm3 _ _ _).symm
  replace hD := wD_perm hD (pm3 _ _ _).symm
  have hP : va_P D vwCl (wOut G w F2 ++ (wMod G mb ((opBlink cs ((xs (7 * i + 1)).toInt) ((xs (7 * i + 2)).toInt)).1) ((opBlink cs ((xs (7 * i + 1)).toInt) ((xs (7 * i + 2)).toInt)).2.2) ++ wC G a ar az ad2 ap2 ts2 ((opBlink cs ((xs (7 * i + 1)).toInt) ((xs (7 * i + 2)).toInt)).2.2))) H := hP
  have hD : va_D A (wOut G w F2 ++ (wMod G mb ((opBlink cs ((xs (7 * i + 1)).toInt) ((xs (7 * i + 2)).toInt)).1) ((opBlink cs ((xs (7 * i + 1)).toInt) ((xs (7 * i + 2)).toInt)).2.2) ++ wC G a ar az ad2 ap2 ts2 ((opBlink cs ((xs (7 * i + 1)).toInt) ((xs (7 * i + 2)).toInt)).2.2))) := hD
  refine lv_iload hx hb dL_law_407 (lv_at hl 1 rfl) ?_
  refine lv_icmp_eq (tgt := 414) hx hb dL_law_409 (by decide) (fun _ => ?_) (fun h9 => absurd rfl h9)
  refine lv_iload hx hb dL_law_414 (lv_at hl 1 rfl) ?_
  refine lv_if_ne (tgt := 438) hx hb dL_law_416 (by decide) (fun c_416 => ?_) (fun c_416 => ?_)
  · skip
    refine r_goto hx hb 1381 dL_law_438 (by decide) ?_
    exact W.widen (by omega) (by omega) (kk ((opBlink cs ((xs (7 * i + 1)).toInt) ((xs (7 * i + 2)).toInt)).1) ((opBlink cs ((xs (7 * i + 1)).toInt) ((xs (7 * i + 2)).toInt)).2.2) ad2 ap2 ts2 F2 _ _ hP hD hS _ (lv_sub hl [2, 3, 4, 5, 6] rfl) (g_blink hok _ _).1 (g_blink hok _ _).2)
  · have hF0 := hF c_416
    refine lv_aload_n hx hb dL_law_419 rfl (lv_at hl 5 rfl) ?_
    refine r_const hx hb dL_law_420 ?_
    refine r_lald0 (F := F2) hx hb hK hP 0 rfl dL_law_421 ?_
    refine lv_iload hx hb dL_law_422 (lv_at hl 0 rfl) ?_
    rcases v_blink hok ((xs (7 * i + 1)).toInt) ((xs (7 * i + 2)).toInt) with vb | vb
    · rw [vb]
      rw [vb] at hF0
      replace hF0 : F2 0 = 0 := hF0
      refine lv_if_eq (tgt := 431) hx hb dL_law_424 (by decide) (fun _ => ?_) (fun h9 => absurd rfl h9)
      refine lv_lconst (v := 0) hx hb dL_law_431 (by decide) ?_
      rw [hF0]
      refine r_lcmp_eq hx hb dL_law_432 ?_
      refine lv_if_eq (tgt := 438) hx hb dL_law_433 (by decide) (fun _ => ?_) (fun h9 => absurd rfl h9)
      refine r_goto hx hb 1381 dL_law_438 (by decide) ?_
      exact W.widen (by omega) (by omega) (kk ((opBlink cs ((xs (7 * i + 1)).toInt) ((xs (7 * i + 2)).toInt)).1) ((opBlink cs ((xs (7 * i + 1)).toInt) ((xs (7 * i + 2)).toInt)).2.2) ad2 ap2 ts2 F2 _ _ hP hD hS _ (lv_sub hl [2, 3, 4, 5, 6] rfl) (g_blink hok _ _).1 (g_blink hok _ _).2)
    · rw [vb]
      rw [vb] at hF0
      replace hF0 : F2 0 = 1 := hF0
      refine lv_if_eq (tgt := 431) hx hb dL_law_424 (by decide) (fun h9 => absurd h9 (by decide)) (fun _ => ?_)
      refine lv_lconst (v := 1) hx hb dL_law_427 (by decide) ?_
      refine r_goto hx hb 432 dL_law_428 (by decide) ?_
      rw [hF0]
      refine r_lcmp_eq hx hb dL_law_432 ?_
      refine lv_if_eq (tgt := 438) hx hb dL_law_433 (by decide) (fun _ => ?_) (fun h9 => absurd rfl h9)
      refine r_goto hx hb 1381 dL_law_438 (by decide) ?_
      exact W.widen (by omega) (by omega) (kk ((opBlink cs ((xs (7 * i + 1)).toInt) ((xs (7 * i + 2)).toInt)).1) ((opBlink cs ((xs (7 * i + 1)).toInt) ((xs (7 * i + 2)).toInt)).2.2) ad2 ap2 ts2 F2 _ _ hP hD hS _ (lv_sub hl [2, 3, 4, 5, 6] rfl) (g_blink hok _ _).1 (g_blink hok _ _).2)
set_option maxHeartbeats 4000000 in
set_option maxRecDepth 100000 in
theorem k_law_dress {p : Program} {l : Launch} {e : Env} {s : State} {m : MethodId} {below : List Frame} {meth : Method} {c : Code} {H : Heap} {locs : List Loc} {cells slots : Nat} {ls : Array Slot} {A : Nat → Prop} {Q : State → Prop} {D : va_G} {G : Nat → ClassId} {b L : Nat} {xs : Nat → Int32} (hB : LB p l s m meth c D G b L xs A) {a ar az mb : Nat → Nat} {ad ap : AD} {ts : DS} {cs : CS} {th : Int} {w : Nat} {F : Nat → Int64} {i : Nat} (hi : 7 * i + 7 ≤ L) (hok : okC cs) (hdl : kd cs ≤ 1000000) (hc1 : cells + 10 ≤ room_1.cells) (hc2 : slots + 250 ≤ room_1.slots) (hP : va_P D vwCl (wOut G w F ++ (wMod G mb th cs ++ wC G a ar az ad ap ts cs)) H) (hD : va_D A (wOut G w F ++ (wMod G mb th cs ++ wC G a ar az ad ap ts cs))) (hS : va_S A s.heap H locs) (hl : lv_has ls 9 [(0, .ref b), (1, .ref (a 0)), (2, .ref (mb 0)), (3, .ref w), (4, .int (iv ((7 * i : Nat) : Int)))])
  (kk : ∀ (th : Int) (cs2 : CS) (ad ap : AD) (ts : DS) (F : Nat → Int64) (H : Heap) (locs : List Loc), va_P D vwCl (wOut G w F ++ (wMod G mb th cs2 ++ wC G a ar az ad ap ts cs2)) H → va_D A (wOut G w F ++ (wMod G mb th cs2 ++ wC G a ar az ad ap ts cs2)) → va_S A s.heap H locs → ∀ (ls : Array Slot), lv_has ls 9 [(0, .ref b), (1, .ref (a 0)), (2, .ref (mb 0)), (3, .ref w), (4, .int (iv ((7 * i : Nat) : Int)))] → okC cs2 → kd cs2 ≤ kd cs + 60 → W p l e room_1 s m #[Value.ref b] below meth c H locs (cells + 10) (slots + 250) Q (F0 m 1381 ls [])) : W p l e room_1 s m #[Value.ref b] below meth c H locs cells slots Q (F0 m 441 ls []) := by
  obtain ⟨hx, hb, hml, hown, hts, hK, hT, hN, hA, hX, hbl, hbA, hL, hl0⟩ := hB
  refine lv_aload_n hx hb dL_law_441 rfl (lv_at hl 1 rfl) ?_
  refine lv_aload_n hx hb dL_law_442 rfl (lv_at hl 0 rfl) ?_
  refine lv_iload hx hb dL_law_443 (lv_at hl 4 rfl) ?_
  refine r_const hx hb dL_law_445 ?_
  refine r_add hx hb dL_law_446 ?_
  refine r_sld hx hb hX hbl hbA hS (7 * i + 1) (by omega) (by omega) hL dL_law_447 ?_
  refine lv_aload_n hx hb dL_law_448 rfl (lv_at hl 0 rfl) ?_
  refine lv_iload hx hb dL_law_449 (lv_at hl 4 rfl) ?_
  refine r_const hx hb dL_law_451 ?_
  refine r_add hx hb dL_law_452 ?_
  refine r_sld hx hb hX hbl hbA hS (7 * i + 2) (by omega) (by omega) hL dL_law_453 ?_
  refine lv_aload_n hx hb dL_law_454 rfl (lv_at hl 0 rfl) ?_
  refine lv_iload hx hb dL_law_455 (lv_at hl 4 rfl) ?_
  refine r_const hx hb dL_law_457 ?_
  refine r_add hx hb dL_law_458 ?_
  refine r_sld hx hb hX hbl hbA hS (7 * i + 3) (by omega) (by omega) hL dL_law_459 ?_
  refine lv_aload_n hx hb dL_law_460 rfl (lv_at hl 3 rfl) ?_
  refine k_int (g_SH (As := [.ref (a 0), .int (iv ((xs (7 * i + 1)).toInt)), .int (iv ((xs (7 * i + 2)).toInt)), .int (iv ((xs (7 * i + 3)).toInt)), .ref w]) (rest := []) ⟨hx, hb, hml, hown, hts⟩ (c_L_dress l D G hl0 a ar az ad ap ts cs hok w F ((xs (7 * i + 1)).toInt) ((xs (7 * i + 2)).toInt) ((xs (7 * i + 3)).toInt) (xs_rng _) (xs_rng _) (xs_rng _)) (vx_cwSW 5 hts gL_law_L_dress rfl rfl rfl (by decide +kernel) ⟨Nat.le_of_ble_eq_true rfl, Nat.le_of_ble_eq_true rfl⟩) hK hT hN hA hP hD hS (pm1 _ _ _) rfl hl.1 rfl (Nat.le_of_ble_eq_true rfl) dL_law_461 ⟨Nat.le_trans (by omega) hc1, Nat.le_trans (by omega) hc2⟩) hP hD hS hA (pm1 _ _ _) (fun v u H locs hw hP hD hS => ?_)
  obtain ⟨rfl, ad2, ap2, ts2, F2, rfl, hF⟩ := hw
  have hP := wP_perm hP (pm1 _ _ _).symm
  have hD := wD_perm hD (pm1 _ _ _).symm
  have hP : va_P D vwCl (wOut G w F2 ++ (wMod G mb th cs ++ wC G a ar az ad2 ap2 ts2 ((opDress cs ((xs (7 * i + 1)).toInt) ((xs (7 * i + 2)).toInt) ((xs (7 * i + 3)).toInt)).2.2))) H := hP
  have hD : va_D A (wOut G w F2 ++ (wMod G mb th cs ++ wC G a ar az ad2 ap2 ts2 ((opDress cs ((xs (7 * i + 1)).toInt) ((xs (7 * i + 2)).toInt) ((xs (7 * i + 3)).toInt)).2.2))) := hD
  refine lv_istore (lv' := [(5, .int (iv ((opDress cs ((xs (7 * i + 1)).toInt) ((xs (7 * i + 2)).toInt) ((xs (7 * i + 3)).toInt)).1))), (0, .ref b), (1, .ref (a 0)), (2, .ref (mb 0)), (3, .ref w), (4, .int (iv ((7 * i : Nat) : Int)))]) hx hb dL_law_464 hl (by decide) rfl (fun ls hl => ?_)
  refine lv_aload_n hx hb dL_law_466 rfl (lv_at hl 3 rfl) ?_
  refine lv_aload_n hx hb dL_law_467 rfl (lv_at hl 1 rfl) ?_
  refine lv_iload hx hb dL_law_468 (lv_at hl 5 rfl) ?_
  refine r_const hx hb dL_law_470 ?_
  refine r_add hx hb dL_law_471 ?_
  refine r_sld hx hb hX hbl hbA hS (7 * i + 1) (by omega) (by omega) hL dL_law_472 ?_
  refine lv_aload_n hx hb dL_law_473 rfl (lv_at hl 1 rfl) ?_
  refine lv_iload hx hb dL_law_474 (lv_at hl 5 rfl) ?_
  refine r_const hx hb dL_law_476 ?_
  refine r_add hx hb dL_law_477 ?_
  refine r_sld hx hb hX hbl hbA hS (7 * i + 2) (by omega) (by omega) hL dL_law_478 ?_
  refine lv_aload_n hx hb dL_law_479 rfl (lv_at hl 1 rfl) ?_
  refine lv_iload hx hb dL_law_480 (lv_at hl 5 rfl) ?_
  refine r_const hx hb dL_law_482 ?_
  refine r_add hx hb dL_law_483 ?_
  refine r_sld hx hb hX hbl hbA hS (7 * i + 3) (by omega) (by omega) hL dL_law_484 ?_
  replace hP := wP_perm hP (pm3 _ _ _)
  replace hD := wD_perm hD (pm3 _ _ _)
  have hp : List.Perm (wMod G mb th cs ++ ([(w, .inl (G 5, 1, .inr (.inl (F2))))] ++ wC G a ar az ad2 ap2 ts2 ((opDress cs ((xs (7 * i + 1)).toInt) ((xs (7 * i + 2)).toInt) ((xs (7 * i + 3)).toInt)).2.2))) (wMod G mb th cs ++ ([(w, .inl (G 5, 1, .inr (.inl (F2))))] ++ wC G a ar az ad2 ap2 ts2 ((opDress cs ((xs (7 * i + 1)).toInt) ((xs (7 * i + 2)).toInt) ((xs (7 * i + 3)).toInt)).2.2))) := List.Perm.refl _
  refine k_int (g_V (As := [.int (iv ((xs (7 * i + 1)).toInt)), .int (iv ((xs (7 * i + 2)).toInt)), .int (iv ((xs (7 * i + 3)).toInt))]) (rest := []) (q0 := 0) (ci := 3) ⟨hx, hb, hml, hown, hts⟩ (c_X3_dress l D G mb th cs hok ((xs (7 * i + 1)).toInt) ((xs (7 * i + 2)).toInt) ((xs (7 * i + 3)).toInt) (xs_rng _) (xs_rng _) (xs_rng _)) (cwV 3 hts gL_law_X3_dress rfl rfl rfl (by decide +kernel) ⟨Nat.le_of_ble_eq_true rfl, Nat.le_of_ble_eq_true rfl⟩) hK hP hD hp rfl rfl rfl rfl hl.1 rfl (Nat.le_of_ble_eq_true rfl) dL_law_485 ⟨Nat.le_trans (by omega) hc1, Nat.le_trans (by omega) hc2⟩) hP hD hS hA hp (fun v u H locs hw hP hD hS => ?_)
  obtain ⟨rfl, rfl⟩ := hw
  replace hP : va_P D vwCl (wMod G mb ((opDress cs ((xs (7 * i + 1)).toInt) ((xs (7 * i + 2)).toInt) ((xs (7 * i + 3)).toInt)).1) ((opDress cs ((xs (7 * i + 1)).toInt) ((xs (7 * i + 2)).toInt) ((xs (7 * i + 3)).toInt)).2.2) ++ ([(w, .inl (G 5, 1, .inr (.inl (F2))))] ++ wC G a ar az ad2 ap2 ts2 ((opDress cs ((xs (7 * i + 1)).toInt) ((xs (7 * i + 2)).toInt) ((xs (7 * i + 3)).toInt)).2.2))) H := hP
  replace hD : va_D A (wMod G mb ((opDress cs ((xs (7 * i + 1)).toInt) ((xs (7 * i + 2)).toInt) ((xs (7 * i + 3)).toInt)).1) ((opDress cs ((xs (7 * i + 1)).toInt) ((xs (7 * i + 2)).toInt) ((xs (7 * i + 3)).toInt)).2.2) ++ ([(w, .inl (G 5, 1, .inr (.inl (F2))))] ++ wC G a ar az ad2 ap2 ts2 ((opDress cs ((xs (7 * i + 1)).toInt) ((xs (7 * i + 2)).toInt) ((xs (7 * i + 3)).toInt)).2.2))) := hD
  replace hP := wP_perm hP (pm3 _ _ _).symm
  replace hD := wD_perm hD (pm3 _ _ _).symm
  have hP : va_P D vwCl (wOut G w F2 ++ (wMod G mb ((opDress cs ((xs (7 * i + 1)).toInt) ((xs (7 * i + 2)).toInt) ((xs (7 * i + 3)).toInt)).1) ((opDress cs ((xs (7 * i + 1)).toInt) ((xs (7 * i + 2)).toInt) ((xs (7 * i + 3)).toInt)).2.2) ++ wC G a ar az ad2 ap2 ts2 ((opDress cs ((xs (7 * i + 1)).toInt) ((xs (7 * i + 2)).toInt) ((xs (7 * i + 3)).toInt)).2.2))) H := hP
  have hD : va_D A (wOut G w F2 ++ (wMod G mb ((opDress cs ((xs (7 * i + 1)).toInt) ((xs (7 * i + 2)).toInt) ((xs (7 * i + 3)).toInt)).1) ((opDress cs ((xs (7 * i + 1)).toInt) ((xs (7 * i + 2)).toInt) ((xs (7 * i + 3)).toInt)).2.2) ++ wC G a ar az ad2 ap2 ts2 ((opDress cs ((xs (7 * i + 1)).toInt) ((xs (7 * i + 2)).toInt) ((xs (7 * i + 3)).toInt)).2.2))) := hD
  refine lv_istore (lv' := [(6, .int (iv ((opDress cs ((xs (7 * i + 1)).toInt) ((xs (7 * i + 2)).toInt) ((xs (7 * i + 3)).toInt)).2.1))), (5, .int (iv ((opDress cs ((xs (7 * i + 1)).toInt) ((xs (7 * i + 2)).toInt) ((xs (7 * i + 3)).toInt)).1))), (0, .ref b), (1, .ref (a 0)), (2, .ref (mb 0)), (3, .ref w), (4, .int (iv ((7 * i : Nat) : Int)))]) hx hb dL_law_488 hl (by decide) rfl (fun ls hl => ?_)
  refine lv_aload_n hx hb dL_law_490 rfl (lv_at hl 4 rfl) ?_
  replace hP := wP_perm hP (pm3 _ _ _)
  replace hD := wD_perm hD (pm3 _ _ _)
  have hp : List.Perm (wMod G mb ((opDress cs ((xs (7 * i + 1)).toInt) ((xs (7 * i + 2)).toInt) ((xs (7 * i + 3)).toInt)).1) ((opDress cs ((xs (7 * i + 1)).toInt) ((xs (7 * i + 2)).toInt) ((xs (7 * i + 3)).toInt)).2.2) ++ ([(w, .inl (G 5, 1, .inr (.inl (F2))))] ++ wC G a ar az ad2 ap2 ts2 ((opDress cs ((xs (7 * i + 1)).toInt) ((xs (7 * i + 2)).toInt) ((xs (7 * i + 3)).toInt)).2.2))) ([wM0 mb ((opDress cs ((xs (7 * i + 1)).toInt) ((xs (7 * i + 2)).toInt) ((xs (7 * i + 3)).toInt)).1) (kn ((opDress cs ((xs (7 * i + 1)).toInt) ((xs (7 * i + 2)).toInt) ((xs (7 * i + 3)).toInt)).2.2) : Int) (kp ((opDress cs ((xs (7 * i + 1)).toInt) ((xs (7 * i + 2)).toInt) ((xs (7 * i + 3)).toInt)).2.2) : Int) (km ((opDress cs ((xs (7 * i + 1)).toInt) ((xs (7 * i + 2)).toInt) ((xs (7 * i + 3)).toInt)).2.2))] ++ ((wMod G mb ((opDress cs ((xs (7 * i + 1)).toInt) ((xs (7 * i + 2)).toInt) ((xs (7 * i + 3)).toInt)).1) ((opDress cs ((xs (7 * i + 1)).toInt) ((xs (7 * i + 2)).toInt) ((xs (7 * i + 3)).toInt)).2.2)).tail ++ ([(w, .inl (G 5, 1, .inr (.inl (F2))))] ++ wC G a ar az ad2 ap2 ts2 ((opDress cs ((xs (7 * i + 1)).toInt) ((xs (7 * i + 2)).toInt) ((xs (7 * i + 3)).toInt)).2.2)))) := List.Perm.refl _
  refine k_int (g_V (As := []) (rest := []) (q0 := 0) (ci := 3) ⟨hx, hb, hml, hown, hts⟩ (c_X3_thrown l D G mb ((opDress cs ((xs (7 * i + 1)).toInt) ((xs (7 * i + 2)).toInt) ((xs (7 * i + 3)).toInt)).1) (kn ((opDress cs ((xs (7 * i + 1)).toInt) ((xs (7 * i + 2)).toInt) ((xs (7 * i + 3)).toInt)).2.2) : Int) (kp ((opDress cs ((xs (7 * i + 1)).toInt) ((xs (7 * i + 2)).toInt) ((xs (7 * i + 3)).toInt)).2.2) : Int) (km ((opDress cs ((xs (7 * i + 1)).toInt) ((xs (7 * i + 2)).toInt) ((xs (7 * i + 3)).toInt)).2.2))) (cwV 0 hts gL_law_X3_thrown rfl rfl rfl (by decide +kernel) ⟨Nat.le_of_ble_eq_true rfl, Nat.le_of_ble_eq_true rfl⟩) hK hP hD hp rfl rfl rfl rfl hl.1 rfl (Nat.le_of_ble_eq_true rfl) dL_law_491 ⟨Nat.le_trans (by omega) hc1, Nat.le_trans (by omega) hc2⟩) hP hD hS hA hp (fun v u H locs hw hP hD hS => ?_)
  obtain ⟨rfl, rfl⟩ := hw
  replace hP : va_P D vwCl (wMod G mb ((opDress cs ((xs (7 * i + 1)).toInt) ((xs (7 * i + 2)).toInt) ((xs (7 * i + 3)).toInt)).1) ((opDress cs ((xs (7 * i + 1)).toInt) ((xs (7 * i + 2)).toInt) ((xs (7 * i + 3)).toInt)).2.2) ++ ([(w, .inl (G 5, 1, .inr (.inl (F2))))] ++ wC G a ar az ad2 ap2 ts2 ((opDress cs ((xs (7 * i + 1)).toInt) ((xs (7 * i + 2)).toInt) ((xs (7 * i + 3)).toInt)).2.2))) H := hP
  replace hD : va_D A (wMod G mb ((opDress cs ((xs (7 * i + 1)).toInt) ((xs (7 * i + 2)).toInt) ((xs (7 * i + 3)).toInt)).1) ((opDress cs ((xs (7 * i + 1)).toInt) ((xs (7 * i + 2)).toInt) ((xs (7 * i + 3)).toInt)).2.2) ++ ([(w, .inl (G 5, 1, .inr (.inl (F2))))] ++ wC G a ar az ad2 ap2 ts2 ((opDress cs ((xs (7 * i + 1)).toInt) ((xs (7 * i + 2)).toInt) ((xs (7 * i + 3)).toInt)).2.2))) := hD
  replace hP := wP_perm hP (pm3 _ _ _).symm
  replace hD := wD_perm hD (pm3 _ _ _).symm
  have hP : va_P D vwCl (wOut G w F2 ++ (wMod G mb ((opDress cs ((xs (7 * i + 1)).toInt) ((xs (7 * i + 2)).toInt) ((xs (7 * i + 3)).toInt)).1) ((opDress cs ((xs (7 * i + 1)).toInt) ((xs (7 * i + 2)).toInt) ((xs (7 * i + 3)).toInt)).2.2) ++ wC G a ar az ad2 ap2 ts2 ((opDress cs ((xs (7 * i + 1)).toInt) ((xs (7 * i + 2)).toInt) ((xs (7 * i + 3)).toInt)).2.2))) H := hP
  have hD : va_D A (wOut G w F2 ++ (wMod G mb ((opDress cs ((xs (7 * i + 1)).toInt) ((xs (7 * i + 2)).toInt) ((xs (7 * i + 3)).toInt)).1) ((opDress cs ((xs (7 * i + 1)).toInt) ((xs (7 * i + 2)).toInt) ((xs (7 * i + 3)).toInt)).2.2) ++ wC G a ar az ad2 ap2 ts2 ((opDress cs ((xs (7 * i + 1)).toInt) ((xs (7 * i + 2)).toInt) ((xs (7 * i + 3)).toInt)).2.2))) := hD
  refine lv_iload hx hb dL_law_494 (lv_at hl 1 rfl) ?_
  refine lv_icmp_eq (tgt := 501) hx hb dL_law_496 (by decide) (fun _ => ?_) (fun h9 => absurd rfl h9)
  refine lv_iload hx hb dL_law_501 (lv_at hl 1 rfl) ?_
  refine lv_if_ne (tgt := 518) hx hb dL_law_503 (by decide) (fun c_503 => ?_) (fun c_503 => ?_)
  · skip
    refine r_goto hx hb 1381 dL_law_518 (by decide) ?_
    exact W.widen (by omega) (by omega) (kk ((opDress cs ((xs (7 * i + 1)).toInt) ((xs (7 * i + 2)).toInt) ((xs (7 * i + 3)).toInt)).1) ((opDress cs ((xs (7 * i + 1)).toInt) ((xs (7 * i + 2)).toInt) ((xs (7 * i + 3)).toInt)).2.2) ad2 ap2 ts2 F2 _ _ hP hD hS _ (lv_sub hl [2, 3, 4, 5, 6] rfl) (g_dress hok _ _ _).1 (g_dress hok _ _ _).2)
  · have hF0 := hF c_503
    refine lv_aload_n hx hb dL_law_506 rfl (lv_at hl 5 rfl) ?_
    refine r_const hx hb dL_law_507 ?_
    refine r_lald0 (F := F2) hx hb hK hP 0 rfl dL_law_508 ?_
    refine lv_iload hx hb dL_law_509 (lv_at hl 0 rfl) ?_
    refine lv_i2l (v := ((iv ((opDress cs ((xs (7 * i + 1)).toInt) ((xs (7 * i + 2)).toInt) ((xs (7 * i + 3)).toInt)).2.1))).toInt64) hx hb dL_law_511 rfl ?_
    rw [hF0]
    refine r_lcmp_eq hx hb dL_law_512 ?_
    refine lv_if_eq (tgt := 518) hx hb dL_law_513 (by decide) (fun _ => ?_) (fun h9 => absurd rfl h9)
    refine r_goto hx hb 1381 dL_law_518 (by decide) ?_
    exact W.widen (by omega) (by omega) (kk ((opDress cs ((xs (7 * i + 1)).toInt) ((xs (7 * i + 2)).toInt) ((xs (7 * i + 3)).toInt)).1) ((opDress cs ((xs (7 * i + 1)).toInt) ((xs (7 * i + 2)).toInt) ((xs (7 * i + 3)).toInt)).2.2) ad2 ap2 ts2 F2 _ _ hP hD hS _ (lv_sub hl [2, 3, 4, 5, 6] rfl) (g_dress hok _ _ _).1 (g_dress hok _ _ _).2)
set_option maxHeartbeats 4000000 in
set_option maxRecDepth 100000 in
theorem k_law_bring {p : Program} {l : Launch} {e : Env} {s : State} {m : MethodId} {below : List Frame} {meth : Method} {c : Code} {H : Heap} {locs : List Loc} {cells slots : Nat} {ls : Array Slot} {A : Nat → Prop} {Q : State → Prop} {D : va_G} {G : Nat → ClassId} {b L : Nat} {xs : Nat → Int32} (hB : LB p l s m meth c D G b L xs A) {a ar az mb : Nat → Nat} {ad ap : AD} {ts : DS} {cs : CS} {th : Int} {w : Nat} {F : Nat → Int64} {i : Nat} (hi : 7 * i + 7 ≤ L) (hok : okC cs) (hdl : kd cs ≤ 1000000) (hc1 : cells + 10 ≤ room_1.cells) (hc2 : slots + 250 ≤ room_1.slots) (hP : va_P D vwCl (wOut G w F ++ (wMod G mb th cs ++ wC G a ar az ad ap ts cs)) H) (hD : va_D A (wOut G w F ++ (wMod G mb th cs ++ wC G a ar az ad ap ts cs))) (hS : va_S A s.heap H locs) (hl : lv_has ls 9 [(0, .ref b), (1, .ref (a 0)), (2, .ref (mb 0)), (3, .ref w), (4, .int (iv ((7 * i : Nat) : Int)))])
  (kk : ∀ (th : Int) (cs2 : CS) (ad ap : AD) (ts : DS) (F : Nat → Int64) (H : Heap) (locs : List Loc), va_P D vwCl (wOut G w F ++ (wMod G mb th cs2 ++ wC G a ar az ad ap ts cs2)) H → va_D A (wOut G w F ++ (wMod G mb th cs2 ++ wC G a ar az ad ap ts cs2)) → va_S A s.heap H locs → ∀ (ls : Array Slot), lv_has ls 9 [(0, .ref b), (1, .ref (a 0)), (2, .ref (mb 0)), (3, .ref w), (4, .int (iv ((7 * i : Nat) : Int)))] → okC cs2 → kd cs2 ≤ kd cs + 60 → W p l e room_1 s m #[Value.ref b] below meth c H locs (cells + 10) (slots + 250) Q (F0 m 1381 ls [])) : W p l e room_1 s m #[Value.ref b] below meth c H locs cells slots Q (F0 m 521 ls []) := by
  obtain ⟨hx, hb, hml, hown, hts, hK, hT, hN, hA, hX, hbl, hbA, hL, hl0⟩ := hB
  refine lv_aload_n hx hb dL_law_521 rfl (lv_at hl 1 rfl) ?_
  refine lv_aload_n hx hb dL_law_522 rfl (lv_at hl 0 rfl) ?_
  refine lv_iload hx hb dL_law_523 (lv_at hl 4 rfl) ?_
  refine r_const hx hb dL_law_525 ?_
  refine r_add hx hb dL_law_526 ?_
  refine r_sld hx hb hX hbl hbA hS (7 * i + 1) (by omega) (by omega) hL dL_law_527 ?_
  refine lv_aload_n hx hb dL_law_528 rfl (lv_at hl 0 rfl) ?_
  refine lv_iload hx hb dL_law_529 (lv_at hl 4 rfl) ?_
  refine r_const hx hb dL_law_531 ?_
  refine r_add hx hb dL_law_532 ?_
  refine r_sld hx hb hX hbl hbA hS (7 * i + 2) (by omega) (by omega) hL dL_law_533 ?_
  refine lv_aload_n hx hb dL_law_534 rfl (lv_at hl 3 rfl) ?_
  refine k_int (g_SH (As := [.ref (a 0), .int (iv ((xs (7 * i + 1)).toInt)), .int (iv ((xs (7 * i + 2)).toInt)), .ref w]) (rest := []) ⟨hx, hb, hml, hown, hts⟩ (c_L_bring l D G hl0 a ar az ad ap ts cs hok w F ((xs (7 * i + 1)).toInt) ((xs (7 * i + 2)).toInt) (xs_rng _) (xs_rng _)) (vx_cwSW 4 hts gL_law_L_bring rfl rfl rfl (by decide +kernel) ⟨Nat.le_of_ble_eq_true rfl, Nat.le_of_ble_eq_true rfl⟩) hK hT hN hA hP hD hS (pm1 _ _ _) rfl hl.1 rfl (Nat.le_of_ble_eq_true rfl) dL_law_535 ⟨Nat.le_trans (by omega) hc1, Nat.le_trans (by omega) hc2⟩) hP hD hS hA (pm1 _ _ _) (fun v u H locs hw hP hD hS => ?_)
  obtain ⟨rfl, ad2, ap2, ts2, F2, rfl, hF⟩ := hw
  have hP := wP_perm hP (pm1 _ _ _).symm
  have hD := wD_perm hD (pm1 _ _ _).symm
  have hP : va_P D vwCl (wOut G w F2 ++ (wMod G mb th cs ++ wC G a ar az ad2 ap2 ts2 ((opBring cs ((xs (7 * i + 1)).toInt) ((xs (7 * i + 2)).toInt)).2.2))) H := hP
  have hD : va_D A (wOut G w F2 ++ (wMod G mb th cs ++ wC G a ar az ad2 ap2 ts2 ((opBring cs ((xs (7 * i + 1)).toInt) ((xs (7 * i + 2)).toInt)).2.2))) := hD
  refine lv_istore (lv' := [(5, .int (iv ((opBring cs ((xs (7 * i + 1)).toInt) ((xs (7 * i + 2)).toInt)).1))), (0, .ref b), (1, .ref (a 0)), (2, .ref (mb 0)), (3, .ref w), (4, .int (iv ((7 * i : Nat) : Int)))]) hx hb dL_law_538 hl (by decide) rfl (fun ls hl => ?_)
  refine lv_aload_n hx hb dL_law_540 rfl (lv_at hl 3 rfl) ?_
  refine lv_aload_n hx hb dL_law_541 rfl (lv_at hl 1 rfl) ?_
  refine lv_iload hx hb dL_law_542 (lv_at hl 5 rfl) ?_
  refine r_const hx hb dL_law_544 ?_
  refine r_add hx hb dL_law_545 ?_
  refine r_sld hx hb hX hbl hbA hS (7 * i + 1) (by omega) (by omega) hL dL_law_546 ?_
  refine lv_aload_n hx hb dL_law_547 rfl (lv_at hl 1 rfl) ?_
  refine lv_iload hx hb dL_law_548 (lv_at hl 5 rfl) ?_
  refine r_const hx hb dL_law_550 ?_
  refine r_add hx hb dL_law_551 ?_
  refine r_sld hx hb hX hbl hbA hS (7 * i + 2) (by omega) (by omega) hL dL_law_552 ?_
  replace hP := wP_perm hP (pm3 _ _ _)
  replace hD := wD_perm hD (pm3 _ _ _)
  have hp : List.Perm (wMod G mb th cs ++ ([(w, .inl (G 5, 1, .inr (.inl (F2))))] ++ wC G a ar az ad2 ap2 ts2 ((opBring cs ((xs (7 * i + 1)).toInt) ((xs (7 * i + 2)).toInt)).2.2))) (wMod G mb th cs ++ ([(w, .inl (G 5, 1, .inr (.inl (F2))))] ++ wC G a ar az ad2 ap2 ts2 ((opBring cs ((xs (7 * i + 1)).toInt) ((xs (7 * i + 2)).toInt)).2.2))) := List.Perm.refl _
  refine k_int (g_V (As := [.int (iv ((xs (7 * i + 1)).toInt)), .int (iv ((xs (7 * i + 2)).toInt))]) (rest := []) (q0 := 0) (ci := 3) ⟨hx, hb, hml, hown, hts⟩ (c_X3_bring l D G mb th cs hok ((xs (7 * i + 1)).toInt) ((xs (7 * i + 2)).toInt) (xs_rng _) (xs_rng _)) (cwV 2 hts gL_law_X3_bring rfl rfl rfl (by decide +kernel) ⟨Nat.le_of_ble_eq_true rfl, Nat.le_of_ble_eq_true rfl⟩) hK hP hD hp rfl rfl rfl rfl hl.1 rfl (Nat.le_of_ble_eq_true rfl) dL_law_553 ⟨Nat.le_trans (by omega) hc1, Nat.le_trans (by omega) hc2⟩) hP hD hS hA hp (fun v u H locs hw hP hD hS => ?_)
  obtain ⟨rfl, rfl⟩ := hw
  replace hP : va_P D vwCl (wMod G mb ((opBring cs ((xs (7 * i + 1)).toInt) ((xs (7 * i + 2)).toInt)).1) ((opBring cs ((xs (7 * i + 1)).toInt) ((xs (7 * i + 2)).toInt)).2.2) ++ ([(w, .inl (G 5, 1, .inr (.inl (F2))))] ++ wC G a ar az ad2 ap2 ts2 ((opBring cs ((xs (7 * i + 1)).toInt) ((xs (7 * i + 2)).toInt)).2.2))) H := hP
  replace hD : va_D A (wMod G mb ((opBring cs ((xs (7 * i + 1)).toInt) ((xs (7 * i + 2)).toInt)).1) ((opBring cs ((xs (7 * i + 1)).toInt) ((xs (7 * i + 2)).toInt)).2.2) ++ ([(w, .inl (G 5, 1, .inr (.inl (F2))))] ++ wC G a ar az ad2 ap2 ts2 ((opBring cs ((xs (7 * i + 1)).toInt) ((xs (7 * i + 2)).toInt)).2.2))) := hD
  replace hP := wP_perm hP (pm3 _ _ _).symm
  replace hD := wD_perm hD (pm3 _ _ _).symm
  have hP : va_P D vwCl (wOut G w F2 ++ (wMod G mb ((opBring cs ((xs (7 * i + 1)).toInt) ((xs (7 * i + 2)).toInt)).1) ((opBring cs ((xs (7 * i + 1)).toInt) ((xs (7 * i + 2)).toInt)).2.2) ++ wC G a ar az ad2 ap2 ts2 ((opBring cs ((xs (7 * i + 1)).toInt) ((xs (7 * i + 2)).toInt)).2.2))) H := hP
  have hD : va_D A (wOut G w F2 ++ (wMod G mb ((opBring cs ((xs (7 * i + 1)).toInt) ((xs (7 * i + 2)).toInt)).1) ((opBring cs ((xs (7 * i + 1)).toInt) ((xs (7 * i + 2)).toInt)).2.2) ++ wC G a ar az ad2 ap2 ts2 ((opBring cs ((xs (7 * i + 1)).toInt) ((xs (7 * i + 2)).toInt)).2.2))) := hD
  refine lv_istore (lv' := [(6, .int (iv ((opBring cs ((xs (7 * i + 1)).toInt) ((xs (7 * i + 2)).toInt)).2.1))), (5, .int (iv ((opBring cs ((xs (7 * i + 1)).toInt) ((xs (7 * i + 2)).toInt)).1))), (0, .ref b), (1, .ref (a 0)), (2, .ref (mb 0)), (3, .ref w), (4, .int (iv ((7 * i : Nat) : Int)))]) hx hb dL_law_556 hl (by decide) rfl (fun ls hl => ?_)
  refine lv_aload_n hx hb dL_law_558 rfl (lv_at hl 4 rfl) ?_
  replace hP := wP_perm hP (pm3 _ _ _)
  replace hD := wD_perm hD (pm3 _ _ _)
  have hp : List.Perm (wMod G mb ((opBring cs ((xs (7 * i + 1)).toInt) ((xs (7 * i + 2)).toInt)).1) ((opBring cs ((xs (7 * i + 1)).toInt) ((xs (7 * i + 2)).toInt)).2.2) ++ ([(w, .inl (G 5, 1, .inr (.inl (F2))))] ++ wC G a ar az ad2 ap2 ts2 ((opBring cs ((xs (7 * i + 1)).toInt) ((xs (7 * i + 2)).toInt)).2.2))) ([wM0 mb ((opBring cs ((xs (7 * i + 1)).toInt) ((xs (7 * i + 2)).toInt)).1) (kn ((opBring cs ((xs (7 * i + 1)).toInt) ((xs (7 * i + 2)).toInt)).2.2) : Int) (kp ((opBring cs ((xs (7 * i + 1)).toInt) ((xs (7 * i + 2)).toInt)).2.2) : Int) (km ((opBring cs ((xs (7 * i + 1)).toInt) ((xs (7 * i + 2)).toInt)).2.2))] ++ ((wMod G mb ((opBring cs ((xs (7 * i + 1)).toInt) ((xs (7 * i + 2)).toInt)).1) ((opBring cs ((xs (7 * i + 1)).toInt) ((xs (7 * i + 2)).toInt)).2.2)).tail ++ ([(w, .inl (G 5, 1, .inr (.inl (F2))))] ++ wC G a ar az ad2 ap2 ts2 ((opBring cs ((xs (7 * i + 1)).toInt) ((xs (7 * i + 2)).toInt)).2.2)))) := List.Perm.refl _
  refine k_int (g_V (As := []) (rest := []) (q0 := 0) (ci := 3) ⟨hx, hb, hml, hown, hts⟩ (c_X3_thrown l D G mb ((opBring cs ((xs (7 * i + 1)).toInt) ((xs (7 * i + 2)).toInt)).1) (kn ((opBring cs ((xs (7 * i + 1)).toInt) ((xs (7 * i + 2)).toInt)).2.2) : Int) (kp ((opBring cs ((xs (7 * i + 1)).toInt) ((xs (7 * i + 2)).toInt)).2.2) : Int) (km ((opBring cs ((xs (7 * i + 1)).toInt) ((xs (7 * i + 2)).toInt)).2.2))) (cwV 0 hts gL_law_X3_thrown rfl rfl rfl (by decide +kernel) ⟨Nat.le_of_ble_eq_true rfl, Nat.le_of_ble_eq_true rfl⟩) hK hP hD hp rfl rfl rfl rfl hl.1 rfl (Nat.le_of_ble_eq_true rfl) dL_law_559 ⟨Nat.le_trans (by omega) hc1, Nat.le_trans (by omega) hc2⟩) hP hD hS hA hp (fun v u H locs hw hP hD hS => ?_)
  obtain ⟨rfl, rfl⟩ := hw
  replace hP : va_P D vwCl (wMod G mb ((opBring cs ((xs (7 * i + 1)).toInt) ((xs (7 * i + 2)).toInt)).1) ((opBring cs ((xs (7 * i + 1)).toInt) ((xs (7 * i + 2)).toInt)).2.2) ++ ([(w, .inl (G 5, 1, .inr (.inl (F2))))] ++ wC G a ar az ad2 ap2 ts2 ((opBring cs ((xs (7 * i + 1)).toInt) ((xs (7 * i + 2)).toInt)).2.2))) H := hP
  replace hD : va_D A (wMod G mb ((opBring cs ((xs (7 * i + 1)).toInt) ((xs (7 * i + 2)).toInt)).1) ((opBring cs ((xs (7 * i + 1)).toInt) ((xs (7 * i + 2)).toInt)).2.2) ++ ([(w, .inl (G 5, 1, .inr (.inl (F2))))] ++ wC G a ar az ad2 ap2 ts2 ((opBring cs ((xs (7 * i + 1)).toInt) ((xs (7 * i + 2)).toInt)).2.2))) := hD
  replace hP := wP_perm hP (pm3 _ _ _).symm
  replace hD := wD_perm hD (pm3 _ _ _).symm
  have hP : va_P D vwCl (wOut G w F2 ++ (wMod G mb ((opBring cs ((xs (7 * i + 1)).toInt) ((xs (7 * i + 2)).toInt)).1) ((opBring cs ((xs (7 * i + 1)).toInt) ((xs (7 * i + 2)).toInt)).2.2) ++ wC G a ar az ad2 ap2 ts2 ((opBring cs ((xs (7 * i + 1)).toInt) ((xs (7 * i + 2)).toInt)).2.2))) H := hP
  have hD : va_D A (wOut G w F2 ++ (wMod G mb ((opBring cs ((xs (7 * i + 1)).toInt) ((xs (7 * i + 2)).toInt)).1) ((opBring cs ((xs (7 * i + 1)).toInt) ((xs (7 * i + 2)).toInt)).2.2) ++ wC G a ar az ad2 ap2 ts2 ((opBring cs ((xs (7 * i + 1)).toInt) ((xs (7 * i + 2)).toInt)).2.2))) := hD
  refine lv_iload hx hb dL_law_562 (lv_at hl 1 rfl) ?_
  refine lv_icmp_eq (tgt := 569) hx hb dL_law_564 (by decide) (fun _ => ?_) (fun h9 => absurd rfl h9)
  refine lv_iload hx hb dL_law_569 (lv_at hl 1 rfl) ?_
  refine lv_if_ne (tgt := 586) hx hb dL_law_571 (by decide) (fun c_571 => ?_) (fun c_571 => ?_)
  · skip
    refine r_goto hx hb 1381 dL_law_586 (by decide) ?_
    exact W.widen (by omega) (by omega) (kk ((opBring cs ((xs (7 * i + 1)).toInt) ((xs (7 * i + 2)).toInt)).1) ((opBring cs ((xs (7 * i + 1)).toInt) ((xs (7 * i + 2)).toInt)).2.2) ad2 ap2 ts2 F2 _ _ hP hD hS _ (lv_sub hl [2, 3, 4, 5, 6] rfl) (g_bring hok _ _).1 (g_bring hok _ _).2)
  · have hF0 := hF c_571
    refine lv_aload_n hx hb dL_law_574 rfl (lv_at hl 5 rfl) ?_
    refine r_const hx hb dL_law_575 ?_
    refine r_lald0 (F := F2) hx hb hK hP 0 rfl dL_law_576 ?_
    refine lv_iload hx hb dL_law_577 (lv_at hl 0 rfl) ?_
    refine lv_i2l (v := ((iv ((opBring cs ((xs (7 * i + 1)).toInt) ((xs (7 * i + 2)).toInt)).2.1))).toInt64) hx hb dL_law_579 rfl ?_
    rw [hF0]
    refine r_lcmp_eq hx hb dL_law_580 ?_
    refine lv_if_eq (tgt := 586) hx hb dL_law_581 (by decide) (fun _ => ?_) (fun h9 => absurd rfl h9)
    refine r_goto hx hb 1381 dL_law_586 (by decide) ?_
    exact W.widen (by omega) (by omega) (kk ((opBring cs ((xs (7 * i + 1)).toInt) ((xs (7 * i + 2)).toInt)).1) ((opBring cs ((xs (7 * i + 1)).toInt) ((xs (7 * i + 2)).toInt)).2.2) ad2 ap2 ts2 F2 _ _ hP hD hS _ (lv_sub hl [2, 3, 4, 5, 6] rfl) (g_bring hok _ _).1 (g_bring hok _ _).2)
set_option maxHeartbeats 4000000 in
set_option maxRecDepth 100000 in
theorem k_law_setMoths {p : Program} {l : Launch} {e : Env} {s : State} {m : MethodId} {below : List Frame} {meth : Method} {c : Code} {H : Heap} {locs : List Loc} {cells slots : Nat} {ls : Array Slot} {A : Nat → Prop} {Q : State → Prop} {D : va_G} {G : Nat → ClassId} {b L : Nat} {xs : Nat → Int32} (hB : LB p l s m meth c D G b L xs A) {a ar az mb : Nat → Nat} {ad ap : AD} {ts : DS} {cs : CS} {th : Int} {w : Nat} {F : Nat → Int64} {i : Nat} (hi : 7 * i + 7 ≤ L) (hok : okC cs) (hdl : kd cs ≤ 1000000) (hc1 : cells + 10 ≤ room_1.cells) (hc2 : slots + 250 ≤ room_1.slots) (hP : va_P D vwCl (wOut G w F ++ (wMod G mb th cs ++ wC G a ar az ad ap ts cs)) H) (hD : va_D A (wOut G w F ++ (wMod G mb th cs ++ wC G a ar az ad ap ts cs))) (hS : va_S A s.heap H locs) (hl : lv_has ls 9 [(0, .ref b), (1, .ref (a 0)), (2, .ref (mb 0)), (3, .ref w), (4, .int (iv ((7 * i : Nat) : Int)))])
  (kk : ∀ (th : Int) (cs2 : CS) (ad ap : AD) (ts : DS) (F : Nat → Int64) (H : Heap) (locs : List Loc), va_P D vwCl (wOut G w F ++ (wMod G mb th cs2 ++ wC G a ar az ad ap ts cs2)) H → va_D A (wOut G w F ++ (wMod G mb th cs2 ++ wC G a ar az ad ap ts cs2)) → va_S A s.heap H locs → ∀ (ls : Array Slot), lv_has ls 9 [(0, .ref b), (1, .ref (a 0)), (2, .ref (mb 0)), (3, .ref w), (4, .int (iv ((7 * i : Nat) : Int)))] → okC cs2 → kd cs2 ≤ kd cs + 60 → W p l e room_1 s m #[Value.ref b] below meth c H locs (cells + 10) (slots + 250) Q (F0 m 1381 ls [])) : W p l e room_1 s m #[Value.ref b] below meth c H locs cells slots Q (F0 m 589 ls []) := by
  obtain ⟨hx, hb, hml, hown, hts, hK, hT, hN, hA, hX, hbl, hbA, hL, hl0⟩ := hB
  refine lv_aload_n hx hb dL_law_589 rfl (lv_at hl 1 rfl) ?_
  refine lv_aload_n hx hb dL_law_590 rfl (lv_at hl 0 rfl) ?_
  refine lv_iload hx hb dL_law_591 (lv_at hl 4 rfl) ?_
  refine r_const hx hb dL_law_593 ?_
  refine r_add hx hb dL_law_594 ?_
  refine r_sld hx hb hX hbl hbA hS (7 * i + 1) (by omega) (by omega) hL dL_law_595 ?_
  refine lv_aload_n hx hb dL_law_596 rfl (lv_at hl 3 rfl) ?_
  refine k_int (g_SH (As := [.ref (a 0), .int (iv ((xs (7 * i + 1)).toInt)), .ref w]) (rest := []) ⟨hx, hb, hml, hown, hts⟩ (c_L_setMoths l D G hl0 a ar az ad ap ts cs hok w F ((xs (7 * i + 1)).toInt) (xs_rng _)) (vx_cwSW 3 hts gL_law_L_setMoths rfl rfl rfl (by decide +kernel) ⟨Nat.le_of_ble_eq_true rfl, Nat.le_of_ble_eq_true rfl⟩) hK hT hN hA hP hD hS (pm1 _ _ _) rfl hl.1 rfl (Nat.le_of_ble_eq_true rfl) dL_law_597 ⟨Nat.le_trans (by omega) hc1, Nat.le_trans (by omega) hc2⟩) hP hD hS hA (pm1 _ _ _) (fun v u H locs hw hP hD hS => ?_)
  obtain ⟨rfl, ad2, ap2, ts2, F2, rfl, hF⟩ := hw
  have hP := wP_perm hP (pm1 _ _ _).symm
  have hD := wD_perm hD (pm1 _ _ _).symm
  have hP : va_P D vwCl (wOut G w F2 ++ (wMod G mb th cs ++ wC G a ar az ad2 ap2 ts2 ((opMoths cs ((xs (7 * i + 1)).toInt)).2.2))) H := hP
  have hD : va_D A (wOut G w F2 ++ (wMod G mb th cs ++ wC G a ar az ad2 ap2 ts2 ((opMoths cs ((xs (7 * i + 1)).toInt)).2.2))) := hD
  refine lv_istore (lv' := [(5, .int (iv ((opMoths cs ((xs (7 * i + 1)).toInt)).1))), (0, .ref b), (1, .ref (a 0)), (2, .ref (mb 0)), (3, .ref w), (4, .int (iv ((7 * i : Nat) : Int)))]) hx hb dL_law_600 hl (by decide) rfl (fun ls hl => ?_)
  refine lv_aload_n hx hb dL_law_602 rfl (lv_at hl 3 rfl) ?_
  refine lv_aload_n hx hb dL_law_603 rfl (lv_at hl 1 rfl) ?_
  refine lv_iload hx hb dL_law_604 (lv_at hl 5 rfl) ?_
  refine r_const hx hb dL_law_606 ?_
  refine r_add hx hb dL_law_607 ?_
  refine r_sld hx hb hX hbl hbA hS (7 * i + 1) (by omega) (by omega) hL dL_law_608 ?_
  replace hP := wP_perm hP (pm3 _ _ _)
  replace hD := wD_perm hD (pm3 _ _ _)
  have hp : List.Perm (wMod G mb th cs ++ ([(w, .inl (G 5, 1, .inr (.inl (F2))))] ++ wC G a ar az ad2 ap2 ts2 ((opMoths cs ((xs (7 * i + 1)).toInt)).2.2))) (wMod G mb th cs ++ ([(w, .inl (G 5, 1, .inr (.inl (F2))))] ++ wC G a ar az ad2 ap2 ts2 ((opMoths cs ((xs (7 * i + 1)).toInt)).2.2))) := List.Perm.refl _
  refine k_int (g_V (As := [.int (iv ((xs (7 * i + 1)).toInt))]) (rest := []) (q0 := 0) (ci := 3) ⟨hx, hb, hml, hown, hts⟩ (c_X3_setMoths l D G mb th cs hok ((xs (7 * i + 1)).toInt) (xs_rng _)) (cwV 1 hts gL_law_X3_setMoths rfl rfl rfl (by decide +kernel) ⟨Nat.le_of_ble_eq_true rfl, Nat.le_of_ble_eq_true rfl⟩) hK hP hD hp rfl rfl rfl rfl hl.1 rfl (Nat.le_of_ble_eq_true rfl) dL_law_609 ⟨Nat.le_trans (by omega) hc1, Nat.le_trans (by omega) hc2⟩) hP hD hS hA hp (fun v u H locs hw hP hD hS => ?_)
  obtain ⟨rfl, rfl⟩ := hw
  replace hP : va_P D vwCl (wMod G mb ((opMoths cs ((xs (7 * i + 1)).toInt)).1) ((opMoths cs ((xs (7 * i + 1)).toInt)).2.2) ++ ([(w, .inl (G 5, 1, .inr (.inl (F2))))] ++ wC G a ar az ad2 ap2 ts2 ((opMoths cs ((xs (7 * i + 1)).toInt)).2.2))) H := hP
  replace hD : va_D A (wMod G mb ((opMoths cs ((xs (7 * i + 1)).toInt)).1) ((opMoths cs ((xs (7 * i + 1)).toInt)).2.2) ++ ([(w, .inl (G 5, 1, .inr (.inl (F2))))] ++ wC G a ar az ad2 ap2 ts2 ((opMoths cs ((xs (7 * i + 1)).toInt)).2.2))) := hD
  replace hP := wP_perm hP (pm3 _ _ _).symm
  replace hD := wD_perm hD (pm3 _ _ _).symm
  have hP : va_P D vwCl (wOut G w F2 ++ (wMod G mb ((opMoths cs ((xs (7 * i + 1)).toInt)).1) ((opMoths cs ((xs (7 * i + 1)).toInt)).2.2) ++ wC G a ar az ad2 ap2 ts2 ((opMoths cs ((xs (7 * i + 1)).toInt)).2.2))) H := hP
  have hD : va_D A (wOut G w F2 ++ (wMod G mb ((opMoths cs ((xs (7 * i + 1)).toInt)).1) ((opMoths cs ((xs (7 * i + 1)).toInt)).2.2) ++ wC G a ar az ad2 ap2 ts2 ((opMoths cs ((xs (7 * i + 1)).toInt)).2.2))) := hD
  refine lv_istore (lv' := [(6, .int (iv ((opMoths cs ((xs (7 * i + 1)).toInt)).2.1))), (5, .int (iv ((opMoths cs ((xs (7 * i + 1)).toInt)).1))), (0, .ref b), (1, .ref (a 0)), (2, .ref (mb 0)), (3, .ref w), (4, .int (iv ((7 * i : Nat) : Int)))]) hx hb dL_law_612 hl (by decide) rfl (fun ls hl => ?_)
  refine lv_aload_n hx hb dL_law_614 rfl (lv_at hl 4 rfl) ?_
  replace hP := wP_perm hP (pm3 _ _ _)
  replace hD := wD_perm hD (pm3 _ _ _)
  have hp : List.Perm (wMod G mb ((opMoths cs ((xs (7 * i + 1)).toInt)).1) ((opMoths cs ((xs (7 * i + 1)).toInt)).2.2) ++ ([(w, .inl (G 5, 1, .inr (.inl (F2))))] ++ wC G a ar az ad2 ap2 ts2 ((opMoths cs ((xs (7 * i + 1)).toInt)).2.2))) ([wM0 mb ((opMoths cs ((xs (7 * i + 1)).toInt)).1) (kn ((opMoths cs ((xs (7 * i + 1)).toInt)).2.2) : Int) (kp ((opMoths cs ((xs (7 * i + 1)).toInt)).2.2) : Int) (km ((opMoths cs ((xs (7 * i + 1)).toInt)).2.2))] ++ ((wMod G mb ((opMoths cs ((xs (7 * i + 1)).toInt)).1) ((opMoths cs ((xs (7 * i + 1)).toInt)).2.2)).tail ++ ([(w, .inl (G 5, 1, .inr (.inl (F2))))] ++ wC G a ar az ad2 ap2 ts2 ((opMoths cs ((xs (7 * i + 1)).toInt)).2.2)))) := List.Perm.refl _
  refine k_int (g_V (As := []) (rest := []) (q0 := 0) (ci := 3) ⟨hx, hb, hml, hown, hts⟩ (c_X3_thrown l D G mb ((opMoths cs ((xs (7 * i + 1)).toInt)).1) (kn ((opMoths cs ((xs (7 * i + 1)).toInt)).2.2) : Int) (kp ((opMoths cs ((xs (7 * i + 1)).toInt)).2.2) : Int) (km ((opMoths cs ((xs (7 * i + 1)).toInt)).2.2))) (cwV 0 hts gL_law_X3_thrown rfl rfl rfl (by decide +kernel) ⟨Nat.le_of_ble_eq_true rfl, Nat.le_of_ble_eq_true rfl⟩) hK hP hD hp rfl rfl rfl rfl hl.1 rfl (Nat.le_of_ble_eq_true rfl) dL_law_615 ⟨Nat.le_trans (by omega) hc1, Nat.le_trans (by omega) hc2⟩) hP hD hS hA hp (fun v u H locs hw hP hD hS => ?_)
  obtain ⟨rfl, rfl⟩ := hw
  replace hP : va_P D vwCl (wMod G mb ((opMoths cs ((xs (7 * i + 1)).toInt)).1) ((opMoths cs ((xs (7 * i + 1)).toInt)).2.2) ++ ([(w, .inl (G 5, 1, .inr (.inl (F2))))] ++ wC G a ar az ad2 ap2 ts2 ((opMoths cs ((xs (7 * i + 1)).toInt)).2.2))) H := hP
  replace hD : va_D A (wMod G mb ((opMoths cs ((xs (7 * i + 1)).toInt)).1) ((opMoths cs ((xs (7 * i + 1)).toInt)).2.2) ++ ([(w, .inl (G 5, 1, .inr (.inl (F2))))] ++ wC G a ar az ad2 ap2 ts2 ((opMoths cs ((xs (7 * i + 1)).toInt)).2.2))) := hD
  replace hP := wP_perm hP (pm3 _ _ _).symm
  replace hD := wD_perm hD (pm3 _ _ _).symm
  have hP : va_P D vwCl (wOut G w F2 ++ (wMod G mb ((opMoths cs ((xs (7 * i + 1)).toInt)).1) ((opMoths cs ((xs (7 * i + 1)).toInt)).2.2) ++ wC G a ar az ad2 ap2 ts2 ((opMoths cs ((xs (7 * i + 1)).toInt)).2.2))) H := hP
  have hD : va_D A (wOut G w F2 ++ (wMod G mb ((opMoths cs ((xs (7 * i + 1)).toInt)).1) ((opMoths cs ((xs (7 * i + 1)).toInt)).2.2) ++ wC G a ar az ad2 ap2 ts2 ((opMoths cs ((xs (7 * i + 1)).toInt)).2.2))) := hD
  refine lv_iload hx hb dL_law_618 (lv_at hl 1 rfl) ?_
  refine lv_icmp_eq (tgt := 625) hx hb dL_law_620 (by decide) (fun _ => ?_) (fun h9 => absurd rfl h9)
  refine lv_iload hx hb dL_law_625 (lv_at hl 1 rfl) ?_
  refine lv_if_ne (tgt := 642) hx hb dL_law_627 (by decide) (fun c_627 => ?_) (fun c_627 => ?_)
  · skip
    refine r_goto hx hb 1381 dL_law_642 (by decide) ?_
    exact W.widen (by omega) (by omega) (kk ((opMoths cs ((xs (7 * i + 1)).toInt)).1) ((opMoths cs ((xs (7 * i + 1)).toInt)).2.2) ad2 ap2 ts2 F2 _ _ hP hD hS _ (lv_sub hl [2, 3, 4, 5, 6] rfl) (g_moths hok _).1 (g_moths hok _).2)
  · have hF0 := hF c_627
    refine lv_aload_n hx hb dL_law_630 rfl (lv_at hl 5 rfl) ?_
    refine r_const hx hb dL_law_631 ?_
    refine r_lald0 (F := F2) hx hb hK hP 0 rfl dL_law_632 ?_
    refine lv_iload hx hb dL_law_633 (lv_at hl 0 rfl) ?_
    refine lv_i2l (v := ((iv ((opMoths cs ((xs (7 * i + 1)).toInt)).2.1))).toInt64) hx hb dL_law_635 rfl ?_
    rw [hF0]
    refine r_lcmp_eq hx hb dL_law_636 ?_
    refine lv_if_eq (tgt := 642) hx hb dL_law_637 (by decide) (fun _ => ?_) (fun h9 => absurd rfl h9)
    refine r_goto hx hb 1381 dL_law_642 (by decide) ?_
    exact W.widen (by omega) (by omega) (kk ((opMoths cs ((xs (7 * i + 1)).toInt)).1) ((opMoths cs ((xs (7 * i + 1)).toInt)).2.2) ad2 ap2 ts2 F2 _ _ hP hD hS _ (lv_sub hl [2, 3, 4, 5, 6] rfl) (g_moths hok _).1 (g_moths hok _).2)
set_option maxHeartbeats 4000000 in
set_option maxRecDepth 100000 in
theorem k_law_mend {p : Program} {l : Launch} {e : Env} {s : State} {m : MethodId} {below : List Frame} {meth : Method} {c : Code} {H : Heap} {locs : List Loc} {cells slots : Nat} {ls : Array Slot} {A : Nat → Prop} {Q : State → Prop} {D : va_G} {G : Nat → ClassId} {b L : Nat} {xs : Nat → Int32} (hB : LB p l s m meth c D G b L xs A) {a ar az mb : Nat → Nat} {ad ap : AD} {ts : DS} {cs : CS} {th : Int} {w : Nat} {F : Nat → Int64} {i : Nat} (hi : 7 * i + 7 ≤ L) (hok : okC cs) (hdl : kd cs ≤ 1000000) (hc1 : cells + 10 ≤ room_1.cells) (hc2 : slots + 250 ≤ room_1.slots) (hP : va_P D vwCl (wOut G w F ++ (wMod G mb th cs ++ wC G a ar az ad ap ts cs)) H) (hD : va_D A (wOut G w F ++ (wMod G mb th cs ++ wC G a ar az ad ap ts cs))) (hS : va_S A s.heap H locs) (hl : lv_has ls 9 [(0, .ref b), (1, .ref (a 0)), (2, .ref (mb 0)), (3, .ref w), (4, .int (iv ((7 * i : Nat) : Int)))])
  (kk : ∀ (th : Int) (cs2 : CS) (ad ap : AD) (ts : DS) (F : Nat → Int64) (H : Heap) (locs : List Loc), va_P D vwCl (wOut G w F ++ (wMod G mb th cs2 ++ wC G a ar az ad ap ts cs2)) H → va_D A (wOut G w F ++ (wMod G mb th cs2 ++ wC G a ar az ad ap ts cs2)) → va_S A s.heap H locs → ∀ (ls : Array Slot), lv_has ls 9 [(0, .ref b), (1, .ref (a 0)), (2, .ref (mb 0)), (3, .ref w), (4, .int (iv ((7 * i : Nat) : Int)))] → okC cs2 → kd cs2 ≤ kd cs + 60 → W p l e room_1 s m #[Value.ref b] below meth c H locs (cells + 10) (slots + 250) Q (F0 m 1381 ls [])) : W p l e room_1 s m #[Value.ref b] below meth c H locs cells slots Q (F0 m 645 ls []) := by
  obtain ⟨hx, hb, hml, hown, hts, hK, hT, hN, hA, hX, hbl, hbA, hL, hl0⟩ := hB
  refine lv_aload_n hx hb dL_law_645 rfl (lv_at hl 1 rfl) ?_
  refine lv_aload_n hx hb dL_law_646 rfl (lv_at hl 0 rfl) ?_
  refine lv_iload hx hb dL_law_647 (lv_at hl 4 rfl) ?_
  refine r_const hx hb dL_law_649 ?_
  refine r_add hx hb dL_law_650 ?_
  refine r_sld hx hb hX hbl hbA hS (7 * i + 1) (by omega) (by omega) hL dL_law_651 ?_
  refine lv_aload_n hx hb dL_law_652 rfl (lv_at hl 0 rfl) ?_
  refine lv_iload hx hb dL_law_653 (lv_at hl 4 rfl) ?_
  refine r_const hx hb dL_law_655 ?_
  refine r_add hx hb dL_law_656 ?_
  refine r_sld hx hb hX hbl hbA hS (7 * i + 2) (by omega) (by omega) hL dL_law_657 ?_
  refine lv_aload_n hx hb dL_law_658 rfl (lv_at hl 0 rfl) ?_
  refine lv_iload hx hb dL_law_659 (lv_at hl 4 rfl) ?_
  refine r_const hx hb dL_law_661 ?_
  refine r_add hx hb dL_law_662 ?_
  refine r_sld hx hb hX hbl hbA hS (7 * i + 3) (by omega) (by omega) hL dL_law_663 ?_
  refine lv_aload_n hx hb dL_law_664 rfl (lv_at hl 3 rfl) ?_
  refine k_int (g_SH (As := [.ref (a 0), .int (iv ((xs (7 * i + 1)).toInt)), .int (iv ((xs (7 * i + 2)).toInt)), .int (iv ((xs (7 * i + 3)).toInt)), .ref w]) (rest := []) ⟨hx, hb, hml, hown, hts⟩ (c_L_mend l D G hl0 a ar az ad ap ts cs hok w F ((xs (7 * i + 1)).toInt) ((xs (7 * i + 2)).toInt) ((xs (7 * i + 3)).toInt) (xs_rng _) (xs_rng _) (xs_rng _)) (vx_cwSW 5 hts gL_law_L_mend rfl rfl rfl (by decide +kernel) ⟨Nat.le_of_ble_eq_true rfl, Nat.le_of_ble_eq_true rfl⟩) hK hT hN hA hP hD hS (pm1 _ _ _) rfl hl.1 rfl (Nat.le_of_ble_eq_true rfl) dL_law_665 ⟨Nat.le_trans (by omega) hc1, Nat.le_trans (by omega) hc2⟩) hP hD hS hA (pm1 _ _ _) (fun v u H locs hw hP hD hS => ?_)
  obtain ⟨rfl, ad2, ap2, ts2, F2, rfl, hF⟩ := hw
  have hP := wP_perm hP (pm1 _ _ _).symm
  have hD := wD_perm hD (pm1 _ _ _).symm
  have hP : va_P D vwCl (wOut G w F2 ++ (wMod G mb th cs ++ wC G a ar az ad2 ap2 ts2 ((opMend cs ((xs (7 * i + 1)).toInt) ((xs (7 * i + 2)).toInt) ((xs (7 * i + 3)).toInt)).2.2))) H := hP
  have hD : va_D A (wOut G w F2 ++ (wMod G mb th cs ++ wC G a ar az ad2 ap2 ts2 ((opMend cs ((xs (7 * i + 1)).toInt) ((xs (7 * i + 2)).toInt) ((xs (7 * i + 3)).toInt)).2.2))) := hD
  refine lv_istore (lv' := [(5, .int (iv ((opMend cs ((xs (7 * i + 1)).toInt) ((xs (7 * i + 2)).toInt) ((xs (7 * i + 3)).toInt)).1))), (0, .ref b), (1, .ref (a 0)), (2, .ref (mb 0)), (3, .ref w), (4, .int (iv ((7 * i : Nat) : Int)))]) hx hb dL_law_668 hl (by decide) rfl (fun ls hl => ?_)
  refine lv_aload_n hx hb dL_law_670 rfl (lv_at hl 3 rfl) ?_
  refine lv_aload_n hx hb dL_law_671 rfl (lv_at hl 1 rfl) ?_
  refine lv_iload hx hb dL_law_672 (lv_at hl 5 rfl) ?_
  refine r_const hx hb dL_law_674 ?_
  refine r_add hx hb dL_law_675 ?_
  refine r_sld hx hb hX hbl hbA hS (7 * i + 1) (by omega) (by omega) hL dL_law_676 ?_
  refine lv_aload_n hx hb dL_law_677 rfl (lv_at hl 1 rfl) ?_
  refine lv_iload hx hb dL_law_678 (lv_at hl 5 rfl) ?_
  refine r_const hx hb dL_law_680 ?_
  refine r_add hx hb dL_law_681 ?_
  refine r_sld hx hb hX hbl hbA hS (7 * i + 2) (by omega) (by omega) hL dL_law_682 ?_
  refine lv_aload_n hx hb dL_law_683 rfl (lv_at hl 1 rfl) ?_
  refine lv_iload hx hb dL_law_684 (lv_at hl 5 rfl) ?_
  refine r_const hx hb dL_law_686 ?_
  refine r_add hx hb dL_law_687 ?_
  refine r_sld hx hb hX hbl hbA hS (7 * i + 3) (by omega) (by omega) hL dL_law_688 ?_
  replace hP := wP_perm hP (pm3 _ _ _)
  replace hD := wD_perm hD (pm3 _ _ _)
  have hp : List.Perm (wMod G mb th cs ++ ([(w, .inl (G 5, 1, .inr (.inl (F2))))] ++ wC G a ar az ad2 ap2 ts2 ((opMend cs ((xs (7 * i + 1)).toInt) ((xs (7 * i + 2)).toInt) ((xs (7 * i + 3)).toInt)).2.2))) (wMod G mb th cs ++ ([(w, .inl (G 5, 1, .inr (.inl (F2))))] ++ wC G a ar az ad2 ap2 ts2 ((opMend cs ((xs (7 * i + 1)).toInt) ((xs (7 * i + 2)).toInt) ((xs (7 * i + 3)).toInt)).2.2))) := List.Perm.refl _
  refine k_int (g_V (As := [.int (iv ((xs (7 * i + 1)).toInt)), .int (iv ((xs (7 * i + 2)).toInt)), .int (iv ((xs (7 * i + 3)).toInt))]) (rest := []) (q0 := 0) (ci := 3) ⟨hx, hb, hml, hown, hts⟩ (c_X3_mend l D G mb th cs hok ((xs (7 * i + 1)).toInt) ((xs (7 * i + 2)).toInt) ((xs (7 * i + 3)).toInt) (xs_rng _) (xs_rng _) (xs_rng _)) (cwV 3 hts gL_law_X3_mend rfl rfl rfl (by decide +kernel) ⟨Nat.le_of_ble_eq_true rfl, Nat.le_of_ble_eq_true rfl⟩) hK hP hD hp rfl rfl rfl rfl hl.1 rfl (Nat.le_of_ble_eq_true rfl) dL_law_689 ⟨Nat.le_trans (by omega) hc1, Nat.le_trans (by omega) hc2⟩) hP hD hS hA hp (fun v u H locs hw hP hD hS => ?_)
  obtain ⟨rfl, rfl⟩ := hw
  replace hP : va_P D vwCl (wMod G mb ((opMend cs ((xs (7 * i + 1)).toInt) ((xs (7 * i + 2)).toInt) ((xs (7 * i + 3)).toInt)).1) ((opMend cs ((xs (7 * i + 1)).toInt) ((xs (7 * i + 2)).toInt) ((xs (7 * i + 3)).toInt)).2.2) ++ ([(w, .inl (G 5, 1, .inr (.inl (F2))))] ++ wC G a ar az ad2 ap2 ts2 ((opMend cs ((xs (7 * i + 1)).toInt) ((xs (7 * i + 2)).toInt) ((xs (7 * i + 3)).toInt)).2.2))) H := hP
  replace hD : va_D A (wMod G mb ((opMend cs ((xs (7 * i + 1)).toInt) ((xs (7 * i + 2)).toInt) ((xs (7 * i + 3)).toInt)).1) ((opMend cs ((xs (7 * i + 1)).toInt) ((xs (7 * i + 2)).toInt) ((xs (7 * i + 3)).toInt)).2.2) ++ ([(w, .inl (G 5, 1, .inr (.inl (F2))))] ++ wC G a ar az ad2 ap2 ts2 ((opMend cs ((xs (7 * i + 1)).toInt) ((xs (7 * i + 2)).toInt) ((xs (7 * i + 3)).toInt)).2.2))) := hD
  replace hP := wP_perm hP (pm3 _ _ _).symm
  replace hD := wD_perm hD (pm3 _ _ _).symm
  have hP : va_P D vwCl (wOut G w F2 ++ (wMod G mb ((opMend cs ((xs (7 * i + 1)).toInt) ((xs (7 * i + 2)).toInt) ((xs (7 * i + 3)).toInt)).1) ((opMend cs ((xs (7 * i + 1)).toInt) ((xs (7 * i + 2)).toInt) ((xs (7 * i + 3)).toInt)).2.2) ++ wC G a ar az ad2 ap2 ts2 ((opMend cs ((xs (7 * i + 1)).toInt) ((xs (7 * i + 2)).toInt) ((xs (7 * i + 3)).toInt)).2.2))) H := hP
  have hD : va_D A (wOut G w F2 ++ (wMod G mb ((opMend cs ((xs (7 * i + 1)).toInt) ((xs (7 * i + 2)).toInt) ((xs (7 * i + 3)).toInt)).1) ((opMend cs ((xs (7 * i + 1)).toInt) ((xs (7 * i + 2)).toInt) ((xs (7 * i + 3)).toInt)).2.2) ++ wC G a ar az ad2 ap2 ts2 ((opMend cs ((xs (7 * i + 1)).toInt) ((xs (7 * i + 2)).toInt) ((xs (7 * i + 3)).toInt)).2.2))) := hD
  refine lv_istore (lv' := [(6, .int (iv ((opMend cs ((xs (7 * i + 1)).toInt) ((xs (7 * i + 2)).toInt) ((xs (7 * i + 3)).toInt)).2.1))), (5, .int (iv ((opMend cs ((xs (7 * i + 1)).toInt) ((xs (7 * i + 2)).toInt) ((xs (7 * i + 3)).toInt)).1))), (0, .ref b), (1, .ref (a 0)), (2, .ref (mb 0)), (3, .ref w), (4, .int (iv ((7 * i : Nat) : Int)))]) hx hb dL_law_692 hl (by decide) rfl (fun ls hl => ?_)
  refine lv_aload_n hx hb dL_law_694 rfl (lv_at hl 4 rfl) ?_
  replace hP := wP_perm hP (pm3 _ _ _)
  replace hD := wD_perm hD (pm3 _ _ _)
  have hp : List.Perm (wMod G mb ((opMend cs ((xs (7 * i + 1)).toInt) ((xs (7 * i + 2)).toInt) ((xs (7 * i + 3)).toInt)).1) ((opMend cs ((xs (7 * i + 1)).toInt) ((xs (7 * i + 2)).toInt) ((xs (7 * i + 3)).toInt)).2.2) ++ ([(w, .inl (G 5, 1, .inr (.inl (F2))))] ++ wC G a ar az ad2 ap2 ts2 ((opMend cs ((xs (7 * i + 1)).toInt) ((xs (7 * i + 2)).toInt) ((xs (7 * i + 3)).toInt)).2.2))) ([wM0 mb ((opMend cs ((xs (7 * i + 1)).toInt) ((xs (7 * i + 2)).toInt) ((xs (7 * i + 3)).toInt)).1) (kn ((opMend cs ((xs (7 * i + 1)).toInt) ((xs (7 * i + 2)).toInt) ((xs (7 * i + 3)).toInt)).2.2) : Int) (kp ((opMend cs ((xs (7 * i + 1)).toInt) ((xs (7 * i + 2)).toInt) ((xs (7 * i + 3)).toInt)).2.2) : Int) (km ((opMend cs ((xs (7 * i + 1)).toInt) ((xs (7 * i + 2)).toInt) ((xs (7 * i + 3)).toInt)).2.2))] ++ ((wMod G mb ((opMend cs ((xs (7 * i + 1)).toInt) ((xs (7 * i + 2)).toInt) ((xs (7 * i + 3)).toInt)).1) ((opMend cs ((xs (7 * i + 1)).toInt) ((xs (7 * i + 2)).toInt) ((xs (7 * i + 3)).toInt)).2.2)).tail ++ ([(w, .inl (G 5, 1, .inr (.inl (F2))))] ++ wC G a ar az ad2 ap2 ts2 ((opMend cs ((xs (7 * i + 1)).toInt) ((xs (7 * i + 2)).toInt) ((xs (7 * i + 3)).toInt)).2.2)))) := List.Perm.refl _
  refine k_int (g_V (As := []) (rest := []) (q0 := 0) (ci := 3) ⟨hx, hb, hml, hown, hts⟩ (c_X3_thrown l D G mb ((opMend cs ((xs (7 * i + 1)).toInt) ((xs (7 * i + 2)).toInt) ((xs (7 * i + 3)).toInt)).1) (kn ((opMend cs ((xs (7 * i + 1)).toInt) ((xs (7 * i + 2)).toInt) ((xs (7 * i + 3)).toInt)).2.2) : Int) (kp ((opMend cs ((xs (7 * i + 1)).toInt) ((xs (7 * i + 2)).toInt) ((xs (7 * i + 3)).toInt)).2.2) : Int) (km ((opMend cs ((xs (7 * i + 1)).toInt) ((xs (7 * i + 2)).toInt) ((xs (7 * i + 3)).toInt)).2.2))) (cwV 0 hts gL_law_X3_thrown rfl rfl rfl (by decide +kernel) ⟨Nat.le_of_ble_eq_true rfl, Nat.le_of_ble_eq_true rfl⟩) hK hP hD hp rfl rfl rfl rfl hl.1 rfl (Nat.le_of_ble_eq_true rfl) dL_law_695 ⟨Nat.le_trans (by omega) hc1, Nat.le_trans (by omega) hc2⟩) hP hD hS hA hp (fun v u H locs hw hP hD hS => ?_)
  obtain ⟨rfl, rfl⟩ := hw
  replace hP : va_P D vwCl (wMod G mb ((opMend cs ((xs (7 * i + 1)).toInt) ((xs (7 * i + 2)).toInt) ((xs (7 * i + 3)).toInt)).1) ((opMend cs ((xs (7 * i + 1)).toInt) ((xs (7 * i + 2)).toInt) ((xs (7 * i + 3)).toInt)).2.2) ++ ([(w, .inl (G 5, 1, .inr (.inl (F2))))] ++ wC G a ar az ad2 ap2 ts2 ((opMend cs ((xs (7 * i + 1)).toInt) ((xs (7 * i + 2)).toInt) ((xs (7 * i + 3)).toInt)).2.2))) H := hP
  replace hD : va_D A (wMod G mb ((opMend cs ((xs (7 * i + 1)).toInt) ((xs (7 * i + 2)).toInt) ((xs (7 * i + 3)).toInt)).1) ((opMend cs ((xs (7 * i + 1)).toInt) ((xs (7 * i + 2)).toInt) ((xs (7 * i + 3)).toInt)).2.2) ++ ([(w, .inl (G 5, 1, .inr (.inl (F2))))] ++ wC G a ar az ad2 ap2 ts2 ((opMend cs ((xs (7 * i + 1)).toInt) ((xs (7 * i + 2)).toInt) ((xs (7 * i + 3)).toInt)).2.2))) := hD
  replace hP := wP_perm hP (pm3 _ _ _).symm
  replace hD := wD_perm hD (pm3 _ _ _).symm
  have hP : va_P D vwCl (wOut G w F2 ++ (wMod G mb ((opMend cs ((xs (7 * i + 1)).toInt) ((xs (7 * i + 2)).toInt) ((xs (7 * i + 3)).toInt)).1) ((opMend cs ((xs (7 * i + 1)).toInt) ((xs (7 * i + 2)).toInt) ((xs (7 * i + 3)).toInt)).2.2) ++ wC G a ar az ad2 ap2 ts2 ((opMend cs ((xs (7 * i + 1)).toInt) ((xs (7 * i + 2)).toInt) ((xs (7 * i + 3)).toInt)).2.2))) H := hP
  have hD : va_D A (wOut G w F2 ++ (wMod G mb ((opMend cs ((xs (7 * i + 1)).toInt) ((xs (7 * i + 2)).toInt) ((xs (7 * i + 3)).toInt)).1) ((opMend cs ((xs (7 * i + 1)).toInt) ((xs (7 * i + 2)).toInt) ((xs (7 * i + 3)).toInt)).2.2) ++ wC G a ar az ad2 ap2 ts2 ((opMend cs ((xs (7 * i + 1)).toInt) ((xs (7 * i + 2)).toInt) ((xs (7 * i + 3)).toInt)).2.2))) := hD
  refine lv_iload hx hb dL_law_698 (lv_at hl 1 rfl) ?_
  refine lv_icmp_eq (tgt := 705) hx hb dL_law_700 (by decide) (fun _ => ?_) (fun h9 => absurd rfl h9)
  refine lv_iload hx hb dL_law_705 (lv_at hl 1 rfl) ?_
  refine lv_if_ne (tgt := 722) hx hb dL_law_707 (by decide) (fun c_707 => ?_) (fun c_707 => ?_)
  · skip
    refine r_goto hx hb 1381 dL_law_722 (by decide) ?_
    exact W.widen (by omega) (by omega) (kk ((opMend cs ((xs (7 * i + 1)).toInt) ((xs (7 * i + 2)).toInt) ((xs (7 * i + 3)).toInt)).1) ((opMend cs ((xs (7 * i + 1)).toInt) ((xs (7 * i + 2)).toInt) ((xs (7 * i + 3)).toInt)).2.2) ad2 ap2 ts2 F2 _ _ hP hD hS _ (lv_sub hl [2, 3, 4, 5, 6] rfl) (g_mend hok _ _ _).1 (g_mend hok _ _ _).2)
  · have hF0 := hF c_707
    refine lv_aload_n hx hb dL_law_710 rfl (lv_at hl 5 rfl) ?_
    refine r_const hx hb dL_law_711 ?_
    refine r_lald0 (F := F2) hx hb hK hP 0 rfl dL_law_712 ?_
    refine lv_iload hx hb dL_law_713 (lv_at hl 0 rfl) ?_
    refine lv_i2l (v := ((iv ((opMend cs ((xs (7 * i + 1)).toInt) ((xs (7 * i + 2)).toInt) ((xs (7 * i + 3)).toInt)).2.1))).toInt64) hx hb dL_law_715 rfl ?_
    rw [hF0]
    refine r_lcmp_eq hx hb dL_law_716 ?_
    refine lv_if_eq (tgt := 722) hx hb dL_law_717 (by decide) (fun _ => ?_) (fun h9 => absurd rfl h9)
    refine r_goto hx hb 1381 dL_law_722 (by decide) ?_
    exact W.widen (by omega) (by omega) (kk ((opMend cs ((xs (7 * i + 1)).toInt) ((xs (7 * i + 2)).toInt) ((xs (7 * i + 3)).toInt)).1) ((opMend cs ((xs (7 * i + 1)).toInt) ((xs (7 * i + 2)).toInt) ((xs (7 * i + 3)).toInt)).2.2) ad2 ap2 ts2 F2 _ _ hP hD hS _ (lv_sub hl [2, 3, 4, 5, 6] rfl) (g_mend hok _ _ _).1 (g_mend hok _ _ _).2)
set_option maxHeartbeats 4000000 in
set_option maxRecDepth 100000 in
theorem k_law_joint {p : Program} {l : Launch} {e : Env} {s : State} {m : MethodId} {below : List Frame} {meth : Method} {c : Code} {H : Heap} {locs : List Loc} {cells slots : Nat} {ls : Array Slot} {A : Nat → Prop} {Q : State → Prop} {D : va_G} {G : Nat → ClassId} {b L : Nat} {xs : Nat → Int32} (hB : LB p l s m meth c D G b L xs A) {a ar az mb : Nat → Nat} {ad ap : AD} {ts : DS} {cs : CS} {th : Int} {w : Nat} {F : Nat → Int64} {i : Nat} (hi : 7 * i + 7 ≤ L) (hok : okC cs) (hdl : kd cs ≤ 1000000) (hc1 : cells + 10 ≤ room_1.cells) (hc2 : slots + 250 ≤ room_1.slots) (hP : va_P D vwCl (wOut G w F ++ (wMod G mb th cs ++ wC G a ar az ad ap ts cs)) H) (hD : va_D A (wOut G w F ++ (wMod G mb th cs ++ wC G a ar az ad ap ts cs))) (hS : va_S A s.heap H locs) (hl : lv_has ls 9 [(0, .ref b), (1, .ref (a 0)), (2, .ref (mb 0)), (3, .ref w), (4, .int (iv ((7 * i : Nat) : Int)))])
  (kk : ∀ (th : Int) (cs2 : CS) (ad ap : AD) (ts : DS) (F : Nat → Int64) (H : Heap) (locs : List Loc), va_P D vwCl (wOut G w F ++ (wMod G mb th cs2 ++ wC G a ar az ad ap ts cs2)) H → va_D A (wOut G w F ++ (wMod G mb th cs2 ++ wC G a ar az ad ap ts cs2)) → va_S A s.heap H locs → ∀ (ls : Array Slot), lv_has ls 9 [(0, .ref b), (1, .ref (a 0)), (2, .ref (mb 0)), (3, .ref w), (4, .int (iv ((7 * i : Nat) : Int)))] → okC cs2 → kd cs2 ≤ kd cs + 60 → W p l e room_1 s m #[Value.ref b] below meth c H locs (cells + 10) (slots + 250) Q (F0 m 1381 ls [])) : W p l e room_1 s m #[Value.ref b] below meth c H locs cells slots Q (F0 m 725 ls []) := by
  obtain ⟨hx, hb, hml, hown, hts, hK, hT, hN, hA, hX, hbl, hbA, hL, hl0⟩ := hB
  refine lv_aload_n hx hb dL_law_725 rfl (lv_at hl 1 rfl) ?_
  refine lv_aload_n hx hb dL_law_726 rfl (lv_at hl 0 rfl) ?_
  refine lv_iload hx hb dL_law_727 (lv_at hl 4 rfl) ?_
  refine r_const hx hb dL_law_729 ?_
  refine r_add hx hb dL_law_730 ?_
  refine r_sld hx hb hX hbl hbA hS (7 * i + 1) (by omega) (by omega) hL dL_law_731 ?_
  refine lv_aload_n hx hb dL_law_732 rfl (lv_at hl 0 rfl) ?_
  refine lv_iload hx hb dL_law_733 (lv_at hl 4 rfl) ?_
  refine r_const hx hb dL_law_735 ?_
  refine r_add hx hb dL_law_736 ?_
  refine r_sld hx hb hX hbl hbA hS (7 * i + 2) (by omega) (by omega) hL dL_law_737 ?_
  refine lv_aload_n hx hb dL_law_738 rfl (lv_at hl 0 rfl) ?_
  refine lv_iload hx hb dL_law_739 (lv_at hl 4 rfl) ?_
  refine r_const hx hb dL_law_741 ?_
  refine r_add hx hb dL_law_742 ?_
  refine r_sld hx hb hX hbl hbA hS (7 * i + 3) (by omega) (by omega) hL dL_law_743 ?_
  refine lv_aload_n hx hb dL_law_744 rfl (lv_at hl 3 rfl) ?_
  refine k_int (g_SH (As := [.ref (a 0), .int (iv ((xs (7 * i + 1)).toInt)), .int (iv ((xs (7 * i + 2)).toInt)), .int (iv ((xs (7 * i + 3)).toInt)), .ref w]) (rest := []) ⟨hx, hb, hml, hown, hts⟩ (c_L_joint l D G hl0 a ar az ad ap ts cs hok w F ((xs (7 * i + 1)).toInt) ((xs (7 * i + 2)).toInt) ((xs (7 * i + 3)).toInt) (xs_rng _) (xs_rng _) (xs_rng _)) (vx_cwSW 5 hts gL_law_L_joint rfl rfl rfl (by decide +kernel) ⟨Nat.le_of_ble_eq_true rfl, Nat.le_of_ble_eq_true rfl⟩) hK hT hN hA hP hD hS (pm1 _ _ _) rfl hl.1 rfl (Nat.le_of_ble_eq_true rfl) dL_law_745 ⟨Nat.le_trans (by omega) hc1, Nat.le_trans (by omega) hc2⟩) hP hD hS hA (pm1 _ _ _) (fun v u H locs hw hP hD hS => ?_)
  obtain ⟨rfl, ad2, ap2, ts2, F2, rfl, hF⟩ := hw
  have hP := wP_perm hP (pm1 _ _ _).symm
  have hD := wD_perm hD (pm1 _ _ _).symm
  have hP : va_P D vwCl (wOut G w F2 ++ (wMod G mb th cs ++ wC G a ar az ad2 ap2 ts2 ((opJoint cs ((xs (7 * i + 1)).toInt) ((xs (7 * i + 2)).toInt) ((xs (7 * i + 3)).toInt)).2.2))) H := hP
  have hD : va_D A (wOut G w F2 ++ (wMod G mb th cs ++ wC G a ar az ad2 ap2 ts2 ((opJoint cs ((xs (7 * i + 1)).toInt) ((xs (7 * i + 2)).toInt) ((xs (7 * i + 3)).toInt)).2.2))) := hD
  refine lv_istore (lv' := [(5, .int (iv ((opJoint cs ((xs (7 * i + 1)).toInt) ((xs (7 * i + 2)).toInt) ((xs (7 * i + 3)).toInt)).1))), (0, .ref b), (1, .ref (a 0)), (2, .ref (mb 0)), (3, .ref w), (4, .int (iv ((7 * i : Nat) : Int)))]) hx hb dL_law_748 hl (by decide) rfl (fun ls hl => ?_)
  refine lv_aload_n hx hb dL_law_750 rfl (lv_at hl 3 rfl) ?_
  refine lv_aload_n hx hb dL_law_751 rfl (lv_at hl 1 rfl) ?_
  refine lv_iload hx hb dL_law_752 (lv_at hl 5 rfl) ?_
  refine r_const hx hb dL_law_754 ?_
  refine r_add hx hb dL_law_755 ?_
  refine r_sld hx hb hX hbl hbA hS (7 * i + 1) (by omega) (by omega) hL dL_law_756 ?_
  refine lv_aload_n hx hb dL_law_757 rfl (lv_at hl 1 rfl) ?_
  refine lv_iload hx hb dL_law_758 (lv_at hl 5 rfl) ?_
  refine r_const hx hb dL_law_760 ?_
  refine r_add hx hb dL_law_761 ?_
  refine r_sld hx hb hX hbl hbA hS (7 * i + 2) (by omega) (by omega) hL dL_law_762 ?_
  refine lv_aload_n hx hb dL_law_763 rfl (lv_at hl 1 rfl) ?_
  refine lv_iload hx hb dL_law_764 (lv_at hl 5 rfl) ?_
  refine r_const hx hb dL_law_766 ?_
  refine r_add hx hb dL_law_767 ?_
  refine r_sld hx hb hX hbl hbA hS (7 * i + 3) (by omega) (by omega) hL dL_law_768 ?_
  replace hP := wP_perm hP (pm3 _ _ _)
  replace hD := wD_perm hD (pm3 _ _ _)
  have hp : List.Perm (wMod G mb th cs ++ ([(w, .inl (G 5, 1, .inr (.inl (F2))))] ++ wC G a ar az ad2 ap2 ts2 ((opJoint cs ((xs (7 * i + 1)).toInt) ((xs (7 * i + 2)).toInt) ((xs (7 * i + 3)).toInt)).2.2))) (wMod G mb th cs ++ ([(w, .inl (G 5, 1, .inr (.inl (F2))))] ++ wC G a ar az ad2 ap2 ts2 ((opJoint cs ((xs (7 * i + 1)).toInt) ((xs (7 * i + 2)).toInt) ((xs (7 * i + 3)).toInt)).2.2))) := List.Perm.refl _
  refine k_int (g_V (As := [.int (iv ((xs (7 * i + 1)).toInt)), .int (iv ((xs (7 * i + 2)).toInt)), .int (iv ((xs (7 * i + 3)).toInt))]) (rest := []) (q0 := 0) (ci := 3) ⟨hx, hb, hml, hown, hts⟩ (c_X3_joint l D G mb th cs hok ((xs (7 * i + 1)).toInt) ((xs (7 * i + 2)).toInt) ((xs (7 * i + 3)).toInt) (xs_rng _) (xs_rng _) (xs_rng _)) (cwV 3 hts gL_law_X3_joint rfl rfl rfl (by decide +kernel) ⟨Nat.le_of_ble_eq_true rfl, Nat.le_of_ble_eq_true rfl⟩) hK hP hD hp rfl rfl rfl rfl hl.1 rfl (Nat.le_of_ble_eq_true rfl) dL_law_769 ⟨Nat.le_trans (by omega) hc1, Nat.le_trans (by omega) hc2⟩) hP hD hS hA hp (fun v u H locs hw hP hD hS => ?_)
  obtain ⟨rfl, rfl⟩ := hw
  replace hP : va_P D vwCl (wMod G mb ((opJoint cs ((xs (7 * i + 1)).toInt) ((xs (7 * i + 2)).toInt) ((xs (7 * i + 3)).toInt)).1) ((opJoint cs ((xs (7 * i + 1)).toInt) ((xs (7 * i + 2)).toInt) ((xs (7 * i + 3)).toInt)).2.2) ++ ([(w, .inl (G 5, 1, .inr (.inl (F2))))] ++ wC G a ar az ad2 ap2 ts2 ((opJoint cs ((xs (7 * i + 1)).toInt) ((xs (7 * i + 2)).toInt) ((xs (7 * i + 3)).toInt)).2.2))) H := hP
  replace hD : va_D A (wMod G mb ((opJoint cs ((xs (7 * i + 1)).toInt) ((xs (7 * i + 2)).toInt) ((xs (7 * i + 3)).toInt)).1) ((opJoint cs ((xs (7 * i + 1)).toInt) ((xs (7 * i + 2)).toInt) ((xs (7 * i + 3)).toInt)).2.2) ++ ([(w, .inl (G 5, 1, .inr (.inl (F2))))] ++ wC G a ar az ad2 ap2 ts2 ((opJoint cs ((xs (7 * i + 1)).toInt) ((xs (7 * i + 2)).toInt) ((xs (7 * i + 3)).toInt)).2.2))) := hD
  replace hP := wP_perm hP (pm3 _ _ _).symm
  replace hD := wD_perm hD (pm3 _ _ _).symm
  have hP : va_P D vwCl (wOut G w F2 ++ (wMod G mb ((opJoint cs ((xs (7 * i + 1)).toInt) ((xs (7 * i + 2)).toInt) ((xs (7 * i + 3)).toInt)).1) ((opJoint cs ((xs (7 * i + 1)).toInt) ((xs (7 * i + 2)).toInt) ((xs (7 * i + 3)).toInt)).2.2) ++ wC G a ar az ad2 ap2 ts2 ((opJoint cs ((xs (7 * i + 1)).toInt) ((xs (7 * i + 2)).toInt) ((xs (7 * i + 3)).toInt)).2.2))) H := hP
  have hD : va_D A (wOut G w F2 ++ (wMod G mb ((opJoint cs ((xs (7 * i + 1)).toInt) ((xs (7 * i + 2)).toInt) ((xs (7 * i + 3)).toInt)).1) ((opJoint cs ((xs (7 * i + 1)).toInt) ((xs (7 * i + 2)).toInt) ((xs (7 * i + 3)).toInt)).2.2) ++ wC G a ar az ad2 ap2 ts2 ((opJoint cs ((xs (7 * i + 1)).toInt) ((xs (7 * i + 2)).toInt) ((xs (7 * i + 3)).toInt)).2.2))) := hD
  refine lv_istore (lv' := [(6, .int (iv ((opJoint cs ((xs (7 * i + 1)).toInt) ((xs (7 * i + 2)).toInt) ((xs (7 * i + 3)).toInt)).2.1))), (5, .int (iv ((opJoint cs ((xs (7 * i + 1)).toInt) ((xs (7 * i + 2)).toInt) ((xs (7 * i + 3)).toInt)).1))), (0, .ref b), (1, .ref (a 0)), (2, .ref (mb 0)), (3, .ref w), (4, .int (iv ((7 * i : Nat) : Int)))]) hx hb dL_law_772 hl (by decide) rfl (fun ls hl => ?_)
  refine lv_aload_n hx hb dL_law_774 rfl (lv_at hl 4 rfl) ?_
  replace hP := wP_perm hP (pm3 _ _ _)
  replace hD := wD_perm hD (pm3 _ _ _)
  have hp : List.Perm (wMod G mb ((opJoint cs ((xs (7 * i + 1)).toInt) ((xs (7 * i + 2)).toInt) ((xs (7 * i + 3)).toInt)).1) ((opJoint cs ((xs (7 * i + 1)).toInt) ((xs (7 * i + 2)).toInt) ((xs (7 * i + 3)).toInt)).2.2) ++ ([(w, .inl (G 5, 1, .inr (.inl (F2))))] ++ wC G a ar az ad2 ap2 ts2 ((opJoint cs ((xs (7 * i + 1)).toInt) ((xs (7 * i + 2)).toInt) ((xs (7 * i + 3)).toInt)).2.2))) ([wM0 mb ((opJoint cs ((xs (7 * i + 1)).toInt) ((xs (7 * i + 2)).toInt) ((xs (7 * i + 3)).toInt)).1) (kn ((opJoint cs ((xs (7 * i + 1)).toInt) ((xs (7 * i + 2)).toInt) ((xs (7 * i + 3)).toInt)).2.2) : Int) (kp ((opJoint cs ((xs (7 * i + 1)).toInt) ((xs (7 * i + 2)).toInt) ((xs (7 * i + 3)).toInt)).2.2) : Int) (km ((opJoint cs ((xs (7 * i + 1)).toInt) ((xs (7 * i + 2)).toInt) ((xs (7 * i + 3)).toInt)).2.2))] ++ ((wMod G mb ((opJoint cs ((xs (7 * i + 1)).toInt) ((xs (7 * i + 2)).toInt) ((xs (7 * i + 3)).toInt)).1) ((opJoint cs ((xs (7 * i + 1)).toInt) ((xs (7 * i + 2)).toInt) ((xs (7 * i + 3)).toInt)).2.2)).tail ++ ([(w, .inl (G 5, 1, .inr (.inl (F2))))] ++ wC G a ar az ad2 ap2 ts2 ((opJoint cs ((xs (7 * i + 1)).toInt) ((xs (7 * i + 2)).toInt) ((xs (7 * i + 3)).toInt)).2.2)))) := List.Perm.refl _
  refine k_int (g_V (As := []) (rest := []) (q0 := 0) (ci := 3) ⟨hx, hb, hml, hown, hts⟩ (c_X3_thrown l D G mb ((opJoint cs ((xs (7 * i + 1)).toInt) ((xs (7 * i + 2)).toInt) ((xs (7 * i + 3)).toInt)).1) (kn ((opJoint cs ((xs (7 * i + 1)).toInt) ((xs (7 * i + 2)).toInt) ((xs (7 * i + 3)).toInt)).2.2) : Int) (kp ((opJoint cs ((xs (7 * i + 1)).toInt) ((xs (7 * i + 2)).toInt) ((xs (7 * i + 3)).toInt)).2.2) : Int) (km ((opJoint cs ((xs (7 * i + 1)).toInt) ((xs (7 * i + 2)).toInt) ((xs (7 * i + 3)).toInt)).2.2))) (cwV 0 hts gL_law_X3_thrown rfl rfl rfl (by decide +kernel) ⟨Nat.le_of_ble_eq_true rfl, Nat.le_of_ble_eq_true rfl⟩) hK hP hD hp rfl rfl rfl rfl hl.1 rfl (Nat.le_of_ble_eq_true rfl) dL_law_775 ⟨Nat.le_trans (by omega) hc1, Nat.le_trans (by omega) hc2⟩) hP hD hS hA hp (fun v u H locs hw hP hD hS => ?_)
  obtain ⟨rfl, rfl⟩ := hw
  replace hP : va_P D vwCl (wMod G mb ((opJoint cs ((xs (7 * i + 1)).toInt) ((xs (7 * i + 2)).toInt) ((xs (7 * i + 3)).toInt)).1) ((opJoint cs ((xs (7 * i + 1)).toInt) ((xs (7 * i + 2)).toInt) ((xs (7 * i + 3)).toInt)).2.2) ++ ([(w, .inl (G 5, 1, .inr (.inl (F2))))] ++ wC G a ar az ad2 ap2 ts2 ((opJoint cs ((xs (7 * i + 1)).toInt) ((xs (7 * i + 2)).toInt) ((xs (7 * i + 3)).toInt)).2.2))) H := hP
  replace hD : va_D A (wMod G mb ((opJoint cs ((xs (7 * i + 1)).toInt) ((xs (7 * i + 2)).toInt) ((xs (7 * i + 3)).toInt)).1) ((opJoint cs ((xs (7 * i + 1)).toInt) ((xs (7 * i + 2)).toInt) ((xs (7 * i + 3)).toInt)).2.2) ++ ([(w, .inl (G 5, 1, .inr (.inl (F2))))] ++ wC G a ar az ad2 ap2 ts2 ((opJoint cs ((xs (7 * i + 1)).toInt) ((xs (7 * i + 2)).toInt) ((xs (7 * i + 3)).toInt)).2.2))) := hD
  replace hP := wP_perm hP (pm3 _ _ _).symm
  replace hD := wD_perm hD (pm3 _ _ _).symm
  have hP : va_P D vwCl (wOut G w F2 ++ (wMod G mb ((opJoint cs ((xs (7 * i + 1)).toInt) ((xs (7 * i + 2)).toInt) ((xs (7 * i + 3)).toInt)).1) ((opJoint cs ((xs (7 * i + 1)).toInt) ((xs (7 * i + 2)).toInt) ((xs (7 * i + 3)).toInt)).2.2) ++ wC G a ar az ad2 ap2 ts2 ((opJoint cs ((xs (7 * i + 1)).toInt) ((xs (7 * i + 2)).toInt) ((xs (7 * i + 3)).toInt)).2.2))) H := hP
  have hD : va_D A (wOut G w F2 ++ (wMod G mb ((opJoint cs ((xs (7 * i + 1)).toInt) ((xs (7 * i + 2)).toInt) ((xs (7 * i + 3)).toInt)).1) ((opJoint cs ((xs (7 * i + 1)).toInt) ((xs (7 * i + 2)).toInt) ((xs (7 * i + 3)).toInt)).2.2) ++ wC G a ar az ad2 ap2 ts2 ((opJoint cs ((xs (7 * i + 1)).toInt) ((xs (7 * i + 2)).toInt) ((xs (7 * i + 3)).toInt)).2.2))) := hD
  refine lv_iload hx hb dL_law_778 (lv_at hl 1 rfl) ?_
  refine lv_icmp_eq (tgt := 785) hx hb dL_law_780 (by decide) (fun _ => ?_) (fun h9 => absurd rfl h9)
  refine lv_iload hx hb dL_law_785 (lv_at hl 1 rfl) ?_
  refine lv_if_ne (tgt := 802) hx hb dL_law_787 (by decide) (fun c_787 => ?_) (fun c_787 => ?_)
  · skip
    refine r_goto hx hb 1381 dL_law_802 (by decide) ?_
    exact W.widen (by omega) (by omega) (kk ((opJoint cs ((xs (7 * i + 1)).toInt) ((xs (7 * i + 2)).toInt) ((xs (7 * i + 3)).toInt)).1) ((opJoint cs ((xs (7 * i + 1)).toInt) ((xs (7 * i + 2)).toInt) ((xs (7 * i + 3)).toInt)).2.2) ad2 ap2 ts2 F2 _ _ hP hD hS _ (lv_sub hl [2, 3, 4, 5, 6] rfl) (g_joint hok _ _ _).1 (g_joint hok _ _ _).2)
  · have hF0 := hF c_787
    refine lv_aload_n hx hb dL_law_790 rfl (lv_at hl 5 rfl) ?_
    refine r_const hx hb dL_law_791 ?_
    refine r_lald0 (F := F2) hx hb hK hP 0 rfl dL_law_792 ?_
    refine lv_iload hx hb dL_law_793 (lv_at hl 0 rfl) ?_
    refine lv_i2l (v := ((iv ((opJoint cs ((xs (7 * i + 1)).toInt) ((xs (7 * i + 2)).toInt) ((xs (7 * i + 3)).toInt)).2.1))).toInt64) hx hb dL_law_795 rfl ?_
    rw [hF0]
    refine r_lcmp_eq hx hb dL_law_796 ?_
    refine lv_if_eq (tgt := 802) hx hb dL_law_797 (by decide) (fun _ => ?_) (fun h9 => absurd rfl h9)
    refine r_goto hx hb 1381 dL_law_802 (by decide) ?_
    exact W.widen (by omega) (by omega) (kk ((opJoint cs ((xs (7 * i + 1)).toInt) ((xs (7 * i + 2)).toInt) ((xs (7 * i + 3)).toInt)).1) ((opJoint cs ((xs (7 * i + 1)).toInt) ((xs (7 * i + 2)).toInt) ((xs (7 * i + 3)).toInt)).2.2) ad2 ap2 ts2 F2 _ _ hP hD hS _ (lv_sub hl [2, 3, 4, 5, 6] rfl) (g_joint hok _ _ _).1 (g_joint hok _ _ _).2)
set_option maxHeartbeats 4000000 in
set_option maxRecDepth 100000 in
theorem k_law_doll {p : Program} {l : Launch} {e : Env} {s : State} {m : MethodId} {below : List Frame} {meth : Method} {c : Code} {H : Heap} {locs : List Loc} {cells slots : Nat} {ls : Array Slot} {A : Nat → Prop} {Q : State → Prop} {D : va_G} {G : Nat → ClassId} {b L : Nat} {xs : Nat → Int32} (hB : LB p l s m meth c D G b L xs A) {a ar az mb : Nat → Nat} {ad ap : AD} {ts : DS} {cs : CS} {th : Int} {w : Nat} {F : Nat → Int64} {i : Nat} (hi : 7 * i + 7 ≤ L) (hok : okC cs) (hdl : kd cs ≤ 1000000) (hc1 : cells + 10 ≤ room_1.cells) (hc2 : slots + 250 ≤ room_1.slots) (hP : va_P D vwCl (wOut G w F ++ (wMod G mb th cs ++ wC G a ar az ad ap ts cs)) H) (hD : va_D A (wOut G w F ++ (wMod G mb th cs ++ wC G a ar az ad ap ts cs))) (hS : va_S A s.heap H locs) (hl : lv_has ls 9 [(0, .ref b), (1, .ref (a 0)), (2, .ref (mb 0)), (3, .ref w), (4, .int (iv ((7 * i : Nat) : Int)))])
  (kk : ∀ (th : Int) (cs2 : CS) (ad ap : AD) (ts : DS) (F : Nat → Int64) (H : Heap) (locs : List Loc), va_P D vwCl (wOut G w F ++ (wMod G mb th cs2 ++ wC G a ar az ad ap ts cs2)) H → va_D A (wOut G w F ++ (wMod G mb th cs2 ++ wC G a ar az ad ap ts cs2)) → va_S A s.heap H locs → ∀ (ls : Array Slot), lv_has ls 9 [(0, .ref b), (1, .ref (a 0)), (2, .ref (mb 0)), (3, .ref w), (4, .int (iv ((7 * i : Nat) : Int)))] → okC cs2 → kd cs2 ≤ kd cs + 60 → W p l e room_1 s m #[Value.ref b] below meth c H locs (cells + 10) (slots + 250) Q (F0 m 1381 ls [])) : W p l e room_1 s m #[Value.ref b] below meth c H locs cells slots Q (F0 m 805 ls []) := by
  obtain ⟨hx, hb, hml, hown, hts, hK, hT, hN, hA, hX, hbl, hbA, hL, hl0⟩ := hB
  refine lv_aload_n hx hb dL_law_805 rfl (lv_at hl 1 rfl) ?_
  refine lv_aload_n hx hb dL_law_806 rfl (lv_at hl 0 rfl) ?_
  refine lv_iload hx hb dL_law_807 (lv_at hl 4 rfl) ?_
  refine r_const hx hb dL_law_809 ?_
  refine r_add hx hb dL_law_810 ?_
  refine r_sld hx hb hX hbl hbA hS (7 * i + 1) (by omega) (by omega) hL dL_law_811 ?_
  refine lv_aload_n hx hb dL_law_812 rfl (lv_at hl 0 rfl) ?_
  refine lv_iload hx hb dL_law_813 (lv_at hl 4 rfl) ?_
  refine r_const hx hb dL_law_815 ?_
  refine r_add hx hb dL_law_816 ?_
  refine r_sld hx hb hX hbl hbA hS (7 * i + 2) (by omega) (by omega) hL dL_law_817 ?_
  refine lv_aload_n hx hb dL_law_818 rfl (lv_at hl 3 rfl) ?_
  refine k_int (g_SH (As := [.ref (a 0), .int (iv ((xs (7 * i + 1)).toInt)), .int (iv ((xs (7 * i + 2)).toInt)), .ref w]) (rest := []) ⟨hx, hb, hml, hown, hts⟩ (c_L_doll l D G hl0 a ar az ad ap ts cs hok w F ((xs (7 * i + 1)).toInt) ((xs (7 * i + 2)).toInt) (xs_rng _) (xs_rng _)) (vx_cwSW 4 hts gL_law_L_doll rfl rfl rfl (by decide +kernel) ⟨Nat.le_of_ble_eq_true rfl, Nat.le_of_ble_eq_true rfl⟩) hK hT hN hA hP hD hS (pm1 _ _ _) rfl hl.1 rfl (Nat.le_of_ble_eq_true rfl) dL_law_819 ⟨Nat.le_trans (by omega) hc1, Nat.le_trans (by omega) hc2⟩) hP hD hS hA (pm1 _ _ _) (fun v u H locs hw hP hD hS => ?_)
  obtain ⟨rfl, ad2, ap2, ts2, F2, rfl, hF⟩ := hw
  have hP := wP_perm hP (pm1 _ _ _).symm
  have hD := wD_perm hD (pm1 _ _ _).symm
  have hP : va_P D vwCl (wOut G w F2 ++ (wMod G mb th cs ++ wC G a ar az ad2 ap2 ts2 ((opDoll cs ((xs (7 * i + 1)).toInt) ((xs (7 * i + 2)).toInt)).2.2))) H := hP
  have hD : va_D A (wOut G w F2 ++ (wMod G mb th cs ++ wC G a ar az ad2 ap2 ts2 ((opDoll cs ((xs (7 * i + 1)).toInt) ((xs (7 * i + 2)).toInt)).2.2))) := hD
  refine lv_istore (lv' := [(5, .int (iv ((opDoll cs ((xs (7 * i + 1)).toInt) ((xs (7 * i + 2)).toInt)).1))), (0, .ref b), (1, .ref (a 0)), (2, .ref (mb 0)), (3, .ref w), (4, .int (iv ((7 * i : Nat) : Int)))]) hx hb dL_law_822 hl (by decide) rfl (fun ls hl => ?_)
  refine lv_aload_n hx hb dL_law_824 rfl (lv_at hl 3 rfl) ?_
  refine lv_aload_n hx hb dL_law_825 rfl (lv_at hl 1 rfl) ?_
  refine lv_iload hx hb dL_law_826 (lv_at hl 5 rfl) ?_
  refine r_const hx hb dL_law_828 ?_
  refine r_add hx hb dL_law_829 ?_
  refine r_sld hx hb hX hbl hbA hS (7 * i + 1) (by omega) (by omega) hL dL_law_830 ?_
  refine lv_aload_n hx hb dL_law_831 rfl (lv_at hl 1 rfl) ?_
  refine lv_iload hx hb dL_law_832 (lv_at hl 5 rfl) ?_
  refine r_const hx hb dL_law_834 ?_
  refine r_add hx hb dL_law_835 ?_
  refine r_sld hx hb hX hbl hbA hS (7 * i + 2) (by omega) (by omega) hL dL_law_836 ?_
  replace hP := wP_perm hP (pm3 _ _ _)
  replace hD := wD_perm hD (pm3 _ _ _)
  have hp : List.Perm (wMod G mb th cs ++ ([(w, .inl (G 5, 1, .inr (.inl (F2))))] ++ wC G a ar az ad2 ap2 ts2 ((opDoll cs ((xs (7 * i + 1)).toInt) ((xs (7 * i + 2)).toInt)).2.2))) (wMod G mb th cs ++ ([(w, .inl (G 5, 1, .inr (.inl (F2))))] ++ wC G a ar az ad2 ap2 ts2 ((opDoll cs ((xs (7 * i + 1)).toInt) ((xs (7 * i + 2)).toInt)).2.2))) := List.Perm.refl _
  refine k_int (g_V (As := [.int (iv ((xs (7 * i + 1)).toInt)), .int (iv ((xs (7 * i + 2)).toInt))]) (rest := []) (q0 := 0) (ci := 3) ⟨hx, hb, hml, hown, hts⟩ (c_X3_doll l D G mb th cs hok ((xs (7 * i + 1)).toInt) ((xs (7 * i + 2)).toInt) (xs_rng _) (xs_rng _)) (cwV 2 hts gL_law_X3_doll rfl rfl rfl (by decide +kernel) ⟨Nat.le_of_ble_eq_true rfl, Nat.le_of_ble_eq_true rfl⟩) hK hP hD hp rfl rfl rfl rfl hl.1 rfl (Nat.le_of_ble_eq_true rfl) dL_law_837 ⟨Nat.le_trans (by omega) hc1, Nat.le_trans (by omega) hc2⟩) hP hD hS hA hp (fun v u H locs hw hP hD hS => ?_)
  obtain ⟨rfl, rfl⟩ := hw
  replace hP : va_P D vwCl (wMod G mb ((opDoll cs ((xs (7 * i + 1)).toInt) ((xs (7 * i + 2)).toInt)).1) ((opDoll cs ((xs (7 * i + 1)).toInt) ((xs (7 * i + 2)).toInt)).2.2) ++ ([(w, .inl (G 5, 1, .inr (.inl (F2))))] ++ wC G a ar az ad2 ap2 ts2 ((opDoll cs ((xs (7 * i + 1)).toInt) ((xs (7 * i + 2)).toInt)).2.2))) H := hP
  replace hD : va_D A (wMod G mb ((opDoll cs ((xs (7 * i + 1)).toInt) ((xs (7 * i + 2)).toInt)).1) ((opDoll cs ((xs (7 * i + 1)).toInt) ((xs (7 * i + 2)).toInt)).2.2) ++ ([(w, .inl (G 5, 1, .inr (.inl (F2))))] ++ wC G a ar az ad2 ap2 ts2 ((opDoll cs ((xs (7 * i + 1)).toInt) ((xs (7 * i + 2)).toInt)).2.2))) := hD
  replace hP := wP_perm hP (pm3 _ _ _).symm
  replace hD := wD_perm hD (pm3 _ _ _).symm
  have hP : va_P D vwCl (wOut G w F2 ++ (wMod G mb ((opDoll cs ((xs (7 * i + 1)).toInt) ((xs (7 * i + 2)).toInt)).1) ((opDoll cs ((xs (7 * i + 1)).toInt) ((xs (7 * i + 2)).toInt)).2.2) ++ wC G a ar az ad2 ap2 ts2 ((opDoll cs ((xs (7 * i + 1)).toInt) ((xs (7 * i + 2)).toInt)).2.2))) H := hP
  have hD : va_D A (wOut G w F2 ++ (wMod G mb ((opDoll cs ((xs (7 * i + 1)).toInt) ((xs (7 * i + 2)).toInt)).1) ((opDoll cs ((xs (7 * i + 1)).toInt) ((xs (7 * i + 2)).toInt)).2.2) ++ wC G a ar az ad2 ap2 ts2 ((opDoll cs ((xs (7 * i + 1)).toInt) ((xs (7 * i + 2)).toInt)).2.2))) := hD
  refine lv_istore (lv' := [(6, .int (iv ((opDoll cs ((xs (7 * i + 1)).toInt) ((xs (7 * i + 2)).toInt)).2.1))), (5, .int (iv ((opDoll cs ((xs (7 * i + 1)).toInt) ((xs (7 * i + 2)).toInt)).1))), (0, .ref b), (1, .ref (a 0)), (2, .ref (mb 0)), (3, .ref w), (4, .int (iv ((7 * i : Nat) : Int)))]) hx hb dL_law_840 hl (by decide) rfl (fun ls hl => ?_)
  refine lv_aload_n hx hb dL_law_842 rfl (lv_at hl 4 rfl) ?_
  replace hP := wP_perm hP (pm3 _ _ _)
  replace hD := wD_perm hD (pm3 _ _ _)
  have hp : List.Perm (wMod G mb ((opDoll cs ((xs (7 * i + 1)).toInt) ((xs (7 * i + 2)).toInt)).1) ((opDoll cs ((xs (7 * i + 1)).toInt) ((xs (7 * i + 2)).toInt)).2.2) ++ ([(w, .inl (G 5, 1, .inr (.inl (F2))))] ++ wC G a ar az ad2 ap2 ts2 ((opDoll cs ((xs (7 * i + 1)).toInt) ((xs (7 * i + 2)).toInt)).2.2))) ([wM0 mb ((opDoll cs ((xs (7 * i + 1)).toInt) ((xs (7 * i + 2)).toInt)).1) (kn ((opDoll cs ((xs (7 * i + 1)).toInt) ((xs (7 * i + 2)).toInt)).2.2) : Int) (kp ((opDoll cs ((xs (7 * i + 1)).toInt) ((xs (7 * i + 2)).toInt)).2.2) : Int) (km ((opDoll cs ((xs (7 * i + 1)).toInt) ((xs (7 * i + 2)).toInt)).2.2))] ++ ((wMod G mb ((opDoll cs ((xs (7 * i + 1)).toInt) ((xs (7 * i + 2)).toInt)).1) ((opDoll cs ((xs (7 * i + 1)).toInt) ((xs (7 * i + 2)).toInt)).2.2)).tail ++ ([(w, .inl (G 5, 1, .inr (.inl (F2))))] ++ wC G a ar az ad2 ap2 ts2 ((opDoll cs ((xs (7 * i + 1)).toInt) ((xs (7 * i + 2)).toInt)).2.2)))) := List.Perm.refl _
  refine k_int (g_V (As := []) (rest := []) (q0 := 0) (ci := 3) ⟨hx, hb, hml, hown, hts⟩ (c_X3_thrown l D G mb ((opDoll cs ((xs (7 * i + 1)).toInt) ((xs (7 * i + 2)).toInt)).1) (kn ((opDoll cs ((xs (7 * i + 1)).toInt) ((xs (7 * i + 2)).toInt)).2.2) : Int) (kp ((opDoll cs ((xs (7 * i + 1)).toInt) ((xs (7 * i + 2)).toInt)).2.2) : Int) (km ((opDoll cs ((xs (7 * i + 1)).toInt) ((xs (7 * i + 2)).toInt)).2.2))) (cwV 0 hts gL_law_X3_thrown rfl rfl rfl (by decide +kernel) ⟨Nat.le_of_ble_eq_true rfl, Nat.le_of_ble_eq_true rfl⟩) hK hP hD hp rfl rfl rfl rfl hl.1 rfl (Nat.le_of_ble_eq_true rfl) dL_law_843 ⟨Nat.le_trans (by omega) hc1, Nat.le_trans (by omega) hc2⟩) hP hD hS hA hp (fun v u H locs hw hP hD hS => ?_)
  obtain ⟨rfl, rfl⟩ := hw
  replace hP : va_P D vwCl (wMod G mb ((opDoll cs ((xs (7 * i + 1)).toInt) ((xs (7 * i + 2)).toInt)).1) ((opDoll cs ((xs (7 * i + 1)).toInt) ((xs (7 * i + 2)).toInt)).2.2) ++ ([(w, .inl (G 5, 1, .inr (.inl (F2))))] ++ wC G a ar az ad2 ap2 ts2 ((opDoll cs ((xs (7 * i + 1)).toInt) ((xs (7 * i + 2)).toInt)).2.2))) H := hP
  replace hD : va_D A (wMod G mb ((opDoll cs ((xs (7 * i + 1)).toInt) ((xs (7 * i + 2)).toInt)).1) ((opDoll cs ((xs (7 * i + 1)).toInt) ((xs (7 * i + 2)).toInt)).2.2) ++ ([(w, .inl (G 5, 1, .inr (.inl (F2))))] ++ wC G a ar az ad2 ap2 ts2 ((opDoll cs ((xs (7 * i + 1)).toInt) ((xs (7 * i + 2)).toInt)).2.2))) := hD
  replace hP := wP_perm hP (pm3 _ _ _).symm
  replace hD := wD_perm hD (pm3 _ _ _).symm
  have hP : va_P D vwCl (wOut G w F2 ++ (wMod G mb ((opDoll cs ((xs (7 * i + 1)).toInt) ((xs (7 * i + 2)).toInt)).1) ((opDoll cs ((xs (7 * i + 1)).toInt) ((xs (7 * i + 2)).toInt)).2.2) ++ wC G a ar az ad2 ap2 ts2 ((opDoll cs ((xs (7 * i + 1)).toInt) ((xs (7 * i + 2)).toInt)).2.2))) H := hP
  have hD : va_D A (wOut G w F2 ++ (wMod G mb ((opDoll cs ((xs (7 * i + 1)).toInt) ((xs (7 * i + 2)).toInt)).1) ((opDoll cs ((xs (7 * i + 1)).toInt) ((xs (7 * i + 2)).toInt)).2.2) ++ wC G a ar az ad2 ap2 ts2 ((opDoll cs ((xs (7 * i + 1)).toInt) ((xs (7 * i + 2)).toInt)).2.2))) := hD
  refine lv_iload hx hb dL_law_846 (lv_at hl 1 rfl) ?_
  refine lv_icmp_eq (tgt := 853) hx hb dL_law_848 (by decide) (fun _ => ?_) (fun h9 => absurd rfl h9)
  refine lv_iload hx hb dL_law_853 (lv_at hl 1 rfl) ?_
  refine lv_if_ne (tgt := 870) hx hb dL_law_855 (by decide) (fun c_855 => ?_) (fun c_855 => ?_)
  · skip
    refine r_goto hx hb 1381 dL_law_870 (by decide) ?_
    exact W.widen (by omega) (by omega) (kk ((opDoll cs ((xs (7 * i + 1)).toInt) ((xs (7 * i + 2)).toInt)).1) ((opDoll cs ((xs (7 * i + 1)).toInt) ((xs (7 * i + 2)).toInt)).2.2) ad2 ap2 ts2 F2 _ _ hP hD hS _ (lv_sub hl [2, 3, 4, 5, 6] rfl) (g_doll hok _ _).1 (g_doll hok _ _).2)
  · have hF0 := hF c_855
    refine lv_aload_n hx hb dL_law_858 rfl (lv_at hl 5 rfl) ?_
    refine r_const hx hb dL_law_859 ?_
    refine r_lald0 (F := F2) hx hb hK hP 0 rfl dL_law_860 ?_
    refine lv_iload hx hb dL_law_861 (lv_at hl 0 rfl) ?_
    refine lv_i2l (v := ((iv ((opDoll cs ((xs (7 * i + 1)).toInt) ((xs (7 * i + 2)).toInt)).2.1))).toInt64) hx hb dL_law_863 rfl ?_
    rw [hF0]
    refine r_lcmp_eq hx hb dL_law_864 ?_
    refine lv_if_eq (tgt := 870) hx hb dL_law_865 (by decide) (fun _ => ?_) (fun h9 => absurd rfl h9)
    refine r_goto hx hb 1381 dL_law_870 (by decide) ?_
    exact W.widen (by omega) (by omega) (kk ((opDoll cs ((xs (7 * i + 1)).toInt) ((xs (7 * i + 2)).toInt)).1) ((opDoll cs ((xs (7 * i + 1)).toInt) ((xs (7 * i + 2)).toInt)).2.2) ad2 ap2 ts2 F2 _ _ hP hD hS _ (lv_sub hl [2, 3, 4, 5, 6] rfl) (g_doll hok _ _).1 (g_doll hok _ _).2)
set_option maxHeartbeats 4000000 in
set_option maxRecDepth 100000 in
theorem k_law_count {p : Program} {l : Launch} {e : Env} {s : State} {m : MethodId} {below : List Frame} {meth : Method} {c : Code} {H : Heap} {locs : List Loc} {cells slots : Nat} {ls : Array Slot} {A : Nat → Prop} {Q : State → Prop} {D : va_G} {G : Nat → ClassId} {b L : Nat} {xs : Nat → Int32} (hB : LB p l s m meth c D G b L xs A) {a ar az mb : Nat → Nat} {ad ap : AD} {ts : DS} {cs : CS} {th : Int} {w : Nat} {F : Nat → Int64} {i : Nat} (hi : 7 * i + 7 ≤ L) (hok : okC cs) (hdl : kd cs ≤ 1000000) (hc1 : cells + 10 ≤ room_1.cells) (hc2 : slots + 250 ≤ room_1.slots) (hP : va_P D vwCl (wOut G w F ++ (wMod G mb th cs ++ wC G a ar az ad ap ts cs)) H) (hD : va_D A (wOut G w F ++ (wMod G mb th cs ++ wC G a ar az ad ap ts cs))) (hS : va_S A s.heap H locs) (hl : lv_has ls 9 [(0, .ref b), (1, .ref (a 0)), (2, .ref (mb 0)), (3, .ref w), (4, .int (iv ((7 * i : Nat) : Int)))])
  (kk : ∀ (th : Int) (cs2 : CS) (ad ap : AD) (ts : DS) (F : Nat → Int64) (H : Heap) (locs : List Loc), va_P D vwCl (wOut G w F ++ (wMod G mb th cs2 ++ wC G a ar az ad ap ts cs2)) H → va_D A (wOut G w F ++ (wMod G mb th cs2 ++ wC G a ar az ad ap ts cs2)) → va_S A s.heap H locs → ∀ (ls : Array Slot), lv_has ls 9 [(0, .ref b), (1, .ref (a 0)), (2, .ref (mb 0)), (3, .ref w), (4, .int (iv ((7 * i : Nat) : Int)))] → okC cs2 → kd cs2 ≤ kd cs + 60 → W p l e room_1 s m #[Value.ref b] below meth c H locs (cells + 10) (slots + 250) Q (F0 m 1381 ls [])) : W p l e room_1 s m #[Value.ref b] below meth c H locs cells slots Q (F0 m 873 ls []) := by
  obtain ⟨hx, hb, hml, hown, hts, hK, hT, hN, hA, hX, hbl, hbA, hL, hl0⟩ := hB
  refine lv_aload_n hx hb dL_law_873 rfl (lv_at hl 1 rfl) ?_
  refine lv_aload_n hx hb dL_law_874 rfl (lv_at hl 0 rfl) ?_
  refine lv_iload hx hb dL_law_875 (lv_at hl 4 rfl) ?_
  refine r_const hx hb dL_law_877 ?_
  refine r_add hx hb dL_law_878 ?_
  refine r_sld hx hb hX hbl hbA hS (7 * i + 1) (by omega) (by omega) hL dL_law_879 ?_
  refine lv_aload_n hx hb dL_law_880 rfl (lv_at hl 3 rfl) ?_
  refine k_int (g_SH (As := [.ref (a 0), .int (iv ((xs (7 * i + 1)).toInt)), .ref w]) (rest := []) ⟨hx, hb, hml, hown, hts⟩ (c_L_count l D G hl0 a ar az ad ap ts cs hok w F ((xs (7 * i + 1)).toInt) (xs_rng _)) (vx_cwSW 3 hts gL_law_L_count rfl rfl rfl (by decide +kernel) ⟨Nat.le_of_ble_eq_true rfl, Nat.le_of_ble_eq_true rfl⟩) hK hT hN hA hP hD hS (pm1 _ _ _) rfl hl.1 rfl (Nat.le_of_ble_eq_true rfl) dL_law_881 ⟨Nat.le_trans (by omega) hc1, Nat.le_trans (by omega) hc2⟩) hP hD hS hA (pm1 _ _ _) (fun v u H locs hw hP hD hS => ?_)
  obtain ⟨rfl, ad2, ap2, ts2, F2, rfl, hF⟩ := hw
  have hP := wP_perm hP (pm1 _ _ _).symm
  have hD := wD_perm hD (pm1 _ _ _).symm
  have hP : va_P D vwCl (wOut G w F2 ++ (wMod G mb th cs ++ wC G a ar az ad2 ap2 ts2 ((opCount cs ((xs (7 * i + 1)).toInt)).2.2))) H := hP
  have hD : va_D A (wOut G w F2 ++ (wMod G mb th cs ++ wC G a ar az ad2 ap2 ts2 ((opCount cs ((xs (7 * i + 1)).toInt)).2.2))) := hD
  refine lv_istore (lv' := [(5, .int (iv ((opCount cs ((xs (7 * i + 1)).toInt)).1))), (0, .ref b), (1, .ref (a 0)), (2, .ref (mb 0)), (3, .ref w), (4, .int (iv ((7 * i : Nat) : Int)))]) hx hb dL_law_884 hl (by decide) rfl (fun ls hl => ?_)
  refine lv_aload_n hx hb dL_law_886 rfl (lv_at hl 3 rfl) ?_
  refine lv_aload_n hx hb dL_law_887 rfl (lv_at hl 1 rfl) ?_
  refine lv_iload hx hb dL_law_888 (lv_at hl 5 rfl) ?_
  refine r_const hx hb dL_law_890 ?_
  refine r_add hx hb dL_law_891 ?_
  refine r_sld hx hb hX hbl hbA hS (7 * i + 1) (by omega) (by omega) hL dL_law_892 ?_
  replace hP := wP_perm hP (pm3 _ _ _)
  replace hD := wD_perm hD (pm3 _ _ _)
  have hp : List.Perm (wMod G mb th cs ++ ([(w, .inl (G 5, 1, .inr (.inl (F2))))] ++ wC G a ar az ad2 ap2 ts2 ((opCount cs ((xs (7 * i + 1)).toInt)).2.2))) (wMod G mb th cs ++ ([(w, .inl (G 5, 1, .inr (.inl (F2))))] ++ wC G a ar az ad2 ap2 ts2 ((opCount cs ((xs (7 * i + 1)).toInt)).2.2))) := List.Perm.refl _
  refine k_int (g_V (As := [.int (iv ((xs (7 * i + 1)).toInt))]) (rest := []) (q0 := 0) (ci := 3) ⟨hx, hb, hml, hown, hts⟩ (c_X3_count l D G mb th cs hok ((xs (7 * i + 1)).toInt) (xs_rng _)) (cwV 1 hts gL_law_X3_count rfl rfl rfl (by decide +kernel) ⟨Nat.le_of_ble_eq_true rfl, Nat.le_of_ble_eq_true rfl⟩) hK hP hD hp rfl rfl rfl rfl hl.1 rfl (Nat.le_of_ble_eq_true rfl) dL_law_893 ⟨Nat.le_trans (by omega) hc1, Nat.le_trans (by omega) hc2⟩) hP hD hS hA hp (fun v u H locs hw hP hD hS => ?_)
  obtain ⟨rfl, rfl⟩ := hw
  replace hP : va_P D vwCl (wMod G mb ((opCount cs ((xs (7 * i + 1)).toInt)).1) ((opCount cs ((xs (7 * i + 1)).toInt)).2.2) ++ ([(w, .inl (G 5, 1, .inr (.inl (F2))))] ++ wC G a ar az ad2 ap2 ts2 ((opCount cs ((xs (7 * i + 1)).toInt)).2.2))) H := hP
  replace hD : va_D A (wMod G mb ((opCount cs ((xs (7 * i + 1)).toInt)).1) ((opCount cs ((xs (7 * i + 1)).toInt)).2.2) ++ ([(w, .inl (G 5, 1, .inr (.inl (F2))))] ++ wC G a ar az ad2 ap2 ts2 ((opCount cs ((xs (7 * i + 1)).toInt)).2.2))) := hD
  replace hP := wP_perm hP (pm3 _ _ _).symm
  replace hD := wD_perm hD (pm3 _ _ _).symm
  have hP : va_P D vwCl (wOut G w F2 ++ (wMod G mb ((opCount cs ((xs (7 * i + 1)).toInt)).1) ((opCount cs ((xs (7 * i + 1)).toInt)).2.2) ++ wC G a ar az ad2 ap2 ts2 ((opCount cs ((xs (7 * i + 1)).toInt)).2.2))) H := hP
  have hD : va_D A (wOut G w F2 ++ (wMod G mb ((opCount cs ((xs (7 * i + 1)).toInt)).1) ((opCount cs ((xs (7 * i + 1)).toInt)).2.2) ++ wC G a ar az ad2 ap2 ts2 ((opCount cs ((xs (7 * i + 1)).toInt)).2.2))) := hD
  refine lv_istore (lv' := [(6, .int (iv ((opCount cs ((xs (7 * i + 1)).toInt)).2.1))), (5, .int (iv ((opCount cs ((xs (7 * i + 1)).toInt)).1))), (0, .ref b), (1, .ref (a 0)), (2, .ref (mb 0)), (3, .ref w), (4, .int (iv ((7 * i : Nat) : Int)))]) hx hb dL_law_896 hl (by decide) rfl (fun ls hl => ?_)
  refine lv_aload_n hx hb dL_law_898 rfl (lv_at hl 4 rfl) ?_
  replace hP := wP_perm hP (pm3 _ _ _)
  replace hD := wD_perm hD (pm3 _ _ _)
  have hp : List.Perm (wMod G mb ((opCount cs ((xs (7 * i + 1)).toInt)).1) ((opCount cs ((xs (7 * i + 1)).toInt)).2.2) ++ ([(w, .inl (G 5, 1, .inr (.inl (F2))))] ++ wC G a ar az ad2 ap2 ts2 ((opCount cs ((xs (7 * i + 1)).toInt)).2.2))) ([wM0 mb ((opCount cs ((xs (7 * i + 1)).toInt)).1) (kn ((opCount cs ((xs (7 * i + 1)).toInt)).2.2) : Int) (kp ((opCount cs ((xs (7 * i + 1)).toInt)).2.2) : Int) (km ((opCount cs ((xs (7 * i + 1)).toInt)).2.2))] ++ ((wMod G mb ((opCount cs ((xs (7 * i + 1)).toInt)).1) ((opCount cs ((xs (7 * i + 1)).toInt)).2.2)).tail ++ ([(w, .inl (G 5, 1, .inr (.inl (F2))))] ++ wC G a ar az ad2 ap2 ts2 ((opCount cs ((xs (7 * i + 1)).toInt)).2.2)))) := List.Perm.refl _
  refine k_int (g_V (As := []) (rest := []) (q0 := 0) (ci := 3) ⟨hx, hb, hml, hown, hts⟩ (c_X3_thrown l D G mb ((opCount cs ((xs (7 * i + 1)).toInt)).1) (kn ((opCount cs ((xs (7 * i + 1)).toInt)).2.2) : Int) (kp ((opCount cs ((xs (7 * i + 1)).toInt)).2.2) : Int) (km ((opCount cs ((xs (7 * i + 1)).toInt)).2.2))) (cwV 0 hts gL_law_X3_thrown rfl rfl rfl (by decide +kernel) ⟨Nat.le_of_ble_eq_true rfl, Nat.le_of_ble_eq_true rfl⟩) hK hP hD hp rfl rfl rfl rfl hl.1 rfl (Nat.le_of_ble_eq_true rfl) dL_law_899 ⟨Nat.le_trans (by omega) hc1, Nat.le_trans (by omega) hc2⟩) hP hD hS hA hp (fun v u H locs hw hP hD hS => ?_)
  obtain ⟨rfl, rfl⟩ := hw
  replace hP : va_P D vwCl (wMod G mb ((opCount cs ((xs (7 * i + 1)).toInt)).1) ((opCount cs ((xs (7 * i + 1)).toInt)).2.2) ++ ([(w, .inl (G 5, 1, .inr (.inl (F2))))] ++ wC G a ar az ad2 ap2 ts2 ((opCount cs ((xs (7 * i + 1)).toInt)).2.2))) H := hP
  replace hD : va_D A (wMod G mb ((opCount cs ((xs (7 * i + 1)).toInt)).1) ((opCount cs ((xs (7 * i + 1)).toInt)).2.2) ++ ([(w, .inl (G 5, 1, .inr (.inl (F2))))] ++ wC G a ar az ad2 ap2 ts2 ((opCount cs ((xs (7 * i + 1)).toInt)).2.2))) := hD
  replace hP := wP_perm hP (pm3 _ _ _).symm
  replace hD := wD_perm hD (pm3 _ _ _).symm
  have hP : va_P D vwCl (wOut G w F2 ++ (wMod G mb ((opCount cs ((xs (7 * i + 1)).toInt)).1) ((opCount cs ((xs (7 * i + 1)).toInt)).2.2) ++ wC G a ar az ad2 ap2 ts2 ((opCount cs ((xs (7 * i + 1)).toInt)).2.2))) H := hP
  have hD : va_D A (wOut G w F2 ++ (wMod G mb ((opCount cs ((xs (7 * i + 1)).toInt)).1) ((opCount cs ((xs (7 * i + 1)).toInt)).2.2) ++ wC G a ar az ad2 ap2 ts2 ((opCount cs ((xs (7 * i + 1)).toInt)).2.2))) := hD
  refine lv_iload hx hb dL_law_902 (lv_at hl 1 rfl) ?_
  refine lv_icmp_eq (tgt := 909) hx hb dL_law_904 (by decide) (fun _ => ?_) (fun h9 => absurd rfl h9)
  refine lv_iload hx hb dL_law_909 (lv_at hl 1 rfl) ?_
  refine lv_if_ne (tgt := 926) hx hb dL_law_911 (by decide) (fun c_911 => ?_) (fun c_911 => ?_)
  · skip
    refine r_goto hx hb 1381 dL_law_926 (by decide) ?_
    exact W.widen (by omega) (by omega) (kk ((opCount cs ((xs (7 * i + 1)).toInt)).1) ((opCount cs ((xs (7 * i + 1)).toInt)).2.2) ad2 ap2 ts2 F2 _ _ hP hD hS _ (lv_sub hl [2, 3, 4, 5, 6] rfl) (g_count hok _).1 (g_count hok _).2)
  · have hF0 := hF c_911
    refine lv_aload_n hx hb dL_law_914 rfl (lv_at hl 5 rfl) ?_
    refine r_const hx hb dL_law_915 ?_
    refine r_lald0 (F := F2) hx hb hK hP 0 rfl dL_law_916 ?_
    refine lv_iload hx hb dL_law_917 (lv_at hl 0 rfl) ?_
    refine lv_i2l (v := ((iv ((opCount cs ((xs (7 * i + 1)).toInt)).2.1))).toInt64) hx hb dL_law_919 rfl ?_
    rw [hF0]
    refine r_lcmp_eq hx hb dL_law_920 ?_
    refine lv_if_eq (tgt := 926) hx hb dL_law_921 (by decide) (fun _ => ?_) (fun h9 => absurd rfl h9)
    refine r_goto hx hb 1381 dL_law_926 (by decide) ?_
    exact W.widen (by omega) (by omega) (kk ((opCount cs ((xs (7 * i + 1)).toInt)).1) ((opCount cs ((xs (7 * i + 1)).toInt)).2.2) ad2 ap2 ts2 F2 _ _ hP hD hS _ (lv_sub hl [2, 3, 4, 5, 6] rfl) (g_count hok _).1 (g_count hok _).2)
set_option maxHeartbeats 4000000 in
set_option maxRecDepth 100000 in
theorem k_law_costs {p : Program} {l : Launch} {e : Env} {s : State} {m : MethodId} {below : List Frame} {meth : Method} {c : Code} {H : Heap} {locs : List Loc} {cells slots : Nat} {ls : Array Slot} {A : Nat → Prop} {Q : State → Prop} {D : va_G} {G : Nat → ClassId} {b L : Nat} {xs : Nat → Int32} (hB : LB p l s m meth c D G b L xs A) {a ar az mb : Nat → Nat} {ad ap : AD} {ts : DS} {cs : CS} {th : Int} {w : Nat} {F : Nat → Int64} {i : Nat} (hi : 7 * i + 7 ≤ L) (hok : okC cs) (hdl : kd cs ≤ 1000000) (hc1 : cells + 10 ≤ room_1.cells) (hc2 : slots + 250 ≤ room_1.slots) (hP : va_P D vwCl (wOut G w F ++ (wMod G mb th cs ++ wC G a ar az ad ap ts cs)) H) (hD : va_D A (wOut G w F ++ (wMod G mb th cs ++ wC G a ar az ad ap ts cs))) (hS : va_S A s.heap H locs) (hl : lv_has ls 9 [(0, .ref b), (1, .ref (a 0)), (2, .ref (mb 0)), (3, .ref w), (4, .int (iv ((7 * i : Nat) : Int)))])
  (kk : ∀ (th : Int) (cs2 : CS) (ad ap : AD) (ts : DS) (F : Nat → Int64) (H : Heap) (locs : List Loc), va_P D vwCl (wOut G w F ++ (wMod G mb th cs2 ++ wC G a ar az ad ap ts cs2)) H → va_D A (wOut G w F ++ (wMod G mb th cs2 ++ wC G a ar az ad ap ts cs2)) → va_S A s.heap H locs → ∀ (ls : Array Slot), lv_has ls 9 [(0, .ref b), (1, .ref (a 0)), (2, .ref (mb 0)), (3, .ref w), (4, .int (iv ((7 * i : Nat) : Int)))] → okC cs2 → kd cs2 ≤ kd cs + 60 → W p l e room_1 s m #[Value.ref b] below meth c H locs (cells + 10) (slots + 250) Q (F0 m 1381 ls [])) : W p l e room_1 s m #[Value.ref b] below meth c H locs cells slots Q (F0 m 929 ls []) := by
  obtain ⟨hx, hb, hml, hown, hts, hK, hT, hN, hA, hX, hbl, hbA, hL, hl0⟩ := hB
  refine lv_aload_n hx hb dL_law_929 rfl (lv_at hl 1 rfl) ?_
  refine lv_aload_n hx hb dL_law_930 rfl (lv_at hl 0 rfl) ?_
  refine lv_iload hx hb dL_law_931 (lv_at hl 4 rfl) ?_
  refine r_const hx hb dL_law_933 ?_
  refine r_add hx hb dL_law_934 ?_
  refine r_sld hx hb hX hbl hbA hS (7 * i + 1) (by omega) (by omega) hL dL_law_935 ?_
  refine lv_aload_n hx hb dL_law_936 rfl (lv_at hl 0 rfl) ?_
  refine lv_iload hx hb dL_law_937 (lv_at hl 4 rfl) ?_
  refine r_const hx hb dL_law_939 ?_
  refine r_add hx hb dL_law_940 ?_
  refine r_sld hx hb hX hbl hbA hS (7 * i + 2) (by omega) (by omega) hL dL_law_941 ?_
  refine lv_aload_n hx hb dL_law_942 rfl (lv_at hl 3 rfl) ?_
  refine k_int (g_SH (As := [.ref (a 0), .int (iv ((xs (7 * i + 1)).toInt)), .int (iv ((xs (7 * i + 2)).toInt)), .ref w]) (rest := []) ⟨hx, hb, hml, hown, hts⟩ (c_L_costs l D G hl0 a ar az ad ap ts cs hok w F ((xs (7 * i + 1)).toInt) ((xs (7 * i + 2)).toInt) (xs_rng _) (xs_rng _)) (vx_cwSW 4 hts gL_law_L_costs rfl rfl rfl (by decide +kernel) ⟨Nat.le_of_ble_eq_true rfl, Nat.le_of_ble_eq_true rfl⟩) hK hT hN hA hP hD hS (pm1 _ _ _) rfl hl.1 rfl (Nat.le_of_ble_eq_true rfl) dL_law_943 ⟨Nat.le_trans (by omega) hc1, Nat.le_trans (by omega) hc2⟩) hP hD hS hA (pm1 _ _ _) (fun v u H locs hw hP hD hS => ?_)
  obtain ⟨rfl, ad2, ap2, ts2, F2, rfl, hF⟩ := hw
  have hP := wP_perm hP (pm1 _ _ _).symm
  have hD := wD_perm hD (pm1 _ _ _).symm
  have hP : va_P D vwCl (wOut G w F2 ++ (wMod G mb th cs ++ wC G a ar az ad2 ap2 ts2 ((opCosts cs ((xs (7 * i + 1)).toInt) ((xs (7 * i + 2)).toInt)).2.2))) H := hP
  have hD : va_D A (wOut G w F2 ++ (wMod G mb th cs ++ wC G a ar az ad2 ap2 ts2 ((opCosts cs ((xs (7 * i + 1)).toInt) ((xs (7 * i + 2)).toInt)).2.2))) := hD
  refine lv_istore (lv' := [(5, .int (iv ((opCosts cs ((xs (7 * i + 1)).toInt) ((xs (7 * i + 2)).toInt)).1))), (0, .ref b), (1, .ref (a 0)), (2, .ref (mb 0)), (3, .ref w), (4, .int (iv ((7 * i : Nat) : Int)))]) hx hb dL_law_946 hl (by decide) rfl (fun ls hl => ?_)
  refine lv_aload_n hx hb dL_law_948 rfl (lv_at hl 3 rfl) ?_
  refine lv_aload_n hx hb dL_law_949 rfl (lv_at hl 1 rfl) ?_
  refine lv_iload hx hb dL_law_950 (lv_at hl 5 rfl) ?_
  refine r_const hx hb dL_law_952 ?_
  refine r_add hx hb dL_law_953 ?_
  refine r_sld hx hb hX hbl hbA hS (7 * i + 1) (by omega) (by omega) hL dL_law_954 ?_
  refine lv_aload_n hx hb dL_law_955 rfl (lv_at hl 1 rfl) ?_
  refine lv_iload hx hb dL_law_956 (lv_at hl 5 rfl) ?_
  refine r_const hx hb dL_law_958 ?_
  refine r_add hx hb dL_law_959 ?_
  refine r_sld hx hb hX hbl hbA hS (7 * i + 2) (by omega) (by omega) hL dL_law_960 ?_
  replace hP := wP_perm hP (pm3 _ _ _)
  replace hD := wD_perm hD (pm3 _ _ _)
  have hp : List.Perm (wMod G mb th cs ++ ([(w, .inl (G 5, 1, .inr (.inl (F2))))] ++ wC G a ar az ad2 ap2 ts2 ((opCosts cs ((xs (7 * i + 1)).toInt) ((xs (7 * i + 2)).toInt)).2.2))) (wMod G mb th cs ++ ([(w, .inl (G 5, 1, .inr (.inl (F2))))] ++ wC G a ar az ad2 ap2 ts2 ((opCosts cs ((xs (7 * i + 1)).toInt) ((xs (7 * i + 2)).toInt)).2.2))) := List.Perm.refl _
  refine k_int (g_VT (As := [.int (iv ((xs (7 * i + 1)).toInt)), .int (iv ((xs (7 * i + 2)).toInt))]) (rest := []) (q0 := 0) (ci := 3) ⟨hx, hb, hml, hown, hts⟩ (c_X3_costs l D G mb th cs hok ((xs (7 * i + 1)).toInt) ((xs (7 * i + 2)).toInt) (xs_rng _) (xs_rng _)) (cwV 2 hts gL_law_X3_costs rfl rfl rfl (by decide +kernel) ⟨Nat.le_of_ble_eq_true rfl, Nat.le_of_ble_eq_true rfl⟩) hK hT hA hP hD hS hp rfl rfl rfl rfl hl.1 rfl (Nat.le_of_ble_eq_true rfl) dL_law_961 ⟨Nat.le_trans (by omega) hc1, Nat.le_trans (by omega) hc2⟩) hP hD hS hA hp (fun v u H locs hw hP hD hS => ?_)
  obtain ⟨rfl, rfl⟩ := hw
  replace hP : va_P D vwCl (wMod G mb ((opCosts cs ((xs (7 * i + 1)).toInt) ((xs (7 * i + 2)).toInt)).1) ((opCosts cs ((xs (7 * i + 1)).toInt) ((xs (7 * i + 2)).toInt)).2.2) ++ ([(w, .inl (G 5, 1, .inr (.inl (F2))))] ++ wC G a ar az ad2 ap2 ts2 ((opCosts cs ((xs (7 * i + 1)).toInt) ((xs (7 * i + 2)).toInt)).2.2))) H := hP
  replace hD : va_D A (wMod G mb ((opCosts cs ((xs (7 * i + 1)).toInt) ((xs (7 * i + 2)).toInt)).1) ((opCosts cs ((xs (7 * i + 1)).toInt) ((xs (7 * i + 2)).toInt)).2.2) ++ ([(w, .inl (G 5, 1, .inr (.inl (F2))))] ++ wC G a ar az ad2 ap2 ts2 ((opCosts cs ((xs (7 * i + 1)).toInt) ((xs (7 * i + 2)).toInt)).2.2))) := hD
  replace hP := wP_perm hP (pm3 _ _ _).symm
  replace hD := wD_perm hD (pm3 _ _ _).symm
  have hP : va_P D vwCl (wOut G w F2 ++ (wMod G mb ((opCosts cs ((xs (7 * i + 1)).toInt) ((xs (7 * i + 2)).toInt)).1) ((opCosts cs ((xs (7 * i + 1)).toInt) ((xs (7 * i + 2)).toInt)).2.2) ++ wC G a ar az ad2 ap2 ts2 ((opCosts cs ((xs (7 * i + 1)).toInt) ((xs (7 * i + 2)).toInt)).2.2))) H := hP
  have hD : va_D A (wOut G w F2 ++ (wMod G mb ((opCosts cs ((xs (7 * i + 1)).toInt) ((xs (7 * i + 2)).toInt)).1) ((opCosts cs ((xs (7 * i + 1)).toInt) ((xs (7 * i + 2)).toInt)).2.2) ++ wC G a ar az ad2 ap2 ts2 ((opCosts cs ((xs (7 * i + 1)).toInt) ((xs (7 * i + 2)).toInt)).2.2))) := hD
  refine lv_istore (lv' := [(6, .int (iv ((opCosts cs ((xs (7 * i + 1)).toInt) ((xs (7 * i + 2)).toInt)).2.1))), (5, .int (iv ((opCosts cs ((xs (7 * i + 1)).toInt) ((xs (7 * i + 2)).toInt)).1))), (0, .ref b), (1, .ref (a 0)), (2, .ref (mb 0)), (3, .ref w), (4, .int (iv ((7 * i : Nat) : Int)))]) hx hb dL_law_964 hl (by decide) rfl (fun ls hl => ?_)
  refine lv_aload_n hx hb dL_law_966 rfl (lv_at hl 4 rfl) ?_
  replace hP := wP_perm hP (pm3 _ _ _)
  replace hD := wD_perm hD (pm3 _ _ _)
  have hp : List.Perm (wMod G mb ((opCosts cs ((xs (7 * i + 1)).toInt) ((xs (7 * i + 2)).toInt)).1) ((opCosts cs ((xs (7 * i + 1)).toInt) ((xs (7 * i + 2)).toInt)).2.2) ++ ([(w, .inl (G 5, 1, .inr (.inl (F2))))] ++ wC G a ar az ad2 ap2 ts2 ((opCosts cs ((xs (7 * i + 1)).toInt) ((xs (7 * i + 2)).toInt)).2.2))) ([wM0 mb ((opCosts cs ((xs (7 * i + 1)).toInt) ((xs (7 * i + 2)).toInt)).1) (kn ((opCosts cs ((xs (7 * i + 1)).toInt) ((xs (7 * i + 2)).toInt)).2.2) : Int) (kp ((opCosts cs ((xs (7 * i + 1)).toInt) ((xs (7 * i + 2)).toInt)).2.2) : Int) (km ((opCosts cs ((xs (7 * i + 1)).toInt) ((xs (7 * i + 2)).toInt)).2.2))] ++ ((wMod G mb ((opCosts cs ((xs (7 * i + 1)).toInt) ((xs (7 * i + 2)).toInt)).1) ((opCosts cs ((xs (7 * i + 1)).toInt) ((xs (7 * i + 2)).toInt)).2.2)).tail ++ ([(w, .inl (G 5, 1, .inr (.inl (F2))))] ++ wC G a ar az ad2 ap2 ts2 ((opCosts cs ((xs (7 * i + 1)).toInt) ((xs (7 * i + 2)).toInt)).2.2)))) := List.Perm.refl _
  refine k_int (g_V (As := []) (rest := []) (q0 := 0) (ci := 3) ⟨hx, hb, hml, hown, hts⟩ (c_X3_thrown l D G mb ((opCosts cs ((xs (7 * i + 1)).toInt) ((xs (7 * i + 2)).toInt)).1) (kn ((opCosts cs ((xs (7 * i + 1)).toInt) ((xs (7 * i + 2)).toInt)).2.2) : Int) (kp ((opCosts cs ((xs (7 * i + 1)).toInt) ((xs (7 * i + 2)).toInt)).2.2) : Int) (km ((opCosts cs ((xs (7 * i + 1)).toInt) ((xs (7 * i + 2)).toInt)).2.2))) (cwV 0 hts gL_law_X3_thrown rfl rfl rfl (by decide +kernel) ⟨Nat.le_of_ble_eq_true rfl, Nat.le_of_ble_eq_true rfl⟩) hK hP hD hp rfl rfl rfl rfl hl.1 rfl (Nat.le_of_ble_eq_true rfl) dL_law_967 ⟨Nat.le_trans (by omega) hc1, Nat.le_trans (by omega) hc2⟩) hP hD hS hA hp (fun v u H locs hw hP hD hS => ?_)
  obtain ⟨rfl, rfl⟩ := hw
  replace hP : va_P D vwCl (wMod G mb ((opCosts cs ((xs (7 * i + 1)).toInt) ((xs (7 * i + 2)).toInt)).1) ((opCosts cs ((xs (7 * i + 1)).toInt) ((xs (7 * i + 2)).toInt)).2.2) ++ ([(w, .inl (G 5, 1, .inr (.inl (F2))))] ++ wC G a ar az ad2 ap2 ts2 ((opCosts cs ((xs (7 * i + 1)).toInt) ((xs (7 * i + 2)).toInt)).2.2))) H := hP
  replace hD : va_D A (wMod G mb ((opCosts cs ((xs (7 * i + 1)).toInt) ((xs (7 * i + 2)).toInt)).1) ((opCosts cs ((xs (7 * i + 1)).toInt) ((xs (7 * i + 2)).toInt)).2.2) ++ ([(w, .inl (G 5, 1, .inr (.inl (F2))))] ++ wC G a ar az ad2 ap2 ts2 ((opCosts cs ((xs (7 * i + 1)).toInt) ((xs (7 * i + 2)).toInt)).2.2))) := hD
  replace hP := wP_perm hP (pm3 _ _ _).symm
  replace hD := wD_perm hD (pm3 _ _ _).symm
  have hP : va_P D vwCl (wOut G w F2 ++ (wMod G mb ((opCosts cs ((xs (7 * i + 1)).toInt) ((xs (7 * i + 2)).toInt)).1) ((opCosts cs ((xs (7 * i + 1)).toInt) ((xs (7 * i + 2)).toInt)).2.2) ++ wC G a ar az ad2 ap2 ts2 ((opCosts cs ((xs (7 * i + 1)).toInt) ((xs (7 * i + 2)).toInt)).2.2))) H := hP
  have hD : va_D A (wOut G w F2 ++ (wMod G mb ((opCosts cs ((xs (7 * i + 1)).toInt) ((xs (7 * i + 2)).toInt)).1) ((opCosts cs ((xs (7 * i + 1)).toInt) ((xs (7 * i + 2)).toInt)).2.2) ++ wC G a ar az ad2 ap2 ts2 ((opCosts cs ((xs (7 * i + 1)).toInt) ((xs (7 * i + 2)).toInt)).2.2))) := hD
  refine lv_iload hx hb dL_law_970 (lv_at hl 1 rfl) ?_
  refine lv_icmp_eq (tgt := 977) hx hb dL_law_972 (by decide) (fun _ => ?_) (fun h9 => absurd rfl h9)
  refine lv_iload hx hb dL_law_977 (lv_at hl 1 rfl) ?_
  refine lv_if_ne (tgt := 994) hx hb dL_law_979 (by decide) (fun c_979 => ?_) (fun c_979 => ?_)
  · skip
    refine r_goto hx hb 1381 dL_law_994 (by decide) ?_
    exact W.widen (by omega) (by omega) (kk ((opCosts cs ((xs (7 * i + 1)).toInt) ((xs (7 * i + 2)).toInt)).1) ((opCosts cs ((xs (7 * i + 1)).toInt) ((xs (7 * i + 2)).toInt)).2.2) ad2 ap2 ts2 F2 _ _ hP hD hS _ (lv_sub hl [2, 3, 4, 5, 6] rfl) (g_costs hok _ _).1 (g_costs hok _ _).2)
  · have hF0 := hF c_979
    refine lv_aload_n hx hb dL_law_982 rfl (lv_at hl 5 rfl) ?_
    refine r_const hx hb dL_law_983 ?_
    refine r_lald0 (F := F2) hx hb hK hP 0 rfl dL_law_984 ?_
    refine lv_iload hx hb dL_law_985 (lv_at hl 0 rfl) ?_
    refine lv_i2l (v := ((iv ((opCosts cs ((xs (7 * i + 1)).toInt) ((xs (7 * i + 2)).toInt)).2.1))).toInt64) hx hb dL_law_987 rfl ?_
    rw [hF0]
    refine r_lcmp_eq hx hb dL_law_988 ?_
    refine lv_if_eq (tgt := 994) hx hb dL_law_989 (by decide) (fun _ => ?_) (fun h9 => absurd rfl h9)
    refine r_goto hx hb 1381 dL_law_994 (by decide) ?_
    exact W.widen (by omega) (by omega) (kk ((opCosts cs ((xs (7 * i + 1)).toInt) ((xs (7 * i + 2)).toInt)).1) ((opCosts cs ((xs (7 * i + 1)).toInt) ((xs (7 * i + 2)).toInt)).2.2) ad2 ap2 ts2 F2 _ _ hP hD hS _ (lv_sub hl [2, 3, 4, 5, 6] rfl) (g_costs hok _ _).1 (g_costs hok _ _).2)
set_option maxHeartbeats 4000000 in
set_option maxRecDepth 100000 in
theorem k_law_often {p : Program} {l : Launch} {e : Env} {s : State} {m : MethodId} {below : List Frame} {meth : Method} {c : Code} {H : Heap} {locs : List Loc} {cells slots : Nat} {ls : Array Slot} {A : Nat → Prop} {Q : State → Prop} {D : va_G} {G : Nat → ClassId} {b L : Nat} {xs : Nat → Int32} (hB : LB p l s m meth c D G b L xs A) {a ar az mb : Nat → Nat} {ad ap : AD} {ts : DS} {cs : CS} {th : Int} {w : Nat} {F : Nat → Int64} {i : Nat} (hi : 7 * i + 7 ≤ L) (hok : okC cs) (hdl : kd cs ≤ 1000000) (hc1 : cells + 10 ≤ room_1.cells) (hc2 : slots + 250 ≤ room_1.slots) (hP : va_P D vwCl (wOut G w F ++ (wMod G mb th cs ++ wC G a ar az ad ap ts cs)) H) (hD : va_D A (wOut G w F ++ (wMod G mb th cs ++ wC G a ar az ad ap ts cs))) (hS : va_S A s.heap H locs) (hl : lv_has ls 9 [(0, .ref b), (1, .ref (a 0)), (2, .ref (mb 0)), (3, .ref w), (4, .int (iv ((7 * i : Nat) : Int)))])
  (kk : ∀ (th : Int) (cs2 : CS) (ad ap : AD) (ts : DS) (F : Nat → Int64) (H : Heap) (locs : List Loc), va_P D vwCl (wOut G w F ++ (wMod G mb th cs2 ++ wC G a ar az ad ap ts cs2)) H → va_D A (wOut G w F ++ (wMod G mb th cs2 ++ wC G a ar az ad ap ts cs2)) → va_S A s.heap H locs → ∀ (ls : Array Slot), lv_has ls 9 [(0, .ref b), (1, .ref (a 0)), (2, .ref (mb 0)), (3, .ref w), (4, .int (iv ((7 * i : Nat) : Int)))] → okC cs2 → kd cs2 ≤ kd cs + 60 → W p l e room_1 s m #[Value.ref b] below meth c H locs (cells + 10) (slots + 250) Q (F0 m 1381 ls [])) : W p l e room_1 s m #[Value.ref b] below meth c H locs cells slots Q (F0 m 997 ls []) := by
  obtain ⟨hx, hb, hml, hown, hts, hK, hT, hN, hA, hX, hbl, hbA, hL, hl0⟩ := hB
  refine lv_aload_n hx hb dL_law_997 rfl (lv_at hl 1 rfl) ?_
  refine lv_aload_n hx hb dL_law_998 rfl (lv_at hl 0 rfl) ?_
  refine lv_iload hx hb dL_law_999 (lv_at hl 4 rfl) ?_
  refine r_const hx hb dL_law_1001 ?_
  refine r_add hx hb dL_law_1002 ?_
  refine r_sld hx hb hX hbl hbA hS (7 * i + 1) (by omega) (by omega) hL dL_law_1003 ?_
  refine lv_aload_n hx hb dL_law_1004 rfl (lv_at hl 0 rfl) ?_
  refine lv_iload hx hb dL_law_1005 (lv_at hl 4 rfl) ?_
  refine r_const hx hb dL_law_1007 ?_
  refine r_add hx hb dL_law_1008 ?_
  refine r_sld hx hb hX hbl hbA hS (7 * i + 2) (by omega) (by omega) hL dL_law_1009 ?_
  refine lv_aload_n hx hb dL_law_1010 rfl (lv_at hl 3 rfl) ?_
  refine k_int (g_SH (As := [.ref (a 0), .int (iv ((xs (7 * i + 1)).toInt)), .int (iv ((xs (7 * i + 2)).toInt)), .ref w]) (rest := []) ⟨hx, hb, hml, hown, hts⟩ (c_L_often l D G hl0 a ar az ad ap ts cs hok w F ((xs (7 * i + 1)).toInt) ((xs (7 * i + 2)).toInt) (xs_rng _) (xs_rng _)) (vx_cwSW 4 hts gL_law_L_often rfl rfl rfl (by decide +kernel) ⟨Nat.le_of_ble_eq_true rfl, Nat.le_of_ble_eq_true rfl⟩) hK hT hN hA hP hD hS (pm1 _ _ _) rfl hl.1 rfl (Nat.le_of_ble_eq_true rfl) dL_law_1011 ⟨Nat.le_trans (by omega) hc1, Nat.le_trans (by omega) hc2⟩) hP hD hS hA (pm1 _ _ _) (fun v u H locs hw hP hD hS => ?_)
  obtain ⟨rfl, ad2, ap2, ts2, F2, rfl, hF⟩ := hw
  have hP := wP_perm hP (pm1 _ _ _).symm
  have hD := wD_perm hD (pm1 _ _ _).symm
  have hP : va_P D vwCl (wOut G w F2 ++ (wMod G mb th cs ++ wC G a ar az ad2 ap2 ts2 ((opOften cs ((xs (7 * i + 1)).toInt) ((xs (7 * i + 2)).toInt)).2.2))) H := hP
  have hD : va_D A (wOut G w F2 ++ (wMod G mb th cs ++ wC G a ar az ad2 ap2 ts2 ((opOften cs ((xs (7 * i + 1)).toInt) ((xs (7 * i + 2)).toInt)).2.2))) := hD
  refine lv_istore (lv' := [(5, .int (iv ((opOften cs ((xs (7 * i + 1)).toInt) ((xs (7 * i + 2)).toInt)).1))), (0, .ref b), (1, .ref (a 0)), (2, .ref (mb 0)), (3, .ref w), (4, .int (iv ((7 * i : Nat) : Int)))]) hx hb dL_law_1014 hl (by decide) rfl (fun ls hl => ?_)
  refine lv_aload_n hx hb dL_law_1016 rfl (lv_at hl 3 rfl) ?_
  refine lv_aload_n hx hb dL_law_1017 rfl (lv_at hl 1 rfl) ?_
  refine lv_iload hx hb dL_law_1018 (lv_at hl 5 rfl) ?_
  refine r_const hx hb dL_law_1020 ?_
  refine r_add hx hb dL_law_1021 ?_
  refine r_sld hx hb hX hbl hbA hS (7 * i + 1) (by omega) (by omega) hL dL_law_1022 ?_
  refine lv_aload_n hx hb dL_law_1023 rfl (lv_at hl 1 rfl) ?_
  refine lv_iload hx hb dL_law_1024 (lv_at hl 5 rfl) ?_
  refine r_const hx hb dL_law_1026 ?_
  refine r_add hx hb dL_law_1027 ?_
  refine r_sld hx hb hX hbl hbA hS (7 * i + 2) (by omega) (by omega) hL dL_law_1028 ?_
  replace hP := wP_perm hP (pm3 _ _ _)
  replace hD := wD_perm hD (pm3 _ _ _)
  have hp : List.Perm (wMod G mb th cs ++ ([(w, .inl (G 5, 1, .inr (.inl (F2))))] ++ wC G a ar az ad2 ap2 ts2 ((opOften cs ((xs (7 * i + 1)).toInt) ((xs (7 * i + 2)).toInt)).2.2))) (wMod G mb th cs ++ ([(w, .inl (G 5, 1, .inr (.inl (F2))))] ++ wC G a ar az ad2 ap2 ts2 ((opOften cs ((xs (7 * i + 1)).toInt) ((xs (7 * i + 2)).toInt)).2.2))) := List.Perm.refl _
  refine k_int (g_VT (As := [.int (iv ((xs (7 * i + 1)).toInt)), .int (iv ((xs (7 * i + 2)).toInt))]) (rest := []) (q0 := 0) (ci := 3) ⟨hx, hb, hml, hown, hts⟩ (c_X3_often l D G mb th cs hok ((xs (7 * i + 1)).toInt) ((xs (7 * i + 2)).toInt) (xs_rng _) (xs_rng _)) (cwV 2 hts gL_law_X3_often rfl rfl rfl (by decide +kernel) ⟨Nat.le_of_ble_eq_true rfl, Nat.le_of_ble_eq_true rfl⟩) hK hT hA hP hD hS hp rfl rfl rfl rfl hl.1 rfl (Nat.le_of_ble_eq_true rfl) dL_law_1029 ⟨Nat.le_trans (by omega) hc1, Nat.le_trans (by omega) hc2⟩) hP hD hS hA hp (fun v u H locs hw hP hD hS => ?_)
  obtain ⟨rfl, rfl⟩ := hw
  replace hP : va_P D vwCl (wMod G mb ((opOften cs ((xs (7 * i + 1)).toInt) ((xs (7 * i + 2)).toInt)).1) ((opOften cs ((xs (7 * i + 1)).toInt) ((xs (7 * i + 2)).toInt)).2.2) ++ ([(w, .inl (G 5, 1, .inr (.inl (F2))))] ++ wC G a ar az ad2 ap2 ts2 ((opOften cs ((xs (7 * i + 1)).toInt) ((xs (7 * i + 2)).toInt)).2.2))) H := hP
  replace hD : va_D A (wMod G mb ((opOften cs ((xs (7 * i + 1)).toInt) ((xs (7 * i + 2)).toInt)).1) ((opOften cs ((xs (7 * i + 1)).toInt) ((xs (7 * i + 2)).toInt)).2.2) ++ ([(w, .inl (G 5, 1, .inr (.inl (F2))))] ++ wC G a ar az ad2 ap2 ts2 ((opOften cs ((xs (7 * i + 1)).toInt) ((xs (7 * i + 2)).toInt)).2.2))) := hD
  replace hP := wP_perm hP (pm3 _ _ _).symm
  replace hD := wD_perm hD (pm3 _ _ _).symm
  have hP : va_P D vwCl (wOut G w F2 ++ (wMod G mb ((opOften cs ((xs (7 * i + 1)).toInt) ((xs (7 * i + 2)).toInt)).1) ((opOften cs ((xs (7 * i + 1)).toInt) ((xs (7 * i + 2)).toInt)).2.2) ++ wC G a ar az ad2 ap2 ts2 ((opOften cs ((xs (7 * i + 1)).toInt) ((xs (7 * i + 2)).toInt)).2.2))) H := hP
  have hD : va_D A (wOut G w F2 ++ (wMod G mb ((opOften cs ((xs (7 * i + 1)).toInt) ((xs (7 * i + 2)).toInt)).1) ((opOften cs ((xs (7 * i + 1)).toInt) ((xs (7 * i + 2)).toInt)).2.2) ++ wC G a ar az ad2 ap2 ts2 ((opOften cs ((xs (7 * i + 1)).toInt) ((xs (7 * i + 2)).toInt)).2.2))) := hD
  refine lv_istore (lv' := [(6, .int (iv ((opOften cs ((xs (7 * i + 1)).toInt) ((xs (7 * i + 2)).toInt)).2.1))), (5, .int (iv ((opOften cs ((xs (7 * i + 1)).toInt) ((xs (7 * i + 2)).toInt)).1))), (0, .ref b), (1, .ref (a 0)), (2, .ref (mb 0)), (3, .ref w), (4, .int (iv ((7 * i : Nat) : Int)))]) hx hb dL_law_1032 hl (by decide) rfl (fun ls hl => ?_)
  refine lv_aload_n hx hb dL_law_1034 rfl (lv_at hl 4 rfl) ?_
  replace hP := wP_perm hP (pm3 _ _ _)
  replace hD := wD_perm hD (pm3 _ _ _)
  have hp : List.Perm (wMod G mb ((opOften cs ((xs (7 * i + 1)).toInt) ((xs (7 * i + 2)).toInt)).1) ((opOften cs ((xs (7 * i + 1)).toInt) ((xs (7 * i + 2)).toInt)).2.2) ++ ([(w, .inl (G 5, 1, .inr (.inl (F2))))] ++ wC G a ar az ad2 ap2 ts2 ((opOften cs ((xs (7 * i + 1)).toInt) ((xs (7 * i + 2)).toInt)).2.2))) ([wM0 mb ((opOften cs ((xs (7 * i + 1)).toInt) ((xs (7 * i + 2)).toInt)).1) (kn ((opOften cs ((xs (7 * i + 1)).toInt) ((xs (7 * i + 2)).toInt)).2.2) : Int) (kp ((opOften cs ((xs (7 * i + 1)).toInt) ((xs (7 * i + 2)).toInt)).2.2) : Int) (km ((opOften cs ((xs (7 * i + 1)).toInt) ((xs (7 * i + 2)).toInt)).2.2))] ++ ((wMod G mb ((opOften cs ((xs (7 * i + 1)).toInt) ((xs (7 * i + 2)).toInt)).1) ((opOften cs ((xs (7 * i + 1)).toInt) ((xs (7 * i + 2)).toInt)).2.2)).tail ++ ([(w, .inl (G 5, 1, .inr (.inl (F2))))] ++ wC G a ar az ad2 ap2 ts2 ((opOften cs ((xs (7 * i + 1)).toInt) ((xs (7 * i + 2)).toInt)).2.2)))) := List.Perm.refl _
  refine k_int (g_V (As := []) (rest := []) (q0 := 0) (ci := 3) ⟨hx, hb, hml, hown, hts⟩ (c_X3_thrown l D G mb ((opOften cs ((xs (7 * i + 1)).toInt) ((xs (7 * i + 2)).toInt)).1) (kn ((opOften cs ((xs (7 * i + 1)).toInt) ((xs (7 * i + 2)).toInt)).2.2) : Int) (kp ((opOften cs ((xs (7 * i + 1)).toInt) ((xs (7 * i + 2)).toInt)).2.2) : Int) (km ((opOften cs ((xs (7 * i + 1)).toInt) ((xs (7 * i + 2)).toInt)).2.2))) (cwV 0 hts gL_law_X3_thrown rfl rfl rfl (by decide +kernel) ⟨Nat.le_of_ble_eq_true rfl, Nat.le_of_ble_eq_true rfl⟩) hK hP hD hp rfl rfl rfl rfl hl.1 rfl (Nat.le_of_ble_eq_true rfl) dL_law_1035 ⟨Nat.le_trans (by omega) hc1, Nat.le_trans (by omega) hc2⟩) hP hD hS hA hp (fun v u H locs hw hP hD hS => ?_)
  obtain ⟨rfl, rfl⟩ := hw
  replace hP : va_P D vwCl (wMod G mb ((opOften cs ((xs (7 * i + 1)).toInt) ((xs (7 * i + 2)).toInt)).1) ((opOften cs ((xs (7 * i + 1)).toInt) ((xs (7 * i + 2)).toInt)).2.2) ++ ([(w, .inl (G 5, 1, .inr (.inl (F2))))] ++ wC G a ar az ad2 ap2 ts2 ((opOften cs ((xs (7 * i + 1)).toInt) ((xs (7 * i + 2)).toInt)).2.2))) H := hP
  replace hD : va_D A (wMod G mb ((opOften cs ((xs (7 * i + 1)).toInt) ((xs (7 * i + 2)).toInt)).1) ((opOften cs ((xs (7 * i + 1)).toInt) ((xs (7 * i + 2)).toInt)).2.2) ++ ([(w, .inl (G 5, 1, .inr (.inl (F2))))] ++ wC G a ar az ad2 ap2 ts2 ((opOften cs ((xs (7 * i + 1)).toInt) ((xs (7 * i + 2)).toInt)).2.2))) := hD
  replace hP := wP_perm hP (pm3 _ _ _).symm
  replace hD := wD_perm hD (pm3 _ _ _).symm
  have hP : va_P D vwCl (wOut G w F2 ++ (wMod G mb ((opOften cs ((xs (7 * i + 1)).toInt) ((xs (7 * i + 2)).toInt)).1) ((opOften cs ((xs (7 * i + 1)).toInt) ((xs (7 * i + 2)).toInt)).2.2) ++ wC G a ar az ad2 ap2 ts2 ((opOften cs ((xs (7 * i + 1)).toInt) ((xs (7 * i + 2)).toInt)).2.2))) H := hP
  have hD : va_D A (wOut G w F2 ++ (wMod G mb ((opOften cs ((xs (7 * i + 1)).toInt) ((xs (7 * i + 2)).toInt)).1) ((opOften cs ((xs (7 * i + 1)).toInt) ((xs (7 * i + 2)).toInt)).2.2) ++ wC G a ar az ad2 ap2 ts2 ((opOften cs ((xs (7 * i + 1)).toInt) ((xs (7 * i + 2)).toInt)).2.2))) := hD
  refine lv_iload hx hb dL_law_1038 (lv_at hl 1 rfl) ?_
  refine lv_icmp_eq (tgt := 1045) hx hb dL_law_1040 (by decide) (fun _ => ?_) (fun h9 => absurd rfl h9)
  refine lv_iload hx hb dL_law_1045 (lv_at hl 1 rfl) ?_
  refine lv_if_ne (tgt := 1062) hx hb dL_law_1047 (by decide) (fun c_1047 => ?_) (fun c_1047 => ?_)
  · skip
    refine r_goto hx hb 1381 dL_law_1062 (by decide) ?_
    exact W.widen (by omega) (by omega) (kk ((opOften cs ((xs (7 * i + 1)).toInt) ((xs (7 * i + 2)).toInt)).1) ((opOften cs ((xs (7 * i + 1)).toInt) ((xs (7 * i + 2)).toInt)).2.2) ad2 ap2 ts2 F2 _ _ hP hD hS _ (lv_sub hl [2, 3, 4, 5, 6] rfl) (g_often hok _ _).1 (g_often hok _ _).2)
  · have hF0 := hF c_1047
    refine lv_aload_n hx hb dL_law_1050 rfl (lv_at hl 5 rfl) ?_
    refine r_const hx hb dL_law_1051 ?_
    refine r_lald0 (F := F2) hx hb hK hP 0 rfl dL_law_1052 ?_
    refine lv_iload hx hb dL_law_1053 (lv_at hl 0 rfl) ?_
    refine lv_i2l (v := ((iv ((opOften cs ((xs (7 * i + 1)).toInt) ((xs (7 * i + 2)).toInt)).2.1))).toInt64) hx hb dL_law_1055 rfl ?_
    rw [hF0]
    refine r_lcmp_eq hx hb dL_law_1056 ?_
    refine lv_if_eq (tgt := 1062) hx hb dL_law_1057 (by decide) (fun _ => ?_) (fun h9 => absurd rfl h9)
    refine r_goto hx hb 1381 dL_law_1062 (by decide) ?_
    exact W.widen (by omega) (by omega) (kk ((opOften cs ((xs (7 * i + 1)).toInt) ((xs (7 * i + 2)).toInt)).1) ((opOften cs ((xs (7 * i + 1)).toInt) ((xs (7 * i + 2)).toInt)).2.2) ad2 ap2 ts2 F2 _ _ hP hD hS _ (lv_sub hl [2, 3, 4, 5, 6] rfl) (g_often hok _ _).1 (g_often hok _ _).2)
set_option maxHeartbeats 4000000 in
set_option maxRecDepth 100000 in
theorem k_law_needs {p : Program} {l : Launch} {e : Env} {s : State} {m : MethodId} {below : List Frame} {meth : Method} {c : Code} {H : Heap} {locs : List Loc} {cells slots : Nat} {ls : Array Slot} {A : Nat → Prop} {Q : State → Prop} {D : va_G} {G : Nat → ClassId} {b L : Nat} {xs : Nat → Int32} (hB : LB p l s m meth c D G b L xs A) {a ar az mb : Nat → Nat} {ad ap : AD} {ts : DS} {cs : CS} {th : Int} {w : Nat} {F : Nat → Int64} {i : Nat} (hi : 7 * i + 7 ≤ L) (hok : okC cs) (hdl : kd cs ≤ 1000000) (hc1 : cells + 10 ≤ room_1.cells) (hc2 : slots + 250 ≤ room_1.slots) (hP : va_P D vwCl (wOut G w F ++ (wMod G mb th cs ++ wC G a ar az ad ap ts cs)) H) (hD : va_D A (wOut G w F ++ (wMod G mb th cs ++ wC G a ar az ad ap ts cs))) (hS : va_S A s.heap H locs) (hl : lv_has ls 9 [(0, .ref b), (1, .ref (a 0)), (2, .ref (mb 0)), (3, .ref w), (4, .int (iv ((7 * i : Nat) : Int)))])
  (kk : ∀ (th : Int) (cs2 : CS) (ad ap : AD) (ts : DS) (F : Nat → Int64) (H : Heap) (locs : List Loc), va_P D vwCl (wOut G w F ++ (wMod G mb th cs2 ++ wC G a ar az ad ap ts cs2)) H → va_D A (wOut G w F ++ (wMod G mb th cs2 ++ wC G a ar az ad ap ts cs2)) → va_S A s.heap H locs → ∀ (ls : Array Slot), lv_has ls 9 [(0, .ref b), (1, .ref (a 0)), (2, .ref (mb 0)), (3, .ref w), (4, .int (iv ((7 * i : Nat) : Int)))] → okC cs2 → kd cs2 ≤ kd cs + 60 → W p l e room_1 s m #[Value.ref b] below meth c H locs (cells + 10) (slots + 250) Q (F0 m 1381 ls [])) : W p l e room_1 s m #[Value.ref b] below meth c H locs cells slots Q (F0 m 1065 ls []) := by
  obtain ⟨hx, hb, hml, hown, hts, hK, hT, hN, hA, hX, hbl, hbA, hL, hl0⟩ := hB
  refine lv_aload_n hx hb dL_law_1065 rfl (lv_at hl 1 rfl) ?_
  refine lv_aload_n hx hb dL_law_1066 rfl (lv_at hl 0 rfl) ?_
  refine lv_iload hx hb dL_law_1067 (lv_at hl 4 rfl) ?_
  refine r_const hx hb dL_law_1069 ?_
  refine r_add hx hb dL_law_1070 ?_
  refine r_sld hx hb hX hbl hbA hS (7 * i + 1) (by omega) (by omega) hL dL_law_1071 ?_
  refine lv_aload_n hx hb dL_law_1072 rfl (lv_at hl 0 rfl) ?_
  refine lv_iload hx hb dL_law_1073 (lv_at hl 4 rfl) ?_
  refine r_const hx hb dL_law_1075 ?_
  refine r_add hx hb dL_law_1076 ?_
  refine r_sld hx hb hX hbl hbA hS (7 * i + 2) (by omega) (by omega) hL dL_law_1077 ?_
  refine lv_aload_n hx hb dL_law_1078 rfl (lv_at hl 3 rfl) ?_
  refine k_int (g_SH (As := [.ref (a 0), .int (iv ((xs (7 * i + 1)).toInt)), .int (iv ((xs (7 * i + 2)).toInt)), .ref w]) (rest := []) ⟨hx, hb, hml, hown, hts⟩ (c_L_needs l D G hl0 a ar az ad ap ts cs hok w F ((xs (7 * i + 1)).toInt) ((xs (7 * i + 2)).toInt) (xs_rng _) (xs_rng _)) (vx_cwSW 4 hts gL_law_L_needs rfl rfl rfl (by decide +kernel) ⟨Nat.le_of_ble_eq_true rfl, Nat.le_of_ble_eq_true rfl⟩) hK hT hN hA hP hD hS (pm1 _ _ _) rfl hl.1 rfl (Nat.le_of_ble_eq_true rfl) dL_law_1079 ⟨Nat.le_trans (by omega) hc1, Nat.le_trans (by omega) hc2⟩) hP hD hS hA (pm1 _ _ _) (fun v u H locs hw hP hD hS => ?_)
  obtain ⟨rfl, ad2, ap2, ts2, F2, rfl, hF⟩ := hw
  have hP := wP_perm hP (pm1 _ _ _).symm
  have hD := wD_perm hD (pm1 _ _ _).symm
  have hP : va_P D vwCl (wOut G w F2 ++ (wMod G mb th cs ++ wC G a ar az ad2 ap2 ts2 ((opNeeds cs ((xs (7 * i + 1)).toInt) ((xs (7 * i + 2)).toInt)).2.2))) H := hP
  have hD : va_D A (wOut G w F2 ++ (wMod G mb th cs ++ wC G a ar az ad2 ap2 ts2 ((opNeeds cs ((xs (7 * i + 1)).toInt) ((xs (7 * i + 2)).toInt)).2.2))) := hD
  refine lv_istore (lv' := [(5, .int (iv ((opNeeds cs ((xs (7 * i + 1)).toInt) ((xs (7 * i + 2)).toInt)).1))), (0, .ref b), (1, .ref (a 0)), (2, .ref (mb 0)), (3, .ref w), (4, .int (iv ((7 * i : Nat) : Int)))]) hx hb dL_law_1082 hl (by decide) rfl (fun ls hl => ?_)
  refine lv_aload_n hx hb dL_law_1084 rfl (lv_at hl 3 rfl) ?_
  refine lv_aload_n hx hb dL_law_1085 rfl (lv_at hl 1 rfl) ?_
  refine lv_iload hx hb dL_law_1086 (lv_at hl 5 rfl) ?_
  refine r_const hx hb dL_law_1088 ?_
  refine r_add hx hb dL_law_1089 ?_
  refine r_sld hx hb hX hbl hbA hS (7 * i + 1) (by omega) (by omega) hL dL_law_1090 ?_
  refine lv_aload_n hx hb dL_law_1091 rfl (lv_at hl 1 rfl) ?_
  refine lv_iload hx hb dL_law_1092 (lv_at hl 5 rfl) ?_
  refine r_const hx hb dL_law_1094 ?_
  refine r_add hx hb dL_law_1095 ?_
  refine r_sld hx hb hX hbl hbA hS (7 * i + 2) (by omega) (by omega) hL dL_law_1096 ?_
  replace hP := wP_perm hP (pm3 _ _ _)
  replace hD := wD_perm hD (pm3 _ _ _)
  have hp : List.Perm (wMod G mb th cs ++ ([(w, .inl (G 5, 1, .inr (.inl (F2))))] ++ wC G a ar az ad2 ap2 ts2 ((opNeeds cs ((xs (7 * i + 1)).toInt) ((xs (7 * i + 2)).toInt)).2.2))) (wMod G mb th cs ++ ([(w, .inl (G 5, 1, .inr (.inl (F2))))] ++ wC G a ar az ad2 ap2 ts2 ((opNeeds cs ((xs (7 * i + 1)).toInt) ((xs (7 * i + 2)).toInt)).2.2))) := List.Perm.refl _
  refine k_int (g_V (As := [.int (iv ((xs (7 * i + 1)).toInt)), .int (iv ((xs (7 * i + 2)).toInt))]) (rest := []) (q0 := 0) (ci := 3) ⟨hx, hb, hml, hown, hts⟩ (c_X3_needs l D G mb th cs hok ((xs (7 * i + 1)).toInt) ((xs (7 * i + 2)).toInt) (xs_rng _) (xs_rng _)) (cwV 2 hts gL_law_X3_needs rfl rfl rfl (by decide +kernel) ⟨Nat.le_of_ble_eq_true rfl, Nat.le_of_ble_eq_true rfl⟩) hK hP hD hp rfl rfl rfl rfl hl.1 rfl (Nat.le_of_ble_eq_true rfl) dL_law_1097 ⟨Nat.le_trans (by omega) hc1, Nat.le_trans (by omega) hc2⟩) hP hD hS hA hp (fun v u H locs hw hP hD hS => ?_)
  obtain ⟨rfl, rfl⟩ := hw
  replace hP : va_P D vwCl (wMod G mb ((opNeeds cs ((xs (7 * i + 1)).toInt) ((xs (7 * i + 2)).toInt)).1) ((opNeeds cs ((xs (7 * i + 1)).toInt) ((xs (7 * i + 2)).toInt)).2.2) ++ ([(w, .inl (G 5, 1, .inr (.inl (F2))))] ++ wC G a ar az ad2 ap2 ts2 ((opNeeds cs ((xs (7 * i + 1)).toInt) ((xs (7 * i + 2)).toInt)).2.2))) H := hP
  replace hD : va_D A (wMod G mb ((opNeeds cs ((xs (7 * i + 1)).toInt) ((xs (7 * i + 2)).toInt)).1) ((opNeeds cs ((xs (7 * i + 1)).toInt) ((xs (7 * i + 2)).toInt)).2.2) ++ ([(w, .inl (G 5, 1, .inr (.inl (F2))))] ++ wC G a ar az ad2 ap2 ts2 ((opNeeds cs ((xs (7 * i + 1)).toInt) ((xs (7 * i + 2)).toInt)).2.2))) := hD
  replace hP := wP_perm hP (pm3 _ _ _).symm
  replace hD := wD_perm hD (pm3 _ _ _).symm
  have hP : va_P D vwCl (wOut G w F2 ++ (wMod G mb ((opNeeds cs ((xs (7 * i + 1)).toInt) ((xs (7 * i + 2)).toInt)).1) ((opNeeds cs ((xs (7 * i + 1)).toInt) ((xs (7 * i + 2)).toInt)).2.2) ++ wC G a ar az ad2 ap2 ts2 ((opNeeds cs ((xs (7 * i + 1)).toInt) ((xs (7 * i + 2)).toInt)).2.2))) H := hP
  have hD : va_D A (wOut G w F2 ++ (wMod G mb ((opNeeds cs ((xs (7 * i + 1)).toInt) ((xs (7 * i + 2)).toInt)).1) ((opNeeds cs ((xs (7 * i + 1)).toInt) ((xs (7 * i + 2)).toInt)).2.2) ++ wC G a ar az ad2 ap2 ts2 ((opNeeds cs ((xs (7 * i + 1)).toInt) ((xs (7 * i + 2)).toInt)).2.2))) := hD
  refine lv_istore (lv' := [(6, .int (iv ((opNeeds cs ((xs (7 * i + 1)).toInt) ((xs (7 * i + 2)).toInt)).2.1))), (5, .int (iv ((opNeeds cs ((xs (7 * i + 1)).toInt) ((xs (7 * i + 2)).toInt)).1))), (0, .ref b), (1, .ref (a 0)), (2, .ref (mb 0)), (3, .ref w), (4, .int (iv ((7 * i : Nat) : Int)))]) hx hb dL_law_1100 hl (by decide) rfl (fun ls hl => ?_)
  refine lv_aload_n hx hb dL_law_1102 rfl (lv_at hl 4 rfl) ?_
  replace hP := wP_perm hP (pm3 _ _ _)
  replace hD := wD_perm hD (pm3 _ _ _)
  have hp : List.Perm (wMod G mb ((opNeeds cs ((xs (7 * i + 1)).toInt) ((xs (7 * i + 2)).toInt)).1) ((opNeeds cs ((xs (7 * i + 1)).toInt) ((xs (7 * i + 2)).toInt)).2.2) ++ ([(w, .inl (G 5, 1, .inr (.inl (F2))))] ++ wC G a ar az ad2 ap2 ts2 ((opNeeds cs ((xs (7 * i + 1)).toInt) ((xs (7 * i + 2)).toInt)).2.2))) ([wM0 mb ((opNeeds cs ((xs (7 * i + 1)).toInt) ((xs (7 * i + 2)).toInt)).1) (kn ((opNeeds cs ((xs (7 * i + 1)).toInt) ((xs (7 * i + 2)).toInt)).2.2) : Int) (kp ((opNeeds cs ((xs (7 * i + 1)).toInt) ((xs (7 * i + 2)).toInt)).2.2) : Int) (km ((opNeeds cs ((xs (7 * i + 1)).toInt) ((xs (7 * i + 2)).toInt)).2.2))] ++ ((wMod G mb ((opNeeds cs ((xs (7 * i + 1)).toInt) ((xs (7 * i + 2)).toInt)).1) ((opNeeds cs ((xs (7 * i + 1)).toInt) ((xs (7 * i + 2)).toInt)).2.2)).tail ++ ([(w, .inl (G 5, 1, .inr (.inl (F2))))] ++ wC G a ar az ad2 ap2 ts2 ((opNeeds cs ((xs (7 * i + 1)).toInt) ((xs (7 * i + 2)).toInt)).2.2)))) := List.Perm.refl _
  refine k_int (g_V (As := []) (rest := []) (q0 := 0) (ci := 3) ⟨hx, hb, hml, hown, hts⟩ (c_X3_thrown l D G mb ((opNeeds cs ((xs (7 * i + 1)).toInt) ((xs (7 * i + 2)).toInt)).1) (kn ((opNeeds cs ((xs (7 * i + 1)).toInt) ((xs (7 * i + 2)).toInt)).2.2) : Int) (kp ((opNeeds cs ((xs (7 * i + 1)).toInt) ((xs (7 * i + 2)).toInt)).2.2) : Int) (km ((opNeeds cs ((xs (7 * i + 1)).toInt) ((xs (7 * i + 2)).toInt)).2.2))) (cwV 0 hts gL_law_X3_thrown rfl rfl rfl (by decide +kernel) ⟨Nat.le_of_ble_eq_true rfl, Nat.le_of_ble_eq_true rfl⟩) hK hP hD hp rfl rfl rfl rfl hl.1 rfl (Nat.le_of_ble_eq_true rfl) dL_law_1103 ⟨Nat.le_trans (by omega) hc1, Nat.le_trans (by omega) hc2⟩) hP hD hS hA hp (fun v u H locs hw hP hD hS => ?_)
  obtain ⟨rfl, rfl⟩ := hw
  replace hP : va_P D vwCl (wMod G mb ((opNeeds cs ((xs (7 * i + 1)).toInt) ((xs (7 * i + 2)).toInt)).1) ((opNeeds cs ((xs (7 * i + 1)).toInt) ((xs (7 * i + 2)).toInt)).2.2) ++ ([(w, .inl (G 5, 1, .inr (.inl (F2))))] ++ wC G a ar az ad2 ap2 ts2 ((opNeeds cs ((xs (7 * i + 1)).toInt) ((xs (7 * i + 2)).toInt)).2.2))) H := hP
  replace hD : va_D A (wMod G mb ((opNeeds cs ((xs (7 * i + 1)).toInt) ((xs (7 * i + 2)).toInt)).1) ((opNeeds cs ((xs (7 * i + 1)).toInt) ((xs (7 * i + 2)).toInt)).2.2) ++ ([(w, .inl (G 5, 1, .inr (.inl (F2))))] ++ wC G a ar az ad2 ap2 ts2 ((opNeeds cs ((xs (7 * i + 1)).toInt) ((xs (7 * i + 2)).toInt)).2.2))) := hD
  replace hP := wP_perm hP (pm3 _ _ _).symm
  replace hD := wD_perm hD (pm3 _ _ _).symm
  have hP : va_P D vwCl (wOut G w F2 ++ (wMod G mb ((opNeeds cs ((xs (7 * i + 1)).toInt) ((xs (7 * i + 2)).toInt)).1) ((opNeeds cs ((xs (7 * i + 1)).toInt) ((xs (7 * i + 2)).toInt)).2.2) ++ wC G a ar az ad2 ap2 ts2 ((opNeeds cs ((xs (7 * i + 1)).toInt) ((xs (7 * i + 2)).toInt)).2.2))) H := hP
  have hD : va_D A (wOut G w F2 ++ (wMod G mb ((opNeeds cs ((xs (7 * i + 1)).toInt) ((xs (7 * i + 2)).toInt)).1) ((opNeeds cs ((xs (7 * i + 1)).toInt) ((xs (7 * i + 2)).toInt)).2.2) ++ wC G a ar az ad2 ap2 ts2 ((opNeeds cs ((xs (7 * i + 1)).toInt) ((xs (7 * i + 2)).toInt)).2.2))) := hD
  refine lv_iload hx hb dL_law_1106 (lv_at hl 1 rfl) ?_
  refine lv_icmp_eq (tgt := 1113) hx hb dL_law_1108 (by decide) (fun _ => ?_) (fun h9 => absurd rfl h9)
  refine lv_iload hx hb dL_law_1113 (lv_at hl 1 rfl) ?_
  refine lv_if_ne (tgt := 1130) hx hb dL_law_1115 (by decide) (fun c_1115 => ?_) (fun c_1115 => ?_)
  · skip
    refine r_goto hx hb 1381 dL_law_1130 (by decide) ?_
    exact W.widen (by omega) (by omega) (kk ((opNeeds cs ((xs (7 * i + 1)).toInt) ((xs (7 * i + 2)).toInt)).1) ((opNeeds cs ((xs (7 * i + 1)).toInt) ((xs (7 * i + 2)).toInt)).2.2) ad2 ap2 ts2 F2 _ _ hP hD hS _ (lv_sub hl [2, 3, 4, 5, 6] rfl) (g_needs hok _ _).1 (g_needs hok _ _).2)
  · have hF0 := hF c_1115
    refine lv_aload_n hx hb dL_law_1118 rfl (lv_at hl 5 rfl) ?_
    refine r_const hx hb dL_law_1119 ?_
    refine r_lald0 (F := F2) hx hb hK hP 0 rfl dL_law_1120 ?_
    refine lv_iload hx hb dL_law_1121 (lv_at hl 0 rfl) ?_
    refine lv_i2l (v := ((iv ((opNeeds cs ((xs (7 * i + 1)).toInt) ((xs (7 * i + 2)).toInt)).2.1))).toInt64) hx hb dL_law_1123 rfl ?_
    rw [hF0]
    refine r_lcmp_eq hx hb dL_law_1124 ?_
    refine lv_if_eq (tgt := 1130) hx hb dL_law_1125 (by decide) (fun _ => ?_) (fun h9 => absurd rfl h9)
    refine r_goto hx hb 1381 dL_law_1130 (by decide) ?_
    exact W.widen (by omega) (by omega) (kk ((opNeeds cs ((xs (7 * i + 1)).toInt) ((xs (7 * i + 2)).toInt)).1) ((opNeeds cs ((xs (7 * i + 1)).toInt) ((xs (7 * i + 2)).toInt)).2.2) ad2 ap2 ts2 F2 _ _ hP hD hS _ (lv_sub hl [2, 3, 4, 5, 6] rfl) (g_needs hok _ _).1 (g_needs hok _ _).2)
set_option maxHeartbeats 4000000 in
set_option maxRecDepth 100000 in
theorem k_law_lacks {p : Program} {l : Launch} {e : Env} {s : State} {m : MethodId} {below : List Frame} {meth : Method} {c : Code} {H : Heap} {locs : List Loc} {cells slots : Nat} {ls : Array Slot} {A : Nat → Prop} {Q : State → Prop} {D : va_G} {G : Nat → ClassId} {b L : Nat} {xs : Nat → Int32} (hB : LB p l s m meth c D G b L xs A) {a ar az mb : Nat → Nat} {ad ap : AD} {ts : DS} {cs : CS} {th : Int} {w : Nat} {F : Nat → Int64} {i : Nat} (hi : 7 * i + 7 ≤ L) (hok : okC cs) (hdl : kd cs ≤ 1000000) (hc1 : cells + 10 ≤ room_1.cells) (hc2 : slots + 250 ≤ room_1.slots) (hP : va_P D vwCl (wOut G w F ++ (wMod G mb th cs ++ wC G a ar az ad ap ts cs)) H) (hD : va_D A (wOut G w F ++ (wMod G mb th cs ++ wC G a ar az ad ap ts cs))) (hS : va_S A s.heap H locs) (hl : lv_has ls 9 [(0, .ref b), (1, .ref (a 0)), (2, .ref (mb 0)), (3, .ref w), (4, .int (iv ((7 * i : Nat) : Int)))])
  (kk : ∀ (th : Int) (cs2 : CS) (ad ap : AD) (ts : DS) (F : Nat → Int64) (H : Heap) (locs : List Loc), va_P D vwCl (wOut G w F ++ (wMod G mb th cs2 ++ wC G a ar az ad ap ts cs2)) H → va_D A (wOut G w F ++ (wMod G mb th cs2 ++ wC G a ar az ad ap ts cs2)) → va_S A s.heap H locs → ∀ (ls : Array Slot), lv_has ls 9 [(0, .ref b), (1, .ref (a 0)), (2, .ref (mb 0)), (3, .ref w), (4, .int (iv ((7 * i : Nat) : Int)))] → okC cs2 → kd cs2 ≤ kd cs + 60 → W p l e room_1 s m #[Value.ref b] below meth c H locs (cells + 10) (slots + 250) Q (F0 m 1381 ls [])) : W p l e room_1 s m #[Value.ref b] below meth c H locs cells slots Q (F0 m 1133 ls []) := by
  obtain ⟨hx, hb, hml, hown, hts, hK, hT, hN, hA, hX, hbl, hbA, hL, hl0⟩ := hB
  refine lv_aload_n hx hb dL_law_1133 rfl (lv_at hl 1 rfl) ?_
  refine lv_aload_n hx hb dL_law_1134 rfl (lv_at hl 0 rfl) ?_
  refine lv_iload hx hb dL_law_1135 (lv_at hl 4 rfl) ?_
  refine r_const hx hb dL_law_1137 ?_
  refine r_add hx hb dL_law_1138 ?_
  refine r_sld hx hb hX hbl hbA hS (7 * i + 1) (by omega) (by omega) hL dL_law_1139 ?_
  refine lv_aload_n hx hb dL_law_1140 rfl (lv_at hl 3 rfl) ?_
  refine k_int (g_SH (As := [.ref (a 0), .int (iv ((xs (7 * i + 1)).toInt)), .ref w]) (rest := []) ⟨hx, hb, hml, hown, hts⟩ (c_L_lacks l D G hl0 a ar az ad ap ts cs hok w F ((xs (7 * i + 1)).toInt) (xs_rng _)) (vx_cwSW 3 hts gL_law_L_lacks rfl rfl rfl (by decide +kernel) ⟨Nat.le_of_ble_eq_true rfl, Nat.le_of_ble_eq_true rfl⟩) hK hT hN hA hP hD hS (pm1 _ _ _) rfl hl.1 rfl (Nat.le_of_ble_eq_true rfl) dL_law_1141 ⟨Nat.le_trans (by omega) hc1, Nat.le_trans (by omega) hc2⟩) hP hD hS hA (pm1 _ _ _) (fun v u H locs hw hP hD hS => ?_)
  obtain ⟨rfl, ad2, ap2, ts2, F2, rfl, hF⟩ := hw
  have hP := wP_perm hP (pm1 _ _ _).symm
  have hD := wD_perm hD (pm1 _ _ _).symm
  have hP : va_P D vwCl (wOut G w F2 ++ (wMod G mb th cs ++ wC G a ar az ad2 ap2 ts2 ((opLacks cs ((xs (7 * i + 1)).toInt)).2.2))) H := hP
  have hD : va_D A (wOut G w F2 ++ (wMod G mb th cs ++ wC G a ar az ad2 ap2 ts2 ((opLacks cs ((xs (7 * i + 1)).toInt)).2.2))) := hD
  refine lv_istore (lv' := [(5, .int (iv ((opLacks cs ((xs (7 * i + 1)).toInt)).1))), (0, .ref b), (1, .ref (a 0)), (2, .ref (mb 0)), (3, .ref w), (4, .int (iv ((7 * i : Nat) : Int)))]) hx hb dL_law_1144 hl (by decide) rfl (fun ls hl => ?_)
  refine lv_aload_n hx hb dL_law_1146 rfl (lv_at hl 3 rfl) ?_
  refine lv_aload_n hx hb dL_law_1147 rfl (lv_at hl 1 rfl) ?_
  refine lv_iload hx hb dL_law_1148 (lv_at hl 5 rfl) ?_
  refine r_const hx hb dL_law_1150 ?_
  refine r_add hx hb dL_law_1151 ?_
  refine r_sld hx hb hX hbl hbA hS (7 * i + 1) (by omega) (by omega) hL dL_law_1152 ?_
  replace hP := wP_perm hP (pm3 _ _ _)
  replace hD := wD_perm hD (pm3 _ _ _)
  have hp : List.Perm (wMod G mb th cs ++ ([(w, .inl (G 5, 1, .inr (.inl (F2))))] ++ wC G a ar az ad2 ap2 ts2 ((opLacks cs ((xs (7 * i + 1)).toInt)).2.2))) (wMod G mb th cs ++ ([(w, .inl (G 5, 1, .inr (.inl (F2))))] ++ wC G a ar az ad2 ap2 ts2 ((opLacks cs ((xs (7 * i + 1)).toInt)).2.2))) := List.Perm.refl _
  refine k_int (g_V (As := [.int (iv ((xs (7 * i + 1)).toInt))]) (rest := []) (q0 := 0) (ci := 3) ⟨hx, hb, hml, hown, hts⟩ (c_X3_lacks l D G mb th cs hok ((xs (7 * i + 1)).toInt) (xs_rng _)) (cwV 1 hts gL_law_X3_lacks rfl rfl rfl (by decide +kernel) ⟨Nat.le_of_ble_eq_true rfl, Nat.le_of_ble_eq_true rfl⟩) hK hP hD hp rfl rfl rfl rfl hl.1 rfl (Nat.le_of_ble_eq_true rfl) dL_law_1153 ⟨Nat.le_trans (by omega) hc1, Nat.le_trans (by omega) hc2⟩) hP hD hS hA hp (fun v u H locs hw hP hD hS => ?_)
  obtain ⟨rfl, rfl⟩ := hw
  replace hP : va_P D vwCl (wMod G mb ((opLacks cs ((xs (7 * i + 1)).toInt)).1) ((opLacks cs ((xs (7 * i + 1)).toInt)).2.2) ++ ([(w, .inl (G 5, 1, .inr (.inl (F2))))] ++ wC G a ar az ad2 ap2 ts2 ((opLacks cs ((xs (7 * i + 1)).toInt)).2.2))) H := hP
  replace hD : va_D A (wMod G mb ((opLacks cs ((xs (7 * i + 1)).toInt)).1) ((opLacks cs ((xs (7 * i + 1)).toInt)).2.2) ++ ([(w, .inl (G 5, 1, .inr (.inl (F2))))] ++ wC G a ar az ad2 ap2 ts2 ((opLacks cs ((xs (7 * i + 1)).toInt)).2.2))) := hD
  replace hP := wP_perm hP (pm3 _ _ _).symm
  replace hD := wD_perm hD (pm3 _ _ _).symm
  have hP : va_P D vwCl (wOut G w F2 ++ (wMod G mb ((opLacks cs ((xs (7 * i + 1)).toInt)).1) ((opLacks cs ((xs (7 * i + 1)).toInt)).2.2) ++ wC G a ar az ad2 ap2 ts2 ((opLacks cs ((xs (7 * i + 1)).toInt)).2.2))) H := hP
  have hD : va_D A (wOut G w F2 ++ (wMod G mb ((opLacks cs ((xs (7 * i + 1)).toInt)).1) ((opLacks cs ((xs (7 * i + 1)).toInt)).2.2) ++ wC G a ar az ad2 ap2 ts2 ((opLacks cs ((xs (7 * i + 1)).toInt)).2.2))) := hD
  refine lv_istore (lv' := [(6, .int (iv ((opLacks cs ((xs (7 * i + 1)).toInt)).2.1))), (5, .int (iv ((opLacks cs ((xs (7 * i + 1)).toInt)).1))), (0, .ref b), (1, .ref (a 0)), (2, .ref (mb 0)), (3, .ref w), (4, .int (iv ((7 * i : Nat) : Int)))]) hx hb dL_law_1156 hl (by decide) rfl (fun ls hl => ?_)
  refine lv_aload_n hx hb dL_law_1158 rfl (lv_at hl 4 rfl) ?_
  replace hP := wP_perm hP (pm3 _ _ _)
  replace hD := wD_perm hD (pm3 _ _ _)
  have hp : List.Perm (wMod G mb ((opLacks cs ((xs (7 * i + 1)).toInt)).1) ((opLacks cs ((xs (7 * i + 1)).toInt)).2.2) ++ ([(w, .inl (G 5, 1, .inr (.inl (F2))))] ++ wC G a ar az ad2 ap2 ts2 ((opLacks cs ((xs (7 * i + 1)).toInt)).2.2))) ([wM0 mb ((opLacks cs ((xs (7 * i + 1)).toInt)).1) (kn ((opLacks cs ((xs (7 * i + 1)).toInt)).2.2) : Int) (kp ((opLacks cs ((xs (7 * i + 1)).toInt)).2.2) : Int) (km ((opLacks cs ((xs (7 * i + 1)).toInt)).2.2))] ++ ((wMod G mb ((opLacks cs ((xs (7 * i + 1)).toInt)).1) ((opLacks cs ((xs (7 * i + 1)).toInt)).2.2)).tail ++ ([(w, .inl (G 5, 1, .inr (.inl (F2))))] ++ wC G a ar az ad2 ap2 ts2 ((opLacks cs ((xs (7 * i + 1)).toInt)).2.2)))) := List.Perm.refl _
  refine k_int (g_V (As := []) (rest := []) (q0 := 0) (ci := 3) ⟨hx, hb, hml, hown, hts⟩ (c_X3_thrown l D G mb ((opLacks cs ((xs (7 * i + 1)).toInt)).1) (kn ((opLacks cs ((xs (7 * i + 1)).toInt)).2.2) : Int) (kp ((opLacks cs ((xs (7 * i + 1)).toInt)).2.2) : Int) (km ((opLacks cs ((xs (7 * i + 1)).toInt)).2.2))) (cwV 0 hts gL_law_X3_thrown rfl rfl rfl (by decide +kernel) ⟨Nat.le_of_ble_eq_true rfl, Nat.le_of_ble_eq_true rfl⟩) hK hP hD hp rfl rfl rfl rfl hl.1 rfl (Nat.le_of_ble_eq_true rfl) dL_law_1159 ⟨Nat.le_trans (by omega) hc1, Nat.le_trans (by omega) hc2⟩) hP hD hS hA hp (fun v u H locs hw hP hD hS => ?_)
  obtain ⟨rfl, rfl⟩ := hw
  replace hP : va_P D vwCl (wMod G mb ((opLacks cs ((xs (7 * i + 1)).toInt)).1) ((opLacks cs ((xs (7 * i + 1)).toInt)).2.2) ++ ([(w, .inl (G 5, 1, .inr (.inl (F2))))] ++ wC G a ar az ad2 ap2 ts2 ((opLacks cs ((xs (7 * i + 1)).toInt)).2.2))) H := hP
  replace hD : va_D A (wMod G mb ((opLacks cs ((xs (7 * i + 1)).toInt)).1) ((opLacks cs ((xs (7 * i + 1)).toInt)).2.2) ++ ([(w, .inl (G 5, 1, .inr (.inl (F2))))] ++ wC G a ar az ad2 ap2 ts2 ((opLacks cs ((xs (7 * i + 1)).toInt)).2.2))) := hD
  replace hP := wP_perm hP (pm3 _ _ _).symm
  replace hD := wD_perm hD (pm3 _ _ _).symm
  have hP : va_P D vwCl (wOut G w F2 ++ (wMod G mb ((opLacks cs ((xs (7 * i + 1)).toInt)).1) ((opLacks cs ((xs (7 * i + 1)).toInt)).2.2) ++ wC G a ar az ad2 ap2 ts2 ((opLacks cs ((xs (7 * i + 1)).toInt)).2.2))) H := hP
  have hD : va_D A (wOut G w F2 ++ (wMod G mb ((opLacks cs ((xs (7 * i + 1)).toInt)).1) ((opLacks cs ((xs (7 * i + 1)).toInt)).2.2) ++ wC G a ar az ad2 ap2 ts2 ((opLacks cs ((xs (7 * i + 1)).toInt)).2.2))) := hD
  refine lv_iload hx hb dL_law_1162 (lv_at hl 1 rfl) ?_
  refine lv_icmp_eq (tgt := 1169) hx hb dL_law_1164 (by decide) (fun _ => ?_) (fun h9 => absurd rfl h9)
  refine lv_iload hx hb dL_law_1169 (lv_at hl 1 rfl) ?_
  refine lv_if_ne (tgt := 1186) hx hb dL_law_1171 (by decide) (fun c_1171 => ?_) (fun c_1171 => ?_)
  · skip
    refine r_goto hx hb 1381 dL_law_1186 (by decide) ?_
    exact W.widen (by omega) (by omega) (kk ((opLacks cs ((xs (7 * i + 1)).toInt)).1) ((opLacks cs ((xs (7 * i + 1)).toInt)).2.2) ad2 ap2 ts2 F2 _ _ hP hD hS _ (lv_sub hl [2, 3, 4, 5, 6] rfl) (g_lacks hok _).1 (g_lacks hok _).2)
  · have hF0 := hF c_1171
    refine lv_aload_n hx hb dL_law_1174 rfl (lv_at hl 5 rfl) ?_
    refine r_const hx hb dL_law_1175 ?_
    refine r_lald0 (F := F2) hx hb hK hP 0 rfl dL_law_1176 ?_
    refine lv_iload hx hb dL_law_1177 (lv_at hl 0 rfl) ?_
    refine lv_i2l (v := ((iv ((opLacks cs ((xs (7 * i + 1)).toInt)).2.1))).toInt64) hx hb dL_law_1179 rfl ?_
    rw [hF0]
    refine r_lcmp_eq hx hb dL_law_1180 ?_
    refine lv_if_eq (tgt := 1186) hx hb dL_law_1181 (by decide) (fun _ => ?_) (fun h9 => absurd rfl h9)
    refine r_goto hx hb 1381 dL_law_1186 (by decide) ?_
    exact W.widen (by omega) (by omega) (kk ((opLacks cs ((xs (7 * i + 1)).toInt)).1) ((opLacks cs ((xs (7 * i + 1)).toInt)).2.2) ad2 ap2 ts2 F2 _ _ hP hD hS _ (lv_sub hl [2, 3, 4, 5, 6] rfl) (g_lacks hok _).1 (g_lacks hok _).2)
set_option maxHeartbeats 4000000 in
set_option maxRecDepth 100000 in
theorem k_law_worst {p : Program} {l : Launch} {e : Env} {s : State} {m : MethodId} {below : List Frame} {meth : Method} {c : Code} {H : Heap} {locs : List Loc} {cells slots : Nat} {ls : Array Slot} {A : Nat → Prop} {Q : State → Prop} {D : va_G} {G : Nat → ClassId} {b L : Nat} {xs : Nat → Int32} (hB : LB p l s m meth c D G b L xs A) {a ar az mb : Nat → Nat} {ad ap : AD} {ts : DS} {cs : CS} {th : Int} {w : Nat} {F : Nat → Int64} {i : Nat} (hi : 7 * i + 7 ≤ L) (hok : okC cs) (hdl : kd cs ≤ 1000000) (hc1 : cells + 10 ≤ room_1.cells) (hc2 : slots + 250 ≤ room_1.slots) (hP : va_P D vwCl (wOut G w F ++ (wMod G mb th cs ++ wC G a ar az ad ap ts cs)) H) (hD : va_D A (wOut G w F ++ (wMod G mb th cs ++ wC G a ar az ad ap ts cs))) (hS : va_S A s.heap H locs) (hl : lv_has ls 9 [(0, .ref b), (1, .ref (a 0)), (2, .ref (mb 0)), (3, .ref w), (4, .int (iv ((7 * i : Nat) : Int)))])
  (kk : ∀ (th : Int) (cs2 : CS) (ad ap : AD) (ts : DS) (F : Nat → Int64) (H : Heap) (locs : List Loc), va_P D vwCl (wOut G w F ++ (wMod G mb th cs2 ++ wC G a ar az ad ap ts cs2)) H → va_D A (wOut G w F ++ (wMod G mb th cs2 ++ wC G a ar az ad ap ts cs2)) → va_S A s.heap H locs → ∀ (ls : Array Slot), lv_has ls 9 [(0, .ref b), (1, .ref (a 0)), (2, .ref (mb 0)), (3, .ref w), (4, .int (iv ((7 * i : Nat) : Int)))] → okC cs2 → kd cs2 ≤ kd cs + 60 → W p l e room_1 s m #[Value.ref b] below meth c H locs (cells + 10) (slots + 250) Q (F0 m 1381 ls [])) : W p l e room_1 s m #[Value.ref b] below meth c H locs cells slots Q (F0 m 1189 ls []) := by
  obtain ⟨hx, hb, hml, hown, hts, hK, hT, hN, hA, hX, hbl, hbA, hL, hl0⟩ := hB
  refine lv_aload_n hx hb dL_law_1189 rfl (lv_at hl 1 rfl) ?_
  replace hP := wP_perm hP (pm2 _ _ _)
  replace hD := wD_perm hD (pm2 _ _ _)
  have hp : List.Perm (wC G a ar az ad ap ts cs ++ ([(w, .inl (G 5, 1, .inr (.inl (F))))] ++ wMod G mb th cs)) (wC G a ar az ad ap ts cs ++ ([(w, .inl (G 5, 1, .inr (.inl (F))))] ++ wMod G mb th cs)) := List.Perm.refl _
  refine k_int (g_V (As := []) (rest := []) (q0 := 0) (ci := 2) ⟨hx, hb, hml, hown, hts⟩ (c_X2_worst l D G a ar az ad ap ts cs hok) (cwV 0 hts gL_law_X2_worst rfl rfl rfl (by decide +kernel) ⟨Nat.le_of_ble_eq_true rfl, Nat.le_of_ble_eq_true rfl⟩) hK hP hD hp rfl rfl rfl rfl hl.1 rfl (Nat.le_of_ble_eq_true rfl) dL_law_1190 ⟨Nat.le_trans (by omega) hc1, Nat.le_trans (by omega) hc2⟩) hP hD hS hA hp (fun v u H locs hw hP hD hS => ?_)
  obtain ⟨rfl, rfl⟩ := hw
  replace hP := wP_perm hP (pm2 _ _ _).symm
  replace hD := wD_perm hD (pm2 _ _ _).symm
  have hP : va_P D vwCl (wOut G w F ++ (wMod G mb th cs ++ wC G a ar az ad ap ts cs)) H := hP
  have hD : va_D A (wOut G w F ++ (wMod G mb th cs ++ wC G a ar az ad ap ts cs)) := hD
  refine lv_aload_n hx hb dL_law_1193 rfl (lv_at hl 2 rfl) ?_
  replace hP := wP_perm hP (pm3 _ _ _)
  replace hD := wD_perm hD (pm3 _ _ _)
  have hp : List.Perm (wMod G mb th cs ++ ([(w, .inl (G 5, 1, .inr (.inl (F))))] ++ wC G a ar az ad ap ts cs)) (wMod G mb th cs ++ ([(w, .inl (G 5, 1, .inr (.inl (F))))] ++ wC G a ar az ad ap ts cs)) := List.Perm.refl _
  refine k_int (g_V (As := []) (rest := [.int (iv (opWorst cs))]) (q0 := 0) (ci := 3) ⟨hx, hb, hml, hown, hts⟩ (c_X3_worst l D G mb th cs hok  ) (cwV 0 hts gL_law_X3_worst rfl rfl rfl (by decide +kernel) ⟨Nat.le_of_ble_eq_true rfl, Nat.le_of_ble_eq_true rfl⟩) hK hP hD hp rfl rfl rfl rfl hl.1 rfl (Nat.le_of_ble_eq_true rfl) dL_law_1194 ⟨Nat.le_trans (by omega) hc1, Nat.le_trans (by omega) hc2⟩) hP hD hS hA hp (fun v u H locs hw hP hD hS => ?_)
  obtain ⟨rfl, rfl⟩ := hw
  replace hP : va_P D vwCl (wMod G mb 0 cs ++ ([(w, .inl (G 5, 1, .inr (.inl (F))))] ++ wC G a ar az ad ap ts cs)) H := hP
  replace hD : va_D A (wMod G mb 0 cs ++ ([(w, .inl (G 5, 1, .inr (.inl (F))))] ++ wC G a ar az ad ap ts cs)) := hD
  replace hP := wP_perm hP (pm3 _ _ _).symm
  replace hD := wD_perm hD (pm3 _ _ _).symm
  have hP : va_P D vwCl (wOut G w F ++ (wMod G mb 0 cs ++ wC G a ar az ad ap ts cs)) H := hP
  have hD : va_D A (wOut G w F ++ (wMod G mb 0 cs ++ wC G a ar az ad ap ts cs)) := hD
  refine lv_icmp_eq (tgt := 1381) hx hb dL_law_1197 (by decide) (fun _ => ?_) (fun h9 => absurd rfl h9)
  exact W.widen (by omega) (by omega) (kk 0 cs ad ap ts F _ _ hP hD hS _ (lv_sub hl [0, 1, 2, 3, 4] rfl) hok (by omega))
set_option maxHeartbeats 4000000 in
set_option maxRecDepth 100000 in
theorem k_law_foresee {p : Program} {l : Launch} {e : Env} {s : State} {m : MethodId} {below : List Frame} {meth : Method} {c : Code} {H : Heap} {locs : List Loc} {cells slots : Nat} {ls : Array Slot} {A : Nat → Prop} {Q : State → Prop} {D : va_G} {G : Nat → ClassId} {b L : Nat} {xs : Nat → Int32} (hB : LB p l s m meth c D G b L xs A) {a ar az mb : Nat → Nat} {ad ap : AD} {ts : DS} {cs : CS} {th : Int} {w : Nat} {F : Nat → Int64} {i : Nat} (hi : 7 * i + 7 ≤ L) (hok : okC cs) (hdl : kd cs ≤ 1000000) (hc1 : cells + 10 ≤ room_1.cells) (hc2 : slots + 250 ≤ room_1.slots) (hP : va_P D vwCl (wOut G w F ++ (wMod G mb th cs ++ wC G a ar az ad ap ts cs)) H) (hD : va_D A (wOut G w F ++ (wMod G mb th cs ++ wC G a ar az ad ap ts cs))) (hS : va_S A s.heap H locs) (hl : lv_has ls 9 [(0, .ref b), (1, .ref (a 0)), (2, .ref (mb 0)), (3, .ref w), (4, .int (iv ((7 * i : Nat) : Int)))])
  (kk : ∀ (th : Int) (cs2 : CS) (ad ap : AD) (ts : DS) (F : Nat → Int64) (H : Heap) (locs : List Loc), va_P D vwCl (wOut G w F ++ (wMod G mb th cs2 ++ wC G a ar az ad ap ts cs2)) H → va_D A (wOut G w F ++ (wMod G mb th cs2 ++ wC G a ar az ad ap ts cs2)) → va_S A s.heap H locs → ∀ (ls : Array Slot), lv_has ls 9 [(0, .ref b), (1, .ref (a 0)), (2, .ref (mb 0)), (3, .ref w), (4, .int (iv ((7 * i : Nat) : Int)))] → okC cs2 → kd cs2 ≤ kd cs + 60 → W p l e room_1 s m #[Value.ref b] below meth c H locs (cells + 10) (slots + 250) Q (F0 m 1381 ls [])) : W p l e room_1 s m #[Value.ref b] below meth c H locs cells slots Q (F0 m 1202 ls []) := by
  obtain ⟨hx, hb, hml, hown, hts, hK, hT, hN, hA, hX, hbl, hbA, hL, hl0⟩ := hB
  refine lv_aload_n hx hb dL_law_1202 rfl (lv_at hl 1 rfl) ?_
  refine lv_aload_n hx hb dL_law_1203 rfl (lv_at hl 0 rfl) ?_
  refine lv_iload hx hb dL_law_1204 (lv_at hl 4 rfl) ?_
  refine r_const hx hb dL_law_1206 ?_
  refine r_add hx hb dL_law_1207 ?_
  refine r_sld hx hb hX hbl hbA hS (7 * i + 1) (by omega) (by omega) hL dL_law_1208 ?_
  refine lv_aload_n hx hb dL_law_1209 rfl (lv_at hl 0 rfl) ?_
  refine lv_iload hx hb dL_law_1210 (lv_at hl 4 rfl) ?_
  refine r_const hx hb dL_law_1212 ?_
  refine r_add hx hb dL_law_1213 ?_
  refine r_sld hx hb hX hbl hbA hS (7 * i + 2) (by omega) (by omega) hL dL_law_1214 ?_
  refine lv_aload_n hx hb dL_law_1215 rfl (lv_at hl 3 rfl) ?_
  refine k_int (g_SH (As := [.ref (a 0), .int (iv ((xs (7 * i + 1)).toInt)), .int (iv ((xs (7 * i + 2)).toInt)), .ref w]) (rest := []) ⟨hx, hb, hml, hown, hts⟩ (c_L_foresee l D G hl0 a ar az ad ap ts cs hok hdl w F ((xs (7 * i + 1)).toInt) ((xs (7 * i + 2)).toInt) (xs_rng _) (xs_rng _)) (vx_cwSW 4 hts gL_law_L_foresee rfl rfl rfl (by decide +kernel) ⟨Nat.le_of_ble_eq_true rfl, Nat.le_of_ble_eq_true rfl⟩) hK hT hN hA hP hD hS (pm1 _ _ _) rfl hl.1 rfl (Nat.le_of_ble_eq_true rfl) dL_law_1216 ⟨Nat.le_trans (by omega) hc1, Nat.le_trans (by omega) hc2⟩) hP hD hS hA (pm1 _ _ _) (fun v u H locs hw hP hD hS => ?_)
  obtain ⟨rfl, ad2, ap2, ts2, F2, rfl, hF⟩ := hw
  have hP := wP_perm hP (pm1 _ _ _).symm
  have hD := wD_perm hD (pm1 _ _ _).symm
  have hP : va_P D vwCl (wOut G w F2 ++ (wMod G mb th cs ++ wC G a ar az ad2 ap2 ts2 ((opForesee cs ((xs (7 * i + 1)).toInt) ((xs (7 * i + 2)).toInt)).2.2))) H := hP
  have hD : va_D A (wOut G w F2 ++ (wMod G mb th cs ++ wC G a ar az ad2 ap2 ts2 ((opForesee cs ((xs (7 * i + 1)).toInt) ((xs (7 * i + 2)).toInt)).2.2))) := hD
  refine lv_istore (lv' := [(5, .int (iv ((opForesee cs ((xs (7 * i + 1)).toInt) ((xs (7 * i + 2)).toInt)).1))), (0, .ref b), (1, .ref (a 0)), (2, .ref (mb 0)), (3, .ref w), (4, .int (iv ((7 * i : Nat) : Int)))]) hx hb dL_law_1219 hl (by decide) rfl (fun ls hl => ?_)
  refine lv_aload_n hx hb dL_law_1221 rfl (lv_at hl 3 rfl) ?_
  refine lv_aload_n hx hb dL_law_1222 rfl (lv_at hl 1 rfl) ?_
  refine lv_iload hx hb dL_law_1223 (lv_at hl 5 rfl) ?_
  refine r_const hx hb dL_law_1225 ?_
  refine r_add hx hb dL_law_1226 ?_
  refine r_sld hx hb hX hbl hbA hS (7 * i + 1) (by omega) (by omega) hL dL_law_1227 ?_
  refine lv_aload_n hx hb dL_law_1228 rfl (lv_at hl 1 rfl) ?_
  refine lv_iload hx hb dL_law_1229 (lv_at hl 5 rfl) ?_
  refine r_const hx hb dL_law_1231 ?_
  refine r_add hx hb dL_law_1232 ?_
  refine r_sld hx hb hX hbl hbA hS (7 * i + 2) (by omega) (by omega) hL dL_law_1233 ?_
  replace hP := wP_perm hP (pm3 _ _ _)
  replace hD := wD_perm hD (pm3 _ _ _)
  have hp : List.Perm (wMod G mb th cs ++ ([(w, .inl (G 5, 1, .inr (.inl (F2))))] ++ wC G a ar az ad2 ap2 ts2 ((opForesee cs ((xs (7 * i + 1)).toInt) ((xs (7 * i + 2)).toInt)).2.2))) (wMod G mb th cs ++ ([(w, .inl (G 5, 1, .inr (.inl (F2))))] ++ wC G a ar az ad2 ap2 ts2 ((opForesee cs ((xs (7 * i + 1)).toInt) ((xs (7 * i + 2)).toInt)).2.2))) := List.Perm.refl _
  refine k_int (g_VT (As := [.int (iv ((xs (7 * i + 1)).toInt)), .int (iv ((xs (7 * i + 2)).toInt))]) (rest := []) (q0 := 0) (ci := 3) ⟨hx, hb, hml, hown, hts⟩ (c_X3_foresee l D G mb th cs hok hdl ((xs (7 * i + 1)).toInt) ((xs (7 * i + 2)).toInt) (xs_rng _) (xs_rng _)) (cwV 2 hts gL_law_X3_foresee rfl rfl rfl (by decide +kernel) ⟨Nat.le_of_ble_eq_true rfl, Nat.le_of_ble_eq_true rfl⟩) hK hT hA hP hD hS hp rfl rfl rfl rfl hl.1 rfl (Nat.le_of_ble_eq_true rfl) dL_law_1234 ⟨Nat.le_trans (by omega) hc1, Nat.le_trans (by omega) hc2⟩) hP hD hS hA hp (fun v u H locs hw hP hD hS => ?_)
  obtain ⟨rfl, rfl⟩ := hw
  replace hP : va_P D vwCl (wMod G mb ((opForesee cs ((xs (7 * i + 1)).toInt) ((xs (7 * i + 2)).toInt)).1) ((opForesee cs ((xs (7 * i + 1)).toInt) ((xs (7 * i + 2)).toInt)).2.2) ++ ([(w, .inl (G 5, 1, .inr (.inl (F2))))] ++ wC G a ar az ad2 ap2 ts2 ((opForesee cs ((xs (7 * i + 1)).toInt) ((xs (7 * i + 2)).toInt)).2.2))) H := hP
  replace hD : va_D A (wMod G mb ((opForesee cs ((xs (7 * i + 1)).toInt) ((xs (7 * i + 2)).toInt)).1) ((opForesee cs ((xs (7 * i + 1)).toInt) ((xs (7 * i + 2)).toInt)).2.2) ++ ([(w, .inl (G 5, 1, .inr (.inl (F2))))] ++ wC G a ar az ad2 ap2 ts2 ((opForesee cs ((xs (7 * i + 1)).toInt) ((xs (7 * i + 2)).toInt)).2.2))) := hD
  replace hP := wP_perm hP (pm3 _ _ _).symm
  replace hD := wD_perm hD (pm3 _ _ _).symm
  have hP : va_P D vwCl (wOut G w F2 ++ (wMod G mb ((opForesee cs ((xs (7 * i + 1)).toInt) ((xs (7 * i + 2)).toInt)).1) ((opForesee cs ((xs (7 * i + 1)).toInt) ((xs (7 * i + 2)).toInt)).2.2) ++ wC G a ar az ad2 ap2 ts2 ((opForesee cs ((xs (7 * i + 1)).toInt) ((xs (7 * i + 2)).toInt)).2.2))) H := hP
  have hD : va_D A (wOut G w F2 ++ (wMod G mb ((opForesee cs ((xs (7 * i + 1)).toInt) ((xs (7 * i + 2)).toInt)).1) ((opForesee cs ((xs (7 * i + 1)).toInt) ((xs (7 * i + 2)).toInt)).2.2) ++ wC G a ar az ad2 ap2 ts2 ((opForesee cs ((xs (7 * i + 1)).toInt) ((xs (7 * i + 2)).toInt)).2.2))) := hD
  refine lv_istore (lv' := [(6, .int (iv ((opForesee cs ((xs (7 * i + 1)).toInt) ((xs (7 * i + 2)).toInt)).2.1))), (5, .int (iv ((opForesee cs ((xs (7 * i + 1)).toInt) ((xs (7 * i + 2)).toInt)).1))), (0, .ref b), (1, .ref (a 0)), (2, .ref (mb 0)), (3, .ref w), (4, .int (iv ((7 * i : Nat) : Int)))]) hx hb dL_law_1237 hl (by decide) rfl (fun ls hl => ?_)
  refine lv_aload_n hx hb dL_law_1239 rfl (lv_at hl 4 rfl) ?_
  replace hP := wP_perm hP (pm3 _ _ _)
  replace hD := wD_perm hD (pm3 _ _ _)
  have hp : List.Perm (wMod G mb ((opForesee cs ((xs (7 * i + 1)).toInt) ((xs (7 * i + 2)).toInt)).1) ((opForesee cs ((xs (7 * i + 1)).toInt) ((xs (7 * i + 2)).toInt)).2.2) ++ ([(w, .inl (G 5, 1, .inr (.inl (F2))))] ++ wC G a ar az ad2 ap2 ts2 ((opForesee cs ((xs (7 * i + 1)).toInt) ((xs (7 * i + 2)).toInt)).2.2))) ([wM0 mb ((opForesee cs ((xs (7 * i + 1)).toInt) ((xs (7 * i + 2)).toInt)).1) (kn ((opForesee cs ((xs (7 * i + 1)).toInt) ((xs (7 * i + 2)).toInt)).2.2) : Int) (kp ((opForesee cs ((xs (7 * i + 1)).toInt) ((xs (7 * i + 2)).toInt)).2.2) : Int) (km ((opForesee cs ((xs (7 * i + 1)).toInt) ((xs (7 * i + 2)).toInt)).2.2))] ++ ((wMod G mb ((opForesee cs ((xs (7 * i + 1)).toInt) ((xs (7 * i + 2)).toInt)).1) ((opForesee cs ((xs (7 * i + 1)).toInt) ((xs (7 * i + 2)).toInt)).2.2)).tail ++ ([(w, .inl (G 5, 1, .inr (.inl (F2))))] ++ wC G a ar az ad2 ap2 ts2 ((opForesee cs ((xs (7 * i + 1)).toInt) ((xs (7 * i + 2)).toInt)).2.2)))) := List.Perm.refl _
  refine k_int (g_V (As := []) (rest := []) (q0 := 0) (ci := 3) ⟨hx, hb, hml, hown, hts⟩ (c_X3_thrown l D G mb ((opForesee cs ((xs (7 * i + 1)).toInt) ((xs (7 * i + 2)).toInt)).1) (kn ((opForesee cs ((xs (7 * i + 1)).toInt) ((xs (7 * i + 2)).toInt)).2.2) : Int) (kp ((opForesee cs ((xs (7 * i + 1)).toInt) ((xs (7 * i + 2)).toInt)).2.2) : Int) (km ((opForesee cs ((xs (7 * i + 1)).toInt) ((xs (7 * i + 2)).toInt)).2.2))) (cwV 0 hts gL_law_X3_thrown rfl rfl rfl (by decide +kernel) ⟨Nat.le_of_ble_eq_true rfl, Nat.le_of_ble_eq_true rfl⟩) hK hP hD hp rfl rfl rfl rfl hl.1 rfl (Nat.le_of_ble_eq_true rfl) dL_law_1240 ⟨Nat.le_trans (by omega) hc1, Nat.le_trans (by omega) hc2⟩) hP hD hS hA hp (fun v u H locs hw hP hD hS => ?_)
  obtain ⟨rfl, rfl⟩ := hw
  replace hP : va_P D vwCl (wMod G mb ((opForesee cs ((xs (7 * i + 1)).toInt) ((xs (7 * i + 2)).toInt)).1) ((opForesee cs ((xs (7 * i + 1)).toInt) ((xs (7 * i + 2)).toInt)).2.2) ++ ([(w, .inl (G 5, 1, .inr (.inl (F2))))] ++ wC G a ar az ad2 ap2 ts2 ((opForesee cs ((xs (7 * i + 1)).toInt) ((xs (7 * i + 2)).toInt)).2.2))) H := hP
  replace hD : va_D A (wMod G mb ((opForesee cs ((xs (7 * i + 1)).toInt) ((xs (7 * i + 2)).toInt)).1) ((opForesee cs ((xs (7 * i + 1)).toInt) ((xs (7 * i + 2)).toInt)).2.2) ++ ([(w, .inl (G 5, 1, .inr (.inl (F2))))] ++ wC G a ar az ad2 ap2 ts2 ((opForesee cs ((xs (7 * i + 1)).toInt) ((xs (7 * i + 2)).toInt)).2.2))) := hD
  replace hP := wP_perm hP (pm3 _ _ _).symm
  replace hD := wD_perm hD (pm3 _ _ _).symm
  have hP : va_P D vwCl (wOut G w F2 ++ (wMod G mb ((opForesee cs ((xs (7 * i + 1)).toInt) ((xs (7 * i + 2)).toInt)).1) ((opForesee cs ((xs (7 * i + 1)).toInt) ((xs (7 * i + 2)).toInt)).2.2) ++ wC G a ar az ad2 ap2 ts2 ((opForesee cs ((xs (7 * i + 1)).toInt) ((xs (7 * i + 2)).toInt)).2.2))) H := hP
  have hD : va_D A (wOut G w F2 ++ (wMod G mb ((opForesee cs ((xs (7 * i + 1)).toInt) ((xs (7 * i + 2)).toInt)).1) ((opForesee cs ((xs (7 * i + 1)).toInt) ((xs (7 * i + 2)).toInt)).2.2) ++ wC G a ar az ad2 ap2 ts2 ((opForesee cs ((xs (7 * i + 1)).toInt) ((xs (7 * i + 2)).toInt)).2.2))) := hD
  refine lv_iload hx hb dL_law_1243 (lv_at hl 1 rfl) ?_
  refine lv_icmp_eq (tgt := 1250) hx hb dL_law_1245 (by decide) (fun _ => ?_) (fun h9 => absurd rfl h9)
  refine lv_iload hx hb dL_law_1250 (lv_at hl 1 rfl) ?_
  refine lv_if_ne (tgt := 1267) hx hb dL_law_1252 (by decide) (fun c_1252 => ?_) (fun c_1252 => ?_)
  · skip
    refine r_goto hx hb 1381 dL_law_1267 (by decide) ?_
    exact W.widen (by omega) (by omega) (kk ((opForesee cs ((xs (7 * i + 1)).toInt) ((xs (7 * i + 2)).toInt)).1) ((opForesee cs ((xs (7 * i + 1)).toInt) ((xs (7 * i + 2)).toInt)).2.2) ad2 ap2 ts2 F2 _ _ hP hD hS _ (lv_sub hl [2, 3, 4, 5, 6] rfl) (g_foresee hok _ _).1 (g_foresee hok _ _).2)
  · have hF0 := hF c_1252
    refine lv_aload_n hx hb dL_law_1255 rfl (lv_at hl 5 rfl) ?_
    refine r_const hx hb dL_law_1256 ?_
    refine r_lald0 (F := F2) hx hb hK hP 0 rfl dL_law_1257 ?_
    refine lv_iload hx hb dL_law_1258 (lv_at hl 0 rfl) ?_
    refine lv_i2l (v := ((iv ((opForesee cs ((xs (7 * i + 1)).toInt) ((xs (7 * i + 2)).toInt)).2.1))).toInt64) hx hb dL_law_1260 rfl ?_
    rw [hF0]
    refine r_lcmp_eq hx hb dL_law_1261 ?_
    refine lv_if_eq (tgt := 1267) hx hb dL_law_1262 (by decide) (fun _ => ?_) (fun h9 => absurd rfl h9)
    refine r_goto hx hb 1381 dL_law_1267 (by decide) ?_
    exact W.widen (by omega) (by omega) (kk ((opForesee cs ((xs (7 * i + 1)).toInt) ((xs (7 * i + 2)).toInt)).1) ((opForesee cs ((xs (7 * i + 1)).toInt) ((xs (7 * i + 2)).toInt)).2.2) ad2 ap2 ts2 F2 _ _ hP hD hS _ (lv_sub hl [2, 3, 4, 5, 6] rfl) (g_foresee hok _ _).1 (g_foresee hok _ _).2)
set_option maxHeartbeats 4000000 in
set_option maxRecDepth 100000 in
theorem k_law_pass {p : Program} {l : Launch} {e : Env} {s : State} {m : MethodId} {below : List Frame} {meth : Method} {c : Code} {H : Heap} {locs : List Loc} {cells slots : Nat} {ls : Array Slot} {A : Nat → Prop} {Q : State → Prop} {D : va_G} {G : Nat → ClassId} {b L : Nat} {xs : Nat → Int32} (hB : LB p l s m meth c D G b L xs A) {a ar az mb : Nat → Nat} {ad ap : AD} {ts : DS} {cs : CS} {th : Int} {w : Nat} {F : Nat → Int64} {i : Nat} (hi : 7 * i + 7 ≤ L) (hok : okC cs) (hdl : kd cs ≤ 1000000) (hc1 : cells + 10 ≤ room_1.cells) (hc2 : slots + 250 ≤ room_1.slots) (hP : va_P D vwCl (wOut G w F ++ (wMod G mb th cs ++ wC G a ar az ad ap ts cs)) H) (hD : va_D A (wOut G w F ++ (wMod G mb th cs ++ wC G a ar az ad ap ts cs))) (hS : va_S A s.heap H locs) (hl : lv_has ls 9 [(0, .ref b), (1, .ref (a 0)), (2, .ref (mb 0)), (3, .ref w), (4, .int (iv ((7 * i : Nat) : Int)))])
  (kk : ∀ (th : Int) (cs2 : CS) (ad ap : AD) (ts : DS) (F : Nat → Int64) (H : Heap) (locs : List Loc), va_P D vwCl (wOut G w F ++ (wMod G mb th cs2 ++ wC G a ar az ad ap ts cs2)) H → va_D A (wOut G w F ++ (wMod G mb th cs2 ++ wC G a ar az ad ap ts cs2)) → va_S A s.heap H locs → ∀ (ls : Array Slot), lv_has ls 9 [(0, .ref b), (1, .ref (a 0)), (2, .ref (mb 0)), (3, .ref w), (4, .int (iv ((7 * i : Nat) : Int)))] → okC cs2 → kd cs2 ≤ kd cs + 60 → W p l e room_1 s m #[Value.ref b] below meth c H locs (cells + 10) (slots + 250) Q (F0 m 1381 ls [])) : W p l e room_1 s m #[Value.ref b] below meth c H locs cells slots Q (F0 m 1270 ls []) := by
  obtain ⟨hx, hb, hml, hown, hts, hK, hT, hN, hA, hX, hbl, hbA, hL, hl0⟩ := hB
  refine lv_aload_n hx hb dL_law_1270 rfl (lv_at hl 1 rfl) ?_
  refine lv_aload_n hx hb dL_law_1271 rfl (lv_at hl 0 rfl) ?_
  refine lv_iload hx hb dL_law_1272 (lv_at hl 4 rfl) ?_
  refine r_const hx hb dL_law_1274 ?_
  refine r_add hx hb dL_law_1275 ?_
  refine r_sld hx hb hX hbl hbA hS (7 * i + 1) (by omega) (by omega) hL dL_law_1276 ?_
  refine lv_aload_n hx hb dL_law_1277 rfl (lv_at hl 3 rfl) ?_
  refine k_int (g_SH (As := [.ref (a 0), .int (iv ((xs (7 * i + 1)).toInt)), .ref w]) (rest := []) ⟨hx, hb, hml, hown, hts⟩ (c_L_pass l D G hl0 a ar az ad ap ts cs hok hdl w F ((xs (7 * i + 1)).toInt) (xs_rng _)) (vx_cwSW 3 hts gL_law_L_pass rfl rfl rfl (by decide +kernel) ⟨Nat.le_of_ble_eq_true rfl, Nat.le_of_ble_eq_true rfl⟩) hK hT hN hA hP hD hS (pm1 _ _ _) rfl hl.1 rfl (Nat.le_of_ble_eq_true rfl) dL_law_1278 ⟨Nat.le_trans (by omega) hc1, Nat.le_trans (by omega) hc2⟩) hP hD hS hA (pm1 _ _ _) (fun v u H locs hw hP hD hS => ?_)
  obtain ⟨rfl, ad2, ap2, ts2, F2, rfl, hF⟩ := hw
  have hP := wP_perm hP (pm1 _ _ _).symm
  have hD := wD_perm hD (pm1 _ _ _).symm
  have hP : va_P D vwCl (wOut G w F2 ++ (wMod G mb th cs ++ wC G a ar az ad2 ap2 ts2 ((opPass cs ((xs (7 * i + 1)).toInt)).2.2))) H := hP
  have hD : va_D A (wOut G w F2 ++ (wMod G mb th cs ++ wC G a ar az ad2 ap2 ts2 ((opPass cs ((xs (7 * i + 1)).toInt)).2.2))) := hD
  refine lv_istore (lv' := [(5, .int (iv ((opPass cs ((xs (7 * i + 1)).toInt)).1))), (0, .ref b), (1, .ref (a 0)), (2, .ref (mb 0)), (3, .ref w), (4, .int (iv ((7 * i : Nat) : Int)))]) hx hb dL_law_1281 hl (by decide) rfl (fun ls hl => ?_)
  refine lv_aload_n hx hb dL_law_1283 rfl (lv_at hl 3 rfl) ?_
  refine lv_aload_n hx hb dL_law_1284 rfl (lv_at hl 1 rfl) ?_
  refine lv_iload hx hb dL_law_1285 (lv_at hl 5 rfl) ?_
  refine r_const hx hb dL_law_1287 ?_
  refine r_add hx hb dL_law_1288 ?_
  refine r_sld hx hb hX hbl hbA hS (7 * i + 1) (by omega) (by omega) hL dL_law_1289 ?_
  replace hP := wP_perm hP (pm3 _ _ _)
  replace hD := wD_perm hD (pm3 _ _ _)
  have hp : List.Perm (wMod G mb th cs ++ ([(w, .inl (G 5, 1, .inr (.inl (F2))))] ++ wC G a ar az ad2 ap2 ts2 ((opPass cs ((xs (7 * i + 1)).toInt)).2.2))) (wMod G mb th cs ++ ([(w, .inl (G 5, 1, .inr (.inl (F2))))] ++ wC G a ar az ad2 ap2 ts2 ((opPass cs ((xs (7 * i + 1)).toInt)).2.2))) := List.Perm.refl _
  refine k_int (g_V (As := [.int (iv ((xs (7 * i + 1)).toInt))]) (rest := []) (q0 := 0) (ci := 3) ⟨hx, hb, hml, hown, hts⟩ (c_X3_pass l D G mb th cs hok hdl ((xs (7 * i + 1)).toInt) (xs_rng _)) (cwV 1 hts gL_law_X3_pass rfl rfl rfl (by decide +kernel) ⟨Nat.le_of_ble_eq_true rfl, Nat.le_of_ble_eq_true rfl⟩) hK hP hD hp rfl rfl rfl rfl hl.1 rfl (Nat.le_of_ble_eq_true rfl) dL_law_1290 ⟨Nat.le_trans (by omega) hc1, Nat.le_trans (by omega) hc2⟩) hP hD hS hA hp (fun v u H locs hw hP hD hS => ?_)
  obtain ⟨rfl, rfl⟩ := hw
  replace hP : va_P D vwCl (wMod G mb ((opPass cs ((xs (7 * i + 1)).toInt)).1) ((opPass cs ((xs (7 * i + 1)).toInt)).2.2) ++ ([(w, .inl (G 5, 1, .inr (.inl (F2))))] ++ wC G a ar az ad2 ap2 ts2 ((opPass cs ((xs (7 * i + 1)).toInt)).2.2))) H := hP
  replace hD : va_D A (wMod G mb ((opPass cs ((xs (7 * i + 1)).toInt)).1) ((opPass cs ((xs (7 * i + 1)).toInt)).2.2) ++ ([(w, .inl (G 5, 1, .inr (.inl (F2))))] ++ wC G a ar az ad2 ap2 ts2 ((opPass cs ((xs (7 * i + 1)).toInt)).2.2))) := hD
  replace hP := wP_perm hP (pm3 _ _ _).symm
  replace hD := wD_perm hD (pm3 _ _ _).symm
  have hP : va_P D vwCl (wOut G w F2 ++ (wMod G mb ((opPass cs ((xs (7 * i + 1)).toInt)).1) ((opPass cs ((xs (7 * i + 1)).toInt)).2.2) ++ wC G a ar az ad2 ap2 ts2 ((opPass cs ((xs (7 * i + 1)).toInt)).2.2))) H := hP
  have hD : va_D A (wOut G w F2 ++ (wMod G mb ((opPass cs ((xs (7 * i + 1)).toInt)).1) ((opPass cs ((xs (7 * i + 1)).toInt)).2.2) ++ wC G a ar az ad2 ap2 ts2 ((opPass cs ((xs (7 * i + 1)).toInt)).2.2))) := hD
  refine lv_istore (lv' := [(6, .int (iv ((opPass cs ((xs (7 * i + 1)).toInt)).2.1))), (5, .int (iv ((opPass cs ((xs (7 * i + 1)).toInt)).1))), (0, .ref b), (1, .ref (a 0)), (2, .ref (mb 0)), (3, .ref w), (4, .int (iv ((7 * i : Nat) : Int)))]) hx hb dL_law_1293 hl (by decide) rfl (fun ls hl => ?_)
  refine lv_aload_n hx hb dL_law_1295 rfl (lv_at hl 4 rfl) ?_
  replace hP := wP_perm hP (pm3 _ _ _)
  replace hD := wD_perm hD (pm3 _ _ _)
  have hp : List.Perm (wMod G mb ((opPass cs ((xs (7 * i + 1)).toInt)).1) ((opPass cs ((xs (7 * i + 1)).toInt)).2.2) ++ ([(w, .inl (G 5, 1, .inr (.inl (F2))))] ++ wC G a ar az ad2 ap2 ts2 ((opPass cs ((xs (7 * i + 1)).toInt)).2.2))) ([wM0 mb ((opPass cs ((xs (7 * i + 1)).toInt)).1) (kn ((opPass cs ((xs (7 * i + 1)).toInt)).2.2) : Int) (kp ((opPass cs ((xs (7 * i + 1)).toInt)).2.2) : Int) (km ((opPass cs ((xs (7 * i + 1)).toInt)).2.2))] ++ ((wMod G mb ((opPass cs ((xs (7 * i + 1)).toInt)).1) ((opPass cs ((xs (7 * i + 1)).toInt)).2.2)).tail ++ ([(w, .inl (G 5, 1, .inr (.inl (F2))))] ++ wC G a ar az ad2 ap2 ts2 ((opPass cs ((xs (7 * i + 1)).toInt)).2.2)))) := List.Perm.refl _
  refine k_int (g_V (As := []) (rest := []) (q0 := 0) (ci := 3) ⟨hx, hb, hml, hown, hts⟩ (c_X3_thrown l D G mb ((opPass cs ((xs (7 * i + 1)).toInt)).1) (kn ((opPass cs ((xs (7 * i + 1)).toInt)).2.2) : Int) (kp ((opPass cs ((xs (7 * i + 1)).toInt)).2.2) : Int) (km ((opPass cs ((xs (7 * i + 1)).toInt)).2.2))) (cwV 0 hts gL_law_X3_thrown rfl rfl rfl (by decide +kernel) ⟨Nat.le_of_ble_eq_true rfl, Nat.le_of_ble_eq_true rfl⟩) hK hP hD hp rfl rfl rfl rfl hl.1 rfl (Nat.le_of_ble_eq_true rfl) dL_law_1296 ⟨Nat.le_trans (by omega) hc1, Nat.le_trans (by omega) hc2⟩) hP hD hS hA hp (fun v u H locs hw hP hD hS => ?_)
  obtain ⟨rfl, rfl⟩ := hw
  replace hP : va_P D vwCl (wMod G mb ((opPass cs ((xs (7 * i + 1)).toInt)).1) ((opPass cs ((xs (7 * i + 1)).toInt)).2.2) ++ ([(w, .inl (G 5, 1, .inr (.inl (F2))))] ++ wC G a ar az ad2 ap2 ts2 ((opPass cs ((xs (7 * i + 1)).toInt)).2.2))) H := hP
  replace hD : va_D A (wMod G mb ((opPass cs ((xs (7 * i + 1)).toInt)).1) ((opPass cs ((xs (7 * i + 1)).toInt)).2.2) ++ ([(w, .inl (G 5, 1, .inr (.inl (F2))))] ++ wC G a ar az ad2 ap2 ts2 ((opPass cs ((xs (7 * i + 1)).toInt)).2.2))) := hD
  replace hP := wP_perm hP (pm3 _ _ _).symm
  replace hD := wD_perm hD (pm3 _ _ _).symm
  have hP : va_P D vwCl (wOut G w F2 ++ (wMod G mb ((opPass cs ((xs (7 * i + 1)).toInt)).1) ((opPass cs ((xs (7 * i + 1)).toInt)).2.2) ++ wC G a ar az ad2 ap2 ts2 ((opPass cs ((xs (7 * i + 1)).toInt)).2.2))) H := hP
  have hD : va_D A (wOut G w F2 ++ (wMod G mb ((opPass cs ((xs (7 * i + 1)).toInt)).1) ((opPass cs ((xs (7 * i + 1)).toInt)).2.2) ++ wC G a ar az ad2 ap2 ts2 ((opPass cs ((xs (7 * i + 1)).toInt)).2.2))) := hD
  refine lv_iload hx hb dL_law_1299 (lv_at hl 1 rfl) ?_
  refine lv_icmp_eq (tgt := 1306) hx hb dL_law_1301 (by decide) (fun _ => ?_) (fun h9 => absurd rfl h9)
  refine lv_iload hx hb dL_law_1306 (lv_at hl 1 rfl) ?_
  refine lv_if_ne (tgt := 1323) hx hb dL_law_1308 (by decide) (fun c_1308 => ?_) (fun c_1308 => ?_)
  · skip
    refine r_goto hx hb 1381 dL_law_1323 (by decide) ?_
    exact W.widen (by omega) (by omega) (kk ((opPass cs ((xs (7 * i + 1)).toInt)).1) ((opPass cs ((xs (7 * i + 1)).toInt)).2.2) ad2 ap2 ts2 F2 _ _ hP hD hS _ (lv_sub hl [2, 3, 4, 5, 6] rfl) (g_pass hok hdl _).1 (g_pass hok hdl _).2)
  · have hF0 := hF c_1308
    refine lv_aload_n hx hb dL_law_1311 rfl (lv_at hl 5 rfl) ?_
    refine r_const hx hb dL_law_1312 ?_
    refine r_lald0 (F := F2) hx hb hK hP 0 rfl dL_law_1313 ?_
    refine lv_iload hx hb dL_law_1314 (lv_at hl 0 rfl) ?_
    refine lv_i2l (v := ((iv ((opPass cs ((xs (7 * i + 1)).toInt)).2.1))).toInt64) hx hb dL_law_1316 rfl ?_
    rw [hF0]
    refine r_lcmp_eq hx hb dL_law_1317 ?_
    refine lv_if_eq (tgt := 1323) hx hb dL_law_1318 (by decide) (fun _ => ?_) (fun h9 => absurd rfl h9)
    refine r_goto hx hb 1381 dL_law_1323 (by decide) ?_
    exact W.widen (by omega) (by omega) (kk ((opPass cs ((xs (7 * i + 1)).toInt)).1) ((opPass cs ((xs (7 * i + 1)).toInt)).2.2) ad2 ap2 ts2 F2 _ _ hP hD hS _ (lv_sub hl [2, 3, 4, 5, 6] rfl) (g_pass hok hdl _).1 (g_pass hok hdl _).2)
set_option maxHeartbeats 4000000 in
set_option maxRecDepth 100000 in
theorem k_law_mean {p : Program} {l : Launch} {e : Env} {s : State} {m : MethodId} {below : List Frame} {meth : Method} {c : Code} {H : Heap} {locs : List Loc} {cells slots : Nat} {ls : Array Slot} {A : Nat → Prop} {Q : State → Prop} {D : va_G} {G : Nat → ClassId} {b L : Nat} {xs : Nat → Int32} (hB : LB p l s m meth c D G b L xs A) {a ar az mb : Nat → Nat} {ad ap : AD} {ts : DS} {cs : CS} {th : Int} {w : Nat} {F : Nat → Int64} {i : Nat} (hi : 7 * i + 7 ≤ L) (hok : okC cs) (hdl : kd cs ≤ 1000000) (hc1 : cells + 10 ≤ room_1.cells) (hc2 : slots + 250 ≤ room_1.slots) (hP : va_P D vwCl (wOut G w F ++ (wMod G mb th cs ++ wC G a ar az ad ap ts cs)) H) (hD : va_D A (wOut G w F ++ (wMod G mb th cs ++ wC G a ar az ad ap ts cs))) (hS : va_S A s.heap H locs) (hl : lv_has ls 9 [(0, .ref b), (1, .ref (a 0)), (2, .ref (mb 0)), (3, .ref w), (4, .int (iv ((7 * i : Nat) : Int)))])
  (kk : ∀ (th : Int) (cs2 : CS) (ad ap : AD) (ts : DS) (F : Nat → Int64) (H : Heap) (locs : List Loc), va_P D vwCl (wOut G w F ++ (wMod G mb th cs2 ++ wC G a ar az ad ap ts cs2)) H → va_D A (wOut G w F ++ (wMod G mb th cs2 ++ wC G a ar az ad ap ts cs2)) → va_S A s.heap H locs → ∀ (ls : Array Slot), lv_has ls 9 [(0, .ref b), (1, .ref (a 0)), (2, .ref (mb 0)), (3, .ref w), (4, .int (iv ((7 * i : Nat) : Int)))] → okC cs2 → kd cs2 ≤ kd cs + 60 → W p l e room_1 s m #[Value.ref b] below meth c H locs (cells + 10) (slots + 250) Q (F0 m 1381 ls [])) : W p l e room_1 s m #[Value.ref b] below meth c H locs cells slots Q (F0 m 1326 ls []) := by
  obtain ⟨hx, hb, hml, hown, hts, hK, hT, hN, hA, hX, hbl, hbA, hL, hl0⟩ := hB
  refine lv_aload_n hx hb dL_law_1326 rfl (lv_at hl 1 rfl) ?_
  replace hP := wP_perm hP (pm2 _ _ _)
  replace hD := wD_perm hD (pm2 _ _ _)
  have hp : List.Perm (wC G a ar az ad ap ts cs ++ ([(w, .inl (G 5, 1, .inr (.inl (F))))] ++ wMod G mb th cs)) (wC G a ar az ad ap ts cs ++ ([(w, .inl (G 5, 1, .inr (.inl (F))))] ++ wMod G mb th cs)) := List.Perm.refl _
  refine k_dbl (g_V (As := []) (rest := []) (q0 := 0) (ci := 2) ⟨hx, hb, hml, hown, hts⟩ (c_X2_mean l D G a ar az ad ap ts cs hok) (cwV 0 hts gL_law_X2_mean rfl rfl rfl (by decide +kernel) ⟨Nat.le_of_ble_eq_true rfl, Nat.le_of_ble_eq_true rfl⟩) hK hP hD hp rfl rfl rfl rfl hl.1 rfl (Nat.le_of_ble_eq_true rfl) dL_law_1327 ⟨Nat.le_trans (by omega) hc1, Nat.le_trans (by omega) hc2⟩) hP hD hS hA hp (fun v u H locs hw hP hD hS => ?_)
  obtain ⟨rfl, rfl⟩ := hw
  replace hP := wP_perm hP (pm2 _ _ _).symm
  replace hD := wD_perm hD (pm2 _ _ _).symm
  have hP : va_P D vwCl (wOut G w F ++ (wMod G mb th cs ++ wC G a ar az ad ap ts cs)) H := hP
  have hD : va_D A (wOut G w F ++ (wMod G mb th cs ++ wC G a ar az ad ap ts cs)) := hD
  refine lv_dstore (lv' := [(5, .double (meanV cs)), (0, .ref b), (1, .ref (a 0)), (2, .ref (mb 0)), (3, .ref w), (4, .int (iv ((7 * i : Nat) : Int)))]) hx hb dL_law_1330 hl (by decide) rfl (fun ls hl => ?_)
  refine lv_aload_n hx hb dL_law_1332 rfl (lv_at hl 3 rfl) ?_
  replace hP := wP_perm hP (pm3 _ _ _)
  replace hD := wD_perm hD (pm3 _ _ _)
  have hp : List.Perm (wMod G mb th cs ++ ([(w, .inl (G 5, 1, .inr (.inl (F))))] ++ wC G a ar az ad ap ts cs)) (wMod G mb th cs ++ ([(w, .inl (G 5, 1, .inr (.inl (F))))] ++ wC G a ar az ad ap ts cs)) := List.Perm.refl _
  refine k_dbl (g_V (As := []) (rest := []) (q0 := 0) (ci := 3) ⟨hx, hb, hml, hown, hts⟩ (c_X3_mean l D G mb th cs hok  ) (cwV 0 hts gL_law_X3_mean rfl rfl rfl (by decide +kernel) ⟨Nat.le_of_ble_eq_true rfl, Nat.le_of_ble_eq_true rfl⟩) hK hP hD hp rfl rfl rfl rfl hl.1 rfl (Nat.le_of_ble_eq_true rfl) dL_law_1333 ⟨Nat.le_trans (by omega) hc1, Nat.le_trans (by omega) hc2⟩) hP hD hS hA hp (fun v u H locs hw hP hD hS => ?_)
  obtain ⟨rfl, rfl⟩ := hw
  replace hP : va_P D vwCl (wMod G mb 0 cs ++ ([(w, .inl (G 5, 1, .inr (.inl (F))))] ++ wC G a ar az ad ap ts cs)) H := hP
  replace hD : va_D A (wMod G mb 0 cs ++ ([(w, .inl (G 5, 1, .inr (.inl (F))))] ++ wC G a ar az ad ap ts cs)) := hD
  replace hP := wP_perm hP (pm3 _ _ _).symm
  replace hD := wD_perm hD (pm3 _ _ _).symm
  have hP : va_P D vwCl (wOut G w F ++ (wMod G mb 0 cs ++ wC G a ar az ad ap ts cs)) H := hP
  have hD : va_D A (wOut G w F ++ (wMod G mb 0 cs ++ wC G a ar az ad ap ts cs)) := hD
  refine lv_dstore (lv' := [(7, .double (meanV cs)), (5, .double (meanV cs)), (0, .ref b), (1, .ref (a 0)), (2, .ref (mb 0)), (3, .ref w), (4, .int (iv ((7 * i : Nat) : Int)))]) hx hb dL_law_1336 hl (by decide) rfl (fun ls hl => ?_)
  refine lv_dload hx hb dL_law_1338 (lv_at hl 1 rfl) ?_
  refine lv_dload hx hb dL_law_1340 (lv_at hl 0 rfl) ?_
  refine lv_dcmp hx hb dL_law_1342 ?_
  rw [show Op.cmpValue (FP.dcmp (meanV cs) (meanV cs)) .l = 0 by rw [mean_eq hok]; rfl]
  refine lv_if_eq (tgt := 1364) hx hb dL_law_1343 (by decide) (fun _ => ?_) (fun h9 => absurd rfl h9)
  refine r_goto hx hb 1381 dL_law_1364 (by decide) ?_
  exact W.widen (by omega) (by omega) (kk 0 cs ad ap ts F _ _ hP hD hS _ (lv_sub hl [2, 3, 4, 5, 6] rfl) hok (by omega))
set_option maxHeartbeats 4000000 in
set_option maxRecDepth 100000 in
theorem k_law_digest {p : Program} {l : Launch} {e : Env} {s : State} {m : MethodId} {below : List Frame} {meth : Method} {c : Code} {H : Heap} {locs : List Loc} {cells slots : Nat} {ls : Array Slot} {A : Nat → Prop} {Q : State → Prop} {D : va_G} {G : Nat → ClassId} {b L : Nat} {xs : Nat → Int32} (hB : LB p l s m meth c D G b L xs A) {a ar az mb : Nat → Nat} {ad ap : AD} {ts : DS} {cs : CS} {th : Int} {w : Nat} {F : Nat → Int64} {i : Nat} (hi : 7 * i + 7 ≤ L) (hok : okC cs) (hdl : kd cs ≤ 1000000) (hc1 : cells + 10 ≤ room_1.cells) (hc2 : slots + 250 ≤ room_1.slots) (hP : va_P D vwCl (wOut G w F ++ (wMod G mb th cs ++ wC G a ar az ad ap ts cs)) H) (hD : va_D A (wOut G w F ++ (wMod G mb th cs ++ wC G a ar az ad ap ts cs))) (hS : va_S A s.heap H locs) (hl : lv_has ls 9 [(0, .ref b), (1, .ref (a 0)), (2, .ref (mb 0)), (3, .ref w), (4, .int (iv ((7 * i : Nat) : Int)))])
  (kk : ∀ (th : Int) (cs2 : CS) (ad ap : AD) (ts : DS) (F : Nat → Int64) (H : Heap) (locs : List Loc), va_P D vwCl (wOut G w F ++ (wMod G mb th cs2 ++ wC G a ar az ad ap ts cs2)) H → va_D A (wOut G w F ++ (wMod G mb th cs2 ++ wC G a ar az ad ap ts cs2)) → va_S A s.heap H locs → ∀ (ls : Array Slot), lv_has ls 9 [(0, .ref b), (1, .ref (a 0)), (2, .ref (mb 0)), (3, .ref w), (4, .int (iv ((7 * i : Nat) : Int)))] → okC cs2 → kd cs2 ≤ kd cs + 60 → W p l e room_1 s m #[Value.ref b] below meth c H locs (cells + 10) (slots + 250) Q (F0 m 1381 ls [])) : W p l e room_1 s m #[Value.ref b] below meth c H locs cells slots Q (F0 m 1367 ls []) := by
  obtain ⟨hx, hb, hml, hown, hts, hK, hT, hN, hA, hX, hbl, hbA, hL, hl0⟩ := hB
  refine lv_aload_n hx hb dL_law_1367 rfl (lv_at hl 1 rfl) ?_
  replace hP := wP_perm hP (pm2 _ _ _)
  replace hD := wD_perm hD (pm2 _ _ _)
  have hp : List.Perm (wC G a ar az ad ap ts cs ++ ([(w, .inl (G 5, 1, .inr (.inl (F))))] ++ wMod G mb th cs)) (wC G a ar az ad ap ts cs ++ ([(w, .inl (G 5, 1, .inr (.inl (F))))] ++ wMod G mb th cs)) := List.Perm.refl _
  refine k_long (g_V (As := []) (rest := []) (q0 := 0) (ci := 2) ⟨hx, hb, hml, hown, hts⟩ (c_X2_digest l D G a ar az ad ap ts cs hok) (cwV 0 hts gL_law_X2_digest rfl rfl rfl (by decide +kernel) ⟨Nat.le_of_ble_eq_true rfl, Nat.le_of_ble_eq_true rfl⟩) hK hP hD hp rfl rfl rfl rfl hl.1 rfl (Nat.le_of_ble_eq_true rfl) dL_law_1368 ⟨Nat.le_trans (by omega) hc1, Nat.le_trans (by omega) hc2⟩) hP hD hS hA hp (fun v u H locs hw hP hD hS => ?_)
  obtain ⟨rfl, rfl⟩ := hw
  replace hP := wP_perm hP (pm2 _ _ _).symm
  replace hD := wD_perm hD (pm2 _ _ _).symm
  have hP : va_P D vwCl (wOut G w F ++ (wMod G mb th cs ++ wC G a ar az ad ap ts cs)) H := hP
  have hD : va_D A (wOut G w F ++ (wMod G mb th cs ++ wC G a ar az ad ap ts cs)) := hD
  refine lv_aload_n hx hb dL_law_1371 rfl (lv_at hl 2 rfl) ?_
  replace hP := wP_perm hP (pm3 _ _ _)
  replace hD := wD_perm hD (pm3 _ _ _)
  have hp : List.Perm (wMod G mb th cs ++ ([(w, .inl (G 5, 1, .inr (.inl (F))))] ++ wC G a ar az ad ap ts cs)) (wMod G mb th cs ++ ([(w, .inl (G 5, 1, .inr (.inl (F))))] ++ wC G a ar az ad ap ts cs)) := List.Perm.refl _
  refine k_long (g_V (As := []) (rest := [.long (opDigest cs)]) (q0 := 0) (ci := 3) ⟨hx, hb, hml, hown, hts⟩ (c_X3_digest l D G mb th cs hok  ) (cwV 0 hts gL_law_X3_digest rfl rfl rfl (by decide +kernel) ⟨Nat.le_of_ble_eq_true rfl, Nat.le_of_ble_eq_true rfl⟩) hK hP hD hp rfl rfl rfl rfl hl.1 rfl (Nat.le_of_ble_eq_true rfl) dL_law_1372 ⟨Nat.le_trans (by omega) hc1, Nat.le_trans (by omega) hc2⟩) hP hD hS hA hp (fun v u H locs hw hP hD hS => ?_)
  obtain ⟨rfl, rfl⟩ := hw
  replace hP : va_P D vwCl (wMod G mb 0 cs ++ ([(w, .inl (G 5, 1, .inr (.inl (F))))] ++ wC G a ar az ad ap ts cs)) H := hP
  replace hD : va_D A (wMod G mb 0 cs ++ ([(w, .inl (G 5, 1, .inr (.inl (F))))] ++ wC G a ar az ad ap ts cs)) := hD
  replace hP := wP_perm hP (pm3 _ _ _).symm
  replace hD := wD_perm hD (pm3 _ _ _).symm
  have hP : va_P D vwCl (wOut G w F ++ (wMod G mb 0 cs ++ wC G a ar az ad ap ts cs)) H := hP
  have hD : va_D A (wOut G w F ++ (wMod G mb 0 cs ++ wC G a ar az ad ap ts cs)) := hD
  refine r_lcmp_eq hx hb dL_law_1375 ?_
  refine lv_if_eq (tgt := 1381) hx hb dL_law_1376 (by decide) (fun _ => ?_) (fun h9 => absurd rfl h9)
  exact W.widen (by omega) (by omega) (kk 0 cs ad ap ts F _ _ hP hD hS _ (lv_sub hl [0, 1, 2, 3, 4] rfl) hok (by omega))
