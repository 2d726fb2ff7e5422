-- THE LAW'S HELPERS: they catch all
def ncTab : List (String × String) := [(xI, xB), (xI, xA), (xA, xB), (xB, xA)]
def NC (U : State) : Prop := ∀ q ∈ ncTab, va_Nc q.1 q.2 U
abbrev wPreH (D : va_G) (tys : List (ClassId × FieldType)) (av : List Value) (w : va_W) (sz : Nat) : Array Value → State → Prop := va_Pc av (fun U => U.heap.size = sz ∧ va_P D vwCl w U.heap ∧ va_K D vwCl tys U ∧ va_D (fun _ => True) w ∧ TH (va_A w sz) U U.heap ∧ NC U)
def MtH (l : Launch) (y : MethodName) (ws : List Cond) (f lc mc ms : Nat) (D : va_G) (tys : List (ClassId × FieldType)) (av : List Value) (w : va_W) (qc : QcT) : Prop := ∀ sz, Met l y ws (rmOf f lc mc ms) (wPreH D tys av w sz) (qc (va_A w sz)) mc ms (va_A w sz)
theorem MtH.mk {l : Launch} {y : MethodName} {ws ws' : List Cond} {f lc mc ms : Nat} {D : va_G} {tys : List (ClassId × FieldType)} {av : List Value} {w : va_W} {qc : QcT} {cc : ByteArray} {maxL : Nat} {ret : Option FieldType} {hh : List (Nat × Nat × Nat × Nat)} (hy : plainName y.cls = true) (hw : ws = Cond.codeWith y cc maxL ret hh :: ws') (hL : (lg_sl av).length ≤ maxL)
    (body : ∀ (p : Program) (e : Env) (s : State) (m : MethodId) (below : List Frame) (meth : Method) (c : Code) (A : Nat → Prop) (ls : Array Slot), p.tables.exec = Jvm.exec → c.code = cc → meth.sig.returnType = ret → meth.locks = false → c.maxLocals = maxL → s.vm.findClass y.cls = some m.cls → (∀ w ∈ ws, w.before av.toArray s = true) → va_K D vwCl tys s → (∀ q, s.heap.size ≤ q → A q) → TH A s s.heap → NC s → va_P D vwCl w s.heap → va_D A w → va_S A s.heap s.heap [] → lv_has ls maxL (lv_args 0 av) → c.exceptionTable.toList = tableOf hh →
      W p l e (rmOf f lc mc ms) s m av.toArray below meth c s.heap [] 0 0 (MQ below (qc A) av.toArray s mc ms A) (F0 m 0 ls [])) : MtH l y ws f lc mc ms D tys av w qc := by
  intro sz
  refine MetFree.of_bodyS (code := cc) (maxLocals := maxL) (ret := ret) hy ?_ ?_
  · intro args s m h hn
    obtain ⟨m9, meth, c, hn9, h1, h2, h3, h4, -, h5, h6, -⟩ := Cond.codeWith_spec (atoms_spec (ws := ws) h _ (by rw [hw]; exact List.mem_cons_self))
    cases hn.symm.trans hn9
    exact ⟨meth, c, h1, h2, h3, h4, h5, h6⟩
  · intro p e s m args below meth c s₁ B hml hv _
    have hh0 : s₁.heap = s.heap := by rw [B.state]; rfl
    obtain ⟨rfl, hsz, hP, hK, hD0, hT, hN⟩ := hv
    have hts := atoms_spec (ws := ws) B.pre
    have htab := vx_table (x := y) B (hts _ (by rw [hw]; exact List.mem_cons_self))
    have hown : s.vm.findClass y.cls = some m.cls := findClass_of_methodNamed B.named
    subst hsz
    have hl := lv_entry av (n := maxL) hL
    have K : W p l e (rmOf f lc mc ms) s m av.toArray below meth c s.heap [] 0 0 (MQ below (qc (va_A w s.heap.size)) av.toArray s mc ms (va_A w s.heap.size)) (entryFrame m av.toArray maxL) := by
      rw [lg_entry_eq]
      exact body p e s m below meth c (va_A w s.heap.size) _ B.exec B.bytes B.returns B.notSynchronized hml hown hts hK (fun q h => Or.inr h) hT hN hP hD0.self va_S.rf hl htab
    obtain ⟨t, a1, o, b1, b2, b3⟩ := K s₁ hh0 (Stand.of_body B)
    exact ⟨t, o, a1, b1, b2, b3⟩
section HLP
variable {p : Program} {l : Launch} {e : Env} {R : Room} {s : State} {m : MethodId} {args : Array Value} {below : List Frame} {meth : Method} {c : Code} {H H0 : Heap} {locs : List Loc} {cells slots mc ms : Nat} {cc : ByteArray} {pc : Nat} {ls : Array Slot} {D : va_G} {A : Nat → Prop} {Q : State → Prop}
variable {tys : List (ClassId × FieldType)} {ws wc wr : va_W} {As rest st0 : List Value} {f lc : Nat}
theorem NC.moved {u U : State} (hvm : u.vm.Alike U.vm) (h : NC u) : NC U := fun q hq => (h q hq).moved hvm
theorem w_blindH (D : va_G) (tys : List (ClassId × FieldType)) (av : List Value) (w : va_W) (sz : Nat) : FrameBlind (wPreH D tys av w sz) := fun a U g mk q => by
  obtain ⟨q0, q1, qP, qK, qD, qT, qN⟩ := q
  have hal : U.vm.Alike (U.calling g mk a).vm := Vm.Alike.refl U.vm
  exact ⟨q0, q1, qP, va_K.moved (u := U) (U := U.calling g mk a) hal qK, qD, ⟨qT.1.moved (u := U) (U := U.calling g mk a) hal, qT.2.1.moved (u := U) (U := U.calling g mk a) hal, TB.same (u := U) (U := U.calling g mk a) rfl qT.2.2⟩, NC.moved (u := U) (U := U.calling g mk a) hal qN⟩
theorem w_preH (hK : va_K D vwCl tys s) (hT : TH A s s.heap) (hN : NC s) (hA : ∀ q, s.heap.size ≤ q → A q) (hP : va_P D vwCl ws H) (hD : va_D A ws) (hS : va_S A s.heap H locs) (hp : ws.Perm (wc ++ wr)) (av : List Value) : ∀ U : State, U.heap = H → s.WarmedH U.vm → wPreH D tys av wc H.size av.toArray U := fun U hU hW =>
  ⟨rfl, by rw [hU], by rw [hU]; exact (wP_app.mp (wP_perm hP hp)).1, va_K.moved hW.alike hK, (wD_app1 (wD_perm hD hp)).weaken (fun _ _ _ _ => trivial), hT.pass hS (wF hD hS hA hp) hU hW, hN.moved hW.alike⟩
theorem g_SH {Ts ws1 : List Cond} {nL maxL n index : Nat} {own : String} {y : MethodName} {bytes : ByteArray} {ret : Option FieldType} {hh : List (Nat × Nat × Nat × Nat)} {qc : QcT} (S : CallFix p m c cc nL s args Ts own) (hM : MtH l y ws1 f lc mc ms D tys As wc qc) (cw : vx_CSW R s args own index y bytes maxL ret hh ws1 (rmOf f lc mc ms) mc ms n) (hK : va_K D vwCl tys s) (hT : TH A s s.heap) (hN : NC s) (hA : ∀ q, s.heap.size ≤ q → A q) (hP : va_P D vwCl ws H) (hD : va_D A ws) (hS : va_S A s.heap H locs) (hp : ws.Perm (wc ++ wr)) (hn : As.length = n) (hsize : ls.size = nL) (hst : st0 = As.reverse ++ rest) (hW : (rest.map fun v => v.category).sum ≤ 8) (d : decode cc pc = .ok (.invokestatic index, 3)) (hf : cells + mc ≤ R.cells ∧ slots + ms ≤ R.slots) : va_Run p l e R s m args below meth c H locs cells slots mc ms (F0 m pc ls st0) rest (qc (va_A wc H.size) As.toArray) (va_A wc H.size) :=
  vx_runSW (g := F0 m pc ls st0) S (hM H.size) cw ⟨w_blindH _ _ _ _ _, w_preH hK hT hN hA hP hD hS hp _⟩ rfl hn hsize hst (by simpa [JFrame.monitorRoom] using hW) d hf
theorem i0_in : vp_in (iv 0) 1 ∧ (iv 0).toNatClampNeg = 0 := by
  have h := iv_ix (k := 0) (n := 1) (z := 0) rfl (by omega) (by omega)
  exact h
theorem r_last0 {G : Nat → ClassId} {a : Nat} (hx : p.tables.exec = Jvm.exec) (hb : c.code = cc) (hK : va_K D vwCl (TY G) s) (hP : va_P D vwCl ws H) (hD : va_D A ws) (hS : va_S A H0 H locs) (q0 : Nat) {F : Nat → Int64} (ha : ws[q0]? = some (a, .inl (G 5, 1, .inr (.inl F)))) {x : Int64} (d : decode cc pc = .ok (.lastore, 1))
    (kk : ∀ (H1 : Heap) (locs1 : List Loc), va_P D vwCl (ws.set q0 (a, .inl (G 5, 1, .inr (.inl (vp_updL F 0 x))))) H1 → va_D A (ws.set q0 (a, .inl (G 5, 1, .inr (.inl (vp_updL F 0 x))))) → va_S A H0 H1 locs1 → W p l e R s m args below meth c H1 locs1 cells slots Q (F0 m (pc + 1) ls rest)) : W p l e R s m args below meth c H locs cells slots Q (F0 m pc ls (.long x :: .int (iv 0) :: .ref a :: rest)) := by
  refine va_last hx hb hK hP hD hS q0 5 ha rfl i0_in.1 d ?_
  rw [i0_in.2]
  exact kk
theorem r_lald0 {G : Nat → ClassId} {a : Nat} (hx : p.tables.exec = Jvm.exec) (hb : c.code = cc) (hK : va_K D vwCl (TY G) s) (hP : va_P D vwCl ws H) (q0 : Nat) {F : Nat → Int64} (ha : ws[q0]? = some (a, .inl (G 5, 1, .inr (.inl F)))) (d : decode cc pc = .ok (.laload, 1))
    (kk : W p l e R s m args below meth c H locs cells slots Q (F0 m (pc + 1) ls (.long (F 0) :: rest))) : W p l e R s m args below meth c H locs cells slots Q (F0 m pc ls (.int (iv 0) :: .ref a :: rest)) := by
  refine va_lald hx hb hK hP q0 5 ha rfl i0_in.1 d ?_
  rw [i0_in.2]
  exact kk
end HLP
theorem pm1 (E M C : va_W) : (E ++ (M ++ C)).Perm ((E ++ C) ++ M) := by
  rw [List.append_assoc]
  exact List.Perm.append_left E List.perm_append_comm
theorem pm3 (E M C : va_W) : (E ++ (M ++ C)).Perm (M ++ (E ++ C)) := by
  rw [← List.append_assoc, ← List.append_assoc]
  exact List.perm_append_comm.append_right C
theorem pm2 (E M C : va_W) : (E ++ (M ++ C)).Perm (C ++ (E ++ M)) := by
  rw [← List.append_assoc]
  exact List.perm_append_comm
abbrev wOut (G : Nat → ClassId) (w : Nat) (F : Nat → Int64) : va_W := [(w, .inl (G 5, 1, .inr (.inl F)))]
/-- what a helper answers -/
def PH (G : Nat → ClassId) (a ar az : Nat → Nat) (w : Nat) (o : OP) (r : Int32) (u : va_W) : Prop := r = iv o.1 ∧ ∃ (ad ap : AD) (ts : DS) (F : Nat → Int64), u = wOut G w F ++ wC G a ar az ad ap ts o.2.2 ∧ (iv o.1 = 0 → F 0 = (iv o.2.1).toInt64)
theorem PH_x {G : Nat → ClassId} {a ar az : Nat → Nat} {w : Nat} {o : OP} {c : CS} {k : Int} {ad ap : AD} {ts : DS} {F : Nat → Int64} (h1 : o.1 = k) (h2 : o.2.2 = c) (hk : ¬ iv k = 0) : PH G a ar az w o (iv k) (wOut G w F ++ wC G a ar az ad ap ts c) := ⟨by rw [h1], ad, ap, ts, F, by rw [h2], fun h => absurd (by rw [← h1]; exact h) hk⟩
theorem PH_v {G : Nat → ClassId} {a ar az : Nat → Nat} {w : Nat} {o : OP} {ad ap : AD} {ts : DS} {F : Nat → Int64} {x : Int64} (h1 : o.1 = 0) (hx : x = (iv o.2.1).toInt64) : PH G a ar az w o (iv 0) (wOut G w (vp_updL F 0 x) ++ wC G a ar az ad ap ts o.2.2) := ⟨by rw [h1], ad, ap, ts, _, rfl, fun _ => by rw [← hx]; exact if_pos rfl⟩
