-- METHODS THAT THROW, or need what the tables say of strings and casts
abbrev xnames : List String := ["java/lang/RuntimeException", "java/lang/Exception"]
abbrev xI : String := "java/lang/IllegalStateException"
abbrev xA : String := "java/lang/IllegalArgumentException"
abbrev xB : String := "java/lang/IndexOutOfBoundsException"
def strTab : List (Nat × String) := [(50, "there are 8 dolls"), (61, "an angle is not 0 to 90"), (64, "there are 8 poses"), (81, "a joint that would turn is broken"), (96, "eye is not 0 to 1"), (102, "the eye is stuck"), (108, "weight is not 1 to 9, or pins is not 0 to 12"), (110, "too few pins for the dress, or in store"), (124, "kind is not 0 to 4, or many is not 1 to 99"), (126, "moths is not 0 to 3"), (128, "place is not 0 to 5"), (130, "kind is not 0 to 4"), (136, "none in store, or no place for a pin"), (150, "joint is not 0 to 5, or what is not 0 to 3"), (153, "what is not 0 to 7"), (155, "what is not 0 to 12"), (177, "days is not 1 to 60"), (179, "what is not 4 to 7"), (210, "no such doll"), (212, "no such pose")]
def castTab : List (String × String) := [(xI, xI), (xA, xA), (xB, xB)]
def declTab : List MethodName := [Bundle.initS "java/lang/RuntimeException", Bundle.initS "java/lang/Exception", Bundle.initS Bundle.tN]
def AOI (U : State) : Prop := (Cond.arrayOver (.array .int)).before #[] U = true
theorem AOI.moved {u U : State} (hvm : u.vm.Alike U.vm) (h : AOI u) : AOI U := by
  obtain ⟨comp, c, k, h1, h2, h3, h4, h5⟩ := arrayOverA_spec h
  obtain ⟨k', hk', he⟩ := hvm.2.2 _ _ h3
  have hi : U.vm.classes.findIdx? (fun (x : Class) => match x.kind with | .array component _ => component == comp | _ => false) = some c := by
    have key : ∀ vm : Vm, vm.bare.classes.findIdx? (fun (x : Class) => match x.kind with | .array component _ => component == comp | _ => false) = vm.classes.findIdx? (fun (x : Class) => match x.kind with | .array component _ => component == comp | _ => false) := by
      intro vm
      simp only [Vm.bare, Array.findIdx?_map]
      rfl
    rw [← key]
    first | rw [hvm.bare_eq] | rw [← hvm.bare_eq]
    rw [key]
    exact h2
  have hkind : k'.kind = .array comp (.array .int) := by rw [he]; exact h4
  have f1 : U.vm.findClass (FieldType.array .int).toString = some comp := by rw [hvm.findClass]; exact h1
  have f2 : U.vm.findClass ("[" ++ (FieldType.array .int).toString) = some c := by rw [hvm.findClass]; exact h5
  unfold AOI Cond.before Cond.holds
  simp only [Cond.value]
  rw [f1, Option.bind_some]
  refine (congrArg (fun o : Option Nat => (o.bind (fun c => (U.vm.classes[c]?).map fun (k : Class) => match k.kind with | .array _ ty => decide (ty = FieldType.array .int) && decide (U.vm.findClass ("[" ++ (FieldType.array .int).toString) = some c) | _ => false) == some true)) hi).trans ?_
  simp [hk', hkind, f2]
def AOJ (U : State) : Prop := (Cond.arrayOver (.array (.array .int))).before #[] U = true
theorem AOJ.moved {u U : State} (hvm : u.vm.Alike U.vm) (h : AOJ u) : AOJ U := by
  obtain ⟨comp, c, k, h1, h2, h3, h4, h5⟩ := arrayOverA_spec h
  obtain ⟨k', hk', he⟩ := hvm.2.2 _ _ h3
  have hi : U.vm.classes.findIdx? (fun (x : Class) => match x.kind with | .array component _ => component == comp | _ => false) = some c := by
    have key : ∀ vm : Vm, vm.bare.classes.findIdx? (fun (x : Class) => match x.kind with | .array component _ => component == comp | _ => false) = vm.classes.findIdx? (fun (x : Class) => match x.kind with | .array component _ => component == comp | _ => false) := by
      intro vm
      simp only [Vm.bare, Array.findIdx?_map]
      rfl
    rw [← key]
    first | rw [hvm.bare_eq] | rw [← hvm.bare_eq]
    rw [key]
    exact h2
  have hkind : k'.kind = .array comp (.array (.array .int)) := by rw [he]; exact h4
  have f1 : U.vm.findClass (FieldType.array (.array .int)).toString = some comp := by rw [hvm.findClass]; exact h1
  have f2 : U.vm.findClass ("[" ++ (FieldType.array (.array .int)).toString) = some c := by rw [hvm.findClass]; exact h5
  unfold AOJ Cond.before Cond.holds
  simp only [Cond.value]
  rw [f1, Option.bind_some]
  refine (congrArg (fun o : Option Nat => (o.bind (fun c => (U.vm.classes[c]?).map fun (k : Class) => match k.kind with | .array _ ty => decide (ty = FieldType.array (.array .int)) && decide (U.vm.findClass ("[" ++ (FieldType.array (.array .int)).toString) = some c) | _ => false) == some true)) hi).trans ?_
  simp [hk', hkind, f2]
/-- what the law needs beside -/
def AOX (U : State) : Prop := AOI U ∧ va_AO RX3 U ∧ AOJ U ∧ va_Nw (.methodLinkNest RL 27 yX3_init RL) U ∧ va_Nw (.methodLinkNest RL 110 yX4_init RL) U
theorem AOX.warm {s U : State} (hW : s.WarmedH U.vm) (h : AOX s) : AOX U := ⟨h.1.moved hW.alike, h.2.1.moved hW.alike, h.2.2.1.moved hW.alike, va_Nw.warmM hW h.2.2.2.1, va_Nw.warmM hW h.2.2.2.2⟩
theorem AOX.same {u U : State} (hv : U.vm = u.vm) (h : AOX u) : AOX U := by
  have hal : u.vm.Alike U.vm := by rw [hv]; exact Vm.Alike.refl _
  exact ⟨h.1.moved hal, h.2.1.moved hal, h.2.2.1.moved hal, va_Nw.same rfl hv.symm h.2.2.2.1, va_Nw.same rfl hv.symm h.2.2.2.2⟩
/-- what the tables say, beside the words -/
def TB (U : State) : Prop := (∀ q ∈ strTab, ∃ a, vk_R RX2 q.1 q.2 a U) ∧ (∀ q ∈ castTab, va_Nw (.castable q.1 q.2) U) ∧ (∀ q ∈ declTab, va_Nw (.declares q) U) ∧ va_AO RX0 U ∧ va_AO RX1 U ∧ AOX U ∧ va_Nw (.methodLinkNest RX2 25 yX1_init RX2) U
theorem TB.warm {s U : State} (hW : s.WarmedH U.vm) (h : TB s) : TB U := by
  obtain ⟨h1, h2, h3, h4, h5, h6, h7⟩ := h
  refine ⟨fun q hq => ?_, fun q hq => va_Nw.warmC hW (h2 q hq), fun q hq => va_Nw.warmD hW (h3 q hq), h4.moved hW.alike, h5.moved hW.alike, h6.warm hW, va_Nw.warmM hW h7⟩
  obtain ⟨a, ha⟩ := h1 q hq
  exact ⟨a, vk_R.warm hW ha⟩
theorem TB.same {u U : State} (hv : U.vm = u.vm) (h : TB u) : TB U := by
  obtain ⟨h1, h2, h3, h4, h5, h6, h7⟩ := h
  have hal : u.vm.Alike U.vm := by rw [hv]; exact Vm.Alike.refl _
  refine ⟨fun q hq => ?_, fun q hq => va_Nw.same rfl hv.symm (h2 q hq), fun q hq => va_Nw.same rfl hv.symm (h3 q hq), h4.moved hal, h5.moved hal, h6.same hv, va_Nw.same rfl hv.symm h7⟩
  obtain ⟨a, ha⟩ := h1 q hq
  exact ⟨a, vk_R.same hv ha⟩
abbrev ZU (A : Nat → Prop) (U : State) (H : Heap) : Prop := vx_Zq Bundle.tN "UNASSIGNED_STACK" Bundle.steD A U H
abbrev ZN (A : Nat → Prop) (U : State) (H : Heap) : Prop := vx_Zq Bundle.tN "SUPPRESSED_SENTINEL" Bundle.listD A U H
def TH (A : Nat → Prop) (U : State) (H : Heap) : Prop := ZU A U H ∧ ZN A U H ∧ TB U
/-- what holds at our start, said of a callee's start -/
theorem TH.pass {A B : Nat → Prop} {s U : State} {H : Heap} {locs : List Loc} (h : TH A s s.heap) (hS : va_S A s.heap H locs) (hAB : ∀ q, B q → A q) (hU : U.heap = H) (hW : s.WarmedH U.vm) : TH B U U.heap := by
  obtain ⟨h1, h2, h3⟩ := h
  rw [hU]
  exact ⟨((h1.kept hS.2.1).narrow hAB).moved hW.alike, ((h2.kept hS.2.1).narrow hAB).moved hW.alike, h3.warm hW⟩
abbrev wPreX (D : va_G) (tys : List (ClassId × FieldType)) (av : List Value) (w : va_W) (sz : Nat) : Array Value → State → Prop := va_Pc av (fun U => U.heap.size = sz ∧ va_P D vwCl w U.heap ∧ va_K D vwCl tys U ∧ va_D (fun _ => True) w ∧ TH (va_A w sz) U U.heap)
def MtX (l : Launch) (y : MethodName) (ws : List Cond) (f lc mc ms : Nat) (D : va_G) (tys : List (ClassId × FieldType)) (av : List Value) (w : va_W) (qc : QcT) : Prop := ∀ sz, Met l y ws (rmOf f lc mc ms) (wPreX D tys av w sz) (qc (va_A w sz)) mc ms (va_A w sz)
/-- the world of one who throws is as it was -/
def qX (D : va_G) (w : va_W) (px : String → Prop) (A : Nat → Prop) : String → State → State → Prop := vx_X (S := Unit) (fun _ => True) (fun E _ t => px E ∧ wB D A w t) A
def MxG (l : Launch) (y : MethodName) (ws : List Cond) (f lc mc ms : Nat) (D : va_G) (tys : List (ClassId × FieldType)) (av : List Value) (w : va_W) (qc : QcT) (px : String → Prop) : Prop := ∀ sz, vx_Met l y ws (rmOf f lc mc ms) (wPreX D tys av w sz) (qc (va_A w sz)) (qX D w px (va_A w sz)) mc ms (va_A w sz)
theorem MtX.mk {l : Launch} {y : MethodName} {ws ws' : List Cond} {f lc mc ms : Nat} {D : va_G} {tys : List (ClassId × FieldType)} {av : List Value} {w : va_W} {qc : QcT} {cc : ByteArray} {maxL : Nat} {ret : Option FieldType} (hy : plainName y.cls = true) (hw : ws = Cond.code y cc maxL ret :: ws') (hL : (lg_sl av).length ≤ maxL)
    (body : ∀ (p : Program) (e : Env) (s : State) (m : MethodId) (below : List Frame) (meth : Method) (c : Code) (A : Nat → Prop) (ls : Array Slot), p.tables.exec = Jvm.exec → c.code = cc → meth.sig.returnType = ret → meth.locks = false → c.maxLocals = maxL → s.vm.findClass y.cls = some m.cls → meth.name = y.name → (∀ w ∈ ws, w.before av.toArray s = true) → va_K D vwCl tys s → (∀ q, s.heap.size ≤ q → A q) → TH A s s.heap → va_P D vwCl w s.heap → va_D A w → va_S A s.heap s.heap [] → lv_has ls maxL (lv_args 0 av) →
      W p l e (rmOf f lc mc ms) s m av.toArray below meth c s.heap [] 0 0 (MQ below (qc A) av.toArray s mc ms A) (F0 m 0 ls [])) : MtX l y ws f lc mc ms D tys av w qc := by
  intro sz
  refine Met.ofW (cc := cc) (maxL := maxL) (ret := ret) hy hw ?_
  intro p e s m args below meth c s₁ B hml hv
  obtain ⟨rfl, hsz, hP, hK, hD0, hT⟩ := hv
  have hts := atoms_spec (ws := ws) B.pre
  have hown : s.vm.findClass y.cls = some m.cls := findClass_of_methodNamed B.named
  have hin : meth.name = y.name := (name_of_methodNamed B.named B.method).1
  subst hsz
  have hl := lv_entry av (n := maxL) hL
  rw [lg_entry_eq]
  exact body p e s m below meth c (va_A w s.heap.size) _ B.exec B.bytes B.returns B.notSynchronized hml hown hin hts hK (fun q h => Or.inr h) hT hP hD0.self va_S.rf hl
theorem MxG.mk {l : Launch} {y : MethodName} {ws ws' : List Cond} {f lc mc ms : Nat} {D : va_G} {tys : List (ClassId × FieldType)} {av : List Value} {w : va_W} {qc : QcT} {px : String → Prop} {cc : ByteArray} {maxL : Nat} {ret : Option FieldType} (hy : plainName y.cls = true) (hw : ws = Cond.code y cc maxL ret :: ws') (hL : (lg_sl av).length ≤ maxL)
    (body : ∀ (p : Program) (e : Env) (s : State) (m : MethodId) (below : List Frame) (meth : Method) (c : Code) (A : Nat → Prop) (ls : Array Slot), p.tables.exec = Jvm.exec → c.code = cc → meth.sig.returnType = ret → meth.locks = false → c.maxLocals = maxL → s.vm.findClass y.cls = some m.cls → meth.name = y.name → (∀ w ∈ ws, w.before av.toArray s = true) → va_K D vwCl tys s → (∀ q, s.heap.size ≤ q → A q) → TH A s s.heap → va_P D vwCl w s.heap → va_D A w → va_S A s.heap s.heap [] → lv_has ls maxL (lv_args 0 av) → (∀ x ∈ c.exceptionTable.toList, False) →
      W p l e (rmOf f lc mc ms) s m av.toArray below meth c s.heap [] 0 0 (vx_MQ below (qc A) (qX D w px A) av.toArray s mc ms A) (F0 m 0 ls [])) : MxG l y ws f lc mc ms D tys av w qc px := by
  intro sz
  refine vx_ofW (cc := cc) (maxL := maxL) (ret := ret) hy hw ?_
  intro p e s m args below meth c s₁ B hml hex hv
  obtain ⟨rfl, hsz, hP, hK, hD0, hT⟩ := hv
  have hts := atoms_spec (ws := ws) B.pre
  have hown : s.vm.findClass y.cls = some m.cls := findClass_of_methodNamed B.named
  have hin : meth.name = y.name := (name_of_methodNamed B.named B.method).1
  subst hsz
  have hl := lv_entry av (n := maxL) hL
  rw [lg_entry_eq]
  exact body p e s m below meth c (va_A w s.heap.size) _ B.exec B.bytes B.returns B.notSynchronized hml hown hin hts hK (fun q h => Or.inr h) hT hP hD0.self va_S.rf hl hex
section XC
variable {p : Program} {l : Launch} {e : Env} {R : Room} {s : State} {m : MethodId} {args : Array Value} {below : List Frame} {meth : Method} {c : Code} {H : Heap} {locs : List Loc} {cells slots mc ms : Nat} {cc : ByteArray} {pc : Nat} {ls : Array Slot} {D : va_G} {A : Nat → Prop} {Q : State → Prop}
variable {tys : List (ClassId × FieldType)} {ws wc wr w0 : va_W} {As rest st0 : List Value} {f lc : Nat}
theorem w_blindX (D : va_G) (tys : List (ClassId × FieldType)) (av : List Value) (w : va_W) (sz : Nat) : FrameBlind (wPreX D tys av w sz) := fun a U g mk q => by
  obtain ⟨q0, q1, qP, qK, qD, qT⟩ := q
  have hal : U.vm.Alike (U.calling g mk a).vm := Vm.Alike.refl U.vm
  exact ⟨q0, q1, qP, va_K.moved (u := U) (U := U.calling g mk a) hal qK, qD, qT.1.moved (u := U) (U := U.calling g mk a) hal, qT.2.1.moved (u := U) (U := U.calling g mk a) hal, TB.same (u := U) (U := U.calling g mk a) rfl qT.2.2⟩
theorem w_preX (hK : va_K D vwCl tys s) (hT : TH A s s.heap) (hA : ∀ q, s.heap.size ≤ q → A q) (hP : va_P D vwCl ws H) (hD : va_D A ws) (hS : va_S A s.heap H locs) (hp : ws.Perm (wc ++ wr)) (av : List Value) : ∀ U : State, U.heap = H → s.WarmedH U.vm → wPreX D tys av wc H.size av.toArray U := fun U hU hW =>
  ⟨rfl, by rw [hU], by rw [hU]; exact (wP_app.mp (wP_perm hP hp)).1, va_K.moved hW.alike hK, (wD_app1 (wD_perm hD hp)).weaken (fun _ _ _ _ => trivial), hT.pass hS (wF hD hS hA hp) hU hW⟩
theorem g_VT {Ts ws1 : List Cond} {nL maxL n index : Nat} {own C : String} {y : MethodName} {bytes : ByteArray} {ret : Option FieldType} {qc : QcT} {b q0 ci : Nat} {fs : List Value} {r : vw_C} (S : CallFix p m c cc nL s args Ts own) (hM : MtX l y ws1 f lc mc ms D tys (.ref b :: As) wc qc) (cw : CallW R s args own C index y bytes maxL ret ws1 (rmOf f lc mc ms) mc ms n) (hK : va_K D vwCl tys s) (hT : TH A s s.heap) (hA : ∀ q, s.heap.size ≤ q → A q) (hP : va_P D vwCl ws H) (hD : va_D A ws) (hS : va_S A s.heap H locs) (hp : ws.Perm (wc ++ wr)) (he : ws[q0]? = some (b, .inr (ci, fs))) (hc : vwCl[ci]? = some r) (hC : r.1 = C) (hn : As.length = n) (hsize : ls.size = nL) (hst : st0 = As.reverse ++ .ref b :: rest) (hW : (rest.map fun v => v.category).sum ≤ 8) (d : decode cc pc = .ok (.invokevirtual index, 3)) (hf : cells + mc ≤ R.cells ∧ slots + ms ≤ R.slots) : va_Run p l e R s m args below meth c H locs cells slots mc ms (F0 m pc ls st0) rest (qc (va_A wc H.size) (Value.ref b :: As).toArray) (va_A wc H.size) := by
  subst hC
  exact va_runV (g := F0 m pc ls st0) S (hM H.size) cw ⟨w_blindX _ _ _ _ _, w_recv hK hP hc he, w_preX hK hT hA hP hD hS hp _⟩ rfl hn hsize hst (by simpa [JFrame.monitorRoom] using hW) d hf
theorem g_VX {Ts ws1 : List Cond} {nL maxL n index : Nat} {own C : String} {y : MethodName} {bytes : ByteArray} {ret : Option FieldType} {qc : QcT} {px : String → Prop} {b q0 ci : Nat} {fs : List Value} {r : vw_C} (S : CallFix p m c cc nL s args Ts own) (hM : MxG l y ws1 f lc mc ms D tys (.ref b :: As) wc qc px) (cw : CallW R s args own C index y bytes maxL ret ws1 (rmOf f lc mc ms) mc ms n) (hK : va_K D vwCl tys s) (hT : TH A s s.heap) (hA : ∀ q, s.heap.size ≤ q → A q) (hP : va_P D vwCl ws H) (hD : va_D A ws) (hS : va_S A s.heap H locs) (hp : ws.Perm (wc ++ wr)) (he : ws[q0]? = some (b, .inr (ci, fs))) (hc : vwCl[ci]? = some r) (hC : r.1 = C) (hn : As.length = n) (hsize : ls.size = nL) (hst : st0 = As.reverse ++ .ref b :: rest) (hW : (rest.map fun v => v.category).sum ≤ 8) (d : decode cc pc = .ok (.invokevirtual index, 3)) (hf : cells + mc ≤ R.cells ∧ slots + ms ≤ R.slots) : vx_Run p l e R s m args below meth c H locs cells slots mc ms (F0 m pc ls st0) rest (qc (va_A wc H.size) (Value.ref b :: As).toArray) (qX D wc px (va_A wc H.size)) (va_A wc H.size) := by
  subst hC
  exact vx_runV (g := F0 m pc ls st0) S (hM H.size) cw ⟨w_blindX _ _ _ _ _, w_recv hK hP hc he, w_preX hK hT hA hP hD hS hp _⟩ rfl hn hsize hst (by simpa [JFrame.monitorRoom] using hW) d hf
/-- not caught here: out, with the world as it was at the start -/
theorem x_out {Qc : Array Value → State → Outcome → State → Prop} {px pw : String → Prop} {E : String} {ce : Cell} {q : Nat} (hex : ∀ x ∈ c.exceptionTable.toList, False) (hlk : meth.locks = false) (hS : va_S A s.heap H locs) (hP : va_P D vwCl w0 H) (hD : va_D A w0) (hpx : px E) (hcell : H[q]? = some ce) (hv : ce.vm = .none) (hcl : s.vm.findClass E = some ce.cls) (hc : cells ≤ mc) (hs : slots ≤ ms) : vx_W p l e R s m args below meth c H locs cells slots (vx_MQ below Qc (qX D w0 px A) args s mc ms A) (F0 m pc ls rest) q :=
  vx_out (fun x hx => (hex x hx).elim) hlk hcell hv hcl (fun t ht _ => ⟨(), trivial, ⟨hpx, by rw [ht]; exact hP, hD⟩, hS.F ht⟩) hS.2.2 hc hs
/-- throw new X("..") -/
theorem x_throw {Qc : Array Value → State → Outcome → State → Prop} {px : String → Prop} {own cls text : String} {ik is ic : Nat} {Ts : List Cond} (hx : p.tables.exec = Jvm.exec) (hb : c.code = cc) (hl0 : l.stackTraces = false) (hown : s.vm.findClass own = some m.cls) (hfit : Bundle.fit cls = true) (hts : ∀ w ∈ Ts, w.before args s = true) (hk : Cond.classLink own ik cls ∈ Ts) (hini : Cond.initialized cls ∈ Ts) (hg : ∀ w ∈ (vx_atS own ic cls xnames).filter goodWord, w ∈ Ts) (hng : ∀ w ∈ (vx_atS own ic cls xnames).filter (fun w => !goodWord w), w ∈ Cond.castable cls cls :: declTab.map Cond.declares) (hcast : (cls, cls) ∈ castTab) (hT : TH A s s.heap) (hstr : ∃ sa, vk_R own is text sa s)
    (hgood : ∀ w ∈ Cond.classLink own ik cls :: Cond.initialized cls :: vx_atS own ic cls xnames, vx_ot w = true) (hS : va_S A s.heap H locs) (hP : va_P D vwCl w0 H) (hD : va_D A w0) (hsize : ls.size = c.maxLocals)
    (d0 : decode cc pc = .ok (.new ik, 3)) (d3 : decode cc (pc + 3) = .ok (.dup, 1)) (d4 : decode cc (pc + 4) = .ok (.ldc is, 2)) (d6 : decode cc (pc + 6) = .ok (.invokespecial ic, 3)) (d9 : decode cc (pc + 9) = .ok (.athrow, 1)) (hex : ∀ x ∈ c.exceptionTable.toList, False) (hRf : 5 < R.frames) (hRl : (rest.map fun v => v.category).sum + 82 ≤ R.locals) (hRc : cells + 1 ≤ R.cells) (hRs : slots + 6 ≤ R.slots) (hlk : meth.locks = false) (hpx : px cls) (hc : cells + 1 ≤ mc) (hs : slots + 6 ≤ ms) :
    W p l e R s m args below meth c H locs cells slots (vx_MQ below Qc (qX D w0 px A) args s mc ms A) (F0 m pc ls rest) := by
  obtain ⟨sa, hsa⟩ := hstr
  refine vx_throwS (names := xnames) hx hb hl0 hown hfit (by decide) (hts _ hk) (hts _ hini) hsa ?_ hgood hT.1 hT.2.1 hS hsize d0 d3 d4 d6 d9 (fun x hx => (hex x hx).elim) hRf hRl hRc hRs hlk ?_ hS.2.2 hc hs
  · refine vx_hat (fun w hw => hts w (hg w hw)) hng (fun w hw => ?_)
    rcases List.mem_cons.mp hw with rfl | hw
    · exact va_Nw.use rfl (hT.2.2.2.1 _ hcast)
    · obtain ⟨q, hq, rfl⟩ := List.mem_map.mp hw
      exact va_Nw.use rfl (hT.2.2.2.2.1 q hq)
  · intro t _ hsz hk2
    have hkept : ∀ q : Nat, q < H.size → t.heap[q]? = H[q]? := hk2
    refine ⟨(), trivial, ⟨hpx, hP.kept (fun k q hq => hkept q.1 (hP k q hq).lt), hD⟩, Nat.le_trans hS.1 hsz, fun q h1 h2 => ?_⟩
    rw [hkept q (Nat.lt_of_lt_of_le h1 hS.1)]
    exact hS.2.1 q h1 h2
end XC
