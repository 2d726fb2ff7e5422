-- CONTRACTS in one form: a world in, a world out
abbrev wPre (D : va_G) (tys : List (ClassId × FieldType)) (av : List Value) (w : va_W) (sz : Nat) : Array Value → State → Prop := va_Pc av (fun U => U.heap.size = sz ∧ va_P D vwCl w U.heap ∧ va_K D vwCl tys U ∧ va_D (fun _ => True) w)
def wB (D : va_G) (A : Nat → Prop) (u : va_W) (t : State) : Prop := va_P D vwCl u t.heap ∧ va_D A u
abbrev rmOf (f lc mc ms : Nat) : Room := { frames := f, cells := mc, slots := ms, locals := lc }
abbrev QcT : Type := (Nat → Prop) → Array Value → State → Outcome → State → Prop
def qI (D : va_G) (post : Int32 → va_W → Prop) : QcT := fun A => va_Qi post (wB D A) A
def qL (D : va_G) (post : Int64 → va_W → Prop) : QcT := fun A => va_Ql post (wB D A) A
def qD (D : va_G) (post : UInt64 → va_W → Prop) : QcT := fun A => va_Qd post (wB D A) A
def qV (D : va_G) (post : va_W → Prop) : QcT := fun A => va_Qv post (wB D A) A
def qR (D : va_G) (post : Nat → va_W → Prop) : QcT := fun A => va_Qr (S := va_W) (fun _ => True) (fun u a t => post a u ∧ wB D A u t) A
def MtG (l : Launch) (y : MethodName) (ws : List Cond) (f lc mc ms : Nat) (D : va_G) (tys : List (ClassId × FieldType)) (av : List Value) (w : va_W) (qc : QcT) : Prop := ∀ sz, Met l y ws (rmOf f lc mc ms) (wPre D tys av w sz) (qc (va_A w sz)) mc ms (va_A w sz)
theorem MtG.mk {l : Launch} {y : MethodName} {ws ws' : List Cond} {f lc mc ms : Nat} {D : va_G} {tys : List (ClassId × FieldType)} {av : List Value} {w : va_W} {qc : QcT} {cc : ByteArray} {maxL : Nat} {ret : Option FieldType} (hy : plainName y.cls = true) (hw : ws = Cond.code y cc maxL ret :: ws') (hL : (lg_sl av).length ≤ maxL)
    (body : ∀ (p : Program) (e : Env) (s : State) (m : MethodId) (below : List Frame) (meth : Method) (c : Code) (A : Nat → Prop) (ls : Array Slot), p.tables.exec = Jvm.exec → c.code = cc → meth.sig.returnType = ret → meth.locks = false → c.maxLocals = maxL → s.vm.findClass y.cls = some m.cls → meth.name = y.name → (∀ w ∈ ws, w.before av.toArray s = true) → va_K D vwCl tys s → (∀ q, s.heap.size ≤ q → A q) → va_P D vwCl w s.heap → va_D A w → va_S A s.heap s.heap [] → lv_has ls maxL (lv_args 0 av) →
      W p l e (rmOf f lc mc ms) s m av.toArray below meth c s.heap [] 0 0 (MQ below (qc A) av.toArray s mc ms A) (F0 m 0 ls [])) : MtG l y ws f lc mc ms D tys av w qc := by
  intro sz
  refine Met.ofW (cc := cc) (maxL := maxL) (ret := ret) hy hw ?_
  intro p e s m args below meth c s₁ B hml hv
  obtain ⟨rfl, hsz, hP, hK, hD0⟩ := hv
  have hts := atoms_spec (ws := ws) B.pre
  have hown : s.vm.findClass y.cls = some m.cls := findClass_of_methodNamed B.named
  have hin : meth.name = y.name := (name_of_methodNamed B.named B.method).1
  subst hsz
  have hl := lv_entry av (n := maxL) hL
  rw [lg_entry_eq]
  exact body p e s m below meth c (va_A w s.heap.size) _ B.exec B.bytes B.returns B.notSynchronized hml hown hin hts hK (fun q h => Or.inr h) hP hD0.self va_S.rf hl
section ENDS
variable {p : Program} {l : Launch} {e : Env} {R : Room} {s : State} {m : MethodId} {args : Array Value} {below : List Frame} {meth : Method} {c : Code} {H : Heap} {locs : List Loc} {cells slots mc ms : Nat} {cc : ByteArray} {pc : Nat} {ls : Array Slot} {D : va_G} {A : Nat → Prop}
theorem e_int {post : Int32 → va_W → Prop} {u : va_W} {v : Int32} (hx : p.tables.exec = Jvm.exec) (hb : c.code = cc) (hr : meth.sig.returnType = some .int) (hlk : meth.locks = false) (d : decode cc pc = .ok (.ireturn, 1)) (hS : va_S A s.heap H locs) (hP : va_P D vwCl u H) (hD : va_D A u) (hc : cells ≤ mc) (hs : slots ≤ ms) (hp : post v u) : W p l e R s m args below meth c H locs cells slots (MQ below (qI D post A) args s mc ms A) (F0 m pc ls [.int v]) :=
  W.widen hc hs (W.iret hx hb hr (fun t ht _ => ⟨⟨v, u, rfl, hp, by rw [ht]; exact hP, hD⟩, hS.F ht⟩) hS.2.2 d (hlocks := hlk))
theorem e_bool {post : Int32 → va_W → Prop} {u : va_W} {v : Bool} (hx : p.tables.exec = Jvm.exec) (hb : c.code = cc) (hr : meth.sig.returnType = some .boolean) (hlk : meth.locks = false) (d : decode cc pc = .ok (.ireturn, 1)) (hS : va_S A s.heap H locs) (hP : va_P D vwCl u H) (hD : va_D A u) (hc : cells ≤ mc) (hs : slots ≤ ms) (hp : post (iv (b2i v)) u) : W p l e R s m args below meth c H locs cells slots (MQ below (qI D post A) args s mc ms A) (F0 m pc ls [.int (iv (b2i v))]) :=
  W.widen hc hs (W.zret hx hb hr (by cases v <;> decide) (fun t ht _ => ⟨⟨_, u, rfl, hp, by rw [ht]; exact hP, hD⟩, hS.F ht⟩) hS.2.2 d (hlocks := hlk))
theorem e_long {post : Int64 → va_W → Prop} {u : va_W} {v : Int64} (hx : p.tables.exec = Jvm.exec) (hb : c.code = cc) (hr : meth.sig.returnType = some .long) (hlk : meth.locks = false) (d : decode cc pc = .ok (.lreturn, 1)) (hS : va_S A s.heap H locs) (hP : va_P D vwCl u H) (hD : va_D A u) (hc : cells ≤ mc) (hs : slots ≤ ms) (hp : post v u) : W p l e R s m args below meth c H locs cells slots (MQ below (qL D post A) args s mc ms A) (F0 m pc ls [.long v]) :=
  W.widen hc hs (W.lret hx hb hr (fun t ht _ => ⟨⟨v, u, rfl, hp, by rw [ht]; exact hP, hD⟩, hS.F ht⟩) hS.2.2 d (hlocks := hlk))
theorem e_void {post : va_W → Prop} {u : va_W} (hx : p.tables.exec = Jvm.exec) (hb : c.code = cc) (hr : meth.sig.returnType = none) (hlk : meth.locks = false) (d : decode cc pc = .ok (.return_, 1)) (hS : va_S A s.heap H locs) (hP : va_P D vwCl u H) (hD : va_D A u) (hc : cells ≤ mc) (hs : slots ≤ ms) (hp : post u) : W p l e R s m args below meth c H locs cells slots (MQ below (qV D post A) args s mc ms A) (F0 m pc ls []) :=
  W.widen hc hs (W.vret hx hb hr (fun t ht _ => ⟨⟨u, rfl, hp, by rw [ht]; exact hP, hD⟩, hS.F ht⟩) hS.2.2 d (hlocks := hlk))
theorem e_ref {post : Nat → va_W → Prop} {u : va_W} {a : Nat} {rt : FieldType} (hx : p.tables.exec = Jvm.exec) (hb : c.code = cc) (hr : meth.sig.returnType = some rt) (hrt : (∃ n, rt = .object n) ∨ ∃ t, rt = .array t) (hlk : meth.locks = false) (d : decode cc pc = .ok (.areturn, 1)) (hS : va_S A s.heap H locs) (hP : va_P D vwCl u H) (hD : va_D A u) (hc : cells ≤ mc) (hs : slots ≤ ms) (hp : post a u) : W p l e R s m args below meth c H locs cells slots (MQ below (qR D post A) args s mc ms A) (F0 m pc ls [.ref a]) :=
  W.widen hc hs (W.aret hx hb hr hrt (Or.inr ⟨a, rfl⟩) (fun t ht _ => ⟨⟨u, a, rfl, trivial, hp, by rw [ht]; exact hP, hD⟩, hS.F ht⟩) hS.2.2 d (hlocks := hlk))
end ENDS
section CALLS
variable {p : Program} {l : Launch} {e : Env} {R : Room} {s : State} {m : MethodId} {args : Array Value} {below : List Frame} {meth : Method} {c : Code} {H : Heap} {locs : List Loc} {cells slots mc ms : Nat} {cc : ByteArray} {pc : Nat} {ls : Array Slot} {D : va_G} {A : Nat → Prop} {Q : State → Prop}
variable {tys : List (ClassId × FieldType)} {ws wc wr : va_W} {H0 : Heap} {As rest st0 : List Value} {f lc : Nat}
theorem w_blind (D : va_G) (tys : List (ClassId × FieldType)) (av : List Value) (w : va_W) (sz : Nat) : FrameBlind (wPre D tys av w sz) := fun a U g mk q => by
  obtain ⟨q0, q1, qP, qK, qD⟩ := q
  exact ⟨q0, q1, qP, va_K.moved (u := U) (U := U.calling g mk a) (Vm.Alike.refl U.vm) qK, qD⟩
theorem w_pre (hK : va_K D vwCl tys s) (hP : va_P D vwCl ws H) (hD : va_D A ws) (hp : ws.Perm (wc ++ wr)) (av : List Value) : ∀ U : State, U.heap = H → s.WarmedH U.vm → wPre D tys av wc H.size av.toArray U := fun U hU hW =>
  ⟨rfl, by rw [hU], by rw [hU]; exact (wP_app.mp (wP_perm hP hp)).1, va_K.moved hW.alike hK, (wD_app1 (wD_perm hD hp)).weaken (fun _ _ _ _ => trivial)⟩
theorem w_recv {b q0 ci : Nat} {fs : List Value} {r : vw_C} (hK : va_K D vwCl tys s) (hP : va_P D vwCl ws H) (hc : vwCl[ci]? = some r) (he : ws[q0]? = some (b, .inr (ci, fs))) : ∃ cell : Cell, H[b]? = some cell ∧ cell.vm.isStatics = false ∧ s.vm.findClass r.1 = some cell.cls := va_recv hK hP hc he
theorem g_V {Ts ws1 : List Cond} {nL maxL n index : Nat} {own C : String} {y : MethodName} {bytes : ByteArray} {ret : Option FieldType} {qc : QcT} {b q0 ci : Nat} {fs : List Value} {r : vw_C} (S : CallFix p m c cc nL s args Ts own) (hM : MtG l y ws1 f lc mc ms D tys (.ref b :: As) wc qc) (cw : CallW R s args own C index y bytes maxL ret ws1 (rmOf f lc mc ms) mc ms n) (hK : va_K D vwCl tys s) (hP : va_P D vwCl ws H) (hD : va_D A ws) (hp : ws.Perm (wc ++ wr)) (he : ws[q0]? = some (b, .inr (ci, fs))) (hc : vwCl[ci]? = some r) (hC : r.1 = C) (hn : As.length = n) (hsize : ls.size = nL) (hst : st0 = As.reverse ++ .ref b :: rest) (hW : (rest.map fun v => v.category).sum ≤ 8) (d : decode cc pc = .ok (.invokevirtual index, 3)) (hf : cells + mc ≤ R.cells ∧ slots + ms ≤ R.slots) : va_Run p l e R s m args below meth c H locs cells slots mc ms (F0 m pc ls st0) rest (qc (va_A wc H.size) (Value.ref b :: As).toArray) (va_A wc H.size) := by
  subst hC
  exact va_runV (g := F0 m pc ls st0) S (hM H.size) cw ⟨w_blind _ _ _ _ _, w_recv hK hP hc he, w_pre hK hP hD hp _⟩ rfl hn hsize hst (by simpa [JFrame.monitorRoom] using hW) d hf
theorem g_S {Ts ws1 : List Cond} {nL maxL n index : Nat} {own : String} {y : MethodName} {bytes : ByteArray} {ret : Option FieldType} {qc : QcT} (S : CallFix p m c cc nL s args Ts own) (hM : MtG l y ws1 f lc mc ms D tys As wc qc) (cw : CallB R s args own index y bytes maxL ret ws1 (rmOf f lc mc ms) mc ms n ∧ (Cond.static y).before args s = true) (hK : va_K D vwCl tys s) (hP : va_P D vwCl ws H) (hD : va_D A ws) (hp : ws.Perm (wc ++ wr)) (hn : As.length = n) (hsize : ls.size = nL) (hst : st0 = As.reverse ++ rest) (hW : (rest.map fun v => v.category).sum ≤ 8) (d : decode cc pc = .ok (.invokestatic index, 3)) (hf : cells + mc ≤ R.cells ∧ slots + ms ≤ R.slots) : va_Run p l e R s m args below meth c H locs cells slots mc ms (F0 m pc ls st0) rest (qc (va_A wc H.size) As.toArray) (va_A wc H.size) :=
  va_runS (g := F0 m pc ls st0) S (hM H.size) cw ⟨w_blind _ _ _ _ _, w_pre hK hP hD hp _⟩ rfl hn hsize hst (by simpa [JFrame.monitorRoom] using hW) d hf
theorem g_I {Ts ws1 : List Cond} {nL maxL n index : Nat} {own : String} {y : MethodName} {bytes : ByteArray} {qc : QcT} {b : Nat} (S : CallFix p m c cc nL s args Ts own) (hM : MtG l y ws1 f lc mc ms D tys (.ref b :: As) wc qc) (cw : CallB R s args own index y bytes maxL none ws1 (rmOf f lc mc ms) mc ms n ∧ y.name = "<init>" ∧ (Cond.instanceMethod y).before args s = true) (hK : va_K D vwCl tys s) (hP : va_P D vwCl ws H) (hD : va_D A ws) (hp : ws.Perm (wc ++ wr)) (hn : As.length = n) (hsize : ls.size = nL) (hst : st0 = As.reverse ++ .ref b :: rest) (hW : (rest.map fun v => v.category).sum ≤ 8) (d : decode cc pc = .ok (.invokespecial index, 3)) (hf : cells + mc ≤ R.cells ∧ slots + ms ≤ R.slots) : va_Run p l e R s m args below meth c H locs cells slots mc ms (F0 m pc ls st0) rest (qc (va_A wc H.size) (Value.ref b :: As).toArray) (va_A wc H.size) :=
  va_runI (g := F0 m pc ls st0) S (hM H.size) cw ⟨w_blind _ _ _ _ _, w_pre hK hP hD hp _⟩ rfl hn hsize hst (by simpa [JFrame.monitorRoom] using hW) d hf
theorem k_int {post : Int32 → va_W → Prop} {a : Array Value} (hr : va_Run p l e R s m args below meth c H locs cells slots mc ms (F0 m pc ls st0) rest (qI D post (va_A wc H.size) a) (va_A wc H.size)) (hP : va_P D vwCl ws H) (hD : va_D A ws) (hS : va_S A H0 H locs) (hA : ∀ q, H0.size ≤ q → A q) (hp : ws.Perm (wc ++ wr))
    (kk : ∀ (v : Int32) (u : va_W) (H1 : Heap) (locs1 : List Loc), post v u → va_P D vwCl (u ++ wr) H1 → va_D A (u ++ wr) → va_S A H0 H1 locs1 → W p l e R s m args below meth c H1 locs1 (cells + mc) (slots + ms) Q (F0 m (pc + 3) ls (.int v :: rest))) : W p l e R s m args below meth c H locs cells slots Q (F0 m pc ls st0) := by
  have hF := wF hD hS hA hp
  refine va_calli hr hS (fun q _ h => hF q h) hF (fun v u t H1 locs1 ht _ hw hB _ hk hS1 => ?_)
  obtain ⟨hP1, hD1⟩ := hB
  rw [ht] at hP1
  obtain ⟨g1, g2⟩ := wJ hP hD hp hk hF hP1 hD1
  exact kk v u H1 locs1 hw g1 g2 hS1
theorem k_long {post : Int64 → va_W → Prop} {a : Array Value} (hr : va_Run p l e R s m args below meth c H locs cells slots mc ms (F0 m pc ls st0) rest (qL D post (va_A wc H.size) a) (va_A wc H.size)) (hP : va_P D vwCl ws H) (hD : va_D A ws) (hS : va_S A H0 H locs) (hA : ∀ q, H0.size ≤ q → A q) (hp : ws.Perm (wc ++ wr))
    (kk : ∀ (v : Int64) (u : va_W) (H1 : Heap) (locs1 : List Loc), post v u → va_P D vwCl (u ++ wr) H1 → va_D A (u ++ wr) → va_S A H0 H1 locs1 → W p l e R s m args below meth c H1 locs1 (cells + mc) (slots + ms) Q (F0 m (pc + 3) ls (.long v :: rest))) : W p l e R s m args below meth c H locs cells slots Q (F0 m pc ls st0) := by
  have hF := wF hD hS hA hp
  refine va_calll hr hS (fun q _ h => hF q h) hF (fun v u t H1 locs1 ht _ hw hB _ hk hS1 => ?_)
  obtain ⟨hP1, hD1⟩ := hB
  rw [ht] at hP1
  obtain ⟨g1, g2⟩ := wJ hP hD hp hk hF hP1 hD1
  exact kk v u H1 locs1 hw g1 g2 hS1
theorem k_void {post : va_W → Prop} {a : Array Value} (hr : va_Run p l e R s m args below meth c H locs cells slots mc ms (F0 m pc ls st0) rest (qV D post (va_A wc H.size) a) (va_A wc H.size)) (hP : va_P D vwCl ws H) (hD : va_D A ws) (hS : va_S A H0 H locs) (hA : ∀ q, H0.size ≤ q → A q) (hp : ws.Perm (wc ++ wr))
    (kk : ∀ (u : va_W) (H1 : Heap) (locs1 : List Loc), post u → va_P D vwCl (u ++ wr) H1 → va_D A (u ++ wr) → va_S A H0 H1 locs1 → W p l e R s m args below meth c H1 locs1 (cells + mc) (slots + ms) Q (F0 m (pc + 3) ls rest)) : W p l e R s m args below meth c H locs cells slots Q (F0 m pc ls st0) := by
  have hF := wF hD hS hA hp
  refine va_callv hr hS (fun q _ h => hF q h) hF (fun u t H1 locs1 ht _ hw hB _ hk hS1 => ?_)
  obtain ⟨hP1, hD1⟩ := hB
  rw [ht] at hP1
  obtain ⟨g1, g2⟩ := wJ hP hD hp hk hF hP1 hD1
  exact kk u H1 locs1 hw g1 g2 hS1
theorem k_ref {post : Nat → va_W → Prop} {a : Array Value} (hr : va_Run p l e R s m args below meth c H locs cells slots mc ms (F0 m pc ls st0) rest (qR D post (va_A wc H.size) a) (va_A wc H.size)) (hP : va_P D vwCl ws H) (hD : va_D A ws) (hS : va_S A H0 H locs) (hA : ∀ q, H0.size ≤ q → A q) (hp : ws.Perm (wc ++ wr))
    (kk : ∀ (v : Nat) (u : va_W) (H1 : Heap) (locs1 : List Loc), post v u → va_P D vwCl (u ++ wr) H1 → va_D A (u ++ wr) → va_S A H0 H1 locs1 → W p l e R s m args below meth c H1 locs1 (cells + mc) (slots + ms) Q (F0 m (pc + 3) ls (.ref v :: rest))) : W p l e R s m args below meth c H locs cells slots Q (F0 m pc ls st0) := by
  have hF := wF hD hS hA hp
  refine va_callr hr hS (fun q _ h => hF q h) hF (fun u v t H1 locs1 ht _ _ hB _ hk hS1 => ?_)
  obtain ⟨hw, hP1, hD1⟩ := hB
  rw [ht] at hP1
  obtain ⟨g1, g2⟩ := wJ hP hD hp hk hF hP1 hD1
  exact kk v u H1 locs1 hw g1 g2 hS1
end CALLS
