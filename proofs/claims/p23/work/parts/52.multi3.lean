-- new int[n][6][3]: the row
section M3
variable {p : Program} {l : Launch} {e : Env} {R : Room} {s : State} {m : MethodId} {args : Array Value} {below : List Frame} {meth : Method} {c : Code} {H H0 : Heap} {locs : List Loc} {cells slots : Nat} {cc : ByteArray} {pc : Nat} {ls : Array Slot} {D : va_G} {A : Nat → Prop} {Q : State → Prop} {rest : List Value} {ws : va_W}
set_option maxHeartbeats 1000000 in
theorem st_m3 {T : State} (X : Stand p l e R s m args below meth c T locs cells slots) (hexec : p.tables.exec = Jvm.exec) {own : String} {index : Nat} (hown : s.vm.findClass own = some m.cls) (hclink : (Cond.classLink own index "[[[I").before args s = true) (ho3 : AOJ s) (ho2 : AOI s) (harr : (Cond.arrayClass .int).before args s = true) {g : JFrame} (hg : g.method = m) (hdg : decode c.code g.pc = .ok (.multianewarray index 3, 4)) {n x6 x3 : Int32} (hstack : g.stack = .int x3 :: .int x6 :: .int n :: rest) (hn : ¬ n < 0) (h6 : ¬ x6 < 0) (h3 : ¬ x3 < 0) (e6 : x6.toNatClampNeg = 6) (e3 : x3.toNatClampNeg = 3) (hN : n.toNatClampNeg < 1000) (hcells : cells + (1 + 7 * n.toNatClampNeg) ≤ R.cells) (hslots : slots + (n.toNatClampNeg + 24 * n.toNatClampNeg) ≤ R.slots) :
    ∃ (vm₁ : Vm) (cO cM cI : ClassId), s.vm.findClass ("[" ++ (FieldType.array (.array .int)).toString) = some cO ∧ s.vm.findClass ("[" ++ (FieldType.array .int).toString) = some cM ∧ s.vm.findClass ("[" ++ FieldType.int.toString) = some cI ∧
      Stand p l e R s m args below meth c (f3 (T.setVm vm₁) cO cM cI n.toNatClampNeg (.int 0) n.toNatClampNeg) locs (cells + 1 + 7 * n.toNatClampNeg) (slots + n.toNatClampNeg + 24 * n.toNatClampNeg) ∧
      ∀ target, Steps p.tables e below ((f3 (T.setVm vm₁) cO cM cI n.toNatClampNeg (.int 0) n.toNatClampNeg).setTop { g with pc := g.pc + 4, stack := .ref T.heap.size :: rest }) target → Steps p.tables e below (T.setTop g) target := by
  subst hg
  have hpl : e.platform.magicAccessors = ({} : Platform).magicAccessors := by rw [X.admits.platform]
  obtain ⟨cM, cO, kO, hcM, -, hkO, hkindO, hnO⟩ := arrayOverA_spec ho3
  obtain ⟨cI, cM', kM, hcI, -, hkM, hkindM, hnM⟩ := arrayOverA_spec ho2
  obtain ⟨cI', kI, c9, hcI', hkI, hkindI⟩ := Cond.arrayClass_spec harr
  have eM : cM' = cM := Option.some.inj (Eq.trans (Eq.symm hnM) hcM)
  subst eM
  have eI : cI' = cI := Option.some.inj (Eq.trans (Eq.symm hcI') hcI)
  subst eI
  obtain ⟨c0, hfc0, hcl⟩ := Cond.classLink_spec hown hclink e.platform hpl
  have e0 : c0 = cO := Option.some.inj (Eq.trans (Eq.symm hfc0) hnO)
  subst e0
  obtain ⟨hg₁, hwarm₁, hready₁⟩ := State.classEntry (e := e) X.warmed hcl
  generalize T.vm.noted g.method.cls index (.cls c0) = vm₁ at hg₁ hwarm₁ hready₁
  have hal : s.vm.Alike vm₁ := hwarm₁.alike
  obtain ⟨kO₁, hkO₁, heO⟩ := hal.2.2 _ _ hkO
  obtain ⟨kM₁, hkM₁, heM⟩ := hal.2.2 _ _ hkM
  obtain ⟨kI₁, hkI₁, heI⟩ := hal.2.2 _ _ hkI
  have hO₁ : kO₁.kind = .array cM' (.array (.array .int)) := by rw [heO]; exact hkindO
  have hM₁ : kM₁.kind = .array cI' (.array .int) := by rw [heM]; exact hkindM
  have hI₁ : kI₁.kind = .array c9 .int := by rw [heI]; exact hkindI
  have X₁ := X.noted hwarm₁
  obtain ⟨hr1, hr2⟩ := X.roomAbove hcells hslots
  refine ⟨vm₁, c0, cM', cI', hnO, hnM, hcI, st3 X₁ c0 cM' cI' _ _ _, fun target hrest => ?_⟩
  have hlim := Launch.admits_arrayLengthLimit X.admits
  have hheap := Launch.admits_maxHeapBytes X.admits
  jvm_step X.here [hexec, hdg]
  simp only [multianewarray.sem, wp_bind', W.resolveClassAt_links (State.method?_setTop g X.here.top) hg₁]
  rw [W.popN, if_neg (by decide)]
  refine ⟨g, State.topJava?_setTop' (s := T.setVm vm₁) g X.here.top, [.int n, .int x6, .int x3], rest, rfl, hstack, ?_⟩
  simp only [List.mapM_cons, List.mapM_nil, wp_bind', wp_pure']
  refine wp_m3 (kO := kO₁) (kM := kM₁) (kI := kI₁) (cM := cM') (cI := cI') (c9 := c9) hkO₁ hO₁ hkM₁ hM₁ hkI₁ hI₁ hn h6 h3 e6 e3 (by rw [hlim]; omega) (by rw [hheap]; omega) (by rw [hlim]; omega) (by rw [hheap]; omega) (by show T.heap.size + 1 + _ ≤ _; omega) (by show T.slotsUsed + _ + _ ≤ _; omega) (fun d' acts' => ?_)
  have XF := st3 X₁ c0 cM' cI' n.toNatClampNeg (.int 0) n.toNatClampNeg
  have eS : ((T.setTop g).setVm vm₁).setTop { g with stack := rest } = (T.setVm vm₁).setTop { g with stack := rest } := by
    show ((T.setVm vm₁).setTop g).setTop _ = _
    rw [State.setTop_setTop]
  rw [eS, f3_setTop]
  simp only [wp_bind', W.mark, W.pushRef, State.topJava?_setTop' _ XF.here.top, Option.some.injEq, exists_eq_left', State.setTop_setTop, State.heap_setTop]
  intro acts
  simp [jvm, XF.here.top]
  exact hrest
/-- the cells of n rows of six rows of three, from the address h on -/
def n3 (G : Nat → ClassId) (y : Nat → Nat) (z : Nat → Nat → Nat) (N : Nat) : va_W := (List.range N).flatMap (fun i => [(y i, .inl (G 4, 6, .inr (.inr (.inr (.inr (fun j => if j < 6 then some (z i j) else none))))))] ++ (List.range 6).flatMap (fun j => [(z i j, .inl (G 0, 3, .inl (fun w => iv (zz w))))]))
theorem n3_addr (G : Nat → ClassId) (h : Nat) : ∀ N : Nat, (n3 G (fun i => h + 1 + 7 * i) (fun i j => h + 1 + 7 * i + 1 + j) N).map (fun q => q.1) = (List.range (7 * N)).map (fun x => h + 1 + x)
  | 0 => rfl
  | N + 1 => by
    have ih := n3_addr G h N
    unfold n3 at ih ⊢
    rw [fm_snoc, List.map_append, ih, show 7 * (N + 1) = 7 * N + 1 + 1 + 1 + 1 + 1 + 1 + 1 by omega]
    simp only [List.range_succ, List.map_append, List.append_assoc, List.map_cons, List.map_nil]
    simp [Nat.add_assoc, List.range_succ]
set_option maxHeartbeats 1000000 in
theorem r_mna3 {G : Nat → ClassId} {own : String} {index : Nat} (hx : p.tables.exec = Jvm.exec) (hb : c.code = cc) (hown : s.vm.findClass own = some m.cls) (hlink : (Cond.classLink own index "[[[I").before args s = true) (ho3 : AOJ s) (ho2 : AOI s) (harr : (Cond.arrayClass .int).before args s = true) (hK : va_K D vwCl (TY G) s) (hP : va_P D vwCl ws H) (hD : va_D A ws) (hS : va_S A H0 H locs) (hA : ∀ q, H0.size ≤ q → A q) (N : Nat) {x : Int} (hz : x = (N : Int)) (hN : N < 1000) (hcells : cells + (1 + 7 * N) ≤ R.cells) (hslots : slots + (N + 24 * N) ≤ R.slots) (d : decode cc pc = .ok (.multianewarray index 3, 4))
    (kk : ∀ (q : Nat) (y : Nat → Nat) (z : Nat → Nat → Nat) (H : Heap), va_P D vwCl (ws ++ ([(q, .inl (G 6, N, .inr (.inr (.inr (.inr (fun i => if i < N then some (y i) else none))))))] ++ n3 G y z N)) H → va_D A (ws ++ ([(q, .inl (G 6, N, .inr (.inr (.inr (.inr (fun i => if i < N then some (y i) else none))))))] ++ n3 G y z N)) → va_S A H0 H locs → W p l e R s m args below meth c H locs (cells + 1 + 7 * N) (slots + N + 24 * N) Q (F0 m (pc + 4) ls (.ref q :: rest))) : W p l e R s m args below meth c H locs cells slots Q (F0 m pc ls (.int (iv 3) :: .int (iv 6) :: .int (iv x) :: rest)) := by
  subst hz
  have h2 : (iv (N : Int)).toNatClampNeg = N := (iv_ix rfl (Nat.lt_succ_self N) (by omega)).2
  have h3 : ¬ iv (N : Int) < 0 := fun q => by have := (iv_lt (a := (N : Int)) (b := 0) (by omega) (by decide)).mp q; omega
  intro T hT Xs
  obtain ⟨vm₁, cO, cM, cI, fO, fM, fI, X', step⟩ := st_m3 Xs hx hown hlink ho3 ho2 harr (g := F0 m pc ls (.int (iv 3) :: .int (iv 6) :: .int (iv (N : Int)) :: rest)) rfl (by rw [hb]; exact d) rfl h3 (by decide) (by decide) (by decide) (by decide) (by rw [h2]; exact hN) (by rw [h2]; exact hcells) (by rw [h2]; exact hslots)
  rw [h2] at X' step
  have r6 := (hK.2 6 (G 6, .array (.array .int)) rfl).2
  have r4 := (hK.2 4 (G 4, .array .int) rfl).2
  have r0 := (hK.2 0 (G 0, .int) rfl).2
  have eO : cO = G 6 := Option.some.inj (Eq.trans (Eq.symm fO) r6)
  have eM : cM = G 4 := Option.some.inj (Eq.trans (Eq.symm fM) r4)
  have eI : cI = G 0 := Option.some.inj (Eq.trans (Eq.symm fI) r0)
  subst eO
  subst eM
  subst eI
  have hTh : (T.setVm vm₁).heap = H := hT
  obtain ⟨f1, f2, -, -⟩ := f3_facts (T.setVm vm₁) (G 6) (G 4) (G 0) N (.int 0) N
  have hold : ∀ a : Nat, a < H.size → (f3 (T.setVm vm₁) (G 6) (G 4) (G 0) N (.int 0) N).heap[a]? = H[a]? := fun a ha => by
    have := f3_old (T.setVm vm₁) (G 6) (G 4) (G 0) N (.int 0) (a := a) (by rw [hTh]; exact ha) N
    rw [hTh] at this
    exact this
  have hmid : ∀ i : Nat, i < N → (f3 (T.setVm vm₁) (G 6) (G 4) (G 0) N (.int 0) N).heap[H.size + 1 + 7 * i]? = some (vp_cell (G 4) (6, .inr (.inr (.inr (.inr (fun j => if j < 6 then some (H.size + 1 + 7 * i + 1 + j) else none)))))) := fun i hi => by
    have := f3_mid (T.setVm vm₁) (G 6) (G 4) (G 0) N (.int 0) N i hi
    rw [hTh] at this
    rw [this, vr_outer, vp_cell_q]
  have hin : ∀ i j : Nat, i < N → j < 6 → (f3 (T.setVm vm₁) (G 6) (G 4) (G 0) N (.int 0) N).heap[H.size + 1 + 7 * i + 1 + j]? = some (vp_cell (G 0) (3, .inl (fun w => iv (zz w)))) := fun i j hi hj => by
    have := f3_in (T.setVm vm₁) (G 6) (G 4) (G 0) N (.int 0) N i j hi hj
    rw [hTh] at this
    rw [this, ← inner_eq]
    rfl
  rw [hTh] at f1 f2
  rw [o3_out] at f2
  generalize f3 (T.setVm vm₁) (G 6) (G 4) (G 0) N (.int 0) N = F at X' step f1 f2 hold hmid hin
  have hP1 : va_P D vwCl (ws ++ ([(H.size, .inl (G 6, N, .inr (.inr (.inr (.inr (fun i => if i < N then some (H.size + 1 + 7 * i) else none))))))] ++ n3 G (fun i => H.size + 1 + 7 * i) (fun i j => H.size + 1 + 7 * i + 1 + j) N)) F.heap := by
    refine wP_app.mpr ⟨hP.kept (fun k9 q hq => hold q.1 ((hP k9 q hq).lt)), wP_iff.mpr fun q hq => ?_⟩
    rcases List.mem_append.mp hq with h | h
    · rw [List.mem_singleton] at h
      subst h
      show F.heap[H.size]? = some (vp_cell _ _)
      rw [f2, vp_cell_q]
    · unfold n3 at h
      obtain ⟨i, hi, h⟩ := List.mem_flatMap.mp h
      have hi := List.mem_range.mp hi
      rcases List.mem_append.mp h with h | h
      · rw [List.mem_singleton] at h
        subst h
        exact hmid i hi
      · obtain ⟨j, hj, h⟩ := List.mem_flatMap.mp h
        have hj := List.mem_range.mp hj
        rw [List.mem_singleton] at h
        subst h
        exact hin i j hi hj
  have hD1 : va_D A (ws ++ ([(H.size, .inl (G 6, N, .inr (.inr (.inr (.inr (fun i => if i < N then some (H.size + 1 + 7 * i) else none))))))] ++ n3 G (fun i => H.size + 1 + 7 * i) (fun i j => H.size + 1 + 7 * i + 1 + j) N)) := by
    obtain ⟨d1, d2⟩ := wD_iff.mp hD
    have hnew : ∀ a ∈ (([(H.size, (.inl (G 6, N, .inr (.inr (.inr (.inr (fun i => if i < N then some (H.size + 1 + 7 * i) else none)))) ) : va_E))] : va_W) ++ n3 G (fun i => H.size + 1 + 7 * i) (fun i j => H.size + 1 + 7 * i + 1 + j) N).map (fun q => q.1), H.size ≤ a := by
      intro a ha
      rw [List.map_append, n3_addr] at ha
      rcases List.mem_append.mp ha with h | h
      · rw [List.map_cons, List.map_nil, List.mem_singleton] at h
        omega
      · obtain ⟨k9, -, h⟩ := List.mem_map.mp h
        omega
    refine wD_iff.mpr ⟨?_, fun q hq => ?_⟩
    · rw [List.map_append, List.nodup_append]
      refine ⟨d1, ?_, ?_⟩
      · rw [List.map_append, n3_addr, List.nodup_append]
        refine ⟨by simp, ?_, ?_⟩
        · unfold List.Nodup
          rw [List.pairwise_map]
          exact (List.nodup_range (n := 7 * N)).imp (fun h h2 => h (by omega))
        · intro a ha b hb2 hab
          rw [List.map_cons, List.map_nil, List.mem_singleton] at ha
          obtain ⟨k9, -, h⟩ := List.mem_map.mp hb2
          omega
      · intro a ha b hb2 hab
        obtain ⟨q, hq, rfl⟩ := List.mem_map.mp ha
        have h1 := (wP_iff.mp hP q hq).lt
        have h4 := hnew b hb2
        omega
    · rcases List.mem_append.mp hq with h | h
      · exact d2 q h
      · exact hA _ (Nat.le_trans hS.1 (hnew q.1 (List.mem_map.mpr ⟨q, h, rfl⟩)))
  obtain ⟨t, a1, b1⟩ := kk H.size (fun i => H.size + 1 + 7 * i) (fun i j => H.size + 1 + 7 * i + 1 + j) F.heap hP1 hD1 ⟨by rw [f1]; have := hS.1; omega, fun x h1 h2 => (hold x (Nat.lt_of_lt_of_le h1 hS.1)).trans (hS.2.1 x h1 h2), hS.2.2⟩ F rfl X'
  refine ⟨t, step t ?_, b1⟩
  have e9 : T.heap.size = H.size := by rw [hT]
  rw [e9]
  exact a1
end M3
