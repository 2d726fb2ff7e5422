-- ROWS OF ROWS
section RRW
variable {p : Program} {l : Launch} {e : Env} {R : Room} {s : State} {m : MethodId} {args : Array Value} {below : List Frame} {meth : Method} {c : Code} {H H0 : Heap} {locs : List Loc} {cells slots : Nat} {cc : ByteArray} {pc : Nat} {ls : Array Slot} {D : va_G} {A : Nat → Prop} {Q : State → Prop} {rest : List Value} {ws : va_W}
theorem r_aaldA {tys : List (ClassId × FieldType)} {a : Nat} (hx : p.tables.exec = Jvm.exec) (hb : c.code = cc) (hK : va_K D vwCl tys s) (hP : va_P D vwCl ws H) (q0 t0 : Nat) {cA : ClassId} {ty : FieldType} {n : Nat} {f : Nat → Option Nat} (ha : ws[q0]? = some (a, .inl (cA, n, .inr (.inr (.inr (.inr f)))))) (ht : tys[t0]? = some (cA, .array ty)) {z : Int} (k : Nat) (hz : z = (k : Int)) (hkn : k < n) (hn : n < 2147483648) (d : decode cc pc = .ok (.aaload, 1)) (kk : W p l e R s m args below meth c H locs cells slots Q (F0 m (pc + 1) ls (va_rf (f k) :: rest))) : W p l e R s m args below meth c H locs cells slots Q (F0 m pc ls (.int (iv z) :: .ref a :: rest)) := by
  obtain ⟨hin, h2⟩ := iv_ix hz hkn hn
  have hlt : (iv z).toNatClampNeg < n := Nat.not_le.mp fun q => hin (Or.inr q)
  refine W.aald (v := va_rf (f (iv z).toNatClampNeg)) hx hb (hP q0 _ ha) ((hK.2 t0 _ ht).1 n (fun j => va_rf (f j))) rfl (fun q => by cases q) (by show ¬ (_ < 0 ∨ (arrV _ _ _).slots.size ≤ _); rw [arrV_size]; exact hin) (by show (arrV _ _ _).slots[_]? = _; rw [arrV_read _ _ hlt]) rfl rfl d ?_
  rw [h2]
  exact kk
/-- x >> y: any number -/
theorem r_shr (hx : p.tables.exec = Jvm.exec) (hb : c.code = cc) {x y : Int} (d : decode cc pc = .ok (.ishr, 1)) (kk : ∀ z : Int, W p l e R s m args below meth c H locs cells slots Q (F0 m (pc + 1) ls (.int (iv z) :: rest))) : W p l e R s m args below meth c H locs cells slots Q (F0 m pc ls (.int (iv y) :: .int (iv x) :: rest)) :=
  lv_ishr hx hb d (by rw [← iv_of (iv x >>> (iv y &&& 31))]; exact kk _)
theorem and_max (x : Int32) : ∃ k : Nat, k < 2147483648 ∧ x &&& 2147483647 = iv (k : Int) := by
  have h2 : (x.toUInt32 &&& 2147483647).toNat < 2147483648 := by
    rw [UInt32.toNat_and]
    exact Nat.lt_of_le_of_lt Nat.and_le_right (by decide)
  refine ⟨(x.toUInt32 &&& 2147483647).toNat, h2, ?_⟩
  have e1 : x &&& 2147483647 = (x.toUInt32 &&& 2147483647).toInt32 := rfl
  rw [e1, ← iv_nI]
  generalize x.toUInt32 &&& 2147483647 = y
  unfold nI
  apply Int32.toBitVec_inj.mp
  show y.toBitVec = BitVec.ofNat 32 y.toNat
  rw [show y.toNat = y.toBitVec.toNat from rfl, BitVec.ofNat_toNat, BitVec.setWidth_eq]
theorem inner_eq (cI : ClassId) (K : Nat) : Jvm.Free.Multi.innerC cI K (defaultValue .int) = vp_cell cI (K, .inl (fun j => iv (zz j))) := by
  show ({ cls := cI, slots := Array.replicate K (.int 0), vm := .none } : Cell) = _
  rw [arrV_new, vp_cell_i]
  rfl
theorem map_flat {β : Type} (f : Nat → β) : ∀ (L : List Nat), L.map f = L.flatMap (fun i => [f i])
  | [] => rfl
  | x :: L => by rw [List.map_cons, List.flatMap_cons, map_flat f L]; rfl
set_option maxHeartbeats 1000000 in
/-- new int[N][K] -/
theorem r_mna2 {G : Nat → ClassId} {own : String} {index : Nat} (hx : p.tables.exec = Jvm.exec) (hb : c.code = cc) (hown : s.vm.findClass own = some m.cls) (hlink : (Cond.classLink own index "[[I").before args s = true) (ho : AOI s) (harr : (Cond.arrayClass .int).before args s = true) (hK : va_K D vwCl (TY G) s) (hP : va_P D vwCl ws H) (hD : va_D A ws) (hS : va_S A H0 H locs) (hA : ∀ q, H0.size ≤ q → A q) (N K : Nat) {z y : Int} (hz : z = (N : Int)) (hy : y = (K : Int)) (hN : N < 1000) (hKN : K < 1000) (hcells : cells + (1 + N) ≤ R.cells) (hslots : slots + (N + N * K) ≤ R.slots) (d : decode cc pc = .ok (.multianewarray index 2, 4))
    (kk : ∀ (q : Nat) (r : Nat → Nat) (H : Heap), va_P D vwCl (ws ++ ([(q, .inl (G 4, N, .inr (.inr (.inr (.inr (fun i => if i < N then some (r i) else none))))))] ++ (List.range N).flatMap (fun i => [(r i, .inl (G 0, K, .inl (fun j => iv (zz j))))]))) H → va_D A (ws ++ ([(q, .inl (G 4, N, .inr (.inr (.inr (.inr (fun i => if i < N then some (r i) else none))))))] ++ (List.range N).flatMap (fun i => [(r i, .inl (G 0, K, .inl (fun j => iv (zz j))))]))) → va_S A H0 H locs → W p l e R s m args below meth c H locs (cells + 1 + N) (slots + N + N * K) Q (F0 m (pc + 4) ls (.ref q :: rest))) : W p l e R s m args below meth c H locs cells slots Q (F0 m pc ls (.int (iv y) :: .int (iv z) :: rest)) := by
  subst hz
  subst hy
  have h2 : (iv (N : Int)).toNatClampNeg = N := (iv_ix rfl (Nat.lt_succ_self N) (by omega)).2
  have h3 : ¬ iv (N : Int) < 0 := fun q => by have := (iv_lt (a := (N : Int)) (b := 0) (by omega) (by decide)).mp q; omega
  have h4 : (iv (K : Int)).toNatClampNeg = K := (iv_ix rfl (Nat.lt_succ_self K) (by omega)).2
  have h5 : ¬ iv (K : Int) < 0 := fun q => by have := (iv_lt (a := (K : Int)) (b := 0) (by omega) (by decide)).mp q; omega
  have r0 := (hK.2 0 (G 0, .int) rfl).2
  refine va_mna (X := ws) (L := []) (f := fun _ => .inl (G 0, K, .inl (fun j => iv (zz j)))) (ty := .int) (cy := G 0) (z := (K, .inl (fun j => iv (zz j)))) hx hb hown hlink ho harr r0 hK (by rw [show va_pl [] (fun _ => (.inl (G 0, K, .inl (fun j => iv (zz j))) : va_E)) = [] from rfl, List.append_nil]; exact hP) (by rw [show va_pl [] (fun _ => (.inl (G 0, K, .inl (fun j => iv (zz j))) : va_E)) = [] from rfl, List.append_nil]; exact hD) hS hA h3 h5 h2 h4 (by omega) (by show K * 4 ≤ _; omega) (by omega) rfl rfl hcells hslots (fun c => inner_eq c K) d (fun q r cA H1 _ _ k1 g1 g2 g3 => ?_)
  have r1 := (k1.2 7 (cA, .array .int) rfl).2
  have r4 := (hK.2 4 (G 4, .array .int) rfl).2
  have e1 : cA = G 4 := Option.some.inj (Eq.trans (Eq.symm r1) r4)
  subst e1
  have e2 : va_pl ([] ++ (List.range N).map r) (vr_up (fun _ => (.inl (G 0, K, .inl (fun j => iv (zz j))) : va_E)) ((List.range N).map r) (.inl (G 0, K, .inl (fun j => iv (zz j))))) = (List.range N).flatMap (fun i => [(r i, .inl (G 0, K, .inl (fun j => iv (zz j))))]) := by
    rw [List.nil_append]
    unfold va_pl
    rw [List.map_map, ← map_flat]
    apply List.map_congr_left
    intro i hi
    show (r i, vr_up _ _ _ (r i)) = _
    rw [vr_up_in (List.mem_map.mpr ⟨i, hi, rfl⟩)]
  rw [e2, List.append_assoc] at g1 g2
  exact kk q r H1 g1 g2 g3
-- new int[n][6][3]
def o3 (cO : ClassId) (N h0 : Nat) : Nat → Cell
  | 0 => { cls := cO, slots := Array.replicate N .null, vm := .none }
  | i + 1 => (o3 cO N h0 i).setSlot i (.ref (h0 + 1 + 7 * i))
def f3 (U : State) (cO cM cI : ClassId) (N : Nat) (dv : Value) : Nat → State
  | 0 => U.pushCell (o3 cO N U.heap.size 0)
  | i + 1 => (Jvm.Free.Multi.fill (f3 U cO cM cI N dv i) cM cI 6 3 dv 6).setCell U.heap.size (o3 cO N U.heap.size (i + 1))
theorem f3_succ (U : State) (cO cM cI : ClassId) (N : Nat) (dv : Value) (i : Nat) : f3 U cO cM cI N dv (i + 1) = (Jvm.Free.Multi.fill (f3 U cO cM cI N dv i) cM cI 6 3 dv 6).setCell U.heap.size (o3 cO N U.heap.size (i + 1)) := rfl
theorem sc_vm (X : State) (a : Addr) (c : Cell) : (X.setCell a c).vm = X.vm := rfl
theorem sc_sz (X : State) (a : Addr) (c : Cell) : (X.setCell a c).heap.size = X.heap.size := by simp [State.setCell]
theorem o3_facts (cO : ClassId) (N h0 : Nat) : ∀ i, (o3 cO N h0 i).cls = cO ∧ (o3 cO N h0 i).vm = .none ∧ (o3 cO N h0 i).slots.size = N
  | 0 => ⟨rfl, rfl, by simp [o3]⟩
  | i + 1 => by
    obtain ⟨h1, h2, h3⟩ := o3_facts cO N h0 i
    exact ⟨by simp [o3, Cell.setSlot, h1], by simp [o3, Cell.setSlot, h2], by simp [o3, Cell.setSlot, h3]⟩
theorem f3_facts (U : State) (cO cM cI : ClassId) (N : Nat) (dv : Value) : ∀ i, (f3 U cO cM cI N dv i).heap.size = U.heap.size + 1 + 7 * i ∧ (f3 U cO cM cI N dv i).heap[U.heap.size]? = some (o3 cO N U.heap.size i) ∧ (f3 U cO cM cI N dv i).vm = U.vm ∧ (f3 U cO cM cI N dv i).slotsUsed = U.slotsUsed + N + 24 * i
  | 0 => ⟨by simp [f3], by simp [f3], rfl, by simp [f3, o3]⟩
  | i + 1 => by
    obtain ⟨h1, h2, h3, h4⟩ := f3_facts U cO cM cI N dv i
    obtain ⟨g1, g2, g3, g4⟩ := Jvm.Free.Multi.fill_facts (f3 U cO cM cI N dv i) cM cI 6 3 dv 6
    have hlt : U.heap.size < (f3 U cO cM cI N dv i).heap.size := by rw [h1]; omega
    have g5 := Jvm.Free.Multi.fill_old (f3 U cO cM cI N dv i) cM cI 6 3 dv hlt 6
    rw [h2] at g5
    rw [f3_succ]
    refine ⟨?_, State.heap_setCell_self g5, ?_, ?_⟩
    · rw [sc_sz, g1, h1]
      omega
    · rw [sc_vm, g3, h3]
    · rw [State.slotsUsed_setCell, g4, h4]
      omega
theorem f3_setTop (U : State) (g : JFrame) (cO cM cI : ClassId) (N : Nat) (dv : Value) : ∀ i, f3 (U.setTop g) cO cM cI N dv i = (f3 U cO cM cI N dv i).setTop g
  | 0 => rfl
  | i + 1 => by simp only [f3, f3_setTop U g cO cM cI N dv i, Jvm.Free.Multi.fill_setTop, State.heap_setTop, State.setCell_setTop]
theorem f3_old (U : State) (cO cM cI : ClassId) (N : Nat) (dv : Value) {a : Addr} (ha : a < U.heap.size) : ∀ i, (f3 U cO cM cI N dv i).heap[a]? = U.heap[a]?
  | 0 => State.heap_pushCell_of_lt _ _ ha
  | i + 1 => by
    have h1 := (f3_facts U cO cM cI N dv i).1
    have hlt : a < (f3 U cO cM cI N dv i).heap.size := Nat.lt_of_lt_of_le ha (by rw [h1]; omega)
    rw [f3_succ, State.heap_setCell_other (Nat.ne_of_gt ha), Jvm.Free.Multi.fill_old _ cM cI 6 3 dv hlt 6]
    exact f3_old U cO cM cI N dv ha i
theorem f3_mid (U : State) (cO cM cI : ClassId) (N : Nat) (dv : Value) : ∀ i j, j < i → (f3 U cO cM cI N dv i).heap[U.heap.size + 1 + 7 * j]? = some (Jvm.Free.Multi.outerC cM 6 (U.heap.size + 1 + 7 * j) 6)
  | 0, _, h => absurd h (Nat.not_lt_zero _)
  | i + 1, j, h => by
    have h1 := (f3_facts U cO cM cI N dv i).1
    rw [f3_succ, State.heap_setCell_other (show U.heap.size ≠ U.heap.size + 1 + 7 * j by omega)]
    by_cases q : j < i
    · have hlt : U.heap.size + 1 + 7 * j < (f3 U cO cM cI N dv i).heap.size := by rw [h1]; omega
      rw [Jvm.Free.Multi.fill_old _ cM cI 6 3 dv hlt 6]
      exact f3_mid U cO cM cI N dv i j q
    · have e : j = i := by omega
      subst e
      have g2 := (Jvm.Free.Multi.fill_facts (f3 U cO cM cI N dv j) cM cI 6 3 dv 6).2.1
      rw [h1] at g2
      exact g2
theorem f3_in (U : State) (cO cM cI : ClassId) (N : Nat) (dv : Value) : ∀ i j k, j < i → k < 6 → (f3 U cO cM cI N dv i).heap[U.heap.size + 1 + 7 * j + 1 + k]? = some (Jvm.Free.Multi.innerC cI 3 dv)
  | 0, _, _, h, _ => absurd h (Nat.not_lt_zero _)
  | i + 1, j, k, h, hk => by
    have h1 := (f3_facts U cO cM cI N dv i).1
    rw [f3_succ, State.heap_setCell_other (show U.heap.size ≠ U.heap.size + 1 + 7 * j + 1 + k by omega)]
    by_cases q : j < i
    · have hlt : U.heap.size + 1 + 7 * j + 1 + k < (f3 U cO cM cI N dv i).heap.size := by rw [h1]; omega
      rw [Jvm.Free.Multi.fill_old _ cM cI 6 3 dv hlt 6]
      exact f3_in U cO cM cI N dv i j k q hk
    · have e : j = i := by omega
      subst e
      have g2 := Jvm.Free.Multi.fill_inner (f3 U cO cM cI N dv j) cM cI 6 3 dv 6 k hk
      rw [h1] at g2
      exact g2
theorem o3_out (cO : ClassId) (N h0 : Nat) : ∀ i : Nat, o3 cO N h0 i = arrV cO N (fun j => va_rf (if j < i then some (h0 + 1 + 7 * j) else none))
  | 0 => by
    show ({ cls := cO, slots := Array.replicate N .null, vm := .none } : Cell) = _
    rw [arrV_new]
    refine congrArg (arrV cO N) (funext fun j => ?_)
    simp [va_rf]
  | i + 1 => by
    show (o3 cO N h0 i).setSlot i (.ref (h0 + 1 + 7 * i)) = _
    rw [o3_out cO N h0 i, arrV_store]
    refine congrArg (arrV cO N) (funext fun j => ?_)
    by_cases e : j = i
    · subst e
      simp [updV, va_rf]
    · by_cases h : j < i
      · simp [updV, e, h, Nat.lt_succ_of_lt h]
      · simp [updV, e, h, show ¬ j < i + 1 by omega]
theorem st3 {T : State} (X : Stand p l e R s m args below meth c T locs cells slots) (cO cM cI : ClassId) (N : Nat) (dv : Value) : ∀ i, Stand p l e R s m args below meth c (f3 T cO cM cI N dv i) locs (cells + 1 + 7 * i) (slots + N + 24 * i)
  | 0 => by
    have h := X.pushed (o3 cO N T.heap.size 0)
    rw [(o3_facts cO N T.heap.size 0).2.2] at h
    simpa [f3] using h
  | i + 1 => by
    have Xi := st3 X cO cM cI N dv i
    obtain ⟨f1, f2, -, -⟩ := f3_facts T cO cM cI N dv i
    have Xf := (Xi.filled cM cI 6 3 dv 6).dropFresh (fun x hx => by
      obtain ⟨j, -, rfl⟩ := List.mem_map.mp hx
      exact Xi.heapGrown)
    have hlt : T.heap.size < (f3 T cO cM cI N dv i).heap.size := by rw [f1]; omega
    have hcell : (Jvm.Free.Multi.fill (f3 T cO cM cI N dv i) cM cI 6 3 dv 6).heap[T.heap.size]? = some (o3 cO N T.heap.size i) := by
      rw [Jvm.Free.Multi.fill_old _ cM cI 6 3 dv hlt 6]
      exact f2
    have h := (Xf.stored hcell i (.ref (T.heap.size + 1 + 7 * i))).dropFresh (fun x hx => by
      rw [List.mem_singleton] at hx
      subst hx
      exact X.heapGrown)
    rw [f3_succ, show cells + 1 + 7 * (i + 1) = cells + 1 + 7 * i + 1 + 6 by omega, show slots + N + 24 * (i + 1) = slots + N + 24 * i + 6 + 6 * 3 by omega]
    exact h
section WP3
variable {E : CtlPost} {d : Bool} {acts : List Action}
set_option maxHeartbeats 1000000 in
theorem wp_m3 {U : State} {cO cM cI c9 : ClassId} {kO kM kI : Class} {n x6 x3 : Int32} (hkO : U.vm.classes[cO]? = some kO) (hO : kO.kind = .array cM (.array (.array .int))) (hkM : U.vm.classes[cM]? = some kM) (hM : kM.kind = .array cI (.array .int)) (hkI : U.vm.classes[cI]? = some kI) (hI : kI.kind = .array c9 .int) (hn : ¬ n < 0) (h6 : ¬ x6 < 0) (h3 : ¬ x3 < 0) (e6 : x6.toNatClampNeg = 6) (e3 : x3.toNatClampNeg = 3)
    (hl : ¬ n.toNatClampNeg > e.platform.arrayLengthLimit) (hh : ¬ n.toNatClampNeg * 4 > e.platform.maxHeapBytes) (hl6 : ¬ 6 > e.platform.arrayLengthLimit) (hh6 : ¬ 24 > e.platform.maxHeapBytes)
    (hc : U.heap.size + 1 + 7 * n.toNatClampNeg ≤ e.platform.maxCells) (hs : U.slotsUsed + n.toNatClampNeg + 24 * n.toNatClampNeg ≤ e.platform.maxSlots)
    {Q : Addr → Pre} (hq : ∀ d' acts', Q U.heap.size d' acts' (f3 U cO cM cI n.toNatClampNeg (.int 0) n.toNatClampNeg)) :
    wp (multianewarray.make cO [n, x6, x3]) Q E e d acts U := by
  have hfind : ([x6, x3].find? (· < 0)) = none := by simp [h6, h3]
  rw [multianewarray.make]
  simp only [wp_bind', W.ite, hn, if_false, wp_pure', W.theClass, hkO, hO, Option.some.injEq, exists_eq_left']
  refine Jvm.Free.Multi.wp_newArray hkO hO hl hh (Jvm.Free.Multi.refFits rfl _ (Or.inl rfl)) rfl (by omega) (by omega) ?_
  simp only [hfind]
  rw [ite_self, wp_bind', Std.Legacy.Range.forIn_eq_forIn_range']
  have hsz : ([:n.toNatClampNeg] : Std.Legacy.Range).size = n.toNatClampNeg := by simp [Std.Legacy.Range.size]
  rw [hsz]
  show wp (forIn (List.range' 0 n.toNatClampNeg 1) PUnit.unit _) _ E e d acts _
  refine wp_forIn_inv (fun rest s' => ∃ i, i ≤ n.toNatClampNeg ∧ rest = List.range' i (n.toNatClampNeg - i) ∧ s' = f3 U cO cM cI n.toNatClampNeg (.int 0) i) _ _ ⟨0, Nat.zero_le _, rfl, rfl⟩ ?_ ?_
  · rintro x rest s' d' acts' Q' ⟨i, hi, hl9, rfl⟩ hnext
    have hlt : i < n.toNatClampNeg := by
      rcases Nat.lt_or_ge i n.toNatClampNeg with h | h
      · exact h
      · rw [show n.toNatClampNeg - i = 0 from by omega] at hl9; simp at hl9
    obtain ⟨rfl, hrest⟩ : x = i ∧ rest = List.range' (i + 1) (n.toNatClampNeg - (i + 1)) := by
      rw [show n.toNatClampNeg - i = (n.toNatClampNeg - (i + 1)) + 1 from by omega, List.range'_succ] at hl9
      exact ⟨(List.cons.inj hl9).1, (List.cons.inj hl9).2⟩
    obtain ⟨f1, f2, f4, f5⟩ := f3_facts U cO cM cI n.toNatClampNeg (.int 0) x
    obtain ⟨o1, o2, o4⟩ := o3_facts cO n.toNatClampNeg U.heap.size x
    simp only [wp_bind']
    refine Jvm.Free.Multi.wp_make2 (k := kM) (kc := kI) (comp := cI) (cc := c9) (t0 := .array .int) (type := .int) (by rw [f4]; exact hkM) hM rfl (by rw [f4]; exact hkI) hI h6 h3 (by rw [e6]; exact hl6) (by rw [e6]; exact hh6) (by rw [e3]; omega) (by rw [e3]; show ¬ 3 * 4 > _; omega) rfl rfl (by rw [e6, f1]; omega) (by rw [e6, e3, f5]; omega) (fun d2 acts2 => ?_)
    rw [e6, e3]
    have hlt9 : U.heap.size < (f3 U cO cM cI n.toNatClampNeg (.int 0) x).heap.size := by rw [f1]; omega
    have g5 := Jvm.Free.Multi.fill_old (f3 U cO cM cI n.toNatClampNeg (.int 0) x) cM cI 6 3 (.int 0) hlt9 6
    have g3 := (Jvm.Free.Multi.fill_facts (f3 U cO cM cI n.toNatClampNeg (.int 0) x) cM cI 6 3 (.int 0) 6).2.2.1
    rw [f2] at g5
    simp only [wp_bind', W.writeLoc, wp_pure']
    refine ⟨o3 cO n.toNatClampNeg U.heap.size x, g5, by rw [o2]; simp, by rw [o4]; exact hlt, ?_, hnext _ _ _ ⟨x + 1, hlt, hrest, ?_⟩⟩
    · rw [o1, o2]
      simp [State.fitsSlot, State.slotType?, show defaultValue FieldType.int = Value.int 0 from rfl, g3, f4, hkO, hO, Jvm.Free.Multi.refFits (t := .array (.array .int)) rfl _ (Or.inr ⟨_, rfl⟩)]
    · rw [f1]; rfl
  · rintro s' d' acts' ⟨i, hi, hl9, rfl⟩
    have hiN : i = n.toNatClampNeg := by
      rcases Nat.lt_or_ge i n.toNatClampNeg with h | h
      · rw [show n.toNatClampNeg - i = (n.toNatClampNeg - (i + 1)) + 1 from by omega, List.range'_succ] at hl9; cases hl9
      · omega
    subst hiN
    simp only [wp_pure']
    exact hq _ _
end WP3
end RRW
