section
-- ===== PART A: goes FIRST, ahead of the names: the tables' words, and 'selects' of the private methods out of them =====
/-- a private method of a class that the tables say can be made, by its rows of tables_1 -/
def lw_okq (q : MethodName × Nat) : Prop := (q.1.cls ≠ "java/lang/invoke/MethodHandle" ∧ q.1.cls ≠ "java/lang/invoke/VarHandle") ∧ Cond.instantiable q.1.cls q.2 ∈ tables_1 ∧ Cond.privateMethod q.1 ∈ tables_1 ∧ Cond.instanceMethod q.1 ∈ tables_1
theorem lw_p0 : lw_okq (⟨"DollCitadel$Doll", "jointsWornBy", "(I)I"⟩, 9) := ⟨⟨by decide +kernel, by decide +kernel⟩, List.mem_of_getElem? (i := 37) (by decide +kernel), List.mem_of_getElem? (i := 121) (by decide +kernel), List.mem_of_getElem? (i := 122) (by decide +kernel)⟩
theorem lw_p1 : lw_okq (⟨"DollCitadel$Doll", "jointsWithoutLacquer", "()I"⟩, 9) := ⟨⟨by decide +kernel, by decide +kernel⟩, List.mem_of_getElem? (i := 37) (by decide +kernel), List.mem_of_getElem? (i := 125) (by decide +kernel), List.mem_of_getElem? (i := 126) (by decide +kernel)⟩
theorem lw_p2 : lw_okq (⟨"DollCitadel$Doll", "eyesWithDust", "(I)I"⟩, 9) := ⟨⟨by decide +kernel, by decide +kernel⟩, List.mem_of_getElem? (i := 37) (by decide +kernel), List.mem_of_getElem? (i := 129) (by decide +kernel), List.mem_of_getElem? (i := 130) (by decide +kernel)⟩
theorem lw_p3 : lw_okq (⟨"java/lang/Throwable", "fillInStackTrace", "(I)Ljava/lang/Throwable;"⟩, 6) := ⟨⟨by decide +kernel, by decide +kernel⟩, List.mem_of_getElem? (i := 189) (by decide +kernel), List.mem_of_getElem? (i := 187) (by decide +kernel), List.mem_of_getElem? (i := 188) (by decide +kernel)⟩
theorem lw_p4 : lw_okq (⟨"DollCitadel", "tallyOfAll", "(I)I"⟩, 9) := ⟨⟨by decide +kernel, by decide +kernel⟩, List.mem_of_getElem? (i := 14) (by decide +kernel), List.mem_of_getElem? (i := 219) (by decide +kernel), List.mem_of_getElem? (i := 220) (by decide +kernel)⟩
theorem lw_p5 : lw_okq (⟨"DollCitadel", "knownDoll", "(I)LDollCitadel$Doll;"⟩, 9) := ⟨⟨by decide +kernel, by decide +kernel⟩, List.mem_of_getElem? (i := 14) (by decide +kernel), List.mem_of_getElem? (i := 240) (by decide +kernel), List.mem_of_getElem? (i := 241) (by decide +kernel)⟩
theorem lw_p6 : lw_okq (⟨"DollCitadel", "digestJointsInto", "(JI)J"⟩, 9) := ⟨⟨by decide +kernel, by decide +kernel⟩, List.mem_of_getElem? (i := 14) (by decide +kernel), List.mem_of_getElem? (i := 246) (by decide +kernel), List.mem_of_getElem? (i := 247) (by decide +kernel)⟩
theorem lw_p7 : lw_okq (⟨"DollCitadel", "knownPose", "(I)LDollCitadel$Pose;"⟩, 9) := ⟨⟨by decide +kernel, by decide +kernel⟩, List.mem_of_getElem? (i := 14) (by decide +kernel), List.mem_of_getElem? (i := 315) (by decide +kernel), List.mem_of_getElem? (i := 316) (by decide +kernel)⟩
theorem lw_p8 : lw_okq (⟨"DollCitadel", "liveThrough", "(LDollCitadel$Doll;I)I"⟩, 9) := ⟨⟨by decide +kernel, by decide +kernel⟩, List.mem_of_getElem? (i := 14) (by decide +kernel), List.mem_of_getElem? (i := 450) (by decide +kernel), List.mem_of_getElem? (i := 451) (by decide +kernel)⟩
theorem lw_p9 : lw_okq (⟨"DollCitadel$Doll", "eatWig", "(I)V"⟩, 9) := ⟨⟨by decide +kernel, by decide +kernel⟩, List.mem_of_getElem? (i := 37) (by decide +kernel), List.mem_of_getElem? (i := 459) (by decide +kernel), List.mem_of_getElem? (i := 460) (by decide +kernel)⟩
theorem lw_p10 : lw_okq (⟨"DollCitadel$Doll", "loosenDress", "()V"⟩, 9) := ⟨⟨by decide +kernel, by decide +kernel⟩, List.mem_of_getElem? (i := 37) (by decide +kernel), List.mem_of_getElem? (i := 463) (by decide +kernel), List.mem_of_getElem? (i := 464) (by decide +kernel)⟩
theorem lw_p11 : lw_okq (⟨"DollCitadel$Doll", "dryLacquer", "()V"⟩, 9) := ⟨⟨by decide +kernel, by decide +kernel⟩, List.mem_of_getElem? (i := 37) (by decide +kernel), List.mem_of_getElem? (i := 467) (by decide +kernel), List.mem_of_getElem? (i := 468) (by decide +kernel)⟩
theorem lw_p12 : lw_okq (⟨"DollCitadel$Doll", "gatherDust", "()V"⟩, 9) := ⟨⟨by decide +kernel, by decide +kernel⟩, List.mem_of_getElem? (i := 37) (by decide +kernel), List.mem_of_getElem? (i := 471) (by decide +kernel), List.mem_of_getElem? (i := 472) (by decide +kernel)⟩
theorem lw_p13 : lw_okq (⟨"DollCitadelModel", "fail", "(I)I"⟩, 9) := ⟨⟨by decide +kernel, by decide +kernel⟩, List.mem_of_getElem? (i := 482) (by decide +kernel), List.mem_of_getElem? (i := 524) (by decide +kernel), List.mem_of_getElem? (i := 525) (by decide +kernel)⟩
theorem lw_p14 : lw_okq (⟨"DollCitadelModel", "isDoll", "(I)Z"⟩, 9) := ⟨⟨by decide +kernel, by decide +kernel⟩, List.mem_of_getElem? (i := 482) (by decide +kernel), List.mem_of_getElem? (i := 545) (by decide +kernel), List.mem_of_getElem? (i := 546) (by decide +kernel)⟩
theorem lw_p15 : lw_okq (⟨"DollCitadelModel", "isPose", "(I)Z"⟩, 9) := ⟨⟨by decide +kernel, by decide +kernel⟩, List.mem_of_getElem? (i := 482) (by decide +kernel), List.mem_of_getElem? (i := 549) (by decide +kernel), List.mem_of_getElem? (i := 550) (by decide +kernel)⟩
def lw_privs_1 : List (MethodName × Nat) := [(⟨"DollCitadel$Doll", "jointsWornBy", "(I)I"⟩, 9), (⟨"DollCitadel$Doll", "jointsWithoutLacquer", "()I"⟩, 9), (⟨"DollCitadel$Doll", "eyesWithDust", "(I)I"⟩, 9), (⟨"java/lang/Throwable", "fillInStackTrace", "(I)Ljava/lang/Throwable;"⟩, 6), (⟨"DollCitadel", "tallyOfAll", "(I)I"⟩, 9), (⟨"DollCitadel", "knownDoll", "(I)LDollCitadel$Doll;"⟩, 9), (⟨"DollCitadel", "digestJointsInto", "(JI)J"⟩, 9), (⟨"DollCitadel", "knownPose", "(I)LDollCitadel$Pose;"⟩, 9), (⟨"DollCitadel", "liveThrough", "(LDollCitadel$Doll;I)I"⟩, 9), (⟨"DollCitadel$Doll", "eatWig", "(I)V"⟩, 9), (⟨"DollCitadel$Doll", "loosenDress", "()V"⟩, 9), (⟨"DollCitadel$Doll", "dryLacquer", "()V"⟩, 9), (⟨"DollCitadel$Doll", "gatherDust", "()V"⟩, 9), (⟨"DollCitadelModel", "fail", "(I)I"⟩, 9), (⟨"DollCitadelModel", "isDoll", "(I)Z"⟩, 9), (⟨"DollCitadelModel", "isPose", "(I)Z"⟩, 9)]
theorem lw_r1 : ∀ q ∈ lw_privs_1, lw_okq q := List.forall_mem_cons.mpr ⟨lw_p0, List.forall_mem_cons.mpr ⟨lw_p1, List.forall_mem_cons.mpr ⟨lw_p2, List.forall_mem_cons.mpr ⟨lw_p3, List.forall_mem_cons.mpr ⟨lw_p4, List.forall_mem_cons.mpr ⟨lw_p5, List.forall_mem_cons.mpr ⟨lw_p6, List.forall_mem_cons.mpr ⟨lw_p7, List.forall_mem_cons.mpr ⟨lw_p8, List.forall_mem_cons.mpr ⟨lw_p9, List.forall_mem_cons.mpr ⟨lw_p10, List.forall_mem_cons.mpr ⟨lw_p11, List.forall_mem_cons.mpr ⟨lw_p12, List.forall_mem_cons.mpr ⟨lw_p13, List.forall_mem_cons.mpr ⟨lw_p14, List.forall_mem_cons.mpr ⟨lw_p15, fun _ h => absurd h List.not_mem_nil⟩⟩⟩⟩⟩⟩⟩⟩⟩⟩⟩⟩⟩⟩⟩⟩
theorem lw_p16 : lw_okq (⟨"DollCitadelModel", "can", "(II)Z"⟩, 9) := ⟨⟨by decide +kernel, by decide +kernel⟩, List.mem_of_getElem? (i := 482) (by decide +kernel), List.mem_of_getElem? (i := 553) (by decide +kernel), List.mem_of_getElem? (i := 554) (by decide +kernel)⟩
theorem lw_p17 : lw_okq (⟨"DollCitadelModel", "isBroken", "(II)Z"⟩, 9) := ⟨⟨by decide +kernel, by decide +kernel⟩, List.mem_of_getElem? (i := 482) (by decide +kernel), List.mem_of_getElem? (i := 557) (by decide +kernel), List.mem_of_getElem? (i := 558) (by decide +kernel)⟩
theorem lw_p18 : lw_okq (⟨"DollCitadelModel", "li", "(III)I"⟩, 9) := ⟨⟨by decide +kernel, by decide +kernel⟩, List.mem_of_getElem? (i := 482) (by decide +kernel), List.mem_of_getElem? (i := 561) (by decide +kernel), List.mem_of_getElem? (i := 562) (by decide +kernel)⟩
theorem lw_p19 : lw_okq (⟨"DollCitadelModel", "ro", "(II)I"⟩, 9) := ⟨⟨by decide +kernel, by decide +kernel⟩, List.mem_of_getElem? (i := 482) (by decide +kernel), List.mem_of_getElem? (i := 565) (by decide +kernel), List.mem_of_getElem? (i := 566) (by decide +kernel)⟩
theorem lw_p20 : lw_okq (⟨"DollCitadelModel", "put", "(III)V"⟩, 9) := ⟨⟨by decide +kernel, by decide +kernel⟩, List.mem_of_getElem? (i := 482) (by decide +kernel), List.mem_of_getElem? (i := 569) (by decide +kernel), List.mem_of_getElem? (i := 570) (by decide +kernel)⟩
theorem lw_p21 : lw_okq (⟨"DollCitadelModel", "turnAll", "(II)I"⟩, 9) := ⟨⟨by decide +kernel, by decide +kernel⟩, List.mem_of_getElem? (i := 482) (by decide +kernel), List.mem_of_getElem? (i := 573) (by decide +kernel), List.mem_of_getElem? (i := 574) (by decide +kernel)⟩
theorem lw_p22 : lw_okq (⟨"DollCitadelModel", "turn", "(III)Z"⟩, 9) := ⟨⟨by decide +kernel, by decide +kernel⟩, List.mem_of_getElem? (i := 482) (by decide +kernel), List.mem_of_getElem? (i := 577) (by decide +kernel), List.mem_of_getElem? (i := 578) (by decide +kernel)⟩
theorem lw_p23 : lw_okq (⟨"DollCitadelModel", "jointTold", "(III)I"⟩, 9) := ⟨⟨by decide +kernel, by decide +kernel⟩, List.mem_of_getElem? (i := 482) (by decide +kernel), List.mem_of_getElem? (i := 607) (by decide +kernel), List.mem_of_getElem? (i := 608) (by decide +kernel)⟩
theorem lw_p24 : lw_okq (⟨"DollCitadelModel", "counted", "(I)I"⟩, 9) := ⟨⟨by decide +kernel, by decide +kernel⟩, List.mem_of_getElem? (i := 482) (by decide +kernel), List.mem_of_getElem? (i := 619) (by decide +kernel), List.mem_of_getElem? (i := 620) (by decide +kernel)⟩
theorem lw_p25 : lw_okq (⟨"DollCitadelModel", "kept", "()[[I"⟩, 9) := ⟨⟨by decide +kernel, by decide +kernel⟩, List.mem_of_getElem? (i := 482) (by decide +kernel), List.mem_of_getElem? (i := 627) (by decide +kernel), List.mem_of_getElem? (i := 628) (by decide +kernel)⟩
theorem lw_p26 : lw_okq (⟨"DollCitadelModel", "wearOf", "(I)I"⟩, 9) := ⟨⟨by decide +kernel, by decide +kernel⟩, List.mem_of_getElem? (i := 482) (by decide +kernel), List.mem_of_getElem? (i := 639) (by decide +kernel), List.mem_of_getElem? (i := 640) (by decide +kernel)⟩
theorem lw_p27 : lw_okq (⟨"DollCitadelModel", "bringBack", "([[I)V"⟩, 9) := ⟨⟨by decide +kernel, by decide +kernel⟩, List.mem_of_getElem? (i := 482) (by decide +kernel), List.mem_of_getElem? (i := 643) (by decide +kernel), List.mem_of_getElem? (i := 644) (by decide +kernel)⟩
theorem lw_p28 : lw_okq (⟨"DollCitadelModel", "needed", "(II)I"⟩, 9) := ⟨⟨by decide +kernel, by decide +kernel⟩, List.mem_of_getElem? (i := 482) (by decide +kernel), List.mem_of_getElem? (i := 655) (by decide +kernel), List.mem_of_getElem? (i := 656) (by decide +kernel)⟩
theorem lw_p29 : lw_okq (⟨"DollCitadelModel", "daysOn", "(I)I"⟩, 9) := ⟨⟨by decide +kernel, by decide +kernel⟩, List.mem_of_getElem? (i := 482) (by decide +kernel), List.mem_of_getElem? (i := 672) (by decide +kernel), List.mem_of_getElem? (i := 673) (by decide +kernel)⟩
theorem lw_p30 : lw_okq (⟨"DollCitadelModel", "dayOf", "(I)I"⟩, 9) := ⟨⟨by decide +kernel, by decide +kernel⟩, List.mem_of_getElem? (i := 482) (by decide +kernel), List.mem_of_getElem? (i := 676) (by decide +kernel), List.mem_of_getElem? (i := 677) (by decide +kernel)⟩
def lw_privs_2 : List (MethodName × Nat) := [(⟨"DollCitadelModel", "can", "(II)Z"⟩, 9), (⟨"DollCitadelModel", "isBroken", "(II)Z"⟩, 9), (⟨"DollCitadelModel", "li", "(III)I"⟩, 9), (⟨"DollCitadelModel", "ro", "(II)I"⟩, 9), (⟨"DollCitadelModel", "put", "(III)V"⟩, 9), (⟨"DollCitadelModel", "turnAll", "(II)I"⟩, 9), (⟨"DollCitadelModel", "turn", "(III)Z"⟩, 9), (⟨"DollCitadelModel", "jointTold", "(III)I"⟩, 9), (⟨"DollCitadelModel", "counted", "(I)I"⟩, 9), (⟨"DollCitadelModel", "kept", "()[[I"⟩, 9), (⟨"DollCitadelModel", "wearOf", "(I)I"⟩, 9), (⟨"DollCitadelModel", "bringBack", "([[I)V"⟩, 9), (⟨"DollCitadelModel", "needed", "(II)I"⟩, 9), (⟨"DollCitadelModel", "daysOn", "(I)I"⟩, 9), (⟨"DollCitadelModel", "dayOf", "(I)I"⟩, 9)]
theorem lw_r2 : ∀ q ∈ lw_privs_2, lw_okq q := List.forall_mem_cons.mpr ⟨lw_p16, List.forall_mem_cons.mpr ⟨lw_p17, List.forall_mem_cons.mpr ⟨lw_p18, List.forall_mem_cons.mpr ⟨lw_p19, List.forall_mem_cons.mpr ⟨lw_p20, List.forall_mem_cons.mpr ⟨lw_p21, List.forall_mem_cons.mpr ⟨lw_p22, List.forall_mem_cons.mpr ⟨lw_p23, List.forall_mem_cons.mpr ⟨lw_p24, List.forall_mem_cons.mpr ⟨lw_p25, List.forall_mem_cons.mpr ⟨lw_p26, List.forall_mem_cons.mpr ⟨lw_p27, List.forall_mem_cons.mpr ⟨lw_p28, List.forall_mem_cons.mpr ⟨lw_p29, List.forall_mem_cons.mpr ⟨lw_p30, fun _ h => absurd h List.not_mem_nil⟩⟩⟩⟩⟩⟩⟩⟩⟩⟩⟩⟩⟩⟩⟩
def lw_privs : List (MethodName × Nat) := lw_privs_1 ++ (lw_privs_2)
def lw_tbl : List Cond := k2_sels lw_privs ++ tables_1
theorem lw_privs_ok : ∀ q ∈ lw_privs, lw_okq q := by
  show ∀ q ∈ lw_privs_1 ++ (lw_privs_2), lw_okq q
  exact List.forall_mem_append.mpr ⟨lw_r1, lw_r2⟩
/-- the streams that the claim lets the run draw from -/
abbrev lw_cs : List Choice := [Jvm.Choice.named "NaN.bits"]
theorem lw_bits : nanBits ∈ lw_cs := by first | decide | exact List.mem_cons_self | simp [lw_cs, nanBits]
end
section
/-! ===== BEGIN words of one list among another's, by their places ===== -/
theorem goodIn_r {big : List Cond} (ws : List Cond) (ps : List Nat) (hp : ws = ps.filterMap (fun i => big[i]?)) (h : ws.all goodWord = true) : GoodIn big ws := by
  intro w hw
  have h1 := List.all_eq_true.mp h w hw
  rw [hp] at hw
  obtain ⟨i, -, hi⟩ := List.mem_filterMap.mp hw
  have hm : w ∈ big := by first | exact List.mem_of_getElem? hi | exact List.getElem?_mem hi
  exact ⟨hm, good_of_word h1⟩
theorem goodIn_app {big a b : List Cond} (ha : GoodIn big a) (hb : GoodIn big b) : GoodIn big (a ++ b) := fun w h => (List.mem_append.mp h).elim (ha w) (hb w)
theorem goodIn_ca {big a b : List Cond} {c : Cond} (ha : GoodIn big (c :: a)) (hb : GoodIn big b) : GoodIn big (c :: (a ++ b)) := fun w h => (List.mem_cons.mp h).elim (fun e => ha w (List.mem_cons.mpr (Or.inl e))) (fun h => (List.mem_append.mp h).elim (fun h => ha w (List.mem_cons.mpr (Or.inr h))) (hb w))
theorem goodIn_sub {big ws : List Cond} (hm : ∀ w ∈ ws, w ∈ big) (h : ws.all goodWord = true) : GoodIn big ws := fun w hw => ⟨hm w hw, good_of_word (List.all_eq_true.mp h w hw)⟩
/-! ===== END ===== -/

/-! ===== BEGIN exceptions that leave a method, and their catching by the caller (launches without stack traces) ===== -/
section VXA
/-! The laws vx_back, vx_callV, vx_callS, vx_callSW, vx_throw0, vx_throwS follow proofs of the library, with one case more: JvmDerived/Free/Laws.lean (Back.of_free), Shelf42/LK1.lean (callV, callS), Shelf/KitTraced.lean (throwNew0V, throwNewS). -/
/-- where a method has thrown q: the class by its name, the cell, what was written, the world -/
def vx_T (XC : String → State → State → Prop) (st : State) (q : Addr) (t : State) (mc ms : Nat) (free : Addr → Prop) : Prop :=
  ∃ (E : String) (ce : Cell) (L : List Loc), XC E st t ∧ t.heap[q]? = some ce ∧ ce.vm = .none ∧ st.vm.findClass E = some ce.cls ∧ st.WarmedH t.vm ∧ st.sameButNew ({ t with vm := st.vm } : State) L mc ms ∧ ∀ z ∈ L, free z.base
def vx_Q (Qc : Array Value → State → Outcome → State → Prop) (XC : String → State → State → Prop) (mc ms : Nat) (free : Addr → Prop) : Array Value → State → Outcome → State → Prop := fun a st o t =>
  (Qc a st o t ∧ ∃ L, FrameEnd st o t L mc ms ∧ ∀ q ∈ L, free q.base) ∨ ∃ q, o = .threw q ∧ vx_T XC st q t mc ms free
/-- a callee that returns or throws -/
def vx_Met (l : Launch) (y : MethodName) (ws : List Cond) (rm : Room) (Pc : Array Value → State → Prop) (Qc : Array Value → State → Outcome → State → Prop) (XC : String → State → State → Prop) (mc ms : Nat) (free : Addr → Prop) : Prop :=
  MetFree l y (headSpec ws rm) Pc (fun _ _ _ _ _ => True) (vx_Q Qc XC mc ms free)
def vx_Post (XC : String → State → State → Prop) (mc ms : Nat) (free : Addr → Prop) : Pt → Array Value → Addr → Pt → Prop := fun A a q B =>
  ∃ (g : JFrame) (mk : MethodId) (t : State) (L : List Loc) (E : String) (ce : Cell), B.U.heap = t.heap ∧ B.U.vm = t.vm ∧ XC E (A.U.calling g mk a) t ∧ t.heap[q]? = some ce ∧ ce.vm = .none ∧ A.U.vm.findClass E = some ce.cls ∧ B.locs = A.locs ++ L ∧ (∀ z ∈ L, free z.base) ∧ B.cells = A.cells + mc ∧ B.slots = A.slots + ms
def vx_Back (l : Launch) (R : Room) (p : Program) (e : Env) (below : List Frame) (s : State) (sargs : Array Value) (y : MethodName) (len W9 : Nat)
    (Pre : Pt → Array Value → Prop) (Post : Pt → Array Value → Option Value → Pt → Prop) (PostX : Pt → Array Value → Addr → Pt → Prop) : Prop :=
  ∀ (m : MethodId) (meth : Method) (c : Code) (A : Pt) (g : JFrame) (ig : Instr) (mk : MethodId) (a : Array Value),
    Stand p l e R s m sargs below meth c A.U A.locs A.cells A.slots → g.method = m → g.locals.size = c.maxLocals → decode c.code g.pc = .ok (ig, len) →
    2 * g.monitorRoom + (g.stack.map fun v => v.category).sum ≤ W9 → A.U.methodNamed? y = some mk → Pre A a →
    (∃ (v : Option Value) (B : Pt), Stand p l e R s m sargs below meth c B.U B.locs B.cells B.slots ∧ Post A a v B ∧
      Steps p.tables e below (doInvoke e (A.U.setTop g) [] mk a).1 (B.U.setTop { g with pc := g.pc + len, stack := v.toList ++ g.stack })) ∨
    (∃ (q : Addr) (B : Pt), Stand p l e R s m sargs below meth c B.U B.locs B.cells B.slots ∧ PostX A a q B ∧
      Steps p.tables e below (doInvoke e (A.U.setTop g) [] mk a).1 ((B.U.setTop g).pushFrame (.throwing q)))
section Payer
variable {l : Launch} {R : Room} {p : Program} {e : Env} {below : List Frame} {s : State} {sargs : Array Value} {y : MethodName} {len W9 : Nat}
theorem vx_back {ws : List Cond} {rm : Room} {Pc : Array Value → State → Prop} {Qc : Array Value → State → Outcome → State → Prop} {XC : String → State → State → Prop} {mc ms : Nat} {free : Addr → Prop} {bytes : ByteArray} {maxL : Nat} {ret : Option FieldType}
    (hM : vx_Met l y ws rm Pc Qc XC mc ms free) (hblind : FrameBlind Pc) (hrc : rm.cells = mc) (hrs : rm.slots = ms)
    (hframes : rm.frames + 1 ≤ R.frames) (hlocals : W9 + (maxL + 11) + rm.locals ≤ R.locals)
    (hws : ∀ w ∈ ws, ∀ a' U, s.WarmedH U.vm → w.before a' U = true) (hcode : Cond.code y bytes maxL ret ∈ ws) (hinit : ∀ a' U, s.WarmedH U.vm → (Cond.initialized y.cls).before a' U = true) :
    vx_Back l R p e below s sargs y len W9 (PreOf R mc ms Pc) (PostOf Qc mc ms free) (vx_Post XC mc ms free) := by
  intro m meth c A g ig mk a X hg hsize hdg hW hn hp
  have h1 : (headSpec ws rm).pre.before a A.U = true := atoms_intro fun w hw => hws w hw _ _ X.warmed
  have h2 : (Cond.code y bytes maxL ret).before a A.U = true := hws _ hcode _ _ X.warmed
  have h3 : (Cond.initialized y.cls).before a A.U = true := hinit _ _ X.warmed
  have h4 : A.cells + (headSpec ws rm).room.cells ≤ R.cells := by rw [show (headSpec ws rm).room.cells = mc from hrc]; exact hp.1
  have h5 : A.slots + (headSpec ws rm).room.slots ≤ R.slots := by rw [show (headSpec ws rm).room.slots = ms from hrs]; exact hp.2.1
  have hPc : Pc a (A.U.calling g mk a) := hblind _ _ _ _ hp.2.2
  obtain ⟨U, Ls, c0, s0⟩ := A
  dsimp only [Pt.U, Pt.locs, Pt.cells, Pt.slots] at h1 h2 h3 h4 h5 X hn hPc ⊢
  obtain ⟨methY, cY, hmY, hcY, -, hlY, -, -, -, -⟩ := Cond.code_spec hn h2
  obtain ⟨kY, hkY, -⟩ := className_of_methodNamed hn
  have hinitY : kY.init = .initialized := Cond.initialized_spec (findClass_of_methodNamed hn) hkY h3
  have h : At U g.method c below := by rw [hg]; exact X.here
  have hlocals9 : W9 + (maxL + 11) + (headSpec ws rm).room.locals ≤ R.locals := hlocals
  have happ : (headSpec ws rm).appliesLoose y e.platform (U.calling g mk a) = true :=
    Spec.appliesLoose_calling (g := g) h hdg hn hkY hinitY
      (X.room_calling (g := g) (R' := (headSpec ws rm).room) hsize hmY hcY hframes (by rw [hlY]; omega) h4 h5) h1
  obtain ⟨mid, hmid⟩ := h.above
  have hfr : (U.setTop g).frames = (.java g :: mid) ++ below := by rw [State.frames_setTop' g h.top, hmid]; rfl
  obtain ⟨o, s₂, hsteps, -, hend, hq⟩ := Steps.callFree hM p X.admits X.cas X.clock (acts := []) hfr happ hPc trivial
  have hq' : vx_Q Qc XC mc ms free a (U.calling g mk a) o s₂ := hq
  rw [State.frames_setTop' g h.top] at hend
  obtain ⟨g₀, hg0⟩ := Option.isSome_iff_exists.mp h.top
  obtain ⟨r, hr⟩ := State.topJava?_eq_some.mp hg0
  have hr' : (({ U with heap := s₂.heap, slotsUsed := s₂.slotsUsed } : State).setVm s₂.vm).frames = .java g₀ :: r := hr
  rcases hq' with ⟨hqc, L, hfe, hL⟩ | ⟨q, rfl, E, ce, L, hx, hce, hcv, hcl, hW₂, hsm, hL⟩
  · obtain ⟨⟨v, rfl⟩, hW₂, e2, q2, q3, q4, q5, q6⟩ := id hfe
    have e3 : s₂ = ({ (U.calling g mk a).setFrames s₂.frames with heap := s₂.heap, slotsUsed := s₂.slotsUsed } : State).setVm s₂.vm := by
      have : s₂ = ({ s₂ with vm := (U.calling g mk a).vm } : State).setVm s₂.vm := rfl
      rw [e2] at this
      exact this
    obtain ⟨c₂, i₂, len₂, hc₂, hd₂, hf₂⟩ := hend
    have hW' : U.WarmedH s₂.vm := hW₂
    have hcc : c₂ = c := by
      have h1 : s₂.code? g.method = U.code? g.method := by
        rw [State.code?_eq, State.code?_eq, hW'.alike.method?]
      exact Option.some.inj (hc₂.symm.trans (h1.trans h.code))
    subst hcc
    have hlen : len₂ = len := by rw [hdg] at hd₂; cases hd₂; rfl
    subst hlen
    have hs₂ : s₂ = (({ U with heap := s₂.heap, slotsUsed := s₂.slotsUsed } : State).setVm s₂.vm).setTop { g with pc := g.pc + len₂, stack := v.toList ++ g.stack } := by
      refine e3.trans ?_
      rw [hf₂, State.calling_eq h.top, State.setFrames_setFrames, State.setTop_of_frames _ hr', hr]
      rfl
    have hsame : U.sameButNew ({ U with heap := s₂.heap, slotsUsed := s₂.slotsUsed } : State) L mc ms := by
      refine ⟨?_, q2, q3, q4, q5, q6⟩
      obtain ⟨t, ht, -⟩ := State.frames_cons hr
      show ({ U with heap := s₂.heap, slotsUsed := s₂.slotsUsed } : State) = { U.setFrames U.frames with heap := s₂.heap, slotsUsed := s₂.slotsUsed }
      rw [State.setFrames_self ht]
    subst hg
    refine Or.inl ⟨v, ⟨(({ U with heap := s₂.heap, slotsUsed := s₂.slotsUsed } : State).setVm s₂.vm), Ls ++ L, c0 + mc, s0 + ms⟩,
      ⟨X.admits, X.cas, X.clock, X.frames, X.room, X.hears, X.method, X.code, (X.here.setHeapUsed s₂.heap s₂.slotsUsed).setVm hW'.alike, X.tail, State.WarmedH.trans X.warmed hW', X.limits, X.bytes, X.same.trans (hsame.setVm s.vm)⟩,
      ⟨g, mk, s₂, L, rfl, rfl, hqc, rfl, hL, rfl, rfl⟩, ?_⟩
    show Steps p.tables e below _ ((({ U with heap := s₂.heap, slotsUsed := s₂.slotsUsed } : State).setVm s₂.vm).setTop { g with pc := g.pc + len₂, stack := v.toList ++ g.stack })
    rw [← hs₂]
    exact hsteps
  · obtain ⟨e2, q2, q3, q4, q5, q6⟩ := id hsm
    have e3 : s₂ = ({ (U.calling g mk a).setFrames s₂.frames with heap := s₂.heap, slotsUsed := s₂.slotsUsed } : State).setVm s₂.vm := by
      have : s₂ = ({ s₂ with vm := (U.calling g mk a).vm } : State).setVm s₂.vm := rfl
      rw [e2] at this
      exact this
    have hf₂ : s₂.frames = .throwing q :: .java g :: U.frames.tail := hend
    have hW' : U.WarmedH s₂.vm := hW₂
    have hs₂ : s₂ = ((({ U with heap := s₂.heap, slotsUsed := s₂.slotsUsed } : State).setVm s₂.vm).setTop g).pushFrame (.throwing q) := by
      refine e3.trans ?_
      rw [hf₂, State.calling_eq h.top, State.setFrames_setFrames, State.pushFrame, State.frames_setTop _ hr', State.setTop_of_frames _ hr', State.setFrames_setFrames, hr]
      rfl
    have hsame : U.sameButNew ({ U with heap := s₂.heap, slotsUsed := s₂.slotsUsed } : State) L mc ms := by
      refine ⟨?_, q2, q3, q4, q5, q6⟩
      obtain ⟨t, ht, -⟩ := State.frames_cons hr
      show ({ U with heap := s₂.heap, slotsUsed := s₂.slotsUsed } : State) = { U.setFrames U.frames with heap := s₂.heap, slotsUsed := s₂.slotsUsed }
      rw [State.setFrames_self ht]
    subst hg
    refine Or.inr ⟨q, ⟨(({ U with heap := s₂.heap, slotsUsed := s₂.slotsUsed } : State).setVm s₂.vm), Ls ++ L, c0 + mc, s0 + ms⟩,
      ⟨X.admits, X.cas, X.clock, X.frames, X.room, X.hears, X.method, X.code, (X.here.setHeapUsed s₂.heap s₂.slotsUsed).setVm hW'.alike, X.tail, State.WarmedH.trans X.warmed hW', X.limits, X.bytes, X.same.trans (hsame.setVm s.vm)⟩,
      ⟨g, mk, s₂, L, E, ce, rfl, rfl, hx, hce, hcv, hcl, rfl, hL, rfl, rfl⟩, ?_⟩
    show Steps p.tables e below _ (((({ U with heap := s₂.heap, slotsUsed := s₂.slotsUsed } : State).setVm s₂.vm).setTop g).pushFrame (.throwing q))
    rw [← hs₂]
    exact hsteps
end Payer
section Calls
variable {p : Program} {l : Launch} {e : Env} {R : Room} {s : State} {m : MethodId} {args : Array Value} {below : List Frame} {meth : Method} {c : Code} {T : State} {locs : List Loc} {cells slots : Nat}
theorem vx_callV (X : Stand p l e R s m args below meth c T locs cells slots) (hexec : p.tables.exec = Jvm.exec) {own C : String} {index : Nat} {y : MethodName} {bytes : ByteArray} {maxL : Nat} {ret : Option FieldType}
    (hown : s.vm.findClass own = some m.cls) (hlink : (Cond.methodLink own index y).before args s = true) (hinst : (Cond.instanceMethod y).before args s = true) (hsel : (Cond.selects C y y).before args s = true)
    (hcode : (Cond.code y bytes maxL ret).before args s = true) (hy : y.cls ≠ "java/lang/invoke/MethodHandle" ∧ y.cls ≠ "java/lang/invoke/VarHandle")
    {W9 : Nat} {Pre : Pt → Array Value → Prop} {Post : Pt → Array Value → Option Value → Pt → Prop} {PostX : Pt → Array Value → Addr → Pt → Prop} (hK : vx_Back l R p e below s args y 3 W9 Pre Post PostX)
    {b : Addr} {cellB : Cell} (hcell : T.heap[b]? = some cellB) (hobj : cellB.vm.isStatics = false) (hcls : s.vm.findClass C = some cellB.cls)
    {g : JFrame} (hg : g.method = m) (hsize : g.locals.size = c.maxLocals) {argsL rest : List Value} (hlen : ∀ sig, parseMethodDescriptor y.desc = some sig → argsL.length = sig.parameters.length)
    (hstack : g.stack = argsL.reverse ++ .ref b :: rest) (hW : 2 * g.monitorRoom + (rest.map fun v => v.category).sum ≤ W9) (hdg : decode c.code g.pc = .ok (.invokevirtual index, 3))
    (hpre : ∀ vm₁, s.WarmedH vm₁ → Pre ⟨T.setVm vm₁, locs, cells, slots⟩ (Value.ref b :: argsL).toArray) :
    (∃ (v : Option Value) (vm₁ : Vm) (B : Pt), s.WarmedH vm₁ ∧ Stand p l e R s m args below meth c B.U B.locs B.cells B.slots ∧ Post ⟨T.setVm vm₁, locs, cells, slots⟩ (Value.ref b :: argsL).toArray v B ∧
      ∀ target, Steps p.tables e below (B.U.setTop { g with pc := g.pc + 3, stack := v.toList ++ rest }) target → Steps p.tables e below (T.setTop g) target) ∨
    (∃ (q : Addr) (vm₁ : Vm) (B : Pt), s.WarmedH vm₁ ∧ Stand p l e R s m args below meth c B.U B.locs B.cells B.slots ∧ PostX ⟨T.setVm vm₁, locs, cells, slots⟩ (Value.ref b :: argsL).toArray q B ∧
      Steps p.tables e below (T.setTop g) ((B.U.setTop { g with stack := rest }).pushFrame (.throwing q))) := by
  obtain ⟨mk, methM, hnamed, hmethM, hstM, habM⟩ := Cond.instanceMethod_spec hinst
  obtain ⟨methM', cM, hmethM', -, -, -, -, -, -, hsigM⟩ := Cond.code_spec hnamed hcode
  cases hmethM.symm.trans hmethM'
  obtain ⟨c2, r2, m2, q1, q2, q3, q4, kP, hkP, hkPi⟩ := Cond.selects_spec hsel
  cases hcls.symm.trans q1
  cases (State.methodFound?_of_named hnamed hy).symm.trans q2
  cases hnamed.symm.trans q3
  have hselP : selectMethod e.platform s.vm cellB.cls mk = .method mk := by rw [Launch.admits_selectMethod X.admits]; exact q4
  obtain ⟨vm₁, X₁, hstep₁⟩ := X.invokevirtual hexec hown hlink hnamed hmethM hstM hkP hkPi hy (a := b) (cell := cellB) hcell
    (fun z h => by rw [h] at hobj; cases hobj) hselP hmethM habM hkP hkPi (g := g) hg (argsL := argsL) (rest := rest) (hlen _ hsigM) hstack hdg
  rcases hK m meth c ⟨T.setVm vm₁, locs, cells, slots⟩ { g with stack := rest } (.invokevirtual index) mk (Value.ref b :: argsL).toArray X₁ hg hsize hdg hW (X₁.named hnamed) (hpre vm₁ X₁.warmed) with ⟨v, B, X', hpost, hsteps⟩ | ⟨q, B, X', hpost, hsteps⟩
  · exact Or.inl ⟨v, vm₁, B, X₁.warmed, X', hpost, fun target h => hstep₁ _ fun acts => by rw [doInvoke_state]; exact hsteps.trans h⟩
  · exact Or.inr ⟨q, vm₁, B, X₁.warmed, X', hpost, hstep₁ _ fun acts => by rw [doInvoke_state]; exact hsteps⟩
theorem vx_callS (X : Stand p l e R s m args below meth c T locs cells slots) (hexec : p.tables.exec = Jvm.exec) {own : String} {index : Nat} {y : MethodName} {bytes : ByteArray} {maxL : Nat} {ret : Option FieldType}
    (hown : s.vm.findClass own = some m.cls) (hlink : (Cond.methodLink own index y).before args s = true) (hstat : (Cond.static y).before args s = true) (hinit : (Cond.initialized y.cls).before args s = true)
    (hcode : (Cond.code y bytes maxL ret).before args s = true) (hy : y.cls ≠ "java/lang/invoke/MethodHandle" ∧ y.cls ≠ "java/lang/invoke/VarHandle")
    {W9 : Nat} {Pre : Pt → Array Value → Prop} {Post : Pt → Array Value → Option Value → Pt → Prop} {PostX : Pt → Array Value → Addr → Pt → Prop} (hK : vx_Back l R p e below s args y 3 W9 Pre Post PostX)
    {g : JFrame} (hg : g.method = m) (hsize : g.locals.size = c.maxLocals) {argsL rest : List Value} (hlen : ∀ sig, parseMethodDescriptor y.desc = some sig → argsL.length = sig.parameters.length)
    (hstack : g.stack = argsL.reverse ++ rest) (hW : 2 * g.monitorRoom + (rest.map fun v => v.category).sum ≤ W9) (hdg : decode c.code g.pc = .ok (.invokestatic index, 3))
    (hpre : ∀ vm₁, s.WarmedH vm₁ → Pre ⟨T.setVm vm₁, locs, cells, slots⟩ argsL.toArray) :
    (∃ (v : Option Value) (vm₁ : Vm) (B : Pt), s.WarmedH vm₁ ∧ Stand p l e R s m args below meth c B.U B.locs B.cells B.slots ∧ Post ⟨T.setVm vm₁, locs, cells, slots⟩ argsL.toArray v B ∧
      ∀ target, Steps p.tables e below (B.U.setTop { g with pc := g.pc + 3, stack := v.toList ++ rest }) target → Steps p.tables e below (T.setTop g) target) ∨
    (∃ (q : Addr) (vm₁ : Vm) (B : Pt), s.WarmedH vm₁ ∧ Stand p l e R s m args below meth c B.U B.locs B.cells B.slots ∧ PostX ⟨T.setVm vm₁, locs, cells, slots⟩ argsL.toArray q B ∧
      Steps p.tables e below (T.setTop g) ((B.U.setTop { g with stack := rest }).pushFrame (.throwing q))) := by
  obtain ⟨mk, hnamed⟩ := Cond.code_named hcode
  obtain ⟨methM, cM, hmethM, -, -, -, -, -, -, hsigM⟩ := Cond.code_spec hnamed hcode
  have hstatic : methM.isStatic = true := Cond.static_spec hnamed hmethM hstat
  obtain ⟨kP, hkP, -⟩ := className_of_methodNamed hnamed
  have hinitP : kP.init = .initialized := Cond.initialized_spec (findClass_of_methodNamed hnamed) hkP hinit
  obtain ⟨vm₁, X₁, hstep₁⟩ := X.invokestatic hexec hown hlink hnamed hmethM hstatic hkP hinitP hy (g := g) hg (argsL := argsL) (rest := rest) (hlen _ hsigM) hstack hdg
  rcases hK m meth c ⟨T.setVm vm₁, locs, cells, slots⟩ { g with stack := rest } (.invokestatic index) mk argsL.toArray X₁ hg hsize hdg hW (X₁.named hnamed) (hpre vm₁ X₁.warmed) with ⟨v, B, X', hpost, hsteps⟩ | ⟨q, B, X', hpost, hsteps⟩
  · exact Or.inl ⟨v, vm₁, B, X₁.warmed, X', hpost, fun target h => hstep₁ _ fun acts => by rw [doInvoke_state]; exact hsteps.trans h⟩
  · exact Or.inr ⟨q, vm₁, B, X₁.warmed, X', hpost, hstep₁ _ fun acts => by rw [doInvoke_state]; exact hsteps⟩
end Calls
theorem vx_cls {s : State} {T : State} {vm₁ : Vm} {E : String} {k : ClassId} (hW : s.WarmedH vm₁) (h : (T.setVm vm₁).vm.findClass E = some k) : s.vm.findClass E = some k := by
  have h1 : vm₁.findClass E = some k := h
  rw [hW.alike.findClass] at h1
  exact h1
/-- the method's frame g, with q thrown over it -/
def vx_W (p : Program) (l : Launch) (e : Env) (R : Room) (s : State) (m : MethodId) (args : Array Value) (below : List Frame) (meth : Method) (c : Code) (H : Heap) (locs : List Loc) (cells slots : Nat) (Q : State → Prop) (g : JFrame) (q : Addr) : Prop :=
  ∀ T : State, T.heap = H → Stand p l e R s m args below meth c T locs cells slots → ∃ t, Steps p.tables e below ((T.setTop g).pushFrame (.throwing q)) t ∧ Q t
def vx_Run (p : Program) (l : Launch) (e : Env) (R : Room) (s : State) (m : MethodId) (args : Array Value) (below : List Frame) (meth : Method) (c : Code) (H : Heap) (locs : List Loc) (cells slots mc ms : Nat) (g : JFrame) (rest : List Value) (Qa : State → Outcome → State → Prop) (XC : String → State → State → Prop) (free : Addr → Prop) : Prop :=
  ∀ T : State, T.heap = H → Stand p l e R s m args below meth c T locs cells slots →
    (∃ (v : Option Value) (st₀ t T' : State) (L : List Loc), st₀.heap = H ∧ Stand p l e R s m args below meth c T' (locs ++ L) (cells + mc) (slots + ms) ∧ (∀ q ∈ L, free q.base) ∧ T'.heap = t.heap ∧ T'.vm = t.vm ∧ Qa st₀ (.returned v) t ∧
      Goes p e below T g T' { g with pc := g.pc + 3, stack := v.toList ++ rest }) ∨
    (∃ (q : Addr) (st₀ t T' : State) (L : List Loc) (E : String) (ce : Cell), st₀.heap = H ∧ Stand p l e R s m args below meth c T' (locs ++ L) (cells + mc) (slots + ms) ∧ (∀ z ∈ L, free z.base) ∧ T'.heap = t.heap ∧ T'.vm = t.vm ∧ XC E st₀ t ∧ t.heap[q]? = some ce ∧ ce.vm = .none ∧ s.vm.findClass E = some ce.cls ∧
      Steps p.tables e below (T.setTop g) ((T'.setTop { g with stack := rest }).pushFrame (.throwing q)))
def vx_X {S : Type} (px : S → Prop) (B : String → S → State → Prop) (A : Nat → Prop) : String → State → State → Prop := fun E st t => ∃ u : S, px u ∧ B E u t ∧ va_F A st t
section Runs
variable {p : Program} {l : Launch} {e : Env} {R : Room} {s : State} {m : MethodId} {args : Array Value} {below : List Frame} {meth : Method} {c : Code} {H : Heap} {locs : List Loc} {cells slots : Nat}
variable {y : MethodName} {bytes cc : ByteArray} {maxL nL mc ms n index : Nat} {ret : Option FieldType} {ws : List Cond} {rm : Room} {Pc : Array Value → State → Prop} {Qc : Array Value → State → Outcome → State → Prop} {XC : String → State → State → Prop} {free : Addr → Prop} {Ts : List Cond} {own C : String} {b : Addr} {As rest : List Value} {g : JFrame}
theorem vx_callBack (cb : CallB R s args own index y bytes maxL ret ws rm mc ms n) (hM : vx_Met l y ws rm Pc Qc XC mc ms free) (hbl : FrameBlind Pc) : vx_Back l R p e below s args y 3 8 (PreOf R mc ms Pc) (PostOf Qc mc ms free) (vx_Post XC mc ms free) := by
  obtain ⟨hrc, hrs, hfr, hlo, hws, hcw, -, hini, -⟩ := cb
  exact vx_back (bytes := bytes) (maxL := maxL) (ret := ret) hM hbl hrc hrs hfr hlo hws hcw (fun a' U hW => word_at hW (Or.inl (by first | rfl | simp [Cond.onTables, Cond.keeps, Cond.steady])) hini)
theorem vx_runV (S : CallFix p m c cc nL s args Ts own) (hM : vx_Met l y ws rm Pc Qc XC mc ms free) (cw : CallW R s args own C index y bytes maxL ret ws rm mc ms n) (hp : PreV s H C b Pc As)
    (hg : g.method = m) (hn : As.length = n) (hsize : g.locals.size = nL) (hstack : g.stack = As.reverse ++ .ref b :: rest) (hW : 2 * g.monitorRoom + (rest.map fun v => v.category).sum ≤ 8) (hdg : decode cc g.pc = .ok (.invokevirtual index, 3)) (hf : cells + mc ≤ R.cells ∧ slots + ms ≤ R.slots) :
    vx_Run p l e R s m args below meth c H locs cells slots mc ms g rest (Qc (Value.ref b :: As).toArray) XC free := by
  have hK : vx_Back l R p e below s args y 3 8 (PreOf R mc ms Pc) (PostOf Qc mc ms free) (vx_Post XC mc ms free) := vx_callBack cw.1 hM hp.1
  obtain ⟨⟨-, -, -, -, -, -, hcode, -, hy, hlen, hl⟩, hin, hse⟩ := cw
  obtain ⟨hx, hb, hml, ho, -⟩ := S
  obtain ⟨-, ⟨cellB, hcB, hoB, hclB⟩, hPc⟩ := hp
  intro T hT X
  rcases vx_callV X hx (C := C) (bytes := bytes) (maxL := maxL) (ret := ret) ho hl hin hse hcode hy hK (by rw [hT]; exact hcB) hoB hclB hg (hsize.trans hml.symm) (argsL := As) (rest := rest) (fun sig h => hn.trans (hlen sig h)) hstack hW (by rw [hb]; exact hdg)
    (fun vm₁ hW₁ => ⟨hf.1, hf.2, hPc (T.setVm vm₁) hT hW₁⟩) with ⟨v, vm₁, ⟨U', l2, c2, s2⟩, hW₁, X', ⟨g', mk, t, L, e1, e2, hq, h1, hL, h2, h3⟩, st⟩ | ⟨q, vm₁, ⟨U', l2, c2, s2⟩, hW₁, X', ⟨g', mk, t, L, E, ce, e1, e2, hq, hce, hcv, hcl, h1, hL, h2, h3⟩, st⟩
  · dsimp only [Pt.U, Pt.locs, Pt.cells, Pt.slots] at X' e1 e2 h1 h2 h3 st
    subst h1; subst h2; subst h3
    exact Or.inl ⟨v, (T.setVm vm₁).calling g' mk (Value.ref b :: As).toArray, t, U', L, hT, X', hL, e1, e2, hq, st⟩
  · dsimp only [Pt.U, Pt.locs, Pt.cells, Pt.slots] at X' e1 e2 h1 h2 h3 st hcl
    subst h1; subst h2; subst h3
    exact Or.inr ⟨q, (T.setVm vm₁).calling g' mk (Value.ref b :: As).toArray, t, U', L, E, ce, hT, X', hL, e1, e2, hq, hce, hcv, vx_cls hW₁ hcl, st⟩
theorem vx_runS (S : CallFix p m c cc nL s args Ts own) (hM : vx_Met l y ws rm Pc Qc XC mc ms free) (cw : CallB R s args own index y bytes maxL ret ws rm mc ms n ∧ (Cond.static y).before args s = true) (hp : PreS s H Pc As)
    (hg : g.method = m) (hn : As.length = n) (hsize : g.locals.size = nL) (hstack : g.stack = As.reverse ++ rest) (hW : 2 * g.monitorRoom + (rest.map fun v => v.category).sum ≤ 8) (hdg : decode cc g.pc = .ok (.invokestatic index, 3)) (hf : cells + mc ≤ R.cells ∧ slots + ms ≤ R.slots) :
    vx_Run p l e R s m args below meth c H locs cells slots mc ms g rest (Qc As.toArray) XC free := by
  have hK : vx_Back l R p e below s args y 3 8 (PreOf R mc ms Pc) (PostOf Qc mc ms free) (vx_Post XC mc ms free) := vx_callBack cw.1 hM hp.1
  obtain ⟨⟨-, -, -, -, -, -, hcode, hini, hy, hlen, hl⟩, hstt⟩ := cw
  obtain ⟨hx, hb, hml, ho, -⟩ := S
  intro T hT X
  rcases vx_callS X hx (bytes := bytes) (maxL := maxL) (ret := ret) ho hl hstt hini hcode hy hK hg (hsize.trans hml.symm) (argsL := As) (rest := rest) (fun sig h => hn.trans (hlen sig h)) hstack hW (by rw [hb]; exact hdg)
    (fun vm₁ hW₁ => ⟨hf.1, hf.2, hp.2 (T.setVm vm₁) hT hW₁⟩) with ⟨v, vm₁, ⟨U', l2, c2, s2⟩, hW₁, X', ⟨g', mk, t, L, e1, e2, hq, h1, hL, h2, h3⟩, st⟩ | ⟨q, vm₁, ⟨U', l2, c2, s2⟩, hW₁, X', ⟨g', mk, t, L, E, ce, e1, e2, hq, hce, hcv, hcl, h1, hL, h2, h3⟩, st⟩
  · dsimp only [Pt.U, Pt.locs, Pt.cells, Pt.slots] at X' e1 e2 h1 h2 h3 st
    subst h1; subst h2; subst h3
    exact Or.inl ⟨v, (T.setVm vm₁).calling g' mk As.toArray, t, U', L, hT, X', hL, e1, e2, hq, st⟩
  · dsimp only [Pt.U, Pt.locs, Pt.cells, Pt.slots] at X' e1 e2 h1 h2 h3 st hcl
    subst h1; subst h2; subst h3
    exact Or.inr ⟨q, (T.setVm vm₁).calling g' mk As.toArray, t, U', L, E, ce, hT, X', hL, e1, e2, hq, hce, hcv, vx_cls hW₁ hcl, st⟩
end Runs
section Rows
variable {p : Program} {l : Launch} {e : Env} {R : Room} {s : State} {m : MethodId} {args : Array Value} {below : List Frame} {meth : Method} {c : Code} {H : Heap} {locs : List Loc} {cells slots : Nat} {Q : State → Prop}
variable {mc ms : Nat} {free : Addr → Prop} {A0 A1 : Nat → Prop} {H0 : Heap} {a : Array Value} {pc : Nat} {ls : Array Slot} {st0 rest : List Value}
theorem vx_keep {st₀ t T' : State} {L : List Loc} (h0 : st₀.heap = H) (e1 : T'.heap = t.heap) (hS : va_S A0 H0 H locs) (hA : ∀ q, q < H.size → A1 q → A0 q) (hf : ∀ q, free q → A0 q) (hL : ∀ q ∈ L, free q.base) (hF : va_F A1 st₀ t) :
    H.size ≤ T'.heap.size ∧ (∀ q : Nat, q < H.size → ¬ A1 q → T'.heap[q]? = H[q]?) ∧ va_S A0 H0 T'.heap (locs ++ L) := by
  obtain ⟨hz, hk⟩ := hF
  rw [h0] at hz hk
  exact ⟨by rw [e1]; exact hz, fun q h1 h2 => by rw [e1]; exact hk q h1 h2,
    ⟨Nat.le_trans hS.1 (by rw [e1]; exact hz), fun q h1 h2 => by rw [e1, hk q (Nat.lt_of_lt_of_le h1 hS.1) (fun z => h2 (hA q (Nat.lt_of_lt_of_le h1 hS.1) z))]; exact hS.2.1 q h1 h2, fun q hq => by
      rcases List.mem_append.mp hq with h | h
      · exact hS.2.2 q h
      · exact hf _ (hL q h)⟩⟩
theorem vx_calli {S SX : Type} {post : Int32 → S → Prop} {px : SX → Prop} {B : S → State → Prop} {BX : String → SX → State → Prop} {AX : Nat → Prop} (hr : vx_Run p l e R s m args below meth c H locs cells slots mc ms (F0 m pc ls st0) rest (va_Qi post B A1 a) (vx_X px BX AX) free) (hS : va_S A0 H0 H locs) (hA : ∀ q, q < H.size → A1 q → A0 q) (hf : ∀ q, free q → A0 q) (hAX : ∀ q, q < H.size → AX q → A0 q)
    (kx : ∀ (E : String) (ce : Cell) (q9 : Addr) (u : SX) (t : State) (H1 : Heap) (locs1 : List Loc), t.heap = H1 → s.vm.Alike t.vm → px u → BX E u t → H.size ≤ H1.size → (∀ q : Nat, q < H.size → ¬ AX q → H1[q]? = H[q]?) → va_S A0 H0 H1 locs1 → H1[q9]? = some ce → ce.vm = .none → s.vm.findClass E = some ce.cls → vx_W p l e R s m args below meth c H1 locs1 (cells + mc) (slots + ms) Q (F0 m pc ls rest) q9)
    (kk : ∀ (r : Int32) (u : S) (t : State) (H1 : Heap) (locs1 : List Loc), t.heap = H1 → s.vm.Alike t.vm → post r u → B u t → H.size ≤ H1.size → (∀ q : Nat, q < H.size → ¬ A1 q → H1[q]? = H[q]?) → va_S A0 H0 H1 locs1 → W p l e R s m args below meth c H1 locs1 (cells + mc) (slots + ms) Q (F0 m (pc + 3) ls (.int r :: rest))) : W p l e R s m args below meth c H locs cells slots Q (F0 m pc ls st0) := by
  intro T hT X
  rcases hr T hT X with ⟨v, st₀, t, T', L, h0, X', hL, e1, e2, ⟨⟨r, u, hv, hp, hb⟩, hF⟩, st⟩ | ⟨q, st₀, t, T', L, E, ce, h0, X', hL, e1, e2, ⟨u, hp, hb, hF⟩, hce, hcv, hcl, st⟩
  · cases hv
    obtain ⟨k1, k2, k3⟩ := vx_keep h0 e1 hS hA hf hL hF
    obtain ⟨t2, a1, b1⟩ := kk r u t T'.heap (locs ++ L) e1.symm (by rw [← e2]; exact X'.warmed.alike) hp hb k1 k2 k3 T' rfl X'
    exact ⟨t2, st t2 a1, b1⟩
  · obtain ⟨k1, k2, k3⟩ := vx_keep h0 e1 hS hAX hf hL hF
    obtain ⟨t2, a1, b1⟩ := kx E ce q u t T'.heap (locs ++ L) e1.symm (by rw [← e2]; exact X'.warmed.alike) hp hb k1 k2 k3 (by rw [e1]; exact hce) hcv hcl T' rfl X'
    exact ⟨t2, st.trans a1, b1⟩
theorem vx_calll {S SX : Type} {post : Int64 → S → Prop} {px : SX → Prop} {B : S → State → Prop} {BX : String → SX → State → Prop} {AX : Nat → Prop} (hr : vx_Run p l e R s m args below meth c H locs cells slots mc ms (F0 m pc ls st0) rest (va_Ql post B A1 a) (vx_X px BX AX) free) (hS : va_S A0 H0 H locs) (hA : ∀ q, q < H.size → A1 q → A0 q) (hf : ∀ q, free q → A0 q) (hAX : ∀ q, q < H.size → AX q → A0 q)
    (kx : ∀ (E : String) (ce : Cell) (q9 : Addr) (u : SX) (t : State) (H1 : Heap) (locs1 : List Loc), t.heap = H1 → s.vm.Alike t.vm → px u → BX E u t → H.size ≤ H1.size → (∀ q : Nat, q < H.size → ¬ AX q → H1[q]? = H[q]?) → va_S A0 H0 H1 locs1 → H1[q9]? = some ce → ce.vm = .none → s.vm.findClass E = some ce.cls → vx_W p l e R s m args below meth c H1 locs1 (cells + mc) (slots + ms) Q (F0 m pc ls rest) q9)
    (kk : ∀ (r : Int64) (u : S) (t : State) (H1 : Heap) (locs1 : List Loc), t.heap = H1 → s.vm.Alike t.vm → post r u → B u t → H.size ≤ H1.size → (∀ q : Nat, q < H.size → ¬ A1 q → H1[q]? = H[q]?) → va_S A0 H0 H1 locs1 → W p l e R s m args below meth c H1 locs1 (cells + mc) (slots + ms) Q (F0 m (pc + 3) ls (.long r :: rest))) : W p l e R s m args below meth c H locs cells slots Q (F0 m pc ls st0) := by
  intro T hT X
  rcases hr T hT X with ⟨v, st₀, t, T', L, h0, X', hL, e1, e2, ⟨⟨r, u, hv, hp, hb⟩, hF⟩, st⟩ | ⟨q, st₀, t, T', L, E, ce, h0, X', hL, e1, e2, ⟨u, hp, hb, hF⟩, hce, hcv, hcl, st⟩
  · cases hv
    obtain ⟨k1, k2, k3⟩ := vx_keep h0 e1 hS hA hf hL hF
    obtain ⟨t2, a1, b1⟩ := kk r u t T'.heap (locs ++ L) e1.symm (by rw [← e2]; exact X'.warmed.alike) hp hb k1 k2 k3 T' rfl X'
    exact ⟨t2, st t2 a1, b1⟩
  · obtain ⟨k1, k2, k3⟩ := vx_keep h0 e1 hS hAX hf hL hF
    obtain ⟨t2, a1, b1⟩ := kx E ce q u t T'.heap (locs ++ L) e1.symm (by rw [← e2]; exact X'.warmed.alike) hp hb k1 k2 k3 (by rw [e1]; exact hce) hcv hcl T' rfl X'
    exact ⟨t2, st.trans a1, b1⟩
theorem vx_callf {S SX : Type} {post : UInt32 → S → Prop} {px : SX → Prop} {B : S → State → Prop} {BX : String → SX → State → Prop} {AX : Nat → Prop} (hr : vx_Run p l e R s m args below meth c H locs cells slots mc ms (F0 m pc ls st0) rest (va_Qf post B A1 a) (vx_X px BX AX) free) (hS : va_S A0 H0 H locs) (hA : ∀ q, q < H.size → A1 q → A0 q) (hf : ∀ q, free q → A0 q) (hAX : ∀ q, q < H.size → AX q → A0 q)
    (kx : ∀ (E : String) (ce : Cell) (q9 : Addr) (u : SX) (t : State) (H1 : Heap) (locs1 : List Loc), t.heap = H1 → s.vm.Alike t.vm → px u → BX E u t → H.size ≤ H1.size → (∀ q : Nat, q < H.size → ¬ AX q → H1[q]? = H[q]?) → va_S A0 H0 H1 locs1 → H1[q9]? = some ce → ce.vm = .none → s.vm.findClass E = some ce.cls → vx_W p l e R s m args below meth c H1 locs1 (cells + mc) (slots + ms) Q (F0 m pc ls rest) q9)
    (kk : ∀ (r : UInt32) (u : S) (t : State) (H1 : Heap) (locs1 : List Loc), t.heap = H1 → s.vm.Alike t.vm → post r u → B u t → H.size ≤ H1.size → (∀ q : Nat, q < H.size → ¬ A1 q → H1[q]? = H[q]?) → va_S A0 H0 H1 locs1 → W p l e R s m args below meth c H1 locs1 (cells + mc) (slots + ms) Q (F0 m (pc + 3) ls (.float r :: rest))) : W p l e R s m args below meth c H locs cells slots Q (F0 m pc ls st0) := by
  intro T hT X
  rcases hr T hT X with ⟨v, st₀, t, T', L, h0, X', hL, e1, e2, ⟨⟨r, u, hv, hp, hb⟩, hF⟩, st⟩ | ⟨q, st₀, t, T', L, E, ce, h0, X', hL, e1, e2, ⟨u, hp, hb, hF⟩, hce, hcv, hcl, st⟩
  · cases hv
    obtain ⟨k1, k2, k3⟩ := vx_keep h0 e1 hS hA hf hL hF
    obtain ⟨t2, a1, b1⟩ := kk r u t T'.heap (locs ++ L) e1.symm (by rw [← e2]; exact X'.warmed.alike) hp hb k1 k2 k3 T' rfl X'
    exact ⟨t2, st t2 a1, b1⟩
  · obtain ⟨k1, k2, k3⟩ := vx_keep h0 e1 hS hAX hf hL hF
    obtain ⟨t2, a1, b1⟩ := kx E ce q u t T'.heap (locs ++ L) e1.symm (by rw [← e2]; exact X'.warmed.alike) hp hb k1 k2 k3 (by rw [e1]; exact hce) hcv hcl T' rfl X'
    exact ⟨t2, st.trans a1, b1⟩
theorem vx_calld {S SX : Type} {post : UInt64 → S → Prop} {px : SX → Prop} {B : S → State → Prop} {BX : String → SX → State → Prop} {AX : Nat → Prop} (hr : vx_Run p l e R s m args below meth c H locs cells slots mc ms (F0 m pc ls st0) rest (va_Qd post B A1 a) (vx_X px BX AX) free) (hS : va_S A0 H0 H locs) (hA : ∀ q, q < H.size → A1 q → A0 q) (hf : ∀ q, free q → A0 q) (hAX : ∀ q, q < H.size → AX q → A0 q)
    (kx : ∀ (E : String) (ce : Cell) (q9 : Addr) (u : SX) (t : State) (H1 : Heap) (locs1 : List Loc), t.heap = H1 → s.vm.Alike t.vm → px u → BX E u t → H.size ≤ H1.size → (∀ q : Nat, q < H.size → ¬ AX q → H1[q]? = H[q]?) → va_S A0 H0 H1 locs1 → H1[q9]? = some ce → ce.vm = .none → s.vm.findClass E = some ce.cls → vx_W p l e R s m args below meth c H1 locs1 (cells + mc) (slots + ms) Q (F0 m pc ls rest) q9)
    (kk : ∀ (r : UInt64) (u : S) (t : State) (H1 : Heap) (locs1 : List Loc), t.heap = H1 → s.vm.Alike t.vm → post r u → B u t → H.size ≤ H1.size → (∀ q : Nat, q < H.size → ¬ A1 q → H1[q]? = H[q]?) → va_S A0 H0 H1 locs1 → W p l e R s m args below meth c H1 locs1 (cells + mc) (slots + ms) Q (F0 m (pc + 3) ls (.double r :: rest))) : W p l e R s m args below meth c H locs cells slots Q (F0 m pc ls st0) := by
  intro T hT X
  rcases hr T hT X with ⟨v, st₀, t, T', L, h0, X', hL, e1, e2, ⟨⟨r, u, hv, hp, hb⟩, hF⟩, st⟩ | ⟨q, st₀, t, T', L, E, ce, h0, X', hL, e1, e2, ⟨u, hp, hb, hF⟩, hce, hcv, hcl, st⟩
  · cases hv
    obtain ⟨k1, k2, k3⟩ := vx_keep h0 e1 hS hA hf hL hF
    obtain ⟨t2, a1, b1⟩ := kk r u t T'.heap (locs ++ L) e1.symm (by rw [← e2]; exact X'.warmed.alike) hp hb k1 k2 k3 T' rfl X'
    exact ⟨t2, st t2 a1, b1⟩
  · obtain ⟨k1, k2, k3⟩ := vx_keep h0 e1 hS hAX hf hL hF
    obtain ⟨t2, a1, b1⟩ := kx E ce q u t T'.heap (locs ++ L) e1.symm (by rw [← e2]; exact X'.warmed.alike) hp hb k1 k2 k3 (by rw [e1]; exact hce) hcv hcl T' rfl X'
    exact ⟨t2, st.trans a1, b1⟩
theorem vx_callv {S SX : Type} {post : S → Prop} {px : SX → Prop} {B : S → State → Prop} {BX : String → SX → State → Prop} {AX : Nat → Prop} (hr : vx_Run p l e R s m args below meth c H locs cells slots mc ms (F0 m pc ls st0) rest (va_Qv post B A1 a) (vx_X px BX AX) free) (hS : va_S A0 H0 H locs) (hA : ∀ q, q < H.size → A1 q → A0 q) (hf : ∀ q, free q → A0 q) (hAX : ∀ q, q < H.size → AX q → A0 q)
    (kx : ∀ (E : String) (ce : Cell) (q9 : Addr) (u : SX) (t : State) (H1 : Heap) (locs1 : List Loc), t.heap = H1 → s.vm.Alike t.vm → px u → BX E u t → H.size ≤ H1.size → (∀ q : Nat, q < H.size → ¬ AX q → H1[q]? = H[q]?) → va_S A0 H0 H1 locs1 → H1[q9]? = some ce → ce.vm = .none → s.vm.findClass E = some ce.cls → vx_W p l e R s m args below meth c H1 locs1 (cells + mc) (slots + ms) Q (F0 m pc ls rest) q9)
    (kk : ∀ (u : S) (t : State) (H1 : Heap) (locs1 : List Loc), t.heap = H1 → s.vm.Alike t.vm → post u → B u t → H.size ≤ H1.size → (∀ q : Nat, q < H.size → ¬ A1 q → H1[q]? = H[q]?) → va_S A0 H0 H1 locs1 → W p l e R s m args below meth c H1 locs1 (cells + mc) (slots + ms) Q (F0 m (pc + 3) ls (rest))) : W p l e R s m args below meth c H locs cells slots Q (F0 m pc ls st0) := by
  intro T hT X
  rcases hr T hT X with ⟨v, st₀, t, T', L, h0, X', hL, e1, e2, ⟨⟨u, hv, hp, hb⟩, hF⟩, st⟩ | ⟨q, st₀, t, T', L, E, ce, h0, X', hL, e1, e2, ⟨u, hp, hb, hF⟩, hce, hcv, hcl, st⟩
  · cases hv
    obtain ⟨k1, k2, k3⟩ := vx_keep h0 e1 hS hA hf hL hF
    obtain ⟨t2, a1, b1⟩ := kk u t T'.heap (locs ++ L) e1.symm (by rw [← e2]; exact X'.warmed.alike) hp hb k1 k2 k3 T' rfl X'
    exact ⟨t2, st t2 a1, b1⟩
  · obtain ⟨k1, k2, k3⟩ := vx_keep h0 e1 hS hAX hf hL hF
    obtain ⟨t2, a1, b1⟩ := kx E ce q u t T'.heap (locs ++ L) e1.symm (by rw [← e2]; exact X'.warmed.alike) hp hb k1 k2 k3 (by rw [e1]; exact hce) hcv hcl T' rfl X'
    exact ⟨t2, st.trans a1, b1⟩
/-- caught by the row x of this method's table; the rows ahead don't take it -/
theorem vx_catch {own name : String} {E : String} {ce : Cell} {q : Addr} (hown : s.vm.findClass own = some m.cls) (pre : List ExceptionTableEntry) (x : ExceptionTableEntry) (suf : List ExceptionTableEntry) (hsplit : c.exceptionTable.toList = pre ++ x :: suf)
    (hpass : ∀ z ∈ pre, covers z pc = false ∨ (z.catchType ≠ 0 ∧ ∃ nm : String, (Cond.classLink own z.catchType nm).before args s = true ∧ va_Nc E nm s)) (hx : covers x pc = true) (h0 : x.catchType ≠ 0)
    (hlink : (Cond.classLink own x.catchType name).before args s = true) (hcast : (Cond.castable E name).before args s = true) (hcell : H[q]? = some ce) (hv : ce.vm = .none) (hcl : s.vm.findClass E = some ce.cls)
    (kk : W p l e R s m args below meth c H locs cells slots Q (F0 m x.handlerPc ls [.ref q])) : vx_W p l e R s m args below meth c H locs cells slots Q (F0 m pc ls rest) q := by
  intro T hT X
  have hpl : e.platform.magicAccessors = ({} : Platform).magicAccessors := by rw [X.admits.platform]
  obtain ⟨c3, c4, hc3, hc4, hasg⟩ := Cond.castable_spec hcast
  cases Option.some.inj (hc3.symm.trans hcl)
  obtain ⟨c5, hc5, hcl5⟩ := Cond.classLink_spec hown hlink e.platform hpl
  cases Option.some.inj (hc4.symm.trans hc5)
  obtain ⟨vm', X', st⟩ := X.thenCaughtThrough q (g := F0 m pc ls rest) rfl (Steps.refl _) (by rw [hT]; exact hcell) (by rw [hv]; rfl) (by obtain ⟨k9, h9, -⟩ := Vm.findClass_spec hcl; exact ⟨k9, h9⟩) pre x suf hsplit
    (fun z hz => by
      rcases hpass z hz with h | ⟨hz0, nm, hl1, hn1⟩
      · exact Or.inl h
      · obtain ⟨c6, hc6, hcl6⟩ := Cond.classLink_spec hown hl1 e.platform hpl
        obtain ⟨a8, b8, h1, h2, h3⟩ := hn1
        cases Option.some.inj (h1.symm.trans hcl)
        cases Option.some.inj (h2.symm.trans hc6)
        exact Or.inr ⟨hz0, _, hcl6, h3⟩) hx (Or.inr ⟨h0, c4, hcl5, hasg⟩)
  obtain ⟨t, a1, b1⟩ := kk (T.setVm vm') hT X'
  exact ⟨t, st.trans a1, b1⟩
end Rows
section Ends
variable {p : Program} {l : Launch} {e : Env} {R : Room} {s : State} {m : MethodId} {args : Array Value} {below : List Frame} {meth : Method} {c : Code} {H : Heap} {locs : List Loc} {cells slots : Nat} {Q : State → Prop}
variable {mc ms : Nat} {free : Addr → Prop} {A0 A1 : Nat → Prop} {H0 : Heap} {a : Array Value} {ls : Array Slot} {st0 rest : List Value}
variable {Qc : Array Value → State → Outcome → State → Prop} {XC : String → State → State → Prop}
/-- what a body that may throw owes at its end -/
def vx_MQ (below : List Frame) (Qc : Array Value → State → Outcome → State → Prop) (XC : String → State → State → Prop) (a : Array Value) (s : State) (mc ms : Nat) (free : Addr → Prop) : State → Prop := fun t =>
  ∃ o, t.status = .running ∧ Ended t below o ∧ vx_Q Qc XC mc ms free a s o t
theorem vx_ret {g : JFrame} {mc ms : Nat} (k : W p l e R s m args below meth c H locs cells slots (MQ below Qc args s mc ms free) g) : W p l e R s m args below meth c H locs cells slots (vx_MQ below Qc XC args s mc ms free) g := by
  intro T hT X
  obtain ⟨t, a1, o, b1, b2, b3, b4⟩ := k T hT X
  exact ⟨t, a1, o, b1, b2, Or.inl ⟨b3, b4⟩⟩
/-- not caught here: it goes on to the caller -/
theorem vx_widen {g : JFrame} {q : Addr} {k n : Nat} (h1 : cells ≤ k) (h2 : slots ≤ n) (kk : vx_W p l e R s m args below meth c H locs k n Q g q) : vx_W p l e R s m args below meth c H locs cells slots Q g q := fun T hT X => kk T hT (stand_widen X h1 h2)
theorem vx_out {pc : Nat} {E : String} {ce : Cell} {q : Addr} {mc ms : Nat} (hout : ∀ x ∈ c.exceptionTable.toList, covers x pc = false) (hlocks : meth.locks = false) (hcell : H[q]? = some ce) (hv : ce.vm = .none) (hcl : s.vm.findClass E = some ce.cls)
    (hx : ∀ t : State, t.heap = H → s.vm.Alike t.vm → XC E s t) (hf : ∀ z ∈ locs, free z.base) (hc : cells ≤ mc) (hs : slots ≤ ms) :
    vx_W p l e R s m args below meth c H locs cells slots (vx_MQ below Qc XC args s mc ms free) (F0 m pc ls rest) q := by
  intro T hT X
  obtain ⟨st1, hrun, hend, hW, hsm⟩ := X.leaveThrown q (g := F0 m pc ls rest) rfl rfl rfl hout hlocks
  have hcell9 : (T.setFrames (.throwing q :: below)).heap[q]? = some ce := by
    show T.heap[q]? = some ce
    rw [hT]; exact hcell
  exact ⟨_, st1, .threw q, hrun, hend, Or.inr ⟨q, rfl, E, ce, locs, hx _ hT hW.alike, hcell9, hv, hcl, hW, hsm.mono hc hs, hf⟩⟩
theorem vx_frame {U : State} {k n : Nat} (h : s.sameButNew ({ U with vm := s.vm } : State) locs k n) : s.heap.size ≤ U.heap.size ∧ ∀ q : Nat, q < s.heap.size → (∀ z ∈ locs, z.base ≠ q) → U.heap[q]? = s.heap[q]? := by
  obtain ⟨-, h2, -, -, -, h6⟩ := h
  refine ⟨h2, fun q hq hz => ?_⟩
  obtain ⟨c9, e1, e2, e3, e4⟩ := h6 q _ (Array.getElem?_eq_getElem hq)
  have hs : c9.slots = (s.heap[q]).slots := Array.ext_getElem? fun i => e4 i fun hm => hz _ hm rfl
  have h9 : c9 = s.heap[q] := by
    rw [hs] at e2
    exact e2
  have e5 : U.heap[q]? = some c9 := e1
  rw [e5, h9, Array.getElem?_eq_getElem hq]
/-- the words of a throw but the four that speak of the heap -/
def vx_no (w : Cond) : Bool := decide (w ≠ .isRef (.static Bundle.tN "UNASSIGNED_STACK" Bundle.steD)) && decide (w ≠ .isRef (.static Bundle.tN "SUPPRESSED_SENTINEL" Bundle.listD)) && decide (w ≠ .laysStatic Bundle.tN "UNASSIGNED_STACK" Bundle.steD) && decide (w ≠ .laysStatic Bundle.tN "SUPPRESSED_SENTINEL" Bundle.listD)
def vx_at0 (own : String) (ic : Nat) (X : String) (names : List String) : List Cond := (Bundle.ownAtoms0 own ic X names).filter vx_no
def vx_atS (own : String) (ic : Nat) (X : String) (names : List String) : List Cond := (Bundle.ownAtoms own ic X names).filter vx_no
/-- a word that the tables alone decide, or a good one -/
def vx_ot (w : Cond) : Bool := w.onTables || goodWord w
theorem vx_ot_at {args a' : Array Value} {s U : State} {w : Cond} (hW : s.WarmedH U.vm) (hvm : s.vm = U.vm) (hg : vx_ot w = true) (h : w.before args s = true) : w.before a' U = true := by
  simp only [vx_ot, Bool.or_eq_true] at hg
  rcases hg with hg | hg
  · exact va_tabs hg hvm h
  · exact word_at hW (good_of_word hg) h
/-- a list's words: the good ones out of the method's own list, the others by premises of their own -/
theorem vx_hat {args : Array Value} {s : State} {L B : List Cond} (h1 : ∀ w ∈ L.filter goodWord, w.before args s = true) (h2 : ∀ w ∈ L.filter (fun w => !goodWord w), w ∈ B) (h3 : ∀ w ∈ B, w.before args s = true) : ∀ w ∈ L, w.before args s = true := by
  intro w hw
  by_cases g : goodWord w = true
  · exact h1 w (List.mem_filter.mpr ⟨hw, g⟩)
  · refine h3 w (h2 w (List.mem_filter.mpr ⟨hw, ?_⟩))
    show (!goodWord w) = true
    cases hgw : goodWord w
    · rfl
    · exact absurd hgw g
theorem vx_c {args : Array Value} {s : State} {w : Cond} {B : List Cond} (h : w.before args s = true) (t : ∀ w ∈ B, w.before args s = true) : ∀ w' ∈ w :: B, w'.before args s = true := fun w' h' => (List.mem_cons.mp h').elim (fun e => by rw [e]; exact h) (t w')
theorem vx_n {args : Array Value} {s : State} : ∀ w ∈ ([] : List Cond), w.before args s = true := fun _ h => nomatch h
theorem vx_own {args : Array Value} {s : State} {L : List Cond} (h1 : ∀ w ∈ L.filter vx_no, w.before args s = true)
    (hU : (Cond.isRef (.static Bundle.tN "UNASSIGNED_STACK" Bundle.steD)).before args s = true) (hN : (Cond.isRef (.static Bundle.tN "SUPPRESSED_SENTINEL" Bundle.listD)).before args s = true)
    (lU : (Cond.laysStatic Bundle.tN "UNASSIGNED_STACK" Bundle.steD).before args s = true) (lN : (Cond.laysStatic Bundle.tN "SUPPRESSED_SENTINEL" Bundle.listD).before args s = true) : ∀ w ∈ L, w.before args s = true := by
  intro w hw
  by_cases e1 : w = .isRef (.static Bundle.tN "UNASSIGNED_STACK" Bundle.steD)
  · rw [e1]; exact hU
  · by_cases e2 : w = .isRef (.static Bundle.tN "SUPPRESSED_SENTINEL" Bundle.listD)
    · rw [e2]; exact hN
    · by_cases e3 : w = .laysStatic Bundle.tN "UNASSIGNED_STACK" Bundle.steD
      · rw [e3]; exact lU
      · by_cases e4 : w = .laysStatic Bundle.tN "SUPPRESSED_SENTINEL" Bundle.listD
        · rw [e4]; exact lN
        · exact h1 w (List.mem_filter.mpr ⟨hw, by unfold vx_no; rw [decide_eq_true e1, decide_eq_true e2, decide_eq_true e3, decide_eq_true e4]; rfl⟩)
/-- where a static field lies, its class's statics cell in H -/
def vx_L (C n d : String) (A : Nat → Prop) (U : State) (H : Heap) : Prop := ∃ (c : ClassId) (k : Class) (i : Nat) (f : Field) (a : Nat) (cell : Cell), U.vm.findClass C = some c ∧ U.fieldFound? C n d = some (c, k, i, f) ∧ f.isStatic = true ∧ k.statics = some a ∧ H[a]? = some cell ∧ cell.vm.isStatics = true ∧ cell.cls = c ∧ f.slot < cell.slots.size ∧ k.staticTypes[f.slot]? = some f.type ∧ ¬ A a
theorem vx_L.moved {C n d : String} {A : Nat → Prop} {u U : State} {H : Heap} (hvm : u.vm.Alike U.vm) (h : vx_L C n d A u H) : vx_L C n d A U H := by
  obtain ⟨c, k, i, f, a, cell, h1, h2, h3, h4, h5, h6, h7, h8, h9, h10⟩ := h
  obtain ⟨k', hi', he⟩ := State.fieldFound?_setVm hvm h2
  exact ⟨c, k', i, f, a, cell, by rw [hvm.findClass]; exact h1, hi', h3, by rw [he]; exact h4, h5, h6, h7, h8, by rw [he]; exact h9, h10⟩
theorem vx_L.kept {C n d : String} {A : Nat → Prop} {U : State} {H H1 : Heap} (h : vx_L C n d A U H) (hq : ∀ a : Nat, a < H.size → ¬ A a → H1[a]? = H[a]?) : vx_L C n d A U H1 := by
  obtain ⟨c, k, i, f, a, cell, h1, h2, h3, h4, h5, h6, h7, h8, h9, h10⟩ := h
  exact ⟨c, k, i, f, a, cell, h1, h2, h3, h4, by rw [hq a (Array.getElem?_eq_some_iff.mp h5).1 h10]; exact h5, h6, h7, h8, h9, h10⟩
theorem vx_L.narrow {C n d : String} {A B : Nat → Prop} {U : State} {H : Heap} (h : vx_L C n d A U H) (hAB : ∀ q, B q → A q) : vx_L C n d B U H := by
  obtain ⟨c, k, i, f, a, cell, h1, h2, h3, h4, h5, h6, h7, h8, h9, h10⟩ := h
  exact ⟨c, k, i, f, a, cell, h1, h2, h3, h4, h5, h6, h7, h8, h9, fun z => h10 (hAB _ z)⟩
theorem vx_L.word {C n d : String} {A : Nat → Prop} {s : State} {args : Array Value} (h : vx_L C n d A s s.heap) : (Cond.laysStatic C n d).before args s = true := by
  obtain ⟨c, k, i, f, a, cell, h1, h2, h3, h4, h5, h6, h7, h8, h9, -⟩ := h
  show (Cond.laysStatic C n d).holds args s none s [] = true
  exact Cond.laysStatic_of h1 h2 h3 h4 h5 h6 h7 h8 h9
/-- .. and what it holds: null or some reference -/
def vx_Zq (C n d : String) (A : Nat → Prop) (U : State) (H : Heap) : Prop := va_Zq C n d A U H ∧ vx_L C n d A U H
theorem vx_Zq.moved {C n d : String} {A : Nat → Prop} {u U : State} {H : Heap} (hvm : u.vm.Alike U.vm) (h : vx_Zq C n d A u H) : vx_Zq C n d A U H := ⟨va_Zq.moved hvm h.1, vx_L.moved hvm h.2⟩
theorem vx_Zq.kept {C n d : String} {A : Nat → Prop} {U : State} {H H1 : Heap} (h : vx_Zq C n d A U H) (hq : ∀ a : Nat, a < H.size → ¬ A a → H1[a]? = H[a]?) : vx_Zq C n d A U H1 := ⟨va_Zq.kept h.1 hq, vx_L.kept h.2 hq⟩
theorem vx_Zq.narrow {C n d : String} {A B : Nat → Prop} {U : State} {H : Heap} (h : vx_Zq C n d A U H) (hAB : ∀ q, B q → A q) : vx_Zq C n d B U H := ⟨va_Zq.narrow h.1 hAB, vx_L.narrow h.2 hAB⟩
theorem vx_Zqof {args : Array Value} {s : State} {C n d : String} {A : Nat → Prop} (hl : (Cond.laysStatic C n d).before args s = true) (hini : (Cond.initialized C).before args s = true) (h : (Cond.isRef (.static C n d)).before args s = true) (hA : ∀ a : Nat, a < s.heap.size → ¬ A a) : vx_Zq C n d A s s.heap := by
  refine ⟨va_Zqof hl hini h hA, ?_⟩
  obtain ⟨c, k, i, f, a, cell, h1, h2, h3, h4, h5, h6, h7, h8, h9⟩ := Cond.laysStatic_spec hl
  exact ⟨c, k, i, f, a, cell, h1, h2, h3, h4, h5, h6, h7, h8, h9, hA a (Array.getElem?_eq_some_iff.mp h5).1⟩
theorem vx_isRef {C n d : String} {v : Value} {A : Nat → Prop} {s : State} {args : Array Value} (h : va_Z C n d v A s s.heap) (hv : v.isRef = true) : (Cond.isRef (.static C n d)).before args s = true := by
  obtain ⟨cf, kf, fi, f, a, cell, h1, h2, h3, h4, h5, h6, h7, -⟩ := h
  have he : (Term.static C n d).eval args s none [] s = some v := by
    simp [Term.eval, State.fieldNamed?, h1, h2, h4, h5, h6, h7]
  simp only [Cond.before, Cond.holds, Cond.value, he]
  cases v <;> simp_all [Value.isRef]
theorem vx_isRefq {C n d : String} {A : Nat → Prop} {s : State} {args : Array Value} (h : va_Zq C n d A s s.heap) : (Cond.isRef (.static C n d)).before args s = true := by
  rcases h with h | ⟨t, h⟩
  · exact vx_isRef h rfl
  · exact vx_isRef h rfl
/-- the same frame, seen from here: as if the method were called anew in this heap -/
theorem vx_rebase {T : State} (X : Stand p l e R s m args below meth c T locs cells slots) {R' : Room} (hf : R'.frames ≤ R.frames) (hl : R'.locals ≤ R.locals) (hc : cells + R'.cells ≤ R.cells) (hs : slots + R'.slots ≤ R.slots) :
    Stand p l e R' ((T.setVm s.vm).setFrames (.invoking m args :: below)) m args below meth c T [] 0 0 := by
  have htop : (T.setVm s.vm).topJava?.isSome := X.here.top
  have hF : ((T.setVm s.vm).setFrames (.invoking m args :: below)).frames = .invoking m args :: below := State.frames_setFrames _ (State.cur_lt_of_top htop)
  obtain ⟨g₀, hg0⟩ := Option.isSome_iff_exists.mp htop
  obtain ⟨r, hr⟩ := State.topJava?_eq_some.mp hg0
  have hl9 : e.platform.stackLimits (T.setVm s.vm).me = e.platform.stackLimits s.me := X.limits
  have hb9 : (T.setVm s.vm).me.stackBytes = s.me.stackBytes := X.bytes
  refine ⟨X.admits, X.cas, X.clock, hF, ?_, X.hears, X.method, X.code, X.here, X.tail, X.warmed, ?_, ?_, ?_⟩
  · have h := X.room
    have hU : ((T.setVm s.vm).setFrames (.invoking m args :: below)).localsInUse = s.localsInUse := by
      rw [State.localsInUse_invoking hF (meth := meth) (c := c) X.method X.code, State.localsInUse_invoking X.frames X.method X.code]
    simp only [State.hasRoom, Bool.and_eq_true, decide_eq_true_eq] at h ⊢
    obtain ⟨⟨⟨⟨h1, h2, h3, h4, h5, h6⟩, h7⟩, h8⟩, h9⟩ := h
    rw [X.frames, List.length_cons] at h2 h3
    have q1 := X.heapSize
    have q2 := X.used
    simp only [hF, hU, List.length_cons, State.stackLimits_setFrames, State.stackBytes_setFrames, hl9, hb9]
    refine ⟨⟨⟨⟨by omega, by omega, by omega, by omega, by omega, h6⟩, ?_⟩, ?_⟩, X.book⟩
    · show T.heap.size + R'.cells ≤ e.platform.maxCells
      omega
    · show T.slotsUsed + R'.slots ≤ e.platform.maxSlots
      omega
  · rw [State.stackLimits_setFrames]; rfl
  · rw [State.stackBytes_setFrames]; rfl
  · refine ⟨?_, Nat.le_refl _, Nat.le_refl _, ?_, ?_, fun a c9 h9 => ⟨c9, h9, rfl, rfl, fun _ _ => rfl⟩⟩
    · obtain ⟨t, ht, -⟩ := State.frames_cons hr
      show T.setVm s.vm = { ((T.setVm s.vm).setFrames (.invoking m args :: below)).setFrames (T.setVm s.vm).frames with heap := T.heap, slotsUsed := T.slotsUsed }
      rw [State.setFrames_setFrames, State.setFrames_self ht]
      rfl
    · show T.slotsUsed = T.slotsUsed + ((T.heap.toList.drop T.heap.size).map (·.slots.size)).sum
      rw [List.drop_eq_nil_of_le (Nat.le_of_eq Array.length_toList)]
      rfl
    · show ((T.heap.toList.drop T.heap.size).map (·.slots.size)).sum ≤ 0
      rw [List.drop_eq_nil_of_le (Nat.le_of_eq Array.length_toList)]
      exact Nat.le_refl _
/-- 'throw new E()': new; dup; invokespecial; athrow -/
theorem vx_throw0 {cc : ByteArray} {pc : Nat} (hexec : p.tables.exec = Jvm.exec) (hb : c.code = cc) (hl : l.stackTraces = false) {own cls : String} {names : List String} {ik ic mc ms : Nat} {A : Nat → Prop}
    (hown : s.vm.findClass own = some m.cls) (hcls : Bundle.fit cls = true) (hnames : ∀ n ∈ names, Bundle.fit n = true)
    (hk : (Cond.classLink own ik cls).before args s = true) (hini : (Cond.initialized cls).before args s = true) (hat : ∀ w ∈ vx_at0 own ic cls names, w.before args s = true)
    (hgood : ∀ w ∈ Cond.classLink own ik cls :: Cond.initialized cls :: vx_at0 own ic cls names, vx_ot w = true)
    (hU : vx_Zq Bundle.tN "UNASSIGNED_STACK" Bundle.steD A s s.heap) (hN : vx_Zq Bundle.tN "SUPPRESSED_SENTINEL" Bundle.listD A s s.heap) (hS : va_S A s.heap H locs) (hsize : ls.size = c.maxLocals)
    (d0 : decode cc pc = .ok (.new ik, 3)) (d3 : decode cc (pc + 3) = .ok (.dup, 1)) (d4 : decode cc (pc + 4) = .ok (.invokespecial ic, 3)) (d7 : decode cc (pc + 7) = .ok (.athrow, 1))
    (hout : ∀ x ∈ c.exceptionTable.toList, covers x (pc + 7) = false)
    (hRframes : names.length + 3 < R.frames) (hRlocals : (rest.map fun v => v.category).sum + (13 * (names.length + 1) + 42) ≤ R.locals) (hRcells : cells + 1 ≤ R.cells) (hRslots : slots + 6 ≤ R.slots) (hlocks : meth.locks = false)
    (hx : ∀ t : State, s.vm.Alike t.vm → H.size ≤ t.heap.size → (∀ q : Nat, q < H.size → t.heap[q]? = H[q]?) → XC cls s t)
    (hf : ∀ z ∈ locs, free z.base) (hc : cells + 1 ≤ mc) (hs : slots + 6 ≤ ms) :
    W p l e R s m args below meth c H locs cells slots (vx_MQ below Qc XC args s mc ms free) (F0 m pc ls rest) := by
  intro T hT X
  have htr : e.platform.stackTraces = false := (show e.platform.stackTraces = l.stackTraces by rw [X.admits.platform]).trans hl
  have Y := vx_rebase X (R' := { frames := R.frames, locals := R.locals, cells := 1, slots := 6 }) (Nat.le_refl _) (Nat.le_refl _) hRcells hRslots
  obtain ⟨s', hA⟩ : ∃ z, z = (T.setVm s.vm).setFrames (.invoking m args :: below) := ⟨_, rfl⟩
  rw [← hA] at Y
  have hvm : s'.vm = s.vm := by rw [hA]; rfl
  have hhp : s'.heap = H := by rw [hA]; exact hT
  have hW0 : s.WarmedH s'.vm := by rw [hvm]; exact State.WarmedH.refl s
  have hat' : ∀ w ∈ vx_at0 own ic cls names, w.before args s' = true := fun w hw => vx_ot_at hW0 hvm.symm (hgood w (List.mem_cons_of_mem _ (List.mem_cons_of_mem _ hw))) (hat w hw)
  have hk' : (Cond.classLink own ik cls).before args s' = true := vx_ot_at hW0 hvm.symm (hgood _ List.mem_cons_self) hk
  have hini' : (Cond.initialized cls).before args s' = true := vx_ot_at hW0 hvm.symm (hgood _ (List.mem_cons_of_mem _ List.mem_cons_self)) hini
  have hU' : vx_Zq Bundle.tN "UNASSIGNED_STACK" Bundle.steD A s' s'.heap := by rw [hhp]; exact vx_Zq.moved hW0.alike (hU.kept hS.2.1)
  have hN' : vx_Zq Bundle.tN "SUPPRESSED_SENTINEL" Bundle.listD A s' s'.heap := by rw [hhp]; exact vx_Zq.moved hW0.alike (hN.kept hS.2.1)
  have h : ∀ w ∈ Bundle.ownAtoms0 own ic cls names, w.before args s' = true := vx_own hat' (vx_isRefq hU'.1) (vx_isRefq hN'.1) hU'.2.word hN'.2.word
  have hown' : s'.vm.findClass own = some m.cls := by rw [hvm]; exact hown
  have hins : (Cond.instantiable cls 6).before args s' = true := h _ (by simp [Bundle.ownAtoms0])
  obtain ⟨vm₁, cX, kX, hfX, hkX, -, -, X₁, st1⟩ := Y.newCold hexec (own := own) (C := cls) (index := ik) (n := 6) hown' hk' hins hini'
    (g := F0 m pc ls rest) rfl (by rw [hb]; exact d0) (Nat.le_refl _) (Nat.le_refl _)
  generalize hT1 : (T.setVm vm₁).pushCell { cls := cX, slots := kX.instanceTypes.map defaultValue, vm := .none } = T1 at X₁ st1
  have hcat : (Value.ref T.heap.size).category = 1 := rfl
  have hcellA : T1.heap[T.heap.size]? = some (freshCell cX kX) := by rw [← hT1]; exact State.heap_pushCell_size _ _
  have d3' : decode c.code (pc + 3) = .ok (.dup, 1) := by rw [hb]; exact d3
  obtain ⟨U, hsteps, hrun, hend, hW, hsame, ce, hce, hO⟩ := X₁.ctorThrow0 hexec htr (own := own) (cls := cls) (names := names) (ic := ic) hown' hcls hnames h (fun x hx => nomatch hx) hfX hkX hcellA (by rw [hhp, hT]; exact Nat.le_refl _)
    (g := { method := m, pc := pc + 4, locals := ls, stack := .ref T.heap.size :: .ref T.heap.size :: rest, locked := none }) rfl hsize rfl rfl (rest := rest) rfl
    (by rw [hb]; exact d4) (by rw [hb]; exact d7) hout hRframes (by simp only [List.map_cons, List.sum_cons, hcat]; omega) hlocks
  obtain ⟨f1, f2⟩ := vx_frame hsame
  rw [hhp] at f1 f2
  have hWs : s.WarmedH U.vm := State.WarmedH.trans hW0 hW
  have hcl : s.vm.findClass cls = some ce.cls := by
    have h9 := hO.cls
    rw [hvm] at h9
    exact h9
  have hall : s.sameButNew ({ U with vm := s.vm } : State) locs mc ms := by
    subst hA
    obtain ⟨e1, e2⟩ := hsame
    rw [State.setFrames_setFrames] at e1
    have h2 : (T.setVm s.vm).sameButNew ({ U with vm := s.vm } : State) [] (0 + 1) (0 + 6) := ⟨e1, e2⟩
    have h3 := X.same.trans h2
    rw [List.append_nil] at h3
    exact h3.mono hc hs
  refine ⟨U, ?_, .threw T.heap.size, hrun, hend, Or.inr ⟨T.heap.size, rfl, cls, ce, locs, hx U hWs.alike f1 (fun q hq => f2 q hq (fun z hz => nomatch hz)), hce, hO.vm, hcl, hWs, hall, hf⟩⟩
  refine st1 _ ?_
  show Steps p.tables e below (T1.setTop { method := m, pc := pc + 3, locals := ls, stack := .ref T.heap.size :: rest, locked := none }) _
  jvm_step X₁.here [X₁.here.top, hexec, d3', Value.category]
  exact hsteps
/-- 'throw new E("text")': new; dup; ldc; invokespecial; athrow -/
theorem vx_throwS {cc : ByteArray} {pc : Nat} (hexec : p.tables.exec = Jvm.exec) (hb : c.code = cc) (hl : l.stackTraces = false) {own cls text : String} {names : List String} {ik is ic mc ms sa : Nat} {A : Nat → Prop}
    (hown : s.vm.findClass own = some m.cls) (hcls : Bundle.fit cls = true) (hnames : ∀ n ∈ names, Bundle.fit n = true)
    (hk : (Cond.classLink own ik cls).before args s = true) (hini : (Cond.initialized cls).before args s = true) (hstr : vk_R own is text sa s) (hat : ∀ w ∈ vx_atS own ic cls names, w.before args s = true)
    (hgood : ∀ w ∈ Cond.classLink own ik cls :: Cond.initialized cls :: vx_atS own ic cls names, vx_ot w = true)
    (hU : vx_Zq Bundle.tN "UNASSIGNED_STACK" Bundle.steD A s s.heap) (hN : vx_Zq Bundle.tN "SUPPRESSED_SENTINEL" Bundle.listD A s s.heap) (hS : va_S A s.heap H locs) (hsize : ls.size = c.maxLocals)
    (d0 : decode cc pc = .ok (.new ik, 3)) (d3 : decode cc (pc + 3) = .ok (.dup, 1)) (d4 : decode cc (pc + 4) = .ok (.ldc is, 2)) (d6 : decode cc (pc + 6) = .ok (.invokespecial ic, 3)) (d9 : decode cc (pc + 9) = .ok (.athrow, 1))
    (hout : ∀ x ∈ c.exceptionTable.toList, covers x (pc + 9) = false)
    (hRframes : names.length + 3 < R.frames) (hRlocals : (rest.map fun v => v.category).sum + (13 * (names.length + 1) + 43) ≤ R.locals) (hRcells : cells + 1 ≤ R.cells) (hRslots : slots + 6 ≤ R.slots) (hlocks : meth.locks = false)
    (hx : ∀ t : State, s.vm.Alike t.vm → H.size ≤ t.heap.size → (∀ q : Nat, q < H.size → t.heap[q]? = H[q]?) → XC cls s t)
    (hf : ∀ z ∈ locs, free z.base) (hc : cells + 1 ≤ mc) (hs : slots + 6 ≤ ms) :
    W p l e R s m args below meth c H locs cells slots (vx_MQ below Qc XC args s mc ms free) (F0 m pc ls rest) := by
  intro T hT X
  have htr : e.platform.stackTraces = false := (show e.platform.stackTraces = l.stackTraces by rw [X.admits.platform]).trans hl
  have Y := vx_rebase X (R' := { frames := R.frames, locals := R.locals, cells := 1, slots := 6 }) (Nat.le_refl _) (Nat.le_refl _) hRcells hRslots
  obtain ⟨s', hA⟩ : ∃ z, z = (T.setVm s.vm).setFrames (.invoking m args :: below) := ⟨_, rfl⟩
  rw [← hA] at Y
  have hvm : s'.vm = s.vm := by rw [hA]; rfl
  have hhp : s'.heap = H := by rw [hA]; exact hT
  have hW0 : s.WarmedH s'.vm := by rw [hvm]; exact State.WarmedH.refl s
  have hat' : ∀ w ∈ vx_atS own ic cls names, w.before args s' = true := fun w hw => vx_ot_at hW0 hvm.symm (hgood w (List.mem_cons_of_mem _ (List.mem_cons_of_mem _ hw))) (hat w hw)
  have hk' : (Cond.classLink own ik cls).before args s' = true := vx_ot_at hW0 hvm.symm (hgood _ List.mem_cons_self) hk
  have hini' : (Cond.initialized cls).before args s' = true := vx_ot_at hW0 hvm.symm (hgood _ (List.mem_cons_of_mem _ List.mem_cons_self)) hini
  have hU' : vx_Zq Bundle.tN "UNASSIGNED_STACK" Bundle.steD A s' s'.heap := by rw [hhp]; exact vx_Zq.moved hW0.alike (hU.kept hS.2.1)
  have hN' : vx_Zq Bundle.tN "SUPPRESSED_SENTINEL" Bundle.listD A s' s'.heap := by rw [hhp]; exact vx_Zq.moved hW0.alike (hN.kept hS.2.1)
  have h : ∀ w ∈ Bundle.ownAtoms own ic cls names, w.before args s' = true := vx_own hat' (vx_isRefq hU'.1) (vx_isRefq hN'.1) hU'.2.word hN'.2.word
  have hown' : s'.vm.findClass own = some m.cls := by rw [hvm]; exact hown
  have hins : (Cond.instantiable cls 6).before args s' = true := h _ (by simp [Bundle.ownAtoms])
  obtain ⟨vm₁, cX, kX, hfX, hkX, -, -, X₁, st1⟩ := Y.newCold hexec (own := own) (C := cls) (index := ik) (n := 6) hown' hk' hins hini'
    (g := F0 m pc ls rest) rfl (by rw [hb]; exact d0) (Nat.le_refl _) (Nat.le_refl _)
  generalize hT1 : (T.setVm vm₁).pushCell { cls := cX, slots := kX.instanceTypes.map defaultValue, vm := .none } = T1 at X₁ st1
  have hcat : (Value.ref T.heap.size).category = 1 := rfl
  have hcellA : T1.heap[T.heap.size]? = some (freshCell cX kX) := by rw [← hT1]; exact State.heap_pushCell_size _ _
  have d3' : decode c.code (pc + 3) = .ok (.dup, 1) := by rw [hb]; exact d3
  have d4' : decode c.code (pc + 4) = .ok (.ldc is, 2) := by rw [hb]; exact d4
  have hstr' : vk_R own is text sa s' := vk_R.warm hW0 hstr
  obtain ⟨U, hsteps, hrun, hend, hW, hsame, ce, hce, hO⟩ := X₁.ctorThrowS hexec htr (own := own) (cls := cls) (names := names) (ic := ic) hown' hcls hnames h (fun x hx => nomatch hx) hfX hkX hcellA (by rw [hhp, hT]; exact Nat.le_refl _) (msg := .ref sa) rfl
    (g := { method := m, pc := pc + 6, locals := ls, stack := .ref sa :: .ref T.heap.size :: .ref T.heap.size :: rest, locked := none }) rfl hsize rfl rfl (rest := rest) rfl
    (by rw [hb]; exact d6) (by rw [hb]; exact d9) hout hRframes (by simp only [List.map_cons, List.sum_cons, hcat]; omega) hlocks
  obtain ⟨f1, f2⟩ := vx_frame hsame
  rw [hhp] at f1 f2
  have hWs : s.WarmedH U.vm := State.WarmedH.trans hW0 hW
  have hcl : s.vm.findClass cls = some ce.cls := by
    have h9 := hO.cls
    rw [hvm] at h9
    exact h9
  have hall : s.sameButNew ({ U with vm := s.vm } : State) locs mc ms := by
    subst hA
    obtain ⟨e1, e2⟩ := hsame
    rw [State.setFrames_setFrames] at e1
    have h2 : (T.setVm s.vm).sameButNew ({ U with vm := s.vm } : State) [] (0 + 1) (0 + 6) := ⟨e1, e2⟩
    have h3 := X.same.trans h2
    rw [List.append_nil] at h3
    exact h3.mono hc hs
  refine ⟨U, ?_, .threw T.heap.size, hrun, hend, Or.inr ⟨T.heap.size, rfl, cls, ce, locs, hx U hWs.alike f1 (fun q hq => f2 q hq (fun z hz => nomatch hz)), hce, hO.vm, hcl, hWs, hall, hf⟩⟩
  refine st1 _ ?_
  show Steps p.tables e below (T1.setTop { method := m, pc := pc + 3, locals := ls, stack := .ref T.heap.size :: rest, locked := none }) _
  jvm_step X₁.here [X₁.here.top, hexec, d3', Value.category]
  exact X₁.ldcString hexec (own := own) (text := text) (index := is) (a := sa) hown' hstr'.1 hstr'.2
    (g := { method := m, pc := pc + 4, locals := ls, stack := .ref T.heap.size :: .ref T.heap.size :: rest, locked := none }) rfl d4' _ hsteps
/-- 'throw new E("text")', the text by a wide index -/
theorem vx_throwSW {cc : ByteArray} {pc : Nat} (hexec : p.tables.exec = Jvm.exec) (hb : c.code = cc) (hl : l.stackTraces = false) {own cls text : String} {names : List String} {ik is ic mc ms sa : Nat} {A : Nat → Prop}
    (hown : s.vm.findClass own = some m.cls) (hcls : Bundle.fit cls = true) (hnames : ∀ n ∈ names, Bundle.fit n = true)
    (hk : (Cond.classLink own ik cls).before args s = true) (hini : (Cond.initialized cls).before args s = true) (hstr : vk_R own is text sa s) (hat : ∀ w ∈ vx_atS own ic cls names, w.before args s = true)
    (hgood : ∀ w ∈ Cond.classLink own ik cls :: Cond.initialized cls :: vx_atS own ic cls names, vx_ot w = true)
    (hU : vx_Zq Bundle.tN "UNASSIGNED_STACK" Bundle.steD A s s.heap) (hN : vx_Zq Bundle.tN "SUPPRESSED_SENTINEL" Bundle.listD A s s.heap) (hS : va_S A s.heap H locs) (hsize : ls.size = c.maxLocals)
    (d0 : decode cc pc = .ok (.new ik, 3)) (d3 : decode cc (pc + 3) = .ok (.dup, 1)) (d4 : decode cc (pc + 4) = .ok (.ldc_w is, 3)) (d7 : decode cc (pc + 7) = .ok (.invokespecial ic, 3)) (d10 : decode cc (pc + 10) = .ok (.athrow, 1))
    (hout : ∀ x ∈ c.exceptionTable.toList, covers x (pc + 10) = false)
    (hRframes : names.length + 3 < R.frames) (hRlocals : (rest.map fun v => v.category).sum + (13 * (names.length + 1) + 43) ≤ R.locals) (hRcells : cells + 1 ≤ R.cells) (hRslots : slots + 6 ≤ R.slots) (hlocks : meth.locks = false)
    (hx : ∀ t : State, s.vm.Alike t.vm → H.size ≤ t.heap.size → (∀ q : Nat, q < H.size → t.heap[q]? = H[q]?) → XC cls s t)
    (hf : ∀ z ∈ locs, free z.base) (hc : cells + 1 ≤ mc) (hs : slots + 6 ≤ ms) :
    W p l e R s m args below meth c H locs cells slots (vx_MQ below Qc XC args s mc ms free) (F0 m pc ls rest) := by
  intro T hT X
  have htr : e.platform.stackTraces = false := (show e.platform.stackTraces = l.stackTraces by rw [X.admits.platform]).trans hl
  have Y := vx_rebase X (R' := { frames := R.frames, locals := R.locals, cells := 1, slots := 6 }) (Nat.le_refl _) (Nat.le_refl _) hRcells hRslots
  obtain ⟨s', hA⟩ : ∃ z, z = (T.setVm s.vm).setFrames (.invoking m args :: below) := ⟨_, rfl⟩
  rw [← hA] at Y
  have hvm : s'.vm = s.vm := by rw [hA]; rfl
  have hhp : s'.heap = H := by rw [hA]; exact hT
  have hW0 : s.WarmedH s'.vm := by rw [hvm]; exact State.WarmedH.refl s
  have hat' : ∀ w ∈ vx_atS own ic cls names, w.before args s' = true := fun w hw => vx_ot_at hW0 hvm.symm (hgood w (List.mem_cons_of_mem _ (List.mem_cons_of_mem _ hw))) (hat w hw)
  have hk' : (Cond.classLink own ik cls).before args s' = true := vx_ot_at hW0 hvm.symm (hgood _ List.mem_cons_self) hk
  have hini' : (Cond.initialized cls).before args s' = true := vx_ot_at hW0 hvm.symm (hgood _ (List.mem_cons_of_mem _ List.mem_cons_self)) hini
  have hU' : vx_Zq Bundle.tN "UNASSIGNED_STACK" Bundle.steD A s' s'.heap := by rw [hhp]; exact vx_Zq.moved hW0.alike (hU.kept hS.2.1)
  have hN' : vx_Zq Bundle.tN "SUPPRESSED_SENTINEL" Bundle.listD A s' s'.heap := by rw [hhp]; exact vx_Zq.moved hW0.alike (hN.kept hS.2.1)
  have h : ∀ w ∈ Bundle.ownAtoms own ic cls names, w.before args s' = true := vx_own hat' (vx_isRefq hU'.1) (vx_isRefq hN'.1) hU'.2.word hN'.2.word
  have hown' : s'.vm.findClass own = some m.cls := by rw [hvm]; exact hown
  have hins : (Cond.instantiable cls 6).before args s' = true := h _ (by simp [Bundle.ownAtoms])
  obtain ⟨vm₁, cX, kX, hfX, hkX, -, -, X₁, st1⟩ := Y.newCold hexec (own := own) (C := cls) (index := ik) (n := 6) hown' hk' hins hini'
    (g := F0 m pc ls rest) rfl (by rw [hb]; exact d0) (Nat.le_refl _) (Nat.le_refl _)
  generalize hT1 : (T.setVm vm₁).pushCell { cls := cX, slots := kX.instanceTypes.map defaultValue, vm := .none } = T1 at X₁ st1
  have hcat : (Value.ref T.heap.size).category = 1 := rfl
  have hcellA : T1.heap[T.heap.size]? = some (freshCell cX kX) := by rw [← hT1]; exact State.heap_pushCell_size _ _
  have d3' : decode c.code (pc + 3) = .ok (.dup, 1) := by rw [hb]; exact d3
  have d4' : decode c.code (pc + 4) = .ok (.ldc_w is, 3) := by rw [hb]; exact d4
  have hstr' : vk_R own is text sa s' := vk_R.warm hW0 hstr
  obtain ⟨U, hsteps, hrun, hend, hW, hsame, ce, hce, hO⟩ := X₁.ctorThrowS hexec htr (own := own) (cls := cls) (names := names) (ic := ic) hown' hcls hnames h (fun x hx => nomatch hx) hfX hkX hcellA (by rw [hhp, hT]; exact Nat.le_refl _) (msg := .ref sa) rfl
    (g := { method := m, pc := pc + 7, locals := ls, stack := .ref sa :: .ref T.heap.size :: .ref T.heap.size :: rest, locked := none }) rfl hsize rfl rfl (rest := rest) rfl
    (by rw [hb]; exact d7) (by rw [hb]; exact d10) hout hRframes (by simp only [List.map_cons, List.sum_cons, hcat]; omega) hlocks
  obtain ⟨f1, f2⟩ := vx_frame hsame
  rw [hhp] at f1 f2
  have hWs : s.WarmedH U.vm := State.WarmedH.trans hW0 hW
  have hcl : s.vm.findClass cls = some ce.cls := by
    have h9 := hO.cls
    rw [hvm] at h9
    exact h9
  have hall : s.sameButNew ({ U with vm := s.vm } : State) locs mc ms := by
    subst hA
    obtain ⟨e1, e2⟩ := hsame
    rw [State.setFrames_setFrames] at e1
    have h2 : (T.setVm s.vm).sameButNew ({ U with vm := s.vm } : State) [] (0 + 1) (0 + 6) := ⟨e1, e2⟩
    have h3 := X.same.trans h2
    rw [List.append_nil] at h3
    exact h3.mono hc hs
  refine ⟨U, ?_, .threw T.heap.size, hrun, hend, Or.inr ⟨T.heap.size, rfl, cls, ce, locs, hx U hWs.alike f1 (fun q hq => f2 q hq (fun z hz => nomatch hz)), hce, hO.vm, hcl, hWs, hall, hf⟩⟩
  refine st1 _ ?_
  show Steps p.tables e below (T1.setTop { method := m, pc := pc + 3, locals := ls, stack := .ref T.heap.size :: rest, locked := none }) _
  jvm_step X₁.here [X₁.here.top, hexec, d3', Value.category]
  exact X₁.ldcStringW hexec (own := own) (text := text) (index := is) (a := sa) hown' hstr'.1 hstr'.2
    (g := { method := m, pc := pc + 4, locals := ls, stack := .ref T.heap.size :: .ref T.heap.size :: rest, locked := none }) rfl d4' _ hsteps
end Ends
section Bodies
variable {l : Launch}
theorem vx_ofW {y : MethodName} {ws ws' : List Cond} {rm : Room} {Pc : Array Value → State → Prop} {Qc : Array Value → State → Outcome → State → Prop} {XC : String → State → State → Prop} {mc ms : Nat} {free : Addr → Prop} {cc : ByteArray} {maxL : Nat} {ret : Option FieldType}
    (hy : plainName y.cls = true) (hw : ws = Cond.code y cc maxL ret :: ws')
    (body : ∀ p e s m args below meth c s₁, BodyLoose p l y (headSpec ws rm) cc maxL ret e s m args below meth c s₁ → c.maxLocals = maxL → (∀ x ∈ c.exceptionTable.toList, False) → Pc args s →
      W p l e (headSpec ws rm).room s m args below meth c s.heap [] 0 0 (vx_MQ below Qc XC args s mc ms free) (entryFrame m args maxL)) : vx_Met l y ws rm Pc Qc XC mc ms free := by
  refine MetFree.of_bodyS (code := cc) (maxLocals := maxL) (ret := ret) hy ?_ ?_
  · intro args s m h hn
    obtain ⟨meth, c, h1, h2, h3, h4, h5, h6, -, -⟩ := Cond.code_spec hn (atoms_spec (ws := ws) h _ (by rw [hw]; exact List.mem_cons_self))
    exact ⟨meth, c, h1, h2, h3, h4, h5, h6⟩
  · intro p e s m args below meth c s₁ B hml hP _
    have hh0 : s₁.heap = s.heap := by rw [B.state]; rfl
    have ht : ∀ x ∈ c.exceptionTable.toList, False := by
      obtain ⟨meth9, c9, h1, h2, -, -, -, -, h7, -⟩ := Cond.code_spec B.named (atoms_spec (ws := ws) B.pre _ (by rw [hw]; exact List.mem_cons_self))
      cases Option.some.inj (h1.symm.trans B.method)
      cases Option.some.inj (h2.symm.trans (Stand.of_body B).code)
      intro x hx
      rw [Array.isEmpty_iff.mp h7] at hx
      cases hx
    obtain ⟨t, a1, o, b1, b2, b3⟩ := body p e s m args below meth c s₁ B hml ht hP s₁ hh0 (Stand.of_body B)
    exact ⟨t, o, a1, b1, b2, b3⟩
/-- the table of a body with handlers -/
theorem vx_table {p : Program} {x y : MethodName} {S : Spec} {cc bytes : ByteArray} {maxL maxL' : Nat} {ret ret' : Option FieldType} {e : Env} {s s₁ : State} {m : MethodId} {args : Array Value} {below : List Frame} {meth : Method} {c : Code} {hh : List (Nat × Nat × Nat × Nat)}
    (B : BodyLoose p l y S cc maxL ret e s m args below meth c s₁) (h : (Cond.codeWith y bytes maxL' ret' hh).before args s = true) : c.exceptionTable.toList = tableOf hh := by
  obtain ⟨m9, meth9, c9, hn9, h1, h2, -, -, h6, -⟩ := Cond.codeWith_spec h
  cases Option.some.inj (hn9.symm.trans B.named)
  cases Option.some.inj (h1.symm.trans B.method)
  cases Option.some.inj (h2.symm.trans (Stand.of_body B).code)
  rw [← h6, table_eq]
end Bodies
end VXA
/-! ===== END ===== -/
/-! ===== BEGIN a static call of a method with an exception table ===== -/
section VXS
variable {p : Program} {l : Launch} {e : Env} {R : Room} {s : State} {m : MethodId} {args : Array Value} {below : List Frame} {meth : Method} {c : Code} {T : State} {H : Heap} {locs : List Loc} {cells slots : Nat}
abbrev vx_CSW (R : Room) (s : State) (args : Array Value) (own : String) (index : Nat) (y : MethodName) (bytes : ByteArray) (maxL : Nat) (ret : Option FieldType) (hh : List (Nat × Nat × Nat × Nat)) (ws : List Cond) (rm : Room) (mc ms n : Nat) : Prop :=
  (rm.cells = mc ∧ rm.slots = ms ∧ rm.frames + 1 ≤ R.frames ∧ 8 + (maxL + 11) + rm.locals ≤ R.locals ∧ (∀ w ∈ ws, ∀ (a' : Array Value) (U : State), s.WarmedH U.vm → w.before a' U = true) ∧ Cond.codeWith y bytes maxL ret hh ∈ ws) ∧
  (Cond.codeWith y bytes maxL ret hh).before args s = true ∧ (Cond.initialized y.cls).before args s = true ∧ (y.cls ≠ "java/lang/invoke/MethodHandle" ∧ y.cls ≠ "java/lang/invoke/VarHandle") ∧
  (∀ sig, parseMethodDescriptor y.desc = some sig → n = sig.parameters.length) ∧ (Cond.methodLink own index y).before args s = true ∧ (Cond.static y).before args s = true
theorem vx_cwSW {own : String} {index maxL mc ms : Nat} {y : MethodName} {bytes : ByteArray} {ret : Option FieldType} {hh : List (Nat × Nat × Nat × Nat)} {Ts ws ws' : List Cond} {rm : Room} (n : Nat) (ht : ∀ w ∈ Ts, w.before args s = true) (hT : GoodIn Ts (va_wsS own index y ws)) (hw : ws = Cond.codeWith y bytes maxL ret hh :: ws') (hrc : rm.cells = mc) (hrs : rm.slots = ms)
    (hd : y.cls ≠ "java/lang/invoke/MethodHandle" ∧ y.cls ≠ "java/lang/invoke/VarHandle" ∧ (parseMethodDescriptor y.desc).map (fun d => d.parameters.length) = some n) (hR : rm.frames + 1 ≤ R.frames ∧ 8 + (maxL + 11) + rm.locals ≤ R.locals) :
    vx_CSW R s args own index y bytes maxL ret hh ws rm mc ms n := by
  have ok : ∀ w ∈ va_wsS own index y ws, w.before args s = true := fun w h => ht w (hT w h).1
  have hG : GoodIn Ts ws := fun w h => hT w (by unfold va_wsS; exact List.mem_append_right _ h)
  have hc : Cond.codeWith y bytes maxL ret hh ∈ ws := by rw [hw]; exact List.mem_cons_self
  refine ⟨⟨hrc, hrs, hR.1, hR.2, pay_in ht hG, hc⟩, ht _ (hG _ hc).1, ok _ (by simp [va_wsS]), ⟨hd.1, hd.2.1⟩, fun sig h => ?_, ok _ (by simp [va_wsS]), ok _ (by simp [va_wsS])⟩
  have h2 := hd.2.2
  rw [h] at h2
  exact (Option.some.inj h2).symm
theorem vx_callSW (X : Stand p l e R s m args below meth c T locs cells slots) (hexec : p.tables.exec = Jvm.exec) {own : String} {index : Nat} {y : MethodName} {bytes : ByteArray} {maxL : Nat} {ret : Option FieldType} {hh : List (Nat × Nat × Nat × Nat)}
    (hown : s.vm.findClass own = some m.cls) (hlink : (Cond.methodLink own index y).before args s = true) (hstat : (Cond.static y).before args s = true) (hinit : (Cond.initialized y.cls).before args s = true)
    (hcode : (Cond.codeWith y bytes maxL ret hh).before args s = true) (hy : y.cls ≠ "java/lang/invoke/MethodHandle" ∧ y.cls ≠ "java/lang/invoke/VarHandle")
    {W9 : Nat} {Pre : Pt → Array Value → Prop} {Post : Pt → Array Value → Option Value → Pt → Prop} (hK : Back l R p e below s args y 3 W9 Pre Post)
    {g : JFrame} (hg : g.method = m) (hsize : g.locals.size = c.maxLocals) {argsL rest : List Value} (hlen : ∀ sig, parseMethodDescriptor y.desc = some sig → argsL.length = sig.parameters.length)
    (hstack : g.stack = argsL.reverse ++ rest) (hW : 2 * g.monitorRoom + (rest.map fun v => v.category).sum ≤ W9) (hdg : decode c.code g.pc = .ok (.invokestatic index, 3))
    (hpre : ∀ vm₁, s.WarmedH vm₁ → Pre ⟨T.setVm vm₁, locs, cells, slots⟩ argsL.toArray) :
    ∃ (v : Option Value) (vm₁ : Vm) (B : Pt), s.WarmedH vm₁ ∧ Stand p l e R s m args below meth c B.U B.locs B.cells B.slots ∧ Post ⟨T.setVm vm₁, locs, cells, slots⟩ argsL.toArray v B ∧
      ∀ target, Steps p.tables e below (B.U.setTop { g with pc := g.pc + 3, stack := v.toList ++ rest }) target → Steps p.tables e below (T.setTop g) target := by
  obtain ⟨mk, methM, cM, hnamed, hmethM, -, -, -, -, -, -, hsigM⟩ := Cond.codeWith_spec hcode
  have hstatic : methM.isStatic = true := Cond.static_spec hnamed hmethM hstat
  obtain ⟨kP, hkP, -⟩ := className_of_methodNamed hnamed
  have hinitP : kP.init = .initialized := Cond.initialized_spec (findClass_of_methodNamed hnamed) hkP hinit
  obtain ⟨vm₁, X₁, hstep₁⟩ := X.invokestatic hexec hown hlink hnamed hmethM hstatic hkP hinitP hy (g := g) hg (argsL := argsL) (rest := rest) (hlen _ hsigM) hstack hdg
  obtain ⟨v, B, X', hpost, hsteps⟩ := hK m meth c ⟨T.setVm vm₁, locs, cells, slots⟩ { g with stack := rest } (.invokestatic index) mk argsL.toArray X₁ hg hsize hdg hW (X₁.named hnamed) (hpre vm₁ X₁.warmed)
  exact ⟨v, vm₁, B, X₁.warmed, X', hpost, fun target h => hstep₁ _ fun acts => by rw [doInvoke_state]; exact hsteps.trans h⟩
theorem vx_runSW {y : MethodName} {bytes cc : ByteArray} {maxL nL mc ms n index : Nat} {ret : Option FieldType} {hh : List (Nat × Nat × Nat × Nat)} {ws : List Cond} {rm : Room} {Pc : Array Value → State → Prop} {Qc : Array Value → State → Outcome → State → Prop} {free : Addr → Prop} {Ts : List Cond} {own : String} {As rest : List Value} {g : JFrame}
    (S : CallFix p m c cc nL s args Ts own) (hM : Met l y ws rm Pc Qc mc ms free) (cw : vx_CSW R s args own index y bytes maxL ret hh ws rm mc ms n) (hp : PreS s H Pc As)
    (hg : g.method = m) (hn : As.length = n) (hsize : g.locals.size = nL) (hstack : g.stack = As.reverse ++ rest) (hW : 2 * g.monitorRoom + (rest.map fun v => v.category).sum ≤ 8) (hdg : decode cc g.pc = .ok (.invokestatic index, 3)) (hf : cells + mc ≤ R.cells ∧ slots + ms ≤ R.slots) :
    va_Run p l e R s m args below meth c H locs cells slots mc ms g rest (Qc As.toArray) (free) := by
  obtain ⟨⟨hrc, hrs, hfr, hlo, hws, hcw⟩, hcode, hini, hy, hlen, hl, hstt⟩ := cw
  have hK : Back l R p e below s args y 3 8 (PreOf R mc ms Pc) (PostOf Qc mc ms free) := va_backW (hh := hh) (bytes := bytes) (maxL := maxL) (ret := ret) hM hp.1 hrc hrs hfr hlo hws hcw (fun a' U hW => word_at hW (Or.inl (by first | rfl | simp [Cond.onTables, Cond.keeps, Cond.steady])) hini)
  obtain ⟨hx, hb, hml, ho, -⟩ := S
  intro T hT X
  obtain ⟨v, vm₁, ⟨U', l2, c2, s2⟩, hW₁, X', ⟨g', mk, t, L, e1, e2, hq, h1, hL, h2, h3⟩, st⟩ := vx_callSW X hx (hh := hh) (bytes := bytes) (maxL := maxL) (ret := ret) ho hl hstt hini hcode hy hK hg (hsize.trans hml.symm) (argsL := As) (rest := rest) (fun sig h => hn.trans (hlen sig h)) hstack hW (by rw [hb]; exact hdg)
    (fun vm₁ hW₁ => ⟨hf.1, hf.2, hp.2 (T.setVm vm₁) hT hW₁⟩)
  dsimp only [Pt.U, Pt.locs, Pt.cells, Pt.slots] at X' e1 e2 h1 h2 h3 st
  subst h1; subst h2; subst h3
  exact ⟨v, (T.setVm vm₁).calling g' mk As.toArray, t, U', L, hT, X', hL, e1, e2, hq, st⟩
/-- not caught here, past rows that name other classes: it goes on to the caller -/
theorem vx_outP {p : Program} {l : Launch} {e : Env} {R : Room} {s : State} {m : MethodId} {args : Array Value} {below : List Frame} {meth : Method} {c : Code} {H : Heap} {locs : List Loc} {cells slots : Nat} {free : Addr → Prop} {ls : Array Slot} {rest : List Value} {Qc : Array Value → State → Outcome → State → Prop} {XC : String → State → State → Prop}
    {pc : Nat} {own E : String} {ce : Cell} {q : Addr} {mc ms : Nat} (hown : s.vm.findClass own = some m.cls) (hlocks : meth.locks = false)
    (hpass : ∀ z ∈ c.exceptionTable.toList, covers z pc = false ∨ (z.catchType ≠ 0 ∧ ∃ nm : String, (Cond.classLink own z.catchType nm).before args s = true ∧ va_Nc E nm s)) (hcell : H[q]? = some ce) (hv : ce.vm = .none) (hcl : s.vm.findClass E = some ce.cls)
    (hx : ∀ t : State, t.heap = H → s.vm.Alike t.vm → XC E s t) (hf : ∀ z ∈ locs, free z.base) (hc : cells ≤ mc) (hs : slots ≤ ms) :
    vx_W p l e R s m args below meth c H locs cells slots (vx_MQ below Qc XC args s mc ms free) (F0 m pc ls rest) q := by
  intro T hT X
  have hpl : e.platform.magicAccessors = ({} : Platform).magicAccessors := by rw [X.admits.platform]
  obtain ⟨vm', hW', X', st⟩ := X.outThrough hlocks q (g := F0 m pc ls rest) rfl rfl rfl (cell := ce) (by rw [hT]; exact hcell) (by rw [hv]; rfl)
    (by obtain ⟨k9, h9, -⟩ := Vm.findClass_spec hcl; exact ⟨k9, h9⟩) (fun z hz => by
      rcases hpass z hz with h | ⟨hz0, nm, hl1, hn1⟩
      · exact Or.inl h
      · obtain ⟨c6, hc6, hcl6⟩ := Cond.classLink_spec hown hl1 e.platform hpl
        obtain ⟨a8, b8, h1, h2, h3⟩ := hn1
        cases Option.some.inj (h1.symm.trans hcl)
        cases Option.some.inj (h2.symm.trans hc6)
        exact Or.inr ⟨hz0, _, hcl6, h3⟩)
  obtain ⟨g₀, hfr⟩ := X'.frames_eq
  have hcell9 : ((T.setVm vm').setFrames (.throwing q :: below)).heap[q]? = some ce := by
    show T.heap[q]? = some ce
    rw [hT]; exact hcell
  have hend : Ended ((T.setVm vm').setFrames (.throwing q :: below)) below (.threw q) := State.frames_setFrames _ (State.cur_lt_of_frames hfr)
  refine ⟨(T.setVm vm').setFrames (.throwing q :: below), ?_, .threw q, X'.here.running, hend, Or.inr ⟨q, rfl, E, ce, locs, hx _ hT (X'.ends _).1.alike, hcell9, hv, hcl, (X'.ends _).1, (X'.ends _).2.mono hc hs, hf⟩⟩
  rw [X.pushThrowing_eq]
  exact st
/-- a thing of a world lies in the heap -/
theorem vx_lt {D : va_G} {cl : List vw_C} {ws : va_W} {H1 : Heap} (h : va_P D cl ws H1) {k : Nat} {q : Nat × va_E} (hk : ws[k]? = some q) : q.1 < H1.size := (h k q hk).lt
end VXS
/-! ===== END ===== -/
/-! ===== BEGIN methods with a table of their own: called by a name, returning or throwing ===== -/
section VXH
/-! vx_backW, vx_callVX, vx_callSX, vx_callVW, vx_runVW, vx_runVX, vx_runSX, vx_ofWH follow the same proofs as their sisters above (Free/Laws.lean, Shelf42/LK1.lean); vx_outP calls Shelf42/NT130.lean (outThrough). -/
section
variable {l : Launch} {R : Room} {p : Program} {e : Env} {below : List Frame} {s : State} {sargs : Array Value} {y : MethodName} {len W9 : Nat}
theorem vx_backW {ws : List Cond} {rm : Room} {Pc : Array Value → State → Prop} {Qc : Array Value → State → Outcome → State → Prop} {XC : String → State → State → Prop} {mc ms : Nat} {free : Addr → Prop} {bytes : ByteArray} {maxL : Nat} {ret : Option FieldType} {hh : List (Nat × Nat × Nat × Nat)}
    (hM : vx_Met l y ws rm Pc Qc XC mc ms free) (hblind : FrameBlind Pc) (hrc : rm.cells = mc) (hrs : rm.slots = ms)
    (hframes : rm.frames + 1 ≤ R.frames) (hlocals : W9 + (maxL + 11) + rm.locals ≤ R.locals)
    (hws : ∀ w ∈ ws, ∀ a' U, s.WarmedH U.vm → w.before a' U = true) (hcode : Cond.codeWith y bytes maxL ret hh ∈ ws) (hinit : ∀ a' U, s.WarmedH U.vm → (Cond.initialized y.cls).before a' U = true) :
    vx_Back l R p e below s sargs y len W9 (PreOf R mc ms Pc) (PostOf Qc mc ms free) (vx_Post XC mc ms free) := by
  intro m meth c A g ig mk a X hg hsize hdg hW hn hp
  have h1 : (headSpec ws rm).pre.before a A.U = true := atoms_intro fun w hw => hws w hw _ _ X.warmed
  have h2 : (Cond.codeWith y bytes maxL ret hh).before a A.U = true := hws _ hcode _ _ X.warmed
  have h3 : (Cond.initialized y.cls).before a A.U = true := hinit _ _ X.warmed
  have h4 : A.cells + (headSpec ws rm).room.cells ≤ R.cells := by rw [show (headSpec ws rm).room.cells = mc from hrc]; exact hp.1
  have h5 : A.slots + (headSpec ws rm).room.slots ≤ R.slots := by rw [show (headSpec ws rm).room.slots = ms from hrs]; exact hp.2.1
  have hPc : Pc a (A.U.calling g mk a) := hblind _ _ _ _ hp.2.2
  obtain ⟨U, Ls, c0, s0⟩ := A
  dsimp only [Pt.U, Pt.locs, Pt.cells, Pt.slots] at h1 h2 h3 h4 h5 X hn hPc ⊢
  obtain ⟨m9, methY, cY, hn9, hmY, hcY, -, hlY, -⟩ := Cond.codeWith_spec h2
  cases Option.some.inj (hn9.symm.trans hn)
  obtain ⟨kY, hkY, -⟩ := className_of_methodNamed hn
  have hinitY : kY.init = .initialized := Cond.initialized_spec (findClass_of_methodNamed hn) hkY h3
  have h : At U g.method c below := by rw [hg]; exact X.here
  have hlocals9 : W9 + (maxL + 11) + (headSpec ws rm).room.locals ≤ R.locals := hlocals
  have happ : (headSpec ws rm).appliesLoose y e.platform (U.calling g mk a) = true :=
    Spec.appliesLoose_calling (g := g) h hdg hn hkY hinitY
      (X.room_calling (g := g) (R' := (headSpec ws rm).room) hsize hmY hcY hframes (by rw [hlY]; omega) h4 h5) h1
  obtain ⟨mid, hmid⟩ := h.above
  have hfr : (U.setTop g).frames = (.java g :: mid) ++ below := by rw [State.frames_setTop' g h.top, hmid]; rfl
  obtain ⟨o, s₂, hsteps, -, hend, hq⟩ := Steps.callFree hM p X.admits X.cas X.clock (acts := []) hfr happ hPc trivial
  have hq' : vx_Q Qc XC mc ms free a (U.calling g mk a) o s₂ := hq
  rw [State.frames_setTop' g h.top] at hend
  obtain ⟨g₀, hg0⟩ := Option.isSome_iff_exists.mp h.top
  obtain ⟨r, hr⟩ := State.topJava?_eq_some.mp hg0
  have hr' : (({ U with heap := s₂.heap, slotsUsed := s₂.slotsUsed } : State).setVm s₂.vm).frames = .java g₀ :: r := hr
  rcases hq' with ⟨hqc, L, hfe, hL⟩ | ⟨q, rfl, E, ce, L, hx, hce, hcv, hcl, hW₂, hsm, hL⟩
  · obtain ⟨⟨v, rfl⟩, hW₂, e2, q2, q3, q4, q5, q6⟩ := id hfe
    have e3 : s₂ = ({ (U.calling g mk a).setFrames s₂.frames with heap := s₂.heap, slotsUsed := s₂.slotsUsed } : State).setVm s₂.vm := by
      have : s₂ = ({ s₂ with vm := (U.calling g mk a).vm } : State).setVm s₂.vm := rfl
      rw [e2] at this
      exact this
    obtain ⟨c₂, i₂, len₂, hc₂, hd₂, hf₂⟩ := hend
    have hW' : U.WarmedH s₂.vm := hW₂
    have hcc : c₂ = c := by
      have h1 : s₂.code? g.method = U.code? g.method := by
        rw [State.code?_eq, State.code?_eq, hW'.alike.method?]
      exact Option.some.inj (hc₂.symm.trans (h1.trans h.code))
    subst hcc
    have hlen : len₂ = len := by rw [hdg] at hd₂; cases hd₂; rfl
    subst hlen
    have hs₂ : s₂ = (({ U with heap := s₂.heap, slotsUsed := s₂.slotsUsed } : State).setVm s₂.vm).setTop { g with pc := g.pc + len₂, stack := v.toList ++ g.stack } := by
      refine e3.trans ?_
      rw [hf₂, State.calling_eq h.top, State.setFrames_setFrames, State.setTop_of_frames _ hr', hr]
      rfl
    have hsame : U.sameButNew ({ U with heap := s₂.heap, slotsUsed := s₂.slotsUsed } : State) L mc ms := by
      refine ⟨?_, q2, q3, q4, q5, q6⟩
      obtain ⟨t, ht, -⟩ := State.frames_cons hr
      show ({ U with heap := s₂.heap, slotsUsed := s₂.slotsUsed } : State) = { U.setFrames U.frames with heap := s₂.heap, slotsUsed := s₂.slotsUsed }
      rw [State.setFrames_self ht]
    subst hg
    refine Or.inl ⟨v, ⟨(({ U with heap := s₂.heap, slotsUsed := s₂.slotsUsed } : State).setVm s₂.vm), Ls ++ L, c0 + mc, s0 + ms⟩,
      ⟨X.admits, X.cas, X.clock, X.frames, X.room, X.hears, X.method, X.code, (X.here.setHeapUsed s₂.heap s₂.slotsUsed).setVm hW'.alike, X.tail, State.WarmedH.trans X.warmed hW', X.limits, X.bytes, X.same.trans (hsame.setVm s.vm)⟩,
      ⟨g, mk, s₂, L, rfl, rfl, hqc, rfl, hL, rfl, rfl⟩, ?_⟩
    show Steps p.tables e below _ ((({ U with heap := s₂.heap, slotsUsed := s₂.slotsUsed } : State).setVm s₂.vm).setTop { g with pc := g.pc + len₂, stack := v.toList ++ g.stack })
    rw [← hs₂]
    exact hsteps
  · obtain ⟨e2, q2, q3, q4, q5, q6⟩ := id hsm
    have e3 : s₂ = ({ (U.calling g mk a).setFrames s₂.frames with heap := s₂.heap, slotsUsed := s₂.slotsUsed } : State).setVm s₂.vm := by
      have : s₂ = ({ s₂ with vm := (U.calling g mk a).vm } : State).setVm s₂.vm := rfl
      rw [e2] at this
      exact this
    have hf₂ : s₂.frames = .throwing q :: .java g :: U.frames.tail := hend
    have hW' : U.WarmedH s₂.vm := hW₂
    have hs₂ : s₂ = ((({ U with heap := s₂.heap, slotsUsed := s₂.slotsUsed } : State).setVm s₂.vm).setTop g).pushFrame (.throwing q) := by
      refine e3.trans ?_
      rw [hf₂, State.calling_eq h.top, State.setFrames_setFrames, State.pushFrame, State.frames_setTop _ hr', State.setTop_of_frames _ hr', State.setFrames_setFrames, hr]
      rfl
    have hsame : U.sameButNew ({ U with heap := s₂.heap, slotsUsed := s₂.slotsUsed } : State) L mc ms := by
      refine ⟨?_, q2, q3, q4, q5, q6⟩
      obtain ⟨t, ht, -⟩ := State.frames_cons hr
      show ({ U with heap := s₂.heap, slotsUsed := s₂.slotsUsed } : State) = { U.setFrames U.frames with heap := s₂.heap, slotsUsed := s₂.slotsUsed }
      rw [State.setFrames_self ht]
    subst hg
    refine Or.inr ⟨q, ⟨(({ U with heap := s₂.heap, slotsUsed := s₂.slotsUsed } : State).setVm s₂.vm), Ls ++ L, c0 + mc, s0 + ms⟩,
      ⟨X.admits, X.cas, X.clock, X.frames, X.room, X.hears, X.method, X.code, (X.here.setHeapUsed s₂.heap s₂.slotsUsed).setVm hW'.alike, X.tail, State.WarmedH.trans X.warmed hW', X.limits, X.bytes, X.same.trans (hsame.setVm s.vm)⟩,
      ⟨g, mk, s₂, L, E, ce, rfl, rfl, hx, hce, hcv, hcl, rfl, hL, rfl, rfl⟩, ?_⟩
    show Steps p.tables e below _ (((({ U with heap := s₂.heap, slotsUsed := s₂.slotsUsed } : State).setVm s₂.vm).setTop g).pushFrame (.throwing q))
    rw [← hs₂]
    exact hsteps
end
variable {p : Program} {l : Launch} {e : Env} {R : Room} {s : State} {m : MethodId} {args : Array Value} {below : List Frame} {meth : Method} {c : Code} {T : State} {H : Heap} {locs : List Loc} {cells slots : Nat}
theorem vx_callVX (X : Stand p l e R s m args below meth c T locs cells slots) (hexec : p.tables.exec = Jvm.exec) {own C : String} {index : Nat} {y : MethodName} {bytes : ByteArray} {maxL : Nat} {ret : Option FieldType} {hh : List (Nat × Nat × Nat × Nat)}
    (hown : s.vm.findClass own = some m.cls) (hlink : (Cond.methodLink own index y).before args s = true) (hinst : (Cond.instanceMethod y).before args s = true) (hsel : (Cond.selects C y y).before args s = true)
    (hcode : (Cond.codeWith y bytes maxL ret hh).before args s = true) (hy : y.cls ≠ "java/lang/invoke/MethodHandle" ∧ y.cls ≠ "java/lang/invoke/VarHandle")
    {W9 : Nat} {Pre : Pt → Array Value → Prop} {Post : Pt → Array Value → Option Value → Pt → Prop} {PostX : Pt → Array Value → Addr → Pt → Prop} (hK : vx_Back l R p e below s args y 3 W9 Pre Post PostX)
    {b : Addr} {cellB : Cell} (hcell : T.heap[b]? = some cellB) (hobj : cellB.vm.isStatics = false) (hcls : s.vm.findClass C = some cellB.cls)
    {g : JFrame} (hg : g.method = m) (hsize : g.locals.size = c.maxLocals) {argsL rest : List Value} (hlen : ∀ sig, parseMethodDescriptor y.desc = some sig → argsL.length = sig.parameters.length)
    (hstack : g.stack = argsL.reverse ++ .ref b :: rest) (hW : 2 * g.monitorRoom + (rest.map fun v => v.category).sum ≤ W9) (hdg : decode c.code g.pc = .ok (.invokevirtual index, 3))
    (hpre : ∀ vm₁, s.WarmedH vm₁ → Pre ⟨T.setVm vm₁, locs, cells, slots⟩ (Value.ref b :: argsL).toArray) :
    (∃ (v : Option Value) (vm₁ : Vm) (B : Pt), s.WarmedH vm₁ ∧ Stand p l e R s m args below meth c B.U B.locs B.cells B.slots ∧ Post ⟨T.setVm vm₁, locs, cells, slots⟩ (Value.ref b :: argsL).toArray v B ∧
      ∀ target, Steps p.tables e below (B.U.setTop { g with pc := g.pc + 3, stack := v.toList ++ rest }) target → Steps p.tables e below (T.setTop g) target) ∨
    (∃ (q : Addr) (vm₁ : Vm) (B : Pt), s.WarmedH vm₁ ∧ Stand p l e R s m args below meth c B.U B.locs B.cells B.slots ∧ PostX ⟨T.setVm vm₁, locs, cells, slots⟩ (Value.ref b :: argsL).toArray q B ∧
      Steps p.tables e below (T.setTop g) ((B.U.setTop { g with stack := rest }).pushFrame (.throwing q))) := by
  obtain ⟨mk, methM, hnamed, hmethM, hstM, habM⟩ := Cond.instanceMethod_spec hinst
  obtain ⟨m8, methM', cM, hn8, hmethM', -, -, -, -, -, -, hsigM⟩ := Cond.codeWith_spec hcode
  cases Option.some.inj (hn8.symm.trans hnamed)
  cases hmethM.symm.trans hmethM'
  obtain ⟨c2, r2, m2, q1, q2, q3, q4, kP, hkP, hkPi⟩ := Cond.selects_spec hsel
  cases hcls.symm.trans q1
  cases (State.methodFound?_of_named hnamed hy).symm.trans q2
  cases hnamed.symm.trans q3
  have hselP : selectMethod e.platform s.vm cellB.cls mk = .method mk := by rw [Launch.admits_selectMethod X.admits]; exact q4
  obtain ⟨vm₁, X₁, hstep₁⟩ := X.invokevirtual hexec hown hlink hnamed hmethM hstM hkP hkPi hy (a := b) (cell := cellB) hcell
    (fun z h => by rw [h] at hobj; cases hobj) hselP hmethM habM hkP hkPi (g := g) hg (argsL := argsL) (rest := rest) (hlen _ hsigM) hstack hdg
  rcases hK m meth c ⟨T.setVm vm₁, locs, cells, slots⟩ { g with stack := rest } (.invokevirtual index) mk (Value.ref b :: argsL).toArray X₁ hg hsize hdg hW (X₁.named hnamed) (hpre vm₁ X₁.warmed) with ⟨v, B, X', hpost, hsteps⟩ | ⟨q, B, X', hpost, hsteps⟩
  · exact Or.inl ⟨v, vm₁, B, X₁.warmed, X', hpost, fun target h => hstep₁ _ fun acts => by rw [doInvoke_state]; exact hsteps.trans h⟩
  · exact Or.inr ⟨q, vm₁, B, X₁.warmed, X', hpost, hstep₁ _ fun acts => by rw [doInvoke_state]; exact hsteps⟩
theorem vx_callSX (X : Stand p l e R s m args below meth c T locs cells slots) (hexec : p.tables.exec = Jvm.exec) {own : String} {index : Nat} {y : MethodName} {bytes : ByteArray} {maxL : Nat} {ret : Option FieldType} {hh : List (Nat × Nat × Nat × Nat)}
    (hown : s.vm.findClass own = some m.cls) (hlink : (Cond.methodLink own index y).before args s = true) (hstat : (Cond.static y).before args s = true) (hinit : (Cond.initialized y.cls).before args s = true)
    (hcode : (Cond.codeWith y bytes maxL ret hh).before args s = true) (hy : y.cls ≠ "java/lang/invoke/MethodHandle" ∧ y.cls ≠ "java/lang/invoke/VarHandle")
    {W9 : Nat} {Pre : Pt → Array Value → Prop} {Post : Pt → Array Value → Option Value → Pt → Prop} {PostX : Pt → Array Value → Addr → Pt → Prop} (hK : vx_Back l R p e below s args y 3 W9 Pre Post PostX)
    {g : JFrame} (hg : g.method = m) (hsize : g.locals.size = c.maxLocals) {argsL rest : List Value} (hlen : ∀ sig, parseMethodDescriptor y.desc = some sig → argsL.length = sig.parameters.length)
    (hstack : g.stack = argsL.reverse ++ rest) (hW : 2 * g.monitorRoom + (rest.map fun v => v.category).sum ≤ W9) (hdg : decode c.code g.pc = .ok (.invokestatic index, 3))
    (hpre : ∀ vm₁, s.WarmedH vm₁ → Pre ⟨T.setVm vm₁, locs, cells, slots⟩ argsL.toArray) :
    (∃ (v : Option Value) (vm₁ : Vm) (B : Pt), s.WarmedH vm₁ ∧ Stand p l e R s m args below meth c B.U B.locs B.cells B.slots ∧ Post ⟨T.setVm vm₁, locs, cells, slots⟩ argsL.toArray v B ∧
      ∀ target, Steps p.tables e below (B.U.setTop { g with pc := g.pc + 3, stack := v.toList ++ rest }) target → Steps p.tables e below (T.setTop g) target) ∨
    (∃ (q : Addr) (vm₁ : Vm) (B : Pt), s.WarmedH vm₁ ∧ Stand p l e R s m args below meth c B.U B.locs B.cells B.slots ∧ PostX ⟨T.setVm vm₁, locs, cells, slots⟩ argsL.toArray q B ∧
      Steps p.tables e below (T.setTop g) ((B.U.setTop { g with stack := rest }).pushFrame (.throwing q))) := by
  obtain ⟨mk, methM, cM, hnamed, hmethM, -, -, -, -, -, -, hsigM⟩ := Cond.codeWith_spec hcode
  have hstatic : methM.isStatic = true := Cond.static_spec hnamed hmethM hstat
  obtain ⟨kP, hkP, -⟩ := className_of_methodNamed hnamed
  have hinitP : kP.init = .initialized := Cond.initialized_spec (findClass_of_methodNamed hnamed) hkP hinit
  obtain ⟨vm₁, X₁, hstep₁⟩ := X.invokestatic hexec hown hlink hnamed hmethM hstatic hkP hinitP hy (g := g) hg (argsL := argsL) (rest := rest) (hlen _ hsigM) hstack hdg
  rcases hK m meth c ⟨T.setVm vm₁, locs, cells, slots⟩ { g with stack := rest } (.invokestatic index) mk argsL.toArray X₁ hg hsize hdg hW (X₁.named hnamed) (hpre vm₁ X₁.warmed) with ⟨v, B, X', hpost, hsteps⟩ | ⟨q, B, X', hpost, hsteps⟩
  · exact Or.inl ⟨v, vm₁, B, X₁.warmed, X', hpost, fun target h => hstep₁ _ fun acts => by rw [doInvoke_state]; exact hsteps.trans h⟩
  · exact Or.inr ⟨q, vm₁, B, X₁.warmed, X', hpost, hstep₁ _ fun acts => by rw [doInvoke_state]; exact hsteps⟩
theorem vx_callVW (X : Stand p l e R s m args below meth c T locs cells slots) (hexec : p.tables.exec = Jvm.exec) {own C : String} {index : Nat} {y : MethodName} {bytes : ByteArray} {maxL : Nat} {ret : Option FieldType} {hh : List (Nat × Nat × Nat × Nat)}
    (hown : s.vm.findClass own = some m.cls) (hlink : (Cond.methodLink own index y).before args s = true) (hinst : (Cond.instanceMethod y).before args s = true) (hsel : (Cond.selects C y y).before args s = true)
    (hcode : (Cond.codeWith y bytes maxL ret hh).before args s = true) (hy : y.cls ≠ "java/lang/invoke/MethodHandle" ∧ y.cls ≠ "java/lang/invoke/VarHandle")
    {W9 : Nat} {Pre : Pt → Array Value → Prop} {Post : Pt → Array Value → Option Value → Pt → Prop} (hK : Back l R p e below s args y 3 W9 Pre Post)
    {b : Addr} {cellB : Cell} (hcell : T.heap[b]? = some cellB) (hobj : cellB.vm.isStatics = false) (hcls : s.vm.findClass C = some cellB.cls)
    {g : JFrame} (hg : g.method = m) (hsize : g.locals.size = c.maxLocals) {argsL rest : List Value} (hlen : ∀ sig, parseMethodDescriptor y.desc = some sig → argsL.length = sig.parameters.length)
    (hstack : g.stack = argsL.reverse ++ .ref b :: rest) (hW : 2 * g.monitorRoom + (rest.map fun v => v.category).sum ≤ W9) (hdg : decode c.code g.pc = .ok (.invokevirtual index, 3))
    (hpre : ∀ vm₁, s.WarmedH vm₁ → Pre ⟨T.setVm vm₁, locs, cells, slots⟩ (Value.ref b :: argsL).toArray) :
    ∃ (v : Option Value) (vm₁ : Vm) (B : Pt), s.WarmedH vm₁ ∧ Stand p l e R s m args below meth c B.U B.locs B.cells B.slots ∧ Post ⟨T.setVm vm₁, locs, cells, slots⟩ (Value.ref b :: argsL).toArray v B ∧
      ∀ target, Steps p.tables e below (B.U.setTop { g with pc := g.pc + 3, stack := v.toList ++ rest }) target → Steps p.tables e below (T.setTop g) target := by
  obtain ⟨mk, methM, hnamed, hmethM, hstM, habM⟩ := Cond.instanceMethod_spec hinst
  obtain ⟨m8, methM', cM, hn8, hmethM', -, -, -, -, -, -, hsigM⟩ := Cond.codeWith_spec hcode
  cases Option.some.inj (hn8.symm.trans hnamed)
  cases hmethM.symm.trans hmethM'
  obtain ⟨c2, r2, m2, q1, q2, q3, q4, kP, hkP, hkPi⟩ := Cond.selects_spec hsel
  cases hcls.symm.trans q1
  cases (State.methodFound?_of_named hnamed hy).symm.trans q2
  cases hnamed.symm.trans q3
  have hselP : selectMethod e.platform s.vm cellB.cls mk = .method mk := by rw [Launch.admits_selectMethod X.admits]; exact q4
  obtain ⟨vm₁, X₁, hstep₁⟩ := X.invokevirtual hexec hown hlink hnamed hmethM hstM hkP hkPi hy (a := b) (cell := cellB) hcell
    (fun z h => by rw [h] at hobj; cases hobj) hselP hmethM habM hkP hkPi (g := g) hg (argsL := argsL) (rest := rest) (hlen _ hsigM) hstack hdg
  obtain ⟨v, B, X', hpost, hsteps⟩ := hK m meth c ⟨T.setVm vm₁, locs, cells, slots⟩ { g with stack := rest } (.invokevirtual index) mk (Value.ref b :: argsL).toArray X₁ hg hsize hdg hW (X₁.named hnamed) (hpre vm₁ X₁.warmed)
  exact ⟨v, vm₁, B, X₁.warmed, X', hpost, fun target h => hstep₁ _ fun acts => by rw [doInvoke_state]; exact hsteps.trans h⟩
abbrev vx_CVW (R : Room) (s : State) (args : Array Value) (own C : String) (index : Nat) (y : MethodName) (bytes : ByteArray) (maxL : Nat) (ret : Option FieldType) (hh : List (Nat × Nat × Nat × Nat)) (ws : List Cond) (rm : Room) (mc ms n : Nat) : Prop :=
  (rm.cells = mc ∧ rm.slots = ms ∧ rm.frames + 1 ≤ R.frames ∧ 8 + (maxL + 11) + rm.locals ≤ R.locals ∧ (∀ w ∈ ws, ∀ (a' : Array Value) (U : State), s.WarmedH U.vm → w.before a' U = true) ∧ Cond.codeWith y bytes maxL ret hh ∈ ws) ∧
  (Cond.codeWith y bytes maxL ret hh).before args s = true ∧ (Cond.initialized y.cls).before args s = true ∧ (y.cls ≠ "java/lang/invoke/MethodHandle" ∧ y.cls ≠ "java/lang/invoke/VarHandle") ∧
  (∀ sig, parseMethodDescriptor y.desc = some sig → n = sig.parameters.length) ∧ (Cond.methodLink own index y).before args s = true ∧ (Cond.instanceMethod y).before args s = true ∧ (Cond.selects C y y).before args s = true
theorem vx_cwVW {own C : String} {index maxL mc ms : Nat} {y : MethodName} {bytes : ByteArray} {ret : Option FieldType} {hh : List (Nat × Nat × Nat × Nat)} {Ts ws ws' : List Cond} {rm : Room} (n : Nat) (ht : ∀ w ∈ Ts, w.before args s = true) (hT : GoodIn Ts (wsV own index C y ws)) (hw : ws = Cond.codeWith y bytes maxL ret hh :: ws') (hrc : rm.cells = mc) (hrs : rm.slots = ms)
    (hd : y.cls = C ∧ y.cls ≠ "java/lang/invoke/MethodHandle" ∧ y.cls ≠ "java/lang/invoke/VarHandle" ∧ (parseMethodDescriptor y.desc).map (fun d => d.parameters.length) = some n) (hR : rm.frames + 1 ≤ R.frames ∧ 8 + (maxL + 11) + rm.locals ≤ R.locals) :
    vx_CVW R s args own C index y bytes maxL ret hh ws rm mc ms n := by
  obtain ⟨hC, hd⟩ := hd
  subst hC
  have ok : ∀ w ∈ wsV own index y.cls y ws, w.before args s = true := fun w h => ht w (hT w h).1
  have hG : GoodIn Ts ws := fun w h => hT w (by unfold wsV; exact List.mem_append_right _ h)
  have hc : Cond.codeWith y bytes maxL ret hh ∈ ws := by rw [hw]; exact List.mem_cons_self
  refine ⟨⟨hrc, hrs, hR.1, hR.2, pay_in ht hG, hc⟩, ht _ (hG _ hc).1, ok _ (by simp [wsV]), ⟨hd.1, hd.2.1⟩, fun sig h => ?_, ok _ (by simp [wsV]), ok _ (by simp [wsV]), ok _ (by simp [wsV])⟩
  have h2 := hd.2.2
  rw [h] at h2
  exact (Option.some.inj h2).symm
theorem vx_runVW {y : MethodName} {bytes cc : ByteArray} {maxL nL mc ms n index : Nat} {ret : Option FieldType} {hh : List (Nat × Nat × Nat × Nat)} {ws : List Cond} {rm : Room} {Pc : Array Value → State → Prop} {Qc : Array Value → State → Outcome → State → Prop} {free : Addr → Prop} {Ts : List Cond} {own C : String} {b : Addr} {As rest : List Value} {g : JFrame}
    (S : CallFix p m c cc nL s args Ts own) (hM : Met l y ws rm Pc Qc mc ms free) (cw : vx_CVW R s args own C index y bytes maxL ret hh ws rm mc ms n) (hp : PreV s H C b Pc As)
    (hg : g.method = m) (hn : As.length = n) (hsize : g.locals.size = nL) (hstack : g.stack = As.reverse ++ .ref b :: rest) (hW : 2 * g.monitorRoom + (rest.map fun v => v.category).sum ≤ 8) (hdg : decode cc g.pc = .ok (.invokevirtual index, 3)) (hf : cells + mc ≤ R.cells ∧ slots + ms ≤ R.slots) :
    va_Run p l e R s m args below meth c H locs cells slots mc ms g rest (Qc (Value.ref b :: As).toArray) free := by
  obtain ⟨⟨hrc, hrs, hfr, hlo, hws, hcw⟩, hcode, hini, hy, hlen, hl, hin, hse⟩ := cw
  have hK : Back l R p e below s args y 3 8 (PreOf R mc ms Pc) (PostOf Qc mc ms free) := va_backW (hh := hh) (bytes := bytes) (maxL := maxL) (ret := ret) hM hp.1 hrc hrs hfr hlo hws hcw (fun a' U hW => word_at hW (Or.inl (by first | rfl | simp [Cond.onTables, Cond.keeps, Cond.steady])) hini)
  obtain ⟨hx, hb, hml, ho, -⟩ := S
  obtain ⟨-, ⟨cellB, hcB, hoB, hclB⟩, hPc⟩ := hp
  intro T hT X
  obtain ⟨v, vm₁, ⟨U', l2, c2, s2⟩, hW₁, X', ⟨g', mk, t, L, e1, e2, hq, h1, hL, h2, h3⟩, st⟩ := vx_callVW X hx (C := C) (hh := hh) (bytes := bytes) (maxL := maxL) (ret := ret) ho hl hin hse hcode hy hK (by rw [hT]; exact hcB) hoB hclB hg (hsize.trans hml.symm) (argsL := As) (rest := rest) (fun sig h => hn.trans (hlen sig h)) hstack hW (by rw [hb]; exact hdg)
    (fun vm₁ hW₁ => ⟨hf.1, hf.2, hPc (T.setVm vm₁) hT hW₁⟩)
  dsimp only [Pt.U, Pt.locs, Pt.cells, Pt.slots] at X' e1 e2 h1 h2 h3 st
  subst h1; subst h2; subst h3
  exact ⟨v, (T.setVm vm₁).calling g' mk (Value.ref b :: As).toArray, t, U', L, hT, X', hL, e1, e2, hq, st⟩
section
variable {y : MethodName} {bytes cc : ByteArray} {maxL nL mc ms n index : Nat} {ret : Option FieldType} {ws : List Cond} {rm : Room} {Pc : Array Value → State → Prop} {Qc : Array Value → State → Outcome → State → Prop} {XC : String → State → State → Prop} {free : Addr → Prop} {Ts : List Cond} {own C : String} {b : Addr} {As rest : List Value} {g : JFrame}
theorem vx_runVX {hh : List (Nat × Nat × Nat × Nat)} (S : CallFix p m c cc nL s args Ts own) (hM : vx_Met l y ws rm Pc Qc XC mc ms free) (cw : vx_CVW R s args own C index y bytes maxL ret hh ws rm mc ms n) (hp : PreV s H C b Pc As)
    (hg : g.method = m) (hn : As.length = n) (hsize : g.locals.size = nL) (hstack : g.stack = As.reverse ++ .ref b :: rest) (hW : 2 * g.monitorRoom + (rest.map fun v => v.category).sum ≤ 8) (hdg : decode cc g.pc = .ok (.invokevirtual index, 3)) (hf : cells + mc ≤ R.cells ∧ slots + ms ≤ R.slots) :
    vx_Run p l e R s m args below meth c H locs cells slots mc ms g rest (Qc (Value.ref b :: As).toArray) XC free := by
  obtain ⟨⟨hrc, hrs, hfr, hlo, hws, hcw⟩, hcode, hini, hy, hlen, hl, hin, hse⟩ := cw
  have hK : vx_Back l R p e below s args y 3 8 (PreOf R mc ms Pc) (PostOf Qc mc ms free) (vx_Post XC mc ms free) := vx_backW (hh := hh) (bytes := bytes) (maxL := maxL) (ret := ret) hM hp.1 hrc hrs hfr hlo hws hcw (fun a' U hW => word_at hW (Or.inl (by first | rfl | simp [Cond.onTables, Cond.keeps, Cond.steady])) hini)
  obtain ⟨hx, hb, hml, ho, -⟩ := S
  obtain ⟨-, ⟨cellB, hcB, hoB, hclB⟩, hPc⟩ := hp
  intro T hT X
  rcases vx_callVX X hx (C := C) (hh := hh) (bytes := bytes) (maxL := maxL) (ret := ret) ho hl hin hse hcode hy hK (by rw [hT]; exact hcB) hoB hclB hg (hsize.trans hml.symm) (argsL := As) (rest := rest) (fun sig h => hn.trans (hlen sig h)) hstack hW (by rw [hb]; exact hdg)
    (fun vm₁ hW₁ => ⟨hf.1, hf.2, hPc (T.setVm vm₁) hT hW₁⟩) with ⟨v, vm₁, ⟨U', l2, c2, s2⟩, hW₁, X', ⟨g', mk, t, L, e1, e2, hq, h1, hL, h2, h3⟩, st⟩ | ⟨q, vm₁, ⟨U', l2, c2, s2⟩, hW₁, X', ⟨g', mk, t, L, E, ce, e1, e2, hq, hce, hcv, hcl, h1, hL, h2, h3⟩, st⟩
  · dsimp only [Pt.U, Pt.locs, Pt.cells, Pt.slots] at X' e1 e2 h1 h2 h3 st
    subst h1; subst h2; subst h3
    exact Or.inl ⟨v, (T.setVm vm₁).calling g' mk (Value.ref b :: As).toArray, t, U', L, hT, X', hL, e1, e2, hq, st⟩
  · dsimp only [Pt.U, Pt.locs, Pt.cells, Pt.slots] at X' e1 e2 h1 h2 h3 st hcl
    subst h1; subst h2; subst h3
    exact Or.inr ⟨q, (T.setVm vm₁).calling g' mk (Value.ref b :: As).toArray, t, U', L, E, ce, hT, X', hL, e1, e2, hq, hce, hcv, vx_cls hW₁ hcl, st⟩
theorem vx_runSX {hh : List (Nat × Nat × Nat × Nat)} (S : CallFix p m c cc nL s args Ts own) (hM : vx_Met l y ws rm Pc Qc XC mc ms free) (cw : vx_CSW R s args own index y bytes maxL ret hh ws rm mc ms n) (hp : PreS s H Pc As)
    (hg : g.method = m) (hn : As.length = n) (hsize : g.locals.size = nL) (hstack : g.stack = As.reverse ++ rest) (hW : 2 * g.monitorRoom + (rest.map fun v => v.category).sum ≤ 8) (hdg : decode cc g.pc = .ok (.invokestatic index, 3)) (hf : cells + mc ≤ R.cells ∧ slots + ms ≤ R.slots) :
    vx_Run p l e R s m args below meth c H locs cells slots mc ms g rest (Qc As.toArray) XC free := by
  obtain ⟨⟨hrc, hrs, hfr, hlo, hws, hcw⟩, hcode, hini, hy, hlen, hl, hstt⟩ := cw
  have hK : vx_Back l R p e below s args y 3 8 (PreOf R mc ms Pc) (PostOf Qc mc ms free) (vx_Post XC mc ms free) := vx_backW (hh := hh) (bytes := bytes) (maxL := maxL) (ret := ret) hM hp.1 hrc hrs hfr hlo hws hcw (fun a' U hW => word_at hW (Or.inl (by first | rfl | simp [Cond.onTables, Cond.keeps, Cond.steady])) hini)
  obtain ⟨hx, hb, hml, ho, -⟩ := S
  intro T hT X
  rcases vx_callSX X hx (hh := hh) (bytes := bytes) (maxL := maxL) (ret := ret) ho hl hstt hini hcode hy hK hg (hsize.trans hml.symm) (argsL := As) (rest := rest) (fun sig h => hn.trans (hlen sig h)) hstack hW (by rw [hb]; exact hdg)
    (fun vm₁ hW₁ => ⟨hf.1, hf.2, hp.2 (T.setVm vm₁) hT hW₁⟩) with ⟨v, vm₁, ⟨U', l2, c2, s2⟩, hW₁, X', ⟨g', mk, t, L, e1, e2, hq, h1, hL, h2, h3⟩, st⟩ | ⟨q, vm₁, ⟨U', l2, c2, s2⟩, hW₁, X', ⟨g', mk, t, L, E, ce, e1, e2, hq, hce, hcv, hcl, h1, hL, h2, h3⟩, st⟩
  · dsimp only [Pt.U, Pt.locs, Pt.cells, Pt.slots] at X' e1 e2 h1 h2 h3 st
    subst h1; subst h2; subst h3
    exact Or.inl ⟨v, (T.setVm vm₁).calling g' mk As.toArray, t, U', L, hT, X', hL, e1, e2, hq, st⟩
  · dsimp only [Pt.U, Pt.locs, Pt.cells, Pt.slots] at X' e1 e2 h1 h2 h3 st hcl
    subst h1; subst h2; subst h3
    exact Or.inr ⟨q, (T.setVm vm₁).calling g' mk As.toArray, t, U', L, E, ce, hT, X', hL, e1, e2, hq, hce, hcv, vx_cls hW₁ hcl, st⟩
end
end VXH
theorem vx_ofWH {l : Launch} {y : MethodName} {ws ws' : List Cond} {rm : Room} {Pc : Array Value → State → Prop} {Qc : Array Value → State → Outcome → State → Prop} {XC : String → State → State → Prop} {mc ms : Nat} {free : Addr → Prop} {cc : ByteArray} {maxL : Nat} {ret : Option FieldType} {hh : List (Nat × Nat × Nat × Nat)}
    (hy : plainName y.cls = true) (hw : ws = Cond.codeWith y cc maxL ret hh :: ws')
    (body : ∀ p e s m args below meth c s₁, BodyLoose p l y (headSpec ws rm) cc maxL ret e s m args below meth c s₁ → c.maxLocals = maxL → Pc args s →
      W p l e (headSpec ws rm).room s m args below meth c s.heap [] 0 0 (vx_MQ below Qc XC args s mc ms free) (entryFrame m args maxL)) : vx_Met l y ws rm Pc Qc XC mc ms free := by
  refine MetFree.of_bodyS (code := cc) (maxLocals := maxL) (ret := ret) hy ?_ ?_
  · intro args s m h hn
    obtain ⟨m9, meth, c, hn9, h1, h2, h3, h4, -, h5, h6, -⟩ := Cond.codeWith_spec (atoms_spec (ws := ws) h _ (by rw [hw]; exact List.mem_cons_self))
    cases hn.symm.trans hn9
    exact ⟨meth, c, h1, h2, h3, h4, h5, h6⟩
  · intro p e s m args below meth c s₁ B hml hP _
    have hh0 : s₁.heap = s.heap := by rw [B.state]; rfl
    obtain ⟨t, a1, o, b1, b2, b3⟩ := body p e s m args below meth c s₁ B hml hP s₁ hh0 (Stand.of_body B)
    exact ⟨t, o, a1, b1, b2, b3⟩
/-! ===== END ===== -/
end
section
def RX0 : String := "DollCitadel$Doll"
def TX0 : u_T := fun k => match k with
  | 0 => ("DollCitadel$Doll", "angles", "[I", true)
  | 1 => ("DollCitadel$Doll", "wears", "[I", true)
  | 2 => ("DollCitadel$Doll", "lacquers", "[I", true)
  | 3 => ("DollCitadel$Doll", "open", "[Z", true)
  | 4 => ("DollCitadel$Doll", "dusts", "[I", true)
  | 5 => ("DollCitadel$Doll", "wigEaten", "I", false)
  | 6 => ("DollCitadel$Doll", "weight", "I", false)
  | 7 => ("DollCitadel$Doll", "pins", "I", false)
  | _ => ("DollCitadel$Doll", "posesTaken", "I", false)
def tyX0 : Nat → FieldType := fun k => match k with
  | 0 => .array .int
  | 1 => .array .int
  | 2 => .array .int
  | 3 => .array .boolean
  | 4 => .array .int
  | 5 => .int
  | 6 => .int
  | 7 => .int
  | _ => .int
abbrev wsX00 : List Cond := u_ws RX0 TX0 9
theorem nmX0 : ∀ a, a < 9 → ∀ b, b < 9 → a ≠ b → (TX0 a).2.1 ≠ (TX0 b).2.1 := by decide +kernel
theorem tyX0_ok : ∀ k, k < 9 → parseFieldDescriptor (TX0 k).2.2.1 = some (tyX0 k) := by decide +kernel
abbrev cX0_init : ByteArray := prog_2_method_1_code
def yX0_init : MethodName := ⟨RX0, "<init>", "()V"⟩
abbrev cX0_becomeLike : ByteArray := prog_2_method_2_code
def yX0_becomeLike : MethodName := ⟨RX0, "becomeLike", "(LDollCitadel$Doll;)V"⟩
abbrev cX0_canTurnTo : ByteArray := prog_2_method_3_code
def yX0_canTurnTo : MethodName := ⟨RX0, "canTurnTo", "(LDollCitadel$Pose;)Z"⟩
abbrev cX0_turnTo : ByteArray := prog_2_method_4_code
def yX0_turnTo : MethodName := ⟨RX0, "turnTo", "(LDollCitadel$Pose;)V"⟩
abbrev cX0_wearBehindTurn : ByteArray := prog_2_method_5_code
def yX0_wearBehindTurn : MethodName := ⟨RX0, "wearBehindTurn", "(III)I"⟩
abbrev cX0_wearOfAllJoints : ByteArray := prog_2_method_6_code
def yX0_wearOfAllJoints : MethodName := ⟨RX0, "wearOfAllJoints", "()I"⟩
abbrev cX0_brokenJoints : ByteArray := prog_2_method_7_code
def yX0_brokenJoints : MethodName := ⟨RX0, "brokenJoints", "()I"⟩
abbrev cX0_jointsWornBy : ByteArray := prog_2_method_8_code
def yX0_jointsWornBy : MethodName := ⟨RX0, "jointsWornBy", "(I)I"⟩
abbrev cX0_jointsWithoutLacquer : ByteArray := prog_2_method_9_code
def yX0_jointsWithoutLacquer : MethodName := ⟨RX0, "jointsWithoutLacquer", "()I"⟩
abbrev cX0_eyesWithDust : ByteArray := prog_2_method_10_code
def yX0_eyesWithDust : MethodName := ⟨RX0, "eyesWithDust", "(I)I"⟩
abbrev cX0_wipeEyes : ByteArray := prog_2_method_11_code
def yX0_wipeEyes : MethodName := ⟨RX0, "wipeEyes", "()V"⟩
abbrev cX0_hasRoomForPin : ByteArray := prog_2_method_12_code
def yX0_hasRoomForPin : MethodName := ⟨RX0, "hasRoomForPin", "()Z"⟩
abbrev cX0_tally : ByteArray := prog_2_method_13_code
def yX0_tally : MethodName := ⟨RX0, "tally", "(I)I"⟩
abbrev cX0_wants : ByteArray := prog_2_method_14_code
def yX0_wants : MethodName := ⟨RX0, "wants", "(I)I"⟩
abbrev cX0_wantsInAll : ByteArray := prog_2_method_15_code
def yX0_wantsInAll : MethodName := ⟨RX0, "wantsInAll", "()I"⟩
abbrev cX0_liveOneDay : ByteArray := prog_2_method_16_code
def yX0_liveOneDay : MethodName := ⟨RX0, "liveOneDay", "(II)I"⟩
abbrev cX0_eatWig : ByteArray := prog_2_method_17_code
def yX0_eatWig : MethodName := ⟨RX0, "eatWig", "(I)V"⟩
abbrev cX0_loosenDress : ByteArray := prog_2_method_18_code
def yX0_loosenDress : MethodName := ⟨RX0, "loosenDress", "()V"⟩
abbrev cX0_dryLacquer : ByteArray := prog_2_method_19_code
def yX0_dryLacquer : MethodName := ⟨RX0, "dryLacquer", "()V"⟩
abbrev cX0_gatherDust : ByteArray := prog_2_method_20_code
def yX0_gatherDust : MethodName := ⟨RX0, "gatherDust", "()V"⟩
def RX1 : String := "DollCitadel$Pose"
def TX1 : u_T := fun k => match k with
  | _ => ("DollCitadel$Pose", "angles", "[I", true)
def tyX1 : Nat → FieldType := fun k => match k with
  | _ => .array .int
abbrev wsX10 : List Cond := u_ws RX1 TX1 1
theorem nmX1 : ∀ a, a < 1 → ∀ b, b < 1 → a ≠ b → (TX1 a).2.1 ≠ (TX1 b).2.1 := by decide +kernel
theorem tyX1_ok : ∀ k, k < 1 → parseFieldDescriptor (TX1 k).2.2.1 = some (tyX1 k) := by decide +kernel
abbrev cX1_init : ByteArray := prog_3_method_1_code
def yX1_init : MethodName := ⟨RX1, "<init>", "()V"⟩
abbrev cX1_digestInto : ByteArray := prog_3_method_2_code
def yX1_digestInto : MethodName := ⟨RX1, "digestInto", "(J)J"⟩
def RX2 : String := "DollCitadel"
def TX2 : u_T := fun k => match k with
  | 0 => ("DollCitadel", "dolls", "[LDollCitadel$Doll;", true)
  | 1 => ("DollCitadel", "poses", "[LDollCitadel$Pose;", true)
  | 2 => ("DollCitadel", "store", "[I", true)
  | 3 => ("DollCitadel", "rest", "LDollCitadel$Pose;", true)
  | 4 => ("DollCitadel", "trial", "LDollCitadel$Doll;", true)
  | 5 => ("DollCitadel", "dollCount", "I", false)
  | 6 => ("DollCitadel", "poseCount", "I", false)
  | 7 => ("DollCitadel", "day", "I", false)
  | _ => ("DollCitadel", "moths", "I", false)
def tyX2 : Nat → FieldType := fun k => match k with
  | 0 => .array (.object "DollCitadel$Doll")
  | 1 => .array (.object "DollCitadel$Pose")
  | 2 => .array .int
  | 3 => .object "DollCitadel$Pose"
  | 4 => .object "DollCitadel$Doll"
  | 5 => .int
  | 6 => .int
  | 7 => .int
  | _ => .int
abbrev wsX20 : List Cond := u_ws RX2 TX2 9
theorem nmX2 : ∀ a, a < 9 → ∀ b, b < 9 → a ≠ b → (TX2 a).2.1 ≠ (TX2 b).2.1 := by decide +kernel
theorem tyX2_ok : ∀ k, k < 9 → parseFieldDescriptor (TX2 k).2.2.1 = some (tyX2 k) := by decide +kernel
abbrev cX2_init : ByteArray := prog_1_method_1_code
def yX2_init : MethodName := ⟨RX2, "<init>", "()V"⟩
abbrev cX2_make : ByteArray := prog_1_method_2_code
def yX2_make : MethodName := ⟨RX2, "make", "()I"⟩
abbrev cX2_pose : ByteArray := prog_1_method_3_code
def yX2_pose : MethodName := ⟨RX2, "pose", "(IIIIII)I"⟩
abbrev cX2_take : ByteArray := prog_1_method_4_code
def yX2_take : MethodName := ⟨RX2, "take", "(II)I"⟩
abbrev cX2_blink : ByteArray := prog_1_method_5_code
def yX2_blink : MethodName := ⟨RX2, "blink", "(II)Z"⟩
abbrev cX2_dress : ByteArray := prog_1_method_6_code
def yX2_dress : MethodName := ⟨RX2, "dress", "(III)I"⟩
abbrev cX2_bring : ByteArray := prog_1_method_7_code
def yX2_bring : MethodName := ⟨RX2, "bring", "(II)I"⟩
abbrev cX2_setMoths : ByteArray := prog_1_method_8_code
def yX2_setMoths : MethodName := ⟨RX2, "setMoths", "(I)I"⟩
abbrev cX2_mend : ByteArray := prog_1_method_9_code
def yX2_mend : MethodName := ⟨RX2, "mend", "(III)I"⟩
abbrev cX2_joint : ByteArray := prog_1_method_10_code
def yX2_joint : MethodName := ⟨RX2, "joint", "(III)I"⟩
abbrev cX2_doll : ByteArray := prog_1_method_11_code
def yX2_doll : MethodName := ⟨RX2, "doll", "(II)I"⟩
abbrev cX2_count : ByteArray := prog_1_method_12_code
def yX2_count : MethodName := ⟨RX2, "count", "(I)I"⟩
abbrev cX2_costs : ByteArray := prog_1_method_13_code
def yX2_costs : MethodName := ⟨RX2, "costs", "(II)I"⟩
abbrev cX2_often : ByteArray := prog_1_method_14_code
def yX2_often : MethodName := ⟨RX2, "often", "(II)I"⟩
abbrev cX2_needs : ByteArray := prog_1_method_15_code
def yX2_needs : MethodName := ⟨RX2, "needs", "(II)I"⟩
abbrev cX2_lacks : ByteArray := prog_1_method_16_code
def yX2_lacks : MethodName := ⟨RX2, "lacks", "(I)I"⟩
abbrev cX2_worst : ByteArray := prog_1_method_17_code
def yX2_worst : MethodName := ⟨RX2, "worst", "()I"⟩
abbrev cX2_foresee : ByteArray := prog_1_method_18_code
def yX2_foresee : MethodName := ⟨RX2, "foresee", "(II)I"⟩
abbrev cX2_pass : ByteArray := prog_1_method_19_code
def yX2_pass : MethodName := ⟨RX2, "pass", "(I)I"⟩
abbrev cX2_mean : ByteArray := prog_1_method_20_code
def yX2_mean : MethodName := ⟨RX2, "mean", "()D"⟩
abbrev cX2_digest : ByteArray := prog_1_method_21_code
def yX2_digest : MethodName := ⟨RX2, "digest", "()J"⟩
abbrev cX2_digestJointsInto : ByteArray := prog_1_method_22_code
def yX2_digestJointsInto : MethodName := ⟨RX2, "digestJointsInto", "(JI)J"⟩
abbrev cX2_isAngle : ByteArray := prog_1_method_23_code
def yX2_isAngle : MethodName := ⟨RX2, "isAngle", "(I)Z"⟩
abbrev cX2_knownDoll : ByteArray := prog_1_method_24_code
def yX2_knownDoll : MethodName := ⟨RX2, "knownDoll", "(I)LDollCitadel$Doll;"⟩
abbrev cX2_knownPose : ByteArray := prog_1_method_25_code
def yX2_knownPose : MethodName := ⟨RX2, "knownPose", "(I)LDollCitadel$Pose;"⟩
abbrev cX2_tallyOfAll : ByteArray := prog_1_method_26_code
def yX2_tallyOfAll : MethodName := ⟨RX2, "tallyOfAll", "(I)I"⟩
abbrev cX2_liveThrough : ByteArray := prog_1_method_27_code
def yX2_liveThrough : MethodName := ⟨RX2, "liveThrough", "(LDollCitadel$Doll;I)I"⟩
def RX3 : String := "DollCitadelModel"
def TX3 : u_T := fun k => match k with
  | 0 => ("DollCitadelModel", "thrown", "I", false)
  | 1 => ("DollCitadelModel", "dolls", "I", false)
  | 2 => ("DollCitadelModel", "poses", "I", false)
  | 3 => ("DollCitadelModel", "moths", "I", false)
  | 4 => ("DollCitadelModel", "limbs", "[I", true)
  | 5 => ("DollCitadelModel", "rooms", "[I", true)
  | 6 => ("DollCitadelModel", "told", "[I", true)
  | 7 => ("DollCitadelModel", "store", "[I", true)
  | _ => ("DollCitadelModel", "day", "[I", true)
def tyX3 : Nat → FieldType := fun k => match k with
  | 0 => .int
  | 1 => .int
  | 2 => .int
  | 3 => .int
  | 4 => .array .int
  | 5 => .array .int
  | 6 => .array .int
  | 7 => .array .int
  | _ => .array .int
abbrev wsX30 : List Cond := u_ws RX3 TX3 9
theorem nmX3 : ∀ a, a < 9 → ∀ b, b < 9 → a ≠ b → (TX3 a).2.1 ≠ (TX3 b).2.1 := by decide +kernel
theorem tyX3_ok : ∀ k, k < 9 → parseFieldDescriptor (TX3 k).2.2.1 = some (tyX3 k) := by decide +kernel
abbrev cX3_init : ByteArray := prog_5_method_1_code
def yX3_init : MethodName := ⟨RX3, "<init>", "()V"⟩
abbrev cX3_thrown : ByteArray := prog_5_method_2_code
def yX3_thrown : MethodName := ⟨RX3, "thrown", "()I"⟩
abbrev cX3_fail : ByteArray := prog_5_method_3_code
def yX3_fail : MethodName := ⟨RX3, "fail", "(I)I"⟩
abbrev cX3_isIn : ByteArray := prog_5_method_4_code
def yX3_isIn : MethodName := ⟨RX3, "isIn", "(III)Z"⟩
abbrev cX3_isDoll : ByteArray := prog_5_method_5_code
def yX3_isDoll : MethodName := ⟨RX3, "isDoll", "(I)Z"⟩
abbrev cX3_isPose : ByteArray := prog_5_method_6_code
def yX3_isPose : MethodName := ⟨RX3, "isPose", "(I)Z"⟩
abbrev cX3_at : ByteArray := prog_5_method_7_code
def yX3_at : MethodName := ⟨RX3, "at", "(III)I"⟩
abbrev cX3_li : ByteArray := prog_5_method_8_code
def yX3_li : MethodName := ⟨RX3, "li", "(III)I"⟩
abbrev cX3_ro : ByteArray := prog_5_method_9_code
def yX3_ro : MethodName := ⟨RX3, "ro", "(II)I"⟩
abbrev cX3_put : ByteArray := prog_5_method_10_code
def yX3_put : MethodName := ⟨RX3, "put", "(III)V"⟩
abbrev cX3_make : ByteArray := prog_5_method_11_code
def yX3_make : MethodName := ⟨RX3, "make", "()I"⟩
abbrev cX3_pose : ByteArray := prog_5_method_12_code
def yX3_pose : MethodName := ⟨RX3, "pose", "(IIIIII)I"⟩
abbrev cX3_isBroken : ByteArray := prog_5_method_13_code
def yX3_isBroken : MethodName := ⟨RX3, "isBroken", "(II)Z"⟩
abbrev cX3_turn : ByteArray := prog_5_method_14_code
def yX3_turn : MethodName := ⟨RX3, "turn", "(III)Z"⟩
abbrev cX3_can : ByteArray := prog_5_method_15_code
def yX3_can : MethodName := ⟨RX3, "can", "(II)Z"⟩
abbrev cX3_turnAll : ByteArray := prog_5_method_16_code
def yX3_turnAll : MethodName := ⟨RX3, "turnAll", "(II)I"⟩
abbrev cX3_take : ByteArray := prog_5_method_17_code
def yX3_take : MethodName := ⟨RX3, "take", "(II)I"⟩
abbrev cX3_blink : ByteArray := prog_5_method_18_code
def yX3_blink : MethodName := ⟨RX3, "blink", "(II)Z"⟩
abbrev cX3_dress : ByteArray := prog_5_method_19_code
def yX3_dress : MethodName := ⟨RX3, "dress", "(III)I"⟩
abbrev cX3_bring : ByteArray := prog_5_method_20_code
def yX3_bring : MethodName := ⟨RX3, "bring", "(II)I"⟩
abbrev cX3_setMoths : ByteArray := prog_5_method_21_code
def yX3_setMoths : MethodName := ⟨RX3, "setMoths", "(I)I"⟩
abbrev cX3_mend : ByteArray := prog_5_method_22_code
def yX3_mend : MethodName := ⟨RX3, "mend", "(III)I"⟩
abbrev cX3_jointTold : ByteArray := prog_5_method_23_code
def yX3_jointTold : MethodName := ⟨RX3, "jointTold", "(III)I"⟩
abbrev cX3_joint : ByteArray := prog_5_method_24_code
def yX3_joint : MethodName := ⟨RX3, "joint", "(III)I"⟩
abbrev cX3_doll : ByteArray := prog_5_method_25_code
def yX3_doll : MethodName := ⟨RX3, "doll", "(II)I"⟩
abbrev cX3_counted : ByteArray := prog_5_method_26_code
def yX3_counted : MethodName := ⟨RX3, "counted", "(I)I"⟩
abbrev cX3_count : ByteArray := prog_5_method_27_code
def yX3_count : MethodName := ⟨RX3, "count", "(I)I"⟩
abbrev cX3_kept : ByteArray := prog_5_method_28_code
def yX3_kept : MethodName := ⟨RX3, "kept", "()[[I"⟩
abbrev cX3_bringBack : ByteArray := prog_5_method_29_code
def yX3_bringBack : MethodName := ⟨RX3, "bringBack", "([[I)V"⟩
abbrev cX3_wearOf : ByteArray := prog_5_method_30_code
def yX3_wearOf : MethodName := ⟨RX3, "wearOf", "(I)I"⟩
abbrev cX3_costs : ByteArray := prog_5_method_31_code
def yX3_costs : MethodName := ⟨RX3, "costs", "(II)I"⟩
abbrev cX3_often : ByteArray := prog_5_method_32_code
def yX3_often : MethodName := ⟨RX3, "often", "(II)I"⟩
abbrev cX3_needed : ByteArray := prog_5_method_33_code
def yX3_needed : MethodName := ⟨RX3, "needed", "(II)I"⟩
abbrev cX3_needs : ByteArray := prog_5_method_34_code
def yX3_needs : MethodName := ⟨RX3, "needs", "(II)I"⟩
abbrev cX3_lacks : ByteArray := prog_5_method_35_code
def yX3_lacks : MethodName := ⟨RX3, "lacks", "(I)I"⟩
abbrev cX3_worst : ByteArray := prog_5_method_36_code
def yX3_worst : MethodName := ⟨RX3, "worst", "()I"⟩
abbrev cX3_dayOf : ByteArray := prog_5_method_37_code
def yX3_dayOf : MethodName := ⟨RX3, "dayOf", "(I)I"⟩
abbrev cX3_daysOn : ByteArray := prog_5_method_38_code
def yX3_daysOn : MethodName := ⟨RX3, "daysOn", "(I)I"⟩
abbrev cX3_foresee : ByteArray := prog_5_method_39_code
def yX3_foresee : MethodName := ⟨RX3, "foresee", "(II)I"⟩
abbrev cX3_pass : ByteArray := prog_5_method_40_code
def yX3_pass : MethodName := ⟨RX3, "pass", "(I)I"⟩
abbrev cX3_mean : ByteArray := prog_5_method_41_code
def yX3_mean : MethodName := ⟨RX3, "mean", "()D"⟩
abbrev cX3_digest : ByteArray := prog_5_method_42_code
def yX3_digest : MethodName := ⟨RX3, "digest", "()J"⟩
def RJx8e188 : String := "java/lang/Cloneable"
def TJx8e188 : u_T := fun k => match k with
  | _ => ("", "", "", false)
def tyJx8e188 : Nat → FieldType := fun k => match k with
  | _ => .int
abbrev wsJx8e1880 : List Cond := u_ws RJx8e188 TJx8e188 0
theorem nmJx8e188 : ∀ a, a < 0 → ∀ b, b < 0 → a ≠ b → (TJx8e188 a).2.1 ≠ (TJx8e188 b).2.1 := by decide +kernel
theorem tyJx8e188_ok : ∀ k, k < 0 → parseFieldDescriptor (TJx8e188 k).2.2.1 = some (tyJx8e188 k) := by decide +kernel
def RJ9 : String := "java/lang/Math"
def TJ9 : u_T := fun k => match k with
  | _ => ("", "", "", false)
def tyJ9 : Nat → FieldType := fun k => match k with
  | _ => .int
abbrev wsJ90 : List Cond := u_ws RJ9 TJ9 0
theorem nmJ9 : ∀ a, a < 0 → ∀ b, b < 0 → a ≠ b → (TJ9 a).2.1 ≠ (TJ9 b).2.1 := by decide +kernel
theorem tyJ9_ok : ∀ k, k < 0 → parseFieldDescriptor (TJ9 k).2.2.1 = some (tyJ9 k) := by decide +kernel
abbrev cJ9_abs_0f7a4 : ByteArray := prog_11_method_59_code
def yJ9_abs_0f7a4 : MethodName := ⟨RJ9, "abs", "(I)I"⟩
abbrev cJ9_max_7cf53 : ByteArray := prog_11_method_65_code
def yJ9_max_7cf53 : MethodName := ⟨RJ9, "max", "(II)I"⟩
abbrev cJ9_min_7cf53 : ByteArray := prog_11_method_69_code
def yJ9_min_7cf53 : MethodName := ⟨RJ9, "min", "(II)I"⟩
def RJ0 : String := "java/lang/String"
def TJ0 : u_T := fun k => match k with
  | _ => ("", "", "", false)
def tyJ0 : Nat → FieldType := fun k => match k with
  | _ => .int
abbrev wsJ00 : List Cond := u_ws RJ0 TJ0 0
theorem nmJ0 : ∀ a, a < 0 → ∀ b, b < 0 → a ≠ b → (TJ0 a).2.1 ≠ (TJ0 b).2.1 := by decide +kernel
theorem tyJ0_ok : ∀ k, k < 0 → parseFieldDescriptor (TJ0 k).2.2.1 = some (tyJ0 k) := by decide +kernel
def RJ10 : String := "java/lang/System"
def TJ10 : u_T := fun k => match k with
  | _ => ("", "", "", false)
def tyJ10 : Nat → FieldType := fun k => match k with
  | _ => .int
abbrev wsJ100 : List Cond := u_ws RJ10 TJ10 0
theorem nmJ10 : ∀ a, a < 0 → ∀ b, b < 0 → a ≠ b → (TJ10 a).2.1 ≠ (TJ10 b).2.1 := by decide +kernel
theorem tyJ10_ok : ∀ k, k < 0 → parseFieldDescriptor (TJ10 k).2.2.1 = some (tyJ10 k) := by decide +kernel
def RL : String := "DollCitadelLaw"
abbrev cL_make : ByteArray := method_3_code
def yL_make : MethodName := ⟨RL, "make", "(LDollCitadel;[J)I"⟩
abbrev cL_pose : ByteArray := method_4_code
def yL_pose : MethodName := ⟨RL, "pose", "(LDollCitadel;IIIIII[J)I"⟩
abbrev cL_take : ByteArray := method_5_code
def yL_take : MethodName := ⟨RL, "take", "(LDollCitadel;II[J)I"⟩
abbrev cL_blink : ByteArray := method_6_code
def yL_blink : MethodName := ⟨RL, "blink", "(LDollCitadel;II[J)I"⟩
abbrev cL_dress : ByteArray := method_7_code
def yL_dress : MethodName := ⟨RL, "dress", "(LDollCitadel;III[J)I"⟩
abbrev cL_bring : ByteArray := method_8_code
def yL_bring : MethodName := ⟨RL, "bring", "(LDollCitadel;II[J)I"⟩
abbrev cL_setMoths : ByteArray := method_9_code
def yL_setMoths : MethodName := ⟨RL, "setMoths", "(LDollCitadel;I[J)I"⟩
abbrev cL_mend : ByteArray := method_10_code
def yL_mend : MethodName := ⟨RL, "mend", "(LDollCitadel;III[J)I"⟩
abbrev cL_joint : ByteArray := method_11_code
def yL_joint : MethodName := ⟨RL, "joint", "(LDollCitadel;III[J)I"⟩
abbrev cL_doll : ByteArray := method_12_code
def yL_doll : MethodName := ⟨RL, "doll", "(LDollCitadel;II[J)I"⟩
abbrev cL_count : ByteArray := method_13_code
def yL_count : MethodName := ⟨RL, "count", "(LDollCitadel;I[J)I"⟩
abbrev cL_costs : ByteArray := method_14_code
def yL_costs : MethodName := ⟨RL, "costs", "(LDollCitadel;II[J)I"⟩
abbrev cL_often : ByteArray := method_15_code
def yL_often : MethodName := ⟨RL, "often", "(LDollCitadel;II[J)I"⟩
abbrev cL_needs : ByteArray := method_16_code
def yL_needs : MethodName := ⟨RL, "needs", "(LDollCitadel;II[J)I"⟩
abbrev cL_lacks : ByteArray := method_17_code
def yL_lacks : MethodName := ⟨RL, "lacks", "(LDollCitadel;I[J)I"⟩
abbrev cL_foresee : ByteArray := method_18_code
def yL_foresee : MethodName := ⟨RL, "foresee", "(LDollCitadel;II[J)I"⟩
abbrev cL_pass : ByteArray := method_19_code
def yL_pass : MethodName := ⟨RL, "pass", "(LDollCitadel;I[J)I"⟩
abbrev cL_law : ByteArray := code
def yL_law : MethodName := ⟨RL, "law", "([I)Z"⟩
def wsX0_init : List Cond := .code yX0_init cX0_init 2 none :: ([.methodLink RX0 3 objectInit, .instanceMethod objectInit, .code objectInit ⟨#[0xb1]⟩ 1 none, .arrayClass .int, .fieldLink RX0 9 "DollCitadel$Doll" "angles" "[I", .fieldLink RX0 15 "DollCitadel$Doll" "wears" "[I", .fieldLink RX0 18 "DollCitadel$Doll" "lacquers" "[I", .arrayClass .boolean, .fieldLink RX0 21 "DollCitadel$Doll" "open" "[Z", .fieldLink RX0 25 "DollCitadel$Doll" "dusts" "[I", .fieldLink RX0 28 "DollCitadel$Doll" "wigEaten" "I", .fieldLink RX0 32 "DollCitadel$Doll" "weight" "I", .fieldLink RX0 35 "DollCitadel$Doll" "pins" "I", .fieldLink RX0 38 "DollCitadel$Doll" "posesTaken" "I"] ++ wsX00)
def wsX0_becomeLike : List Cond := .code yX0_becomeLike cX0_becomeLike 3 none :: ([.fieldLink RX0 9 "DollCitadel$Doll" "angles" "[I", .fieldLink RX0 15 "DollCitadel$Doll" "wears" "[I", .fieldLink RX0 18 "DollCitadel$Doll" "lacquers" "[I", .fieldLink RX0 21 "DollCitadel$Doll" "open" "[Z", .fieldLink RX0 25 "DollCitadel$Doll" "dusts" "[I", .fieldLink RX0 28 "DollCitadel$Doll" "wigEaten" "I", .fieldLink RX0 32 "DollCitadel$Doll" "weight" "I", .fieldLink RX0 35 "DollCitadel$Doll" "pins" "I", .fieldLink RX0 38 "DollCitadel$Doll" "posesTaken" "I"] ++ wsX00)
def wsX0_canTurnTo : List Cond := .code yX0_canTurnTo cX0_canTurnTo 3 (some .boolean) :: ([.fieldLink RX0 15 "DollCitadel$Doll" "wears" "[I", .fieldLink RX0 9 "DollCitadel$Doll" "angles" "[I", .fieldLink RX0 41 "DollCitadel$Pose" "angles" "[I"] ++ wsX00 ++ wsX10)
def wsX0_wearBehindTurn : List Cond := .code yX0_wearBehindTurn cX0_wearBehindTurn 4 (some .int) :: ([.methodLink RX0 58 Lib.Math.min.name, .static Lib.Math.min.name, .initialized "java/lang/Math", .code Lib.Math.min.name Lib.Math.min.code 2 (some .int)])
def wsX0_turnTo : List Cond := .code yX0_turnTo cX0_turnTo 4 none :: ([.fieldLink RX0 41 "DollCitadel$Pose" "angles" "[I", .fieldLink RX0 9 "DollCitadel$Doll" "angles" "[I", .methodLink RX0 44 Lib.Math.abs.name, .static Lib.Math.abs.name, .initialized "java/lang/Math", .code Lib.Math.abs.name Lib.Math.abs.code 1 (some .int), .fieldLink RX0 15 "DollCitadel$Doll" "wears" "[I", .fieldLink RX0 18 "DollCitadel$Doll" "lacquers" "[I", .methodLink RX0 54 Lib.Math.max.name, .static Lib.Math.max.name, .code Lib.Math.max.name Lib.Math.max.code 2 (some .int), .methodLink RX0 50 yX0_wearBehindTurn, .static yX0_wearBehindTurn, .initialized RX0, .code yX0_wearBehindTurn cX0_wearBehindTurn 4 (some .int), .methodLink RX0 58 Lib.Math.min.name, .static Lib.Math.min.name, .code Lib.Math.min.name Lib.Math.min.code 2 (some .int)] ++ wsX10 ++ wsX00)
def wsX0_wearOfAllJoints : List Cond := .code yX0_wearOfAllJoints cX0_wearOfAllJoints 6 (some .int) :: ([.fieldLink RX0 15 "DollCitadel$Doll" "wears" "[I"] ++ wsX00)
def wsX0_jointsWornBy : List Cond := .code yX0_jointsWornBy cX0_jointsWornBy 7 (some .int) :: ([.fieldLink RX0 15 "DollCitadel$Doll" "wears" "[I"] ++ wsX00)
def wsX0_brokenJoints : List Cond := .code yX0_brokenJoints cX0_brokenJoints 1 (some .int) :: ([.methodLink RX0 61 yX0_jointsWornBy, .instanceMethod yX0_jointsWornBy, .selects RX0 yX0_jointsWornBy yX0_jointsWornBy, .initialized RX0, .code yX0_jointsWornBy cX0_jointsWornBy 7 (some .int), .fieldLink RX0 15 "DollCitadel$Doll" "wears" "[I"] ++ wsX00)
def wsX0_jointsWithoutLacquer : List Cond := .code yX0_jointsWithoutLacquer cX0_jointsWithoutLacquer 6 (some .int) :: ([.fieldLink RX0 18 "DollCitadel$Doll" "lacquers" "[I"] ++ wsX00)
def wsX0_eyesWithDust : List Cond := .code yX0_eyesWithDust cX0_eyesWithDust 7 (some .int) :: ([.fieldLink RX0 25 "DollCitadel$Doll" "dusts" "[I"] ++ wsX00)
def wsX0_wipeEyes : List Cond := .code yX0_wipeEyes cX0_wipeEyes 2 none :: ([.fieldLink RX0 25 "DollCitadel$Doll" "dusts" "[I"] ++ wsX00)
def wsX0_hasRoomForPin : List Cond := .code yX0_hasRoomForPin cX0_hasRoomForPin 1 (some .boolean) :: ([.fieldLink RX0 32 "DollCitadel$Doll" "weight" "I", .fieldLink RX0 35 "DollCitadel$Doll" "pins" "I"] ++ wsX00)
def wsX0_tally : List Cond := .code yX0_tally cX0_tally 2 (some .int) :: ([.fieldLink RX0 28 "DollCitadel$Doll" "wigEaten" "I", .fieldLink RX0 32 "DollCitadel$Doll" "weight" "I", .methodLink RX0 64 yX0_brokenJoints, .instanceMethod yX0_brokenJoints, .selects RX0 yX0_brokenJoints yX0_brokenJoints, .initialized RX0, .code yX0_brokenJoints cX0_brokenJoints 1 (some .int), .methodLink RX0 61 yX0_jointsWornBy, .instanceMethod yX0_jointsWornBy, .selects RX0 yX0_jointsWornBy yX0_jointsWornBy, .code yX0_jointsWornBy cX0_jointsWornBy 7 (some .int), .fieldLink RX0 15 "DollCitadel$Doll" "wears" "[I", .methodLink RX0 68 yX0_eyesWithDust, .instanceMethod yX0_eyesWithDust, .selects RX0 yX0_eyesWithDust yX0_eyesWithDust, .code yX0_eyesWithDust cX0_eyesWithDust 7 (some .int), .fieldLink RX0 25 "DollCitadel$Doll" "dusts" "[I"] ++ wsX00)
def wsX0_wants : List Cond := .code yX0_wants cX0_wants 2 (some .int) :: ([.fieldLink RX0 32 "DollCitadel$Doll" "weight" "I", .fieldLink RX0 35 "DollCitadel$Doll" "pins" "I", .fieldLink RX0 28 "DollCitadel$Doll" "wigEaten" "I", .methodLink RX0 61 yX0_jointsWornBy, .instanceMethod yX0_jointsWornBy, .selects RX0 yX0_jointsWornBy yX0_jointsWornBy, .initialized RX0, .code yX0_jointsWornBy cX0_jointsWornBy 7 (some .int), .fieldLink RX0 15 "DollCitadel$Doll" "wears" "[I", .methodLink RX0 71 yX0_jointsWithoutLacquer, .instanceMethod yX0_jointsWithoutLacquer, .selects RX0 yX0_jointsWithoutLacquer yX0_jointsWithoutLacquer, .code yX0_jointsWithoutLacquer cX0_jointsWithoutLacquer 6 (some .int), .fieldLink RX0 18 "DollCitadel$Doll" "lacquers" "[I", .methodLink RX0 68 yX0_eyesWithDust, .instanceMethod yX0_eyesWithDust, .selects RX0 yX0_eyesWithDust yX0_eyesWithDust, .code yX0_eyesWithDust cX0_eyesWithDust 7 (some .int), .fieldLink RX0 25 "DollCitadel$Doll" "dusts" "[I"] ++ wsX00)
def wsX0_wantsInAll : List Cond := .code yX0_wantsInAll cX0_wantsInAll 3 (some .int) :: ([.methodLink RX0 74 yX0_wants, .instanceMethod yX0_wants, .selects RX0 yX0_wants yX0_wants, .initialized RX0, .code yX0_wants cX0_wants 2 (some .int), .fieldLink RX0 32 "DollCitadel$Doll" "weight" "I", .fieldLink RX0 35 "DollCitadel$Doll" "pins" "I", .fieldLink RX0 28 "DollCitadel$Doll" "wigEaten" "I", .methodLink RX0 61 yX0_jointsWornBy, .instanceMethod yX0_jointsWornBy, .selects RX0 yX0_jointsWornBy yX0_jointsWornBy, .code yX0_jointsWornBy cX0_jointsWornBy 7 (some .int), .fieldLink RX0 15 "DollCitadel$Doll" "wears" "[I", .methodLink RX0 71 yX0_jointsWithoutLacquer, .instanceMethod yX0_jointsWithoutLacquer, .selects RX0 yX0_jointsWithoutLacquer yX0_jointsWithoutLacquer, .code yX0_jointsWithoutLacquer cX0_jointsWithoutLacquer 6 (some .int), .fieldLink RX0 18 "DollCitadel$Doll" "lacquers" "[I", .methodLink RX0 68 yX0_eyesWithDust, .instanceMethod yX0_eyesWithDust, .selects RX0 yX0_eyesWithDust yX0_eyesWithDust, .code yX0_eyesWithDust cX0_eyesWithDust 7 (some .int), .fieldLink RX0 25 "DollCitadel$Doll" "dusts" "[I"] ++ wsX00)
def wsX0_eatWig : List Cond := .code yX0_eatWig cX0_eatWig 2 none :: ([.fieldLink RX0 28 "DollCitadel$Doll" "wigEaten" "I"] ++ wsX00)
def wsX0_loosenDress : List Cond := .code yX0_loosenDress cX0_loosenDress 1 none :: ([.fieldLink RX0 32 "DollCitadel$Doll" "weight" "I", .fieldLink RX0 15 "DollCitadel$Doll" "wears" "[I", .fieldLink RX0 35 "DollCitadel$Doll" "pins" "I", .methodLink RX0 54 Lib.Math.max.name, .static Lib.Math.max.name, .initialized "java/lang/Math", .code Lib.Math.max.name Lib.Math.max.code 2 (some .int)] ++ wsX00)
def wsX0_dryLacquer : List Cond := .code yX0_dryLacquer cX0_dryLacquer 2 none :: ([.fieldLink RX0 18 "DollCitadel$Doll" "lacquers" "[I", .methodLink RX0 54 Lib.Math.max.name, .static Lib.Math.max.name, .initialized "java/lang/Math", .code Lib.Math.max.name Lib.Math.max.code 2 (some .int)] ++ wsX00)
def wsX0_gatherDust : List Cond := .code yX0_gatherDust cX0_gatherDust 2 none :: ([.fieldLink RX0 21 "DollCitadel$Doll" "open" "[Z", .fieldLink RX0 25 "DollCitadel$Doll" "dusts" "[I", .methodLink RX0 58 Lib.Math.min.name, .static Lib.Math.min.name, .initialized "java/lang/Math", .code Lib.Math.min.name Lib.Math.min.code 2 (some .int)] ++ wsX00)
def wsX0_liveOneDay_r1 : List Cond := [Cond.methodLink RX0 77 yX0_tally, Cond.instanceMethod yX0_tally, Cond.selects RX0 yX0_tally yX0_tally, Cond.initialized RX0, Cond.code yX0_tally cX0_tally 2 (some .int), Cond.fieldLink RX0 28 "DollCitadel$Doll" "wigEaten" "I", Cond.fieldLink RX0 32 "DollCitadel$Doll" "weight" "I", Cond.methodLink RX0 64 yX0_brokenJoints, Cond.instanceMethod yX0_brokenJoints, Cond.selects RX0 yX0_brokenJoints yX0_brokenJoints, Cond.code yX0_brokenJoints cX0_brokenJoints 1 (some .int), Cond.methodLink RX0 61 yX0_jointsWornBy, Cond.instanceMethod yX0_jointsWornBy, Cond.selects RX0 yX0_jointsWornBy yX0_jointsWornBy, Cond.code yX0_jointsWornBy cX0_jointsWornBy 7 (some .int), Cond.fieldLink RX0 15 "DollCitadel$Doll" "wears" "[I", Cond.methodLink RX0 68 yX0_eyesWithDust, Cond.instanceMethod yX0_eyesWithDust, Cond.selects RX0 yX0_eyesWithDust yX0_eyesWithDust, Cond.code yX0_eyesWithDust cX0_eyesWithDust 7 (some .int), Cond.fieldLink RX0 25 "DollCitadel$Doll" "dusts" "[I", Cond.methodLink RX0 80 yX0_eatWig, Cond.instanceMethod yX0_eatWig, Cond.selects RX0 yX0_eatWig yX0_eatWig]
def wsX0_liveOneDay_r2 : List Cond := [Cond.code yX0_eatWig cX0_eatWig 2 none, Cond.methodLink RX0 84 yX0_loosenDress, Cond.instanceMethod yX0_loosenDress, Cond.selects RX0 yX0_loosenDress yX0_loosenDress, Cond.code yX0_loosenDress cX0_loosenDress 1 none, Cond.fieldLink RX0 35 "DollCitadel$Doll" "pins" "I", Cond.methodLink RX0 54 Lib.Math.max.name, Cond.static Lib.Math.max.name, Cond.initialized "java/lang/Math", Cond.code Lib.Math.max.name Lib.Math.max.code 2 (some .int), Cond.methodLink RX0 87 yX0_dryLacquer, Cond.instanceMethod yX0_dryLacquer, Cond.selects RX0 yX0_dryLacquer yX0_dryLacquer, Cond.code yX0_dryLacquer cX0_dryLacquer 2 none, Cond.fieldLink RX0 18 "DollCitadel$Doll" "lacquers" "[I", Cond.methodLink RX0 90 yX0_gatherDust, Cond.instanceMethod yX0_gatherDust, Cond.selects RX0 yX0_gatherDust yX0_gatherDust, Cond.code yX0_gatherDust cX0_gatherDust 2 none, Cond.fieldLink RX0 21 "DollCitadel$Doll" "open" "[Z", Cond.methodLink RX0 58 Lib.Math.min.name, Cond.static Lib.Math.min.name, Cond.code Lib.Math.min.name Lib.Math.min.code 2 (some .int)]
def wsX0_liveOneDay : List Cond := .code yX0_liveOneDay cX0_liveOneDay 5 (some .int) :: ((wsX0_liveOneDay_r1 ++ wsX0_liveOneDay_r2) ++ wsX00)
def wsX1_init : List Cond := .code yX1_init cX1_init 1 none :: ([.methodLink RX1 3 objectInit, .instanceMethod objectInit, .code objectInit ⟨#[0xb1]⟩ 1 none, .arrayClass .int, .fieldLink RX1 9 "DollCitadel$Pose" "angles" "[I"] ++ wsX10)
def wsX1_digestInto : List Cond := .code yX1_digestInto cX1_digestInto 9 (some .long) :: ([.fieldLink RX1 9 "DollCitadel$Pose" "angles" "[I", .constantLong RX1 15 (31)] ++ wsX10)
def wsX2_init_r1 : List Cond := [Cond.methodLink RX2 1 objectInit, Cond.instanceMethod objectInit, Cond.code objectInit ⟨#[0xb1]⟩ 1 none, Cond.classLink RX2 9 RX0, Cond.fieldLink RX2 11 "DollCitadel" "dolls" "[LDollCitadel$Doll;", Cond.classLink RX2 15 RX1, Cond.fieldLink RX2 17 "DollCitadel" "poses" "[LDollCitadel$Pose;", Cond.arrayClass .int, Cond.fieldLink RX2 21 "DollCitadel" "store" "[I", Cond.instantiable RX1 1, Cond.initialized RX1, Cond.fieldLink RX2 26 "DollCitadel" "rest" "LDollCitadel$Pose;", Cond.instantiable RX0 9, Cond.initialized RX0, Cond.fieldLink RX2 31 "DollCitadel" "trial" "LDollCitadel$Doll;", Cond.fieldLink RX2 35 "DollCitadel" "dollCount" "I", Cond.fieldLink RX2 39 "DollCitadel" "poseCount" "I", Cond.fieldLink RX2 42 "DollCitadel" "day" "I", Cond.fieldLink RX2 45 "DollCitadel" "moths" "I", Cond.instanceMethod yX1_init, Cond.code yX1_init cX1_init 1 none, Cond.methodLink RX1 3 objectInit, Cond.fieldLink RX1 9 "DollCitadel$Pose" "angles" "[I", Cond.methodLink RX2 30 yX0_init]
def wsX2_init_r2 : List Cond := [Cond.instanceMethod yX0_init, Cond.code yX0_init cX0_init 2 none, Cond.methodLink RX0 3 objectInit, Cond.fieldLink RX0 9 "DollCitadel$Doll" "angles" "[I", Cond.fieldLink RX0 15 "DollCitadel$Doll" "wears" "[I", Cond.fieldLink RX0 18 "DollCitadel$Doll" "lacquers" "[I", Cond.arrayClass .boolean, Cond.fieldLink RX0 21 "DollCitadel$Doll" "open" "[Z", Cond.fieldLink RX0 25 "DollCitadel$Doll" "dusts" "[I", Cond.fieldLink RX0 28 "DollCitadel$Doll" "wigEaten" "I", Cond.fieldLink RX0 32 "DollCitadel$Doll" "weight" "I", Cond.fieldLink RX0 35 "DollCitadel$Doll" "pins" "I", Cond.fieldLink RX0 38 "DollCitadel$Doll" "posesTaken" "I"]
def wsX2_init : List Cond := .code yX2_init cX2_init 1 none :: ((wsX2_init_r1 ++ wsX2_init_r2) ++ wsX20 ++ wsX10 ++ wsX00)
def wsX2_make : List Cond := .code yX2_make cX2_make 2 (some .int) :: ([.classLink RX2 48 "java/lang/IllegalStateException", .initialized "java/lang/IllegalStateException", .fieldLink RX2 35 "DollCitadel" "dollCount" "I", .fieldLink RX2 11 "DollCitadel" "dolls" "[LDollCitadel$Doll;", .classLink RX2 9 RX0, .instantiable RX0 9, .initialized RX0, .methodLink RX2 30 yX0_init, .instanceMethod yX0_init, .code yX0_init cX0_init 2 none, .methodLink RX0 3 objectInit, .instanceMethod objectInit, .code objectInit ⟨#[0xb1]⟩ 1 none, .arrayClass .int, .fieldLink RX0 9 "DollCitadel$Doll" "angles" "[I", .fieldLink RX0 15 "DollCitadel$Doll" "wears" "[I", .fieldLink RX0 18 "DollCitadel$Doll" "lacquers" "[I", .arrayClass .boolean, .fieldLink RX0 21 "DollCitadel$Doll" "open" "[Z", .fieldLink RX0 25 "DollCitadel$Doll" "dusts" "[I", .fieldLink RX0 28 "DollCitadel$Doll" "wigEaten" "I", .fieldLink RX0 32 "DollCitadel$Doll" "weight" "I", .fieldLink RX0 35 "DollCitadel$Doll" "pins" "I", .fieldLink RX0 38 "DollCitadel$Doll" "posesTaken" "I"] ++ wsX20 ++ wsX00 ++ (vx_atS RX2 52 "java/lang/IllegalStateException" ["java/lang/RuntimeException", "java/lang/Exception"]).filter goodWord)
def wsX2_isAngle : List Cond := .code yX2_isAngle cX2_isAngle 1 (some .boolean) :: ([])
def wsX2_pose : List Cond := .code yX2_pose cX2_pose 9 (some .int) :: ([.classLink RX2 59 "java/lang/IllegalArgumentException", .initialized "java/lang/IllegalArgumentException", .classLink RX2 48 "java/lang/IllegalStateException", .initialized "java/lang/IllegalStateException", .fieldLink RX2 39 "DollCitadel" "poseCount" "I", .fieldLink RX2 17 "DollCitadel" "poses" "[LDollCitadel$Pose;", .classLink RX2 15 RX1, .instantiable RX1 1, .initialized RX1, .fieldLink RX2 66 "DollCitadel$Pose" "angles" "[I", .methodLink RX2 55 yX2_isAngle, .static yX2_isAngle, .initialized RX2, .code yX2_isAngle cX2_isAngle 1 (some .boolean), .instanceMethod yX1_init, .code yX1_init cX1_init 1 none, .methodLink RX1 3 objectInit, .instanceMethod objectInit, .code objectInit ⟨#[0xb1]⟩ 1 none, .arrayClass .int, .fieldLink RX1 9 "DollCitadel$Pose" "angles" "[I"] ++ wsX20 ++ wsX10 ++ (vx_atS RX2 63 "java/lang/IllegalArgumentException" ["java/lang/RuntimeException", "java/lang/Exception"]).filter goodWord ++ (vx_atS RX2 52 "java/lang/IllegalStateException" ["java/lang/RuntimeException", "java/lang/Exception"]).filter goodWord)
def wsX2_knownDoll : List Cond := .code yX2_knownDoll cX2_knownDoll 3 (some (.object "DollCitadel$Doll")) :: ([.classLink RX2 94 "java/lang/IndexOutOfBoundsException", .initialized "java/lang/IndexOutOfBoundsException", .fieldLink RX2 11 "DollCitadel" "dolls" "[LDollCitadel$Doll;"] ++ wsX20 ++ (vx_atS RX2 98 "java/lang/IndexOutOfBoundsException" ["java/lang/RuntimeException", "java/lang/Exception"]).filter goodWord)
def wsX2_knownPose : List Cond := .code yX2_knownPose cX2_knownPose 3 (some (.object "DollCitadel$Pose")) :: ([.classLink RX2 94 "java/lang/IndexOutOfBoundsException", .initialized "java/lang/IndexOutOfBoundsException", .fieldLink RX2 17 "DollCitadel" "poses" "[LDollCitadel$Pose;"] ++ wsX20 ++ (vx_atS RX2 98 "java/lang/IndexOutOfBoundsException" ["java/lang/RuntimeException", "java/lang/Exception"]).filter goodWord)
def wsX2_take_r1 : List Cond := [Cond.classLink RX2 48 "java/lang/IllegalStateException", Cond.initialized "java/lang/IllegalStateException", Cond.fieldLink RX2 91 "DollCitadel$Doll" "posesTaken" "I", Cond.methodLink RX2 69 yX2_knownDoll, Cond.instanceMethod yX2_knownDoll, Cond.selects RX2 yX2_knownDoll yX2_knownDoll, Cond.initialized RX2, Cond.code yX2_knownDoll cX2_knownDoll 3 (some (.object "DollCitadel$Doll")), Cond.classLink RX2 94 "java/lang/IndexOutOfBoundsException", Cond.initialized "java/lang/IndexOutOfBoundsException", Cond.fieldLink RX2 11 "DollCitadel" "dolls" "[LDollCitadel$Doll;", Cond.methodLink RX2 73 yX2_knownPose, Cond.instanceMethod yX2_knownPose, Cond.selects RX2 yX2_knownPose yX2_knownPose, Cond.code yX2_knownPose cX2_knownPose 3 (some (.object "DollCitadel$Pose")), Cond.fieldLink RX2 17 "DollCitadel" "poses" "[LDollCitadel$Pose;", Cond.methodLink RX2 77 yX0_canTurnTo, Cond.instanceMethod yX0_canTurnTo, Cond.selects RX0 yX0_canTurnTo yX0_canTurnTo, Cond.initialized RX0, Cond.code yX0_canTurnTo cX0_canTurnTo 3 (some .boolean), Cond.fieldLink RX0 15 "DollCitadel$Doll" "wears" "[I", Cond.fieldLink RX0 9 "DollCitadel$Doll" "angles" "[I", Cond.fieldLink RX0 41 "DollCitadel$Pose" "angles" "[I"]
def wsX2_take_r2 : List Cond := [Cond.methodLink RX2 83 yX0_brokenJoints, Cond.instanceMethod yX0_brokenJoints, Cond.selects RX0 yX0_brokenJoints yX0_brokenJoints, Cond.code yX0_brokenJoints cX0_brokenJoints 1 (some .int), Cond.methodLink RX0 61 yX0_jointsWornBy, Cond.instanceMethod yX0_jointsWornBy, Cond.selects RX0 yX0_jointsWornBy yX0_jointsWornBy, Cond.code yX0_jointsWornBy cX0_jointsWornBy 7 (some .int), Cond.methodLink RX2 87 yX0_turnTo, Cond.instanceMethod yX0_turnTo, Cond.selects RX0 yX0_turnTo yX0_turnTo, Cond.code yX0_turnTo cX0_turnTo 4 none, Cond.methodLink RX0 44 Lib.Math.abs.name, Cond.static Lib.Math.abs.name, Cond.initialized "java/lang/Math", Cond.code Lib.Math.abs.name Lib.Math.abs.code 1 (some .int), Cond.fieldLink RX0 18 "DollCitadel$Doll" "lacquers" "[I", Cond.methodLink RX0 54 Lib.Math.max.name, Cond.static Lib.Math.max.name, Cond.code Lib.Math.max.name Lib.Math.max.code 2 (some .int), Cond.methodLink RX0 50 yX0_wearBehindTurn, Cond.static yX0_wearBehindTurn, Cond.code yX0_wearBehindTurn cX0_wearBehindTurn 4 (some .int), Cond.methodLink RX0 58 Lib.Math.min.name]
def wsX2_take_r3 : List Cond := [Cond.static Lib.Math.min.name, Cond.code Lib.Math.min.name Lib.Math.min.code 2 (some .int)]
def wsX2_take : List Cond := .code yX2_take cX2_take 6 (some .int) :: ((wsX2_take_r1 ++ (wsX2_take_r2 ++ wsX2_take_r3)) ++ wsX00 ++ wsX20 ++ wsX10 ++ (vx_atS RX2 52 "java/lang/IllegalStateException" ["java/lang/RuntimeException", "java/lang/Exception"]).filter goodWord ++ (vx_atS RX2 98 "java/lang/IndexOutOfBoundsException" ["java/lang/RuntimeException", "java/lang/Exception"]).filter goodWord)
def wsX2_blink : List Cond := .code yX2_blink cX2_blink 4 (some .boolean) :: ([.classLink RX2 94 "java/lang/IndexOutOfBoundsException", .initialized "java/lang/IndexOutOfBoundsException", .classLink RX2 48 "java/lang/IllegalStateException", .initialized "java/lang/IllegalStateException", .fieldLink RX2 99 "DollCitadel$Doll" "dusts" "[I", .fieldLink RX2 104 "DollCitadel$Doll" "open" "[Z", .methodLink RX2 69 yX2_knownDoll, .instanceMethod yX2_knownDoll, .selects RX2 yX2_knownDoll yX2_knownDoll, .initialized RX2, .code yX2_knownDoll cX2_knownDoll 3 (some (.object "DollCitadel$Doll")), .fieldLink RX2 11 "DollCitadel" "dolls" "[LDollCitadel$Doll;"] ++ wsX00 ++ wsX20 ++ (vx_atS RX2 98 "java/lang/IndexOutOfBoundsException" ["java/lang/RuntimeException", "java/lang/Exception"]).filter goodWord ++ (vx_atS RX2 52 "java/lang/IllegalStateException" ["java/lang/RuntimeException", "java/lang/Exception"]).filter goodWord)
def wsX2_dress : List Cond := .code yX2_dress cX2_dress 6 (some .int) :: ([.classLink RX2 59 "java/lang/IllegalArgumentException", .initialized "java/lang/IllegalArgumentException", .classLink RX2 48 "java/lang/IllegalStateException", .initialized "java/lang/IllegalStateException", .fieldLink RX2 21 "DollCitadel" "store" "[I", .fieldLink RX2 112 "DollCitadel$Doll" "pins" "I", .fieldLink RX2 115 "DollCitadel$Doll" "weight" "I", .methodLink RX2 118 Lib.Math.min.name, .static Lib.Math.min.name, .initialized "java/lang/Math", .code Lib.Math.min.name Lib.Math.min.code 2 (some .int), .methodLink RX2 69 yX2_knownDoll, .instanceMethod yX2_knownDoll, .selects RX2 yX2_knownDoll yX2_knownDoll, .initialized RX2, .code yX2_knownDoll cX2_knownDoll 3 (some (.object "DollCitadel$Doll")), .classLink RX2 94 "java/lang/IndexOutOfBoundsException", .initialized "java/lang/IndexOutOfBoundsException", .fieldLink RX2 11 "DollCitadel" "dolls" "[LDollCitadel$Doll;"] ++ wsX20 ++ wsX00 ++ (vx_atS RX2 63 "java/lang/IllegalArgumentException" ["java/lang/RuntimeException", "java/lang/Exception"]).filter goodWord ++ (vx_atS RX2 52 "java/lang/IllegalStateException" ["java/lang/RuntimeException", "java/lang/Exception"]).filter goodWord ++ (vx_atS RX2 98 "java/lang/IndexOutOfBoundsException" ["java/lang/RuntimeException", "java/lang/Exception"]).filter goodWord)
def wsX2_bring : List Cond := .code yX2_bring cX2_bring 3 (some .int) :: ([.classLink RX2 59 "java/lang/IllegalArgumentException", .initialized "java/lang/IllegalArgumentException", .fieldLink RX2 21 "DollCitadel" "store" "[I", .methodLink RX2 118 Lib.Math.min.name, .static Lib.Math.min.name, .initialized "java/lang/Math", .code Lib.Math.min.name Lib.Math.min.code 2 (some .int)] ++ wsX20 ++ (vx_atS RX2 63 "java/lang/IllegalArgumentException" ["java/lang/RuntimeException", "java/lang/Exception"]).filter goodWord)
def wsX2_setMoths : List Cond := .code yX2_setMoths cX2_setMoths 3 (some .int) :: ([.classLink RX2 59 "java/lang/IllegalArgumentException", .initialized "java/lang/IllegalArgumentException", .fieldLink RX2 45 "DollCitadel" "moths" "I"] ++ wsX20 ++ (vx_atS RX2 63 "java/lang/IllegalArgumentException" ["java/lang/RuntimeException", "java/lang/Exception"]).filter goodWord)
def wsX2_mend_r1 : List Cond := [Cond.classLink RX2 94 "java/lang/IndexOutOfBoundsException", Cond.initialized "java/lang/IndexOutOfBoundsException", Cond.classLink RX2 59 "java/lang/IllegalArgumentException", Cond.initialized "java/lang/IllegalArgumentException", Cond.classLink RX2 48 "java/lang/IllegalStateException", Cond.initialized "java/lang/IllegalStateException", Cond.fieldLink RX2 21 "DollCitadel" "store" "[I", Cond.fieldLink RX2 138 "DollCitadel$Doll" "wears" "[I", Cond.fieldLink RX2 141 "DollCitadel$Doll" "lacquers" "[I", Cond.fieldLink RX2 112 "DollCitadel$Doll" "pins" "I", Cond.fieldLink RX2 147 "DollCitadel$Doll" "wigEaten" "I", Cond.methodLink RX2 69 yX2_knownDoll, Cond.instanceMethod yX2_knownDoll, Cond.selects RX2 yX2_knownDoll yX2_knownDoll, Cond.initialized RX2, Cond.code yX2_knownDoll cX2_knownDoll 3 (some (.object "DollCitadel$Doll")), Cond.fieldLink RX2 11 "DollCitadel" "dolls" "[LDollCitadel$Doll;", Cond.methodLink RX2 132 yX0_hasRoomForPin, Cond.instanceMethod yX0_hasRoomForPin, Cond.selects RX0 yX0_hasRoomForPin yX0_hasRoomForPin, Cond.initialized RX0, Cond.code yX0_hasRoomForPin cX0_hasRoomForPin 1 (some .boolean), Cond.fieldLink RX0 32 "DollCitadel$Doll" "weight" "I", Cond.fieldLink RX0 35 "DollCitadel$Doll" "pins" "I"]
def wsX2_mend_r2 : List Cond := [Cond.methodLink RX2 144 yX0_wipeEyes, Cond.instanceMethod yX0_wipeEyes, Cond.selects RX0 yX0_wipeEyes yX0_wipeEyes, Cond.code yX0_wipeEyes cX0_wipeEyes 2 none, Cond.fieldLink RX0 25 "DollCitadel$Doll" "dusts" "[I"]
def wsX2_mend : List Cond := .code yX2_mend cX2_mend 5 (some .int) :: ((wsX2_mend_r1 ++ wsX2_mend_r2) ++ wsX20 ++ wsX00 ++ (vx_atS RX2 98 "java/lang/IndexOutOfBoundsException" ["java/lang/RuntimeException", "java/lang/Exception"]).filter goodWord ++ (vx_atS RX2 63 "java/lang/IllegalArgumentException" ["java/lang/RuntimeException", "java/lang/Exception"]).filter goodWord ++ (vx_atS RX2 52 "java/lang/IllegalStateException" ["java/lang/RuntimeException", "java/lang/Exception"]).filter goodWord)
def wsX2_joint : List Cond := .code yX2_joint cX2_joint 5 (some .int) :: ([.classLink RX2 94 "java/lang/IndexOutOfBoundsException", .initialized "java/lang/IndexOutOfBoundsException", .fieldLink RX2 152 "DollCitadel$Doll" "angles" "[I", .fieldLink RX2 138 "DollCitadel$Doll" "wears" "[I", .fieldLink RX2 141 "DollCitadel$Doll" "lacquers" "[I", .methodLink RX2 69 yX2_knownDoll, .instanceMethod yX2_knownDoll, .selects RX2 yX2_knownDoll yX2_knownDoll, .initialized RX2, .code yX2_knownDoll cX2_knownDoll 3 (some (.object "DollCitadel$Doll")), .fieldLink RX2 11 "DollCitadel" "dolls" "[LDollCitadel$Doll;"] ++ wsX00 ++ wsX20 ++ (vx_atS RX2 98 "java/lang/IndexOutOfBoundsException" ["java/lang/RuntimeException", "java/lang/Exception"]).filter goodWord)
def wsX2_doll : List Cond := .code yX2_doll cX2_doll 4 (some .int) :: ([.classLink RX2 94 "java/lang/IndexOutOfBoundsException", .initialized "java/lang/IndexOutOfBoundsException", .fieldLink RX2 104 "DollCitadel$Doll" "open" "[Z", .fieldLink RX2 99 "DollCitadel$Doll" "dusts" "[I", .fieldLink RX2 147 "DollCitadel$Doll" "wigEaten" "I", .fieldLink RX2 115 "DollCitadel$Doll" "weight" "I", .fieldLink RX2 112 "DollCitadel$Doll" "pins" "I", .fieldLink RX2 91 "DollCitadel$Doll" "posesTaken" "I", .methodLink RX2 69 yX2_knownDoll, .instanceMethod yX2_knownDoll, .selects RX2 yX2_knownDoll yX2_knownDoll, .initialized RX2, .code yX2_knownDoll cX2_knownDoll 3 (some (.object "DollCitadel$Doll")), .fieldLink RX2 11 "DollCitadel" "dolls" "[LDollCitadel$Doll;"] ++ wsX00 ++ wsX20 ++ (vx_atS RX2 98 "java/lang/IndexOutOfBoundsException" ["java/lang/RuntimeException", "java/lang/Exception"]).filter goodWord)
def wsX2_tallyOfAll : List Cond := .code yX2_tallyOfAll cX2_tallyOfAll 7 (some .int) :: ([.fieldLink RX2 11 "DollCitadel" "dolls" "[LDollCitadel$Doll;", .methodLink RX2 185 yX0_tally, .instanceMethod yX0_tally, .selects RX0 yX0_tally yX0_tally, .initialized RX0, .code yX0_tally cX0_tally 2 (some .int), .fieldLink RX0 28 "DollCitadel$Doll" "wigEaten" "I", .fieldLink RX0 32 "DollCitadel$Doll" "weight" "I", .methodLink RX0 64 yX0_brokenJoints, .instanceMethod yX0_brokenJoints, .selects RX0 yX0_brokenJoints yX0_brokenJoints, .code yX0_brokenJoints cX0_brokenJoints 1 (some .int), .methodLink RX0 61 yX0_jointsWornBy, .instanceMethod yX0_jointsWornBy, .selects RX0 yX0_jointsWornBy yX0_jointsWornBy, .code yX0_jointsWornBy cX0_jointsWornBy 7 (some .int), .fieldLink RX0 15 "DollCitadel$Doll" "wears" "[I", .methodLink RX0 68 yX0_eyesWithDust, .instanceMethod yX0_eyesWithDust, .selects RX0 yX0_eyesWithDust yX0_eyesWithDust, .code yX0_eyesWithDust cX0_eyesWithDust 7 (some .int), .fieldLink RX0 25 "DollCitadel$Doll" "dusts" "[I"] ++ wsX20 ++ wsX00)
def wsX2_count_r1 : List Cond := [Cond.classLink RX2 94 "java/lang/IndexOutOfBoundsException", Cond.initialized "java/lang/IndexOutOfBoundsException", Cond.fieldLink RX2 21 "DollCitadel" "store" "[I", Cond.fieldLink RX2 42 "DollCitadel" "day" "I", Cond.fieldLink RX2 35 "DollCitadel" "dollCount" "I", Cond.fieldLink RX2 39 "DollCitadel" "poseCount" "I", Cond.fieldLink RX2 45 "DollCitadel" "moths" "I", Cond.methodLink RX2 157 yX2_tallyOfAll, Cond.instanceMethod yX2_tallyOfAll, Cond.selects RX2 yX2_tallyOfAll yX2_tallyOfAll, Cond.initialized RX2, Cond.code yX2_tallyOfAll cX2_tallyOfAll 7 (some .int), Cond.fieldLink RX2 11 "DollCitadel" "dolls" "[LDollCitadel$Doll;", Cond.methodLink RX2 185 yX0_tally, Cond.instanceMethod yX0_tally, Cond.selects RX0 yX0_tally yX0_tally, Cond.initialized RX0, Cond.code yX0_tally cX0_tally 2 (some .int), Cond.fieldLink RX0 28 "DollCitadel$Doll" "wigEaten" "I", Cond.fieldLink RX0 32 "DollCitadel$Doll" "weight" "I", Cond.methodLink RX0 64 yX0_brokenJoints, Cond.instanceMethod yX0_brokenJoints, Cond.selects RX0 yX0_brokenJoints yX0_brokenJoints, Cond.code yX0_brokenJoints cX0_brokenJoints 1 (some .int)]
def wsX2_count_r2 : List Cond := [Cond.methodLink RX0 61 yX0_jointsWornBy, Cond.instanceMethod yX0_jointsWornBy, Cond.selects RX0 yX0_jointsWornBy yX0_jointsWornBy, Cond.code yX0_jointsWornBy cX0_jointsWornBy 7 (some .int), Cond.fieldLink RX0 15 "DollCitadel$Doll" "wears" "[I", Cond.methodLink RX0 68 yX0_eyesWithDust, Cond.instanceMethod yX0_eyesWithDust, Cond.selects RX0 yX0_eyesWithDust yX0_eyesWithDust, Cond.code yX0_eyesWithDust cX0_eyesWithDust 7 (some .int), Cond.fieldLink RX0 25 "DollCitadel$Doll" "dusts" "[I"]
def wsX2_count : List Cond := .code yX2_count cX2_count 2 (some .int) :: ((wsX2_count_r1 ++ wsX2_count_r2) ++ wsX20 ++ wsX00 ++ (vx_atS RX2 98 "java/lang/IndexOutOfBoundsException" ["java/lang/RuntimeException", "java/lang/Exception"]).filter goodWord)
def wsX2_costs_r1 : List Cond := [Cond.fieldLink RX2 31 "DollCitadel" "trial" "LDollCitadel$Doll;", Cond.methodLink RX2 69 yX2_knownDoll, Cond.instanceMethod yX2_knownDoll, Cond.selects RX2 yX2_knownDoll yX2_knownDoll, Cond.initialized RX2, Cond.code yX2_knownDoll cX2_knownDoll 3 (some (.object "DollCitadel$Doll")), Cond.classLink RX2 94 "java/lang/IndexOutOfBoundsException", Cond.initialized "java/lang/IndexOutOfBoundsException", Cond.fieldLink RX2 11 "DollCitadel" "dolls" "[LDollCitadel$Doll;", Cond.methodLink RX2 73 yX2_knownPose, Cond.instanceMethod yX2_knownPose, Cond.selects RX2 yX2_knownPose yX2_knownPose, Cond.code yX2_knownPose cX2_knownPose 3 (some (.object "DollCitadel$Pose")), Cond.fieldLink RX2 17 "DollCitadel" "poses" "[LDollCitadel$Pose;", Cond.methodLink RX2 77 yX0_canTurnTo, Cond.instanceMethod yX0_canTurnTo, Cond.selects RX0 yX0_canTurnTo yX0_canTurnTo, Cond.initialized RX0, Cond.code yX0_canTurnTo cX0_canTurnTo 3 (some .boolean), Cond.fieldLink RX0 15 "DollCitadel$Doll" "wears" "[I", Cond.fieldLink RX0 9 "DollCitadel$Doll" "angles" "[I", Cond.fieldLink RX0 41 "DollCitadel$Pose" "angles" "[I", Cond.methodLink RX2 161 yX0_becomeLike, Cond.instanceMethod yX0_becomeLike]
def wsX2_costs_r2 : List Cond := [Cond.selects RX0 yX0_becomeLike yX0_becomeLike, Cond.code yX0_becomeLike cX0_becomeLike 3 none, Cond.fieldLink RX0 18 "DollCitadel$Doll" "lacquers" "[I", Cond.fieldLink RX0 21 "DollCitadel$Doll" "open" "[Z", Cond.fieldLink RX0 25 "DollCitadel$Doll" "dusts" "[I", Cond.fieldLink RX0 28 "DollCitadel$Doll" "wigEaten" "I", Cond.fieldLink RX0 32 "DollCitadel$Doll" "weight" "I", Cond.fieldLink RX0 35 "DollCitadel$Doll" "pins" "I", Cond.fieldLink RX0 38 "DollCitadel$Doll" "posesTaken" "I", Cond.methodLink RX2 87 yX0_turnTo, Cond.instanceMethod yX0_turnTo, Cond.selects RX0 yX0_turnTo yX0_turnTo, Cond.code yX0_turnTo cX0_turnTo 4 none, Cond.methodLink RX0 44 Lib.Math.abs.name, Cond.static Lib.Math.abs.name, Cond.initialized "java/lang/Math", Cond.code Lib.Math.abs.name Lib.Math.abs.code 1 (some .int), Cond.methodLink RX0 54 Lib.Math.max.name, Cond.static Lib.Math.max.name, Cond.code Lib.Math.max.name Lib.Math.max.code 2 (some .int), Cond.methodLink RX0 50 yX0_wearBehindTurn, Cond.static yX0_wearBehindTurn, Cond.code yX0_wearBehindTurn cX0_wearBehindTurn 4 (some .int), Cond.methodLink RX0 58 Lib.Math.min.name]
def wsX2_costs_r3 : List Cond := [Cond.static Lib.Math.min.name, Cond.code Lib.Math.min.name Lib.Math.min.code 2 (some .int), Cond.methodLink RX2 165 yX0_wearOfAllJoints, Cond.instanceMethod yX0_wearOfAllJoints, Cond.selects RX0 yX0_wearOfAllJoints yX0_wearOfAllJoints, Cond.code yX0_wearOfAllJoints cX0_wearOfAllJoints 6 (some .int)]
def wsX2_costs : List Cond := .code yX2_costs cX2_costs 5 (some .int) :: ((wsX2_costs_r1 ++ (wsX2_costs_r2 ++ wsX2_costs_r3)) ++ wsX20 ++ wsX00 ++ wsX10 ++ (vx_atS RX2 98 "java/lang/IndexOutOfBoundsException" ["java/lang/RuntimeException", "java/lang/Exception"]).filter goodWord)
def wsX2_often_r1 : List Cond := [Cond.fieldLink RX2 31 "DollCitadel" "trial" "LDollCitadel$Doll;", Cond.fieldLink RX2 26 "DollCitadel" "rest" "LDollCitadel$Pose;", Cond.methodLink RX2 69 yX2_knownDoll, Cond.instanceMethod yX2_knownDoll, Cond.selects RX2 yX2_knownDoll yX2_knownDoll, Cond.initialized RX2, Cond.code yX2_knownDoll cX2_knownDoll 3 (some (.object "DollCitadel$Doll")), Cond.classLink RX2 94 "java/lang/IndexOutOfBoundsException", Cond.initialized "java/lang/IndexOutOfBoundsException", Cond.fieldLink RX2 11 "DollCitadel" "dolls" "[LDollCitadel$Doll;", Cond.methodLink RX2 73 yX2_knownPose, Cond.instanceMethod yX2_knownPose, Cond.selects RX2 yX2_knownPose yX2_knownPose, Cond.code yX2_knownPose cX2_knownPose 3 (some (.object "DollCitadel$Pose")), Cond.fieldLink RX2 17 "DollCitadel" "poses" "[LDollCitadel$Pose;", Cond.methodLink RX2 161 yX0_becomeLike, Cond.instanceMethod yX0_becomeLike, Cond.selects RX0 yX0_becomeLike yX0_becomeLike, Cond.initialized RX0, Cond.code yX0_becomeLike cX0_becomeLike 3 none, Cond.fieldLink RX0 9 "DollCitadel$Doll" "angles" "[I", Cond.fieldLink RX0 15 "DollCitadel$Doll" "wears" "[I", Cond.fieldLink RX0 18 "DollCitadel$Doll" "lacquers" "[I", Cond.fieldLink RX0 21 "DollCitadel$Doll" "open" "[Z"]
def wsX2_often_r2 : List Cond := [Cond.fieldLink RX0 25 "DollCitadel$Doll" "dusts" "[I", Cond.fieldLink RX0 28 "DollCitadel$Doll" "wigEaten" "I", Cond.fieldLink RX0 32 "DollCitadel$Doll" "weight" "I", Cond.fieldLink RX0 35 "DollCitadel$Doll" "pins" "I", Cond.fieldLink RX0 38 "DollCitadel$Doll" "posesTaken" "I", Cond.methodLink RX2 77 yX0_canTurnTo, Cond.instanceMethod yX0_canTurnTo, Cond.selects RX0 yX0_canTurnTo yX0_canTurnTo, Cond.code yX0_canTurnTo cX0_canTurnTo 3 (some .boolean), Cond.fieldLink RX0 41 "DollCitadel$Pose" "angles" "[I", Cond.methodLink RX2 87 yX0_turnTo, Cond.instanceMethod yX0_turnTo, Cond.selects RX0 yX0_turnTo yX0_turnTo, Cond.code yX0_turnTo cX0_turnTo 4 none, Cond.methodLink RX0 44 Lib.Math.abs.name, Cond.static Lib.Math.abs.name, Cond.initialized "java/lang/Math", Cond.code Lib.Math.abs.name Lib.Math.abs.code 1 (some .int), Cond.methodLink RX0 54 Lib.Math.max.name, Cond.static Lib.Math.max.name, Cond.code Lib.Math.max.name Lib.Math.max.code 2 (some .int), Cond.methodLink RX0 50 yX0_wearBehindTurn, Cond.static yX0_wearBehindTurn, Cond.code yX0_wearBehindTurn cX0_wearBehindTurn 4 (some .int)]
def wsX2_often_r3 : List Cond := [Cond.methodLink RX0 58 Lib.Math.min.name, Cond.static Lib.Math.min.name, Cond.code Lib.Math.min.name Lib.Math.min.code 2 (some .int)]
def wsX2_often : List Cond := .code yX2_often cX2_often 6 (some .int) :: ((wsX2_often_r1 ++ (wsX2_often_r2 ++ wsX2_often_r3)) ++ wsX20 ++ wsX00 ++ wsX10 ++ (vx_atS RX2 98 "java/lang/IndexOutOfBoundsException" ["java/lang/RuntimeException", "java/lang/Exception"]).filter goodWord)
def wsX2_needs_r1 : List Cond := [Cond.classLink RX2 59 "java/lang/IllegalArgumentException", Cond.initialized "java/lang/IllegalArgumentException", Cond.methodLink RX2 69 yX2_knownDoll, Cond.instanceMethod yX2_knownDoll, Cond.selects RX2 yX2_knownDoll yX2_knownDoll, Cond.initialized RX2, Cond.code yX2_knownDoll cX2_knownDoll 3 (some (.object "DollCitadel$Doll")), Cond.classLink RX2 94 "java/lang/IndexOutOfBoundsException", Cond.initialized "java/lang/IndexOutOfBoundsException", Cond.fieldLink RX2 11 "DollCitadel" "dolls" "[LDollCitadel$Doll;", Cond.methodLink RX2 168 yX0_wants, Cond.instanceMethod yX0_wants, Cond.selects RX0 yX0_wants yX0_wants, Cond.initialized RX0, Cond.code yX0_wants cX0_wants 2 (some .int), Cond.fieldLink RX0 32 "DollCitadel$Doll" "weight" "I", Cond.fieldLink RX0 35 "DollCitadel$Doll" "pins" "I", Cond.fieldLink RX0 28 "DollCitadel$Doll" "wigEaten" "I", Cond.methodLink RX0 61 yX0_jointsWornBy, Cond.instanceMethod yX0_jointsWornBy, Cond.selects RX0 yX0_jointsWornBy yX0_jointsWornBy, Cond.code yX0_jointsWornBy cX0_jointsWornBy 7 (some .int), Cond.fieldLink RX0 15 "DollCitadel$Doll" "wears" "[I", Cond.methodLink RX0 71 yX0_jointsWithoutLacquer]
def wsX2_needs_r2 : List Cond := [Cond.instanceMethod yX0_jointsWithoutLacquer, Cond.selects RX0 yX0_jointsWithoutLacquer yX0_jointsWithoutLacquer, Cond.code yX0_jointsWithoutLacquer cX0_jointsWithoutLacquer 6 (some .int), Cond.fieldLink RX0 18 "DollCitadel$Doll" "lacquers" "[I", Cond.methodLink RX0 68 yX0_eyesWithDust, Cond.instanceMethod yX0_eyesWithDust, Cond.selects RX0 yX0_eyesWithDust yX0_eyesWithDust, Cond.code yX0_eyesWithDust cX0_eyesWithDust 7 (some .int), Cond.fieldLink RX0 25 "DollCitadel$Doll" "dusts" "[I"]
def wsX2_needs : List Cond := .code yX2_needs cX2_needs 4 (some .int) :: ((wsX2_needs_r1 ++ wsX2_needs_r2) ++ wsX20 ++ wsX00 ++ (vx_atS RX2 63 "java/lang/IllegalArgumentException" ["java/lang/RuntimeException", "java/lang/Exception"]).filter goodWord ++ (vx_atS RX2 98 "java/lang/IndexOutOfBoundsException" ["java/lang/RuntimeException", "java/lang/Exception"]).filter goodWord)
def wsX2_lacks_r1 : List Cond := [Cond.classLink RX2 59 "java/lang/IllegalArgumentException", Cond.initialized "java/lang/IllegalArgumentException", Cond.fieldLink RX2 11 "DollCitadel" "dolls" "[LDollCitadel$Doll;", Cond.fieldLink RX2 21 "DollCitadel" "store" "[I", Cond.methodLink RX2 171 Lib.Math.max.name, Cond.static Lib.Math.max.name, Cond.initialized "java/lang/Math", Cond.code Lib.Math.max.name Lib.Math.max.code 2 (some .int), Cond.methodLink RX2 168 yX0_wants, Cond.instanceMethod yX0_wants, Cond.selects RX0 yX0_wants yX0_wants, Cond.initialized RX0, Cond.code yX0_wants cX0_wants 2 (some .int), Cond.fieldLink RX0 32 "DollCitadel$Doll" "weight" "I", Cond.fieldLink RX0 35 "DollCitadel$Doll" "pins" "I", Cond.fieldLink RX0 28 "DollCitadel$Doll" "wigEaten" "I", Cond.methodLink RX0 61 yX0_jointsWornBy, Cond.instanceMethod yX0_jointsWornBy, Cond.selects RX0 yX0_jointsWornBy yX0_jointsWornBy, Cond.code yX0_jointsWornBy cX0_jointsWornBy 7 (some .int), Cond.fieldLink RX0 15 "DollCitadel$Doll" "wears" "[I", Cond.methodLink RX0 71 yX0_jointsWithoutLacquer, Cond.instanceMethod yX0_jointsWithoutLacquer, Cond.selects RX0 yX0_jointsWithoutLacquer yX0_jointsWithoutLacquer]
def wsX2_lacks_r2 : List Cond := [Cond.code yX0_jointsWithoutLacquer cX0_jointsWithoutLacquer 6 (some .int), Cond.fieldLink RX0 18 "DollCitadel$Doll" "lacquers" "[I", Cond.methodLink RX0 68 yX0_eyesWithDust, Cond.instanceMethod yX0_eyesWithDust, Cond.selects RX0 yX0_eyesWithDust yX0_eyesWithDust, Cond.code yX0_eyesWithDust cX0_eyesWithDust 7 (some .int), Cond.fieldLink RX0 25 "DollCitadel$Doll" "dusts" "[I"]
def wsX2_lacks : List Cond := .code yX2_lacks cX2_lacks 7 (some .int) :: ((wsX2_lacks_r1 ++ wsX2_lacks_r2) ++ wsX20 ++ wsX00 ++ (vx_atS RX2 63 "java/lang/IllegalArgumentException" ["java/lang/RuntimeException", "java/lang/Exception"]).filter goodWord)
def wsX2_worst_r1 : List Cond := [Cond.fieldLink RX2 11 "DollCitadel" "dolls" "[LDollCitadel$Doll;", Cond.methodLink RX2 174 yX0_wantsInAll, Cond.instanceMethod yX0_wantsInAll, Cond.selects RX0 yX0_wantsInAll yX0_wantsInAll, Cond.initialized RX0, Cond.code yX0_wantsInAll cX0_wantsInAll 3 (some .int), Cond.methodLink RX0 74 yX0_wants, Cond.instanceMethod yX0_wants, Cond.selects RX0 yX0_wants yX0_wants, Cond.code yX0_wants cX0_wants 2 (some .int), Cond.fieldLink RX0 32 "DollCitadel$Doll" "weight" "I", Cond.fieldLink RX0 35 "DollCitadel$Doll" "pins" "I", Cond.fieldLink RX0 28 "DollCitadel$Doll" "wigEaten" "I", Cond.methodLink RX0 61 yX0_jointsWornBy, Cond.instanceMethod yX0_jointsWornBy, Cond.selects RX0 yX0_jointsWornBy yX0_jointsWornBy, Cond.code yX0_jointsWornBy cX0_jointsWornBy 7 (some .int), Cond.fieldLink RX0 15 "DollCitadel$Doll" "wears" "[I", Cond.methodLink RX0 71 yX0_jointsWithoutLacquer, Cond.instanceMethod yX0_jointsWithoutLacquer, Cond.selects RX0 yX0_jointsWithoutLacquer yX0_jointsWithoutLacquer, Cond.code yX0_jointsWithoutLacquer cX0_jointsWithoutLacquer 6 (some .int), Cond.fieldLink RX0 18 "DollCitadel$Doll" "lacquers" "[I", Cond.methodLink RX0 68 yX0_eyesWithDust]
def wsX2_worst_r2 : List Cond := [Cond.instanceMethod yX0_eyesWithDust, Cond.selects RX0 yX0_eyesWithDust yX0_eyesWithDust, Cond.code yX0_eyesWithDust cX0_eyesWithDust 7 (some .int), Cond.fieldLink RX0 25 "DollCitadel$Doll" "dusts" "[I"]
def wsX2_worst : List Cond := .code yX2_worst cX2_worst 6 (some .int) :: ((wsX2_worst_r1 ++ wsX2_worst_r2) ++ wsX20 ++ wsX00)
def wsX2_liveThrough_r1 : List Cond := [Cond.fieldLink RX2 42 "DollCitadel" "day" "I", Cond.fieldLink RX2 45 "DollCitadel" "moths" "I", Cond.methodLink RX2 214 yX0_liveOneDay, Cond.instanceMethod yX0_liveOneDay, Cond.selects RX0 yX0_liveOneDay yX0_liveOneDay, Cond.initialized RX0, Cond.code yX0_liveOneDay cX0_liveOneDay 5 (some .int), Cond.methodLink RX0 77 yX0_tally, Cond.instanceMethod yX0_tally, Cond.selects RX0 yX0_tally yX0_tally, Cond.code yX0_tally cX0_tally 2 (some .int), Cond.fieldLink RX0 28 "DollCitadel$Doll" "wigEaten" "I", Cond.fieldLink RX0 32 "DollCitadel$Doll" "weight" "I", Cond.methodLink RX0 64 yX0_brokenJoints, Cond.instanceMethod yX0_brokenJoints, Cond.selects RX0 yX0_brokenJoints yX0_brokenJoints, Cond.code yX0_brokenJoints cX0_brokenJoints 1 (some .int), Cond.methodLink RX0 61 yX0_jointsWornBy, Cond.instanceMethod yX0_jointsWornBy, Cond.selects RX0 yX0_jointsWornBy yX0_jointsWornBy, Cond.code yX0_jointsWornBy cX0_jointsWornBy 7 (some .int), Cond.fieldLink RX0 15 "DollCitadel$Doll" "wears" "[I", Cond.methodLink RX0 68 yX0_eyesWithDust, Cond.instanceMethod yX0_eyesWithDust]
def wsX2_liveThrough_r2 : List Cond := [Cond.selects RX0 yX0_eyesWithDust yX0_eyesWithDust, Cond.code yX0_eyesWithDust cX0_eyesWithDust 7 (some .int), Cond.fieldLink RX0 25 "DollCitadel$Doll" "dusts" "[I", Cond.methodLink RX0 80 yX0_eatWig, Cond.instanceMethod yX0_eatWig, Cond.selects RX0 yX0_eatWig yX0_eatWig, Cond.code yX0_eatWig cX0_eatWig 2 none, Cond.methodLink RX0 84 yX0_loosenDress, Cond.instanceMethod yX0_loosenDress, Cond.selects RX0 yX0_loosenDress yX0_loosenDress, Cond.code yX0_loosenDress cX0_loosenDress 1 none, Cond.fieldLink RX0 35 "DollCitadel$Doll" "pins" "I", Cond.methodLink RX0 54 Lib.Math.max.name, Cond.static Lib.Math.max.name, Cond.initialized "java/lang/Math", Cond.code Lib.Math.max.name Lib.Math.max.code 2 (some .int), Cond.methodLink RX0 87 yX0_dryLacquer, Cond.instanceMethod yX0_dryLacquer, Cond.selects RX0 yX0_dryLacquer yX0_dryLacquer, Cond.code yX0_dryLacquer cX0_dryLacquer 2 none, Cond.fieldLink RX0 18 "DollCitadel$Doll" "lacquers" "[I", Cond.methodLink RX0 90 yX0_gatherDust, Cond.instanceMethod yX0_gatherDust, Cond.selects RX0 yX0_gatherDust yX0_gatherDust]
def wsX2_liveThrough_r3 : List Cond := [Cond.code yX0_gatherDust cX0_gatherDust 2 none, Cond.fieldLink RX0 21 "DollCitadel$Doll" "open" "[Z", Cond.methodLink RX0 58 Lib.Math.min.name, Cond.static Lib.Math.min.name, Cond.code Lib.Math.min.name Lib.Math.min.code 2 (some .int)]
def wsX2_liveThrough : List Cond := .code yX2_liveThrough cX2_liveThrough 5 (some .int) :: ((wsX2_liveThrough_r1 ++ (wsX2_liveThrough_r2 ++ wsX2_liveThrough_r3)) ++ wsX20 ++ wsX00)
def wsX2_foresee_r1 : List Cond := [Cond.classLink RX2 59 "java/lang/IllegalArgumentException", Cond.initialized "java/lang/IllegalArgumentException", Cond.classLink RX2 94 "java/lang/IndexOutOfBoundsException", Cond.initialized "java/lang/IndexOutOfBoundsException", Cond.fieldLink RX2 11 "DollCitadel" "dolls" "[LDollCitadel$Doll;", Cond.fieldLink RX2 31 "DollCitadel" "trial" "LDollCitadel$Doll;", Cond.methodLink RX2 161 yX0_becomeLike, Cond.instanceMethod yX0_becomeLike, Cond.selects RX0 yX0_becomeLike yX0_becomeLike, Cond.initialized RX0, Cond.code yX0_becomeLike cX0_becomeLike 3 none, Cond.fieldLink RX0 9 "DollCitadel$Doll" "angles" "[I", Cond.fieldLink RX0 15 "DollCitadel$Doll" "wears" "[I", Cond.fieldLink RX0 18 "DollCitadel$Doll" "lacquers" "[I", Cond.fieldLink RX0 21 "DollCitadel$Doll" "open" "[Z", Cond.fieldLink RX0 25 "DollCitadel$Doll" "dusts" "[I", Cond.fieldLink RX0 28 "DollCitadel$Doll" "wigEaten" "I", Cond.fieldLink RX0 32 "DollCitadel$Doll" "weight" "I", Cond.fieldLink RX0 35 "DollCitadel$Doll" "pins" "I", Cond.fieldLink RX0 38 "DollCitadel$Doll" "posesTaken" "I", Cond.methodLink RX2 181 yX2_liveThrough, Cond.instanceMethod yX2_liveThrough, Cond.selects RX2 yX2_liveThrough yX2_liveThrough, Cond.initialized RX2]
def wsX2_foresee_r2 : List Cond := [Cond.code yX2_liveThrough cX2_liveThrough 5 (some .int), Cond.fieldLink RX2 42 "DollCitadel" "day" "I", Cond.fieldLink RX2 45 "DollCitadel" "moths" "I", Cond.methodLink RX2 214 yX0_liveOneDay, Cond.instanceMethod yX0_liveOneDay, Cond.selects RX0 yX0_liveOneDay yX0_liveOneDay, Cond.code yX0_liveOneDay cX0_liveOneDay 5 (some .int), Cond.methodLink RX0 77 yX0_tally, Cond.instanceMethod yX0_tally, Cond.selects RX0 yX0_tally yX0_tally, Cond.code yX0_tally cX0_tally 2 (some .int), Cond.methodLink RX0 64 yX0_brokenJoints, Cond.instanceMethod yX0_brokenJoints, Cond.selects RX0 yX0_brokenJoints yX0_brokenJoints, Cond.code yX0_brokenJoints cX0_brokenJoints 1 (some .int), Cond.methodLink RX0 61 yX0_jointsWornBy, Cond.instanceMethod yX0_jointsWornBy, Cond.selects RX0 yX0_jointsWornBy yX0_jointsWornBy, Cond.code yX0_jointsWornBy cX0_jointsWornBy 7 (some .int), Cond.methodLink RX0 68 yX0_eyesWithDust, Cond.instanceMethod yX0_eyesWithDust, Cond.selects RX0 yX0_eyesWithDust yX0_eyesWithDust, Cond.code yX0_eyesWithDust cX0_eyesWithDust 7 (some .int), Cond.methodLink RX0 80 yX0_eatWig]
def wsX2_foresee_r3 : List Cond := [Cond.instanceMethod yX0_eatWig, Cond.selects RX0 yX0_eatWig yX0_eatWig, Cond.code yX0_eatWig cX0_eatWig 2 none, Cond.methodLink RX0 84 yX0_loosenDress, Cond.instanceMethod yX0_loosenDress, Cond.selects RX0 yX0_loosenDress yX0_loosenDress, Cond.code yX0_loosenDress cX0_loosenDress 1 none, Cond.methodLink RX0 54 Lib.Math.max.name, Cond.static Lib.Math.max.name, Cond.initialized "java/lang/Math", Cond.code Lib.Math.max.name Lib.Math.max.code 2 (some .int), Cond.methodLink RX0 87 yX0_dryLacquer, Cond.instanceMethod yX0_dryLacquer, Cond.selects RX0 yX0_dryLacquer yX0_dryLacquer, Cond.code yX0_dryLacquer cX0_dryLacquer 2 none, Cond.methodLink RX0 90 yX0_gatherDust, Cond.instanceMethod yX0_gatherDust, Cond.selects RX0 yX0_gatherDust yX0_gatherDust, Cond.code yX0_gatherDust cX0_gatherDust 2 none, Cond.methodLink RX0 58 Lib.Math.min.name, Cond.static Lib.Math.min.name, Cond.code Lib.Math.min.name Lib.Math.min.code 2 (some .int), Cond.methodLink RX2 185 yX0_tally]
def wsX2_foresee : List Cond := .code yX2_foresee cX2_foresee 8 (some .int) :: ((wsX2_foresee_r1 ++ (wsX2_foresee_r2 ++ wsX2_foresee_r3)) ++ wsX20 ++ wsX00 ++ (vx_atS RX2 63 "java/lang/IllegalArgumentException" ["java/lang/RuntimeException", "java/lang/Exception"]).filter goodWord ++ (vx_atS RX2 98 "java/lang/IndexOutOfBoundsException" ["java/lang/RuntimeException", "java/lang/Exception"]).filter goodWord)
def wsX2_pass_r1 : List Cond := [Cond.classLink RX2 59 "java/lang/IllegalArgumentException", Cond.initialized "java/lang/IllegalArgumentException", Cond.fieldLink RX2 11 "DollCitadel" "dolls" "[LDollCitadel$Doll;", Cond.fieldLink RX2 42 "DollCitadel" "day" "I", Cond.methodLink RX2 181 yX2_liveThrough, Cond.instanceMethod yX2_liveThrough, Cond.selects RX2 yX2_liveThrough yX2_liveThrough, Cond.initialized RX2, Cond.code yX2_liveThrough cX2_liveThrough 5 (some .int), Cond.fieldLink RX2 45 "DollCitadel" "moths" "I", Cond.methodLink RX2 214 yX0_liveOneDay, Cond.instanceMethod yX0_liveOneDay, Cond.selects RX0 yX0_liveOneDay yX0_liveOneDay, Cond.initialized RX0, Cond.code yX0_liveOneDay cX0_liveOneDay 5 (some .int), Cond.methodLink RX0 77 yX0_tally, Cond.instanceMethod yX0_tally, Cond.selects RX0 yX0_tally yX0_tally, Cond.code yX0_tally cX0_tally 2 (some .int), Cond.fieldLink RX0 28 "DollCitadel$Doll" "wigEaten" "I", Cond.fieldLink RX0 32 "DollCitadel$Doll" "weight" "I", Cond.methodLink RX0 64 yX0_brokenJoints, Cond.instanceMethod yX0_brokenJoints, Cond.selects RX0 yX0_brokenJoints yX0_brokenJoints]
def wsX2_pass_r2 : List Cond := [Cond.code yX0_brokenJoints cX0_brokenJoints 1 (some .int), Cond.methodLink RX0 61 yX0_jointsWornBy, Cond.instanceMethod yX0_jointsWornBy, Cond.selects RX0 yX0_jointsWornBy yX0_jointsWornBy, Cond.code yX0_jointsWornBy cX0_jointsWornBy 7 (some .int), Cond.fieldLink RX0 15 "DollCitadel$Doll" "wears" "[I", Cond.methodLink RX0 68 yX0_eyesWithDust, Cond.instanceMethod yX0_eyesWithDust, Cond.selects RX0 yX0_eyesWithDust yX0_eyesWithDust, Cond.code yX0_eyesWithDust cX0_eyesWithDust 7 (some .int), Cond.fieldLink RX0 25 "DollCitadel$Doll" "dusts" "[I", Cond.methodLink RX0 80 yX0_eatWig, Cond.instanceMethod yX0_eatWig, Cond.selects RX0 yX0_eatWig yX0_eatWig, Cond.code yX0_eatWig cX0_eatWig 2 none, Cond.methodLink RX0 84 yX0_loosenDress, Cond.instanceMethod yX0_loosenDress, Cond.selects RX0 yX0_loosenDress yX0_loosenDress, Cond.code yX0_loosenDress cX0_loosenDress 1 none, Cond.fieldLink RX0 35 "DollCitadel$Doll" "pins" "I", Cond.methodLink RX0 54 Lib.Math.max.name, Cond.static Lib.Math.max.name, Cond.initialized "java/lang/Math", Cond.code Lib.Math.max.name Lib.Math.max.code 2 (some .int)]
def wsX2_pass_r3 : List Cond := [Cond.methodLink RX0 87 yX0_dryLacquer, Cond.instanceMethod yX0_dryLacquer, Cond.selects RX0 yX0_dryLacquer yX0_dryLacquer, Cond.code yX0_dryLacquer cX0_dryLacquer 2 none, Cond.fieldLink RX0 18 "DollCitadel$Doll" "lacquers" "[I", Cond.methodLink RX0 90 yX0_gatherDust, Cond.instanceMethod yX0_gatherDust, Cond.selects RX0 yX0_gatherDust yX0_gatherDust, Cond.code yX0_gatherDust cX0_gatherDust 2 none, Cond.fieldLink RX0 21 "DollCitadel$Doll" "open" "[Z", Cond.methodLink RX0 58 Lib.Math.min.name, Cond.static Lib.Math.min.name, Cond.code Lib.Math.min.name Lib.Math.min.code 2 (some .int)]
def wsX2_pass : List Cond := .code yX2_pass cX2_pass 7 (some .int) :: ((wsX2_pass_r1 ++ (wsX2_pass_r2 ++ wsX2_pass_r3)) ++ wsX20 ++ wsX00 ++ (vx_atS RX2 63 "java/lang/IllegalArgumentException" ["java/lang/RuntimeException", "java/lang/Exception"]).filter goodWord)
def wsX2_mean : List Cond := .code yX2_mean cX2_mean 6 (some .double) :: ([.fieldLink RX2 35 "DollCitadel" "dollCount" "I", .fieldLink RX2 11 "DollCitadel" "dolls" "[LDollCitadel$Doll;", .methodLink RX2 165 yX0_wearOfAllJoints, .instanceMethod yX0_wearOfAllJoints, .selects RX0 yX0_wearOfAllJoints yX0_wearOfAllJoints, .initialized RX0, .code yX0_wearOfAllJoints cX0_wearOfAllJoints 6 (some .int), .fieldLink RX0 15 "DollCitadel$Doll" "wears" "[I"] ++ wsX20 ++ wsX00)
def wsX2_digestJointsInto : List Cond := .code yX2_digestJointsInto cX2_digestJointsInto 8 (some .long) :: ([.constantLong RX2 190 (31), .methodLink RX2 206 yX2_joint, .instanceMethod yX2_joint, .selects RX2 yX2_joint yX2_joint, .initialized RX2, .code yX2_joint cX2_joint 5 (some .int), .classLink RX2 94 "java/lang/IndexOutOfBoundsException", .initialized "java/lang/IndexOutOfBoundsException", .fieldLink RX2 152 "DollCitadel$Doll" "angles" "[I", .fieldLink RX2 138 "DollCitadel$Doll" "wears" "[I", .fieldLink RX2 141 "DollCitadel$Doll" "lacquers" "[I", .methodLink RX2 69 yX2_knownDoll, .instanceMethod yX2_knownDoll, .selects RX2 yX2_knownDoll yX2_knownDoll, .code yX2_knownDoll cX2_knownDoll 3 (some (.object "DollCitadel$Doll")), .fieldLink RX2 11 "DollCitadel" "dolls" "[LDollCitadel$Doll;"] ++ wsX00 ++ wsX20 ++ (vx_atS RX2 98 "java/lang/IndexOutOfBoundsException" ["java/lang/RuntimeException", "java/lang/Exception"]).filter goodWord)
def wsX2_digest_r1 : List Cond := [Cond.constantLong RX2 188 (1063), Cond.constantLong RX2 190 (31), Cond.fieldLink RX2 17 "DollCitadel" "poses" "[LDollCitadel$Pose;", Cond.fieldLink RX2 35 "DollCitadel" "dollCount" "I", Cond.methodLink RX2 192 yX2_count, Cond.instanceMethod yX2_count, Cond.selects RX2 yX2_count yX2_count, Cond.initialized RX2, Cond.code yX2_count cX2_count 2 (some .int), Cond.classLink RX2 94 "java/lang/IndexOutOfBoundsException", Cond.initialized "java/lang/IndexOutOfBoundsException", Cond.fieldLink RX2 21 "DollCitadel" "store" "[I", Cond.fieldLink RX2 42 "DollCitadel" "day" "I", Cond.fieldLink RX2 39 "DollCitadel" "poseCount" "I", Cond.fieldLink RX2 45 "DollCitadel" "moths" "I", Cond.methodLink RX2 157 yX2_tallyOfAll, Cond.instanceMethod yX2_tallyOfAll, Cond.selects RX2 yX2_tallyOfAll yX2_tallyOfAll, Cond.code yX2_tallyOfAll cX2_tallyOfAll 7 (some .int), Cond.fieldLink RX2 11 "DollCitadel" "dolls" "[LDollCitadel$Doll;", Cond.methodLink RX2 185 yX0_tally, Cond.instanceMethod yX0_tally, Cond.selects RX0 yX0_tally yX0_tally, Cond.initialized RX0]
def wsX2_digest_r2 : List Cond := [Cond.code yX0_tally cX0_tally 2 (some .int), Cond.fieldLink RX0 28 "DollCitadel$Doll" "wigEaten" "I", Cond.fieldLink RX0 32 "DollCitadel$Doll" "weight" "I", Cond.methodLink RX0 64 yX0_brokenJoints, Cond.instanceMethod yX0_brokenJoints, Cond.selects RX0 yX0_brokenJoints yX0_brokenJoints, Cond.code yX0_brokenJoints cX0_brokenJoints 1 (some .int), Cond.methodLink RX0 61 yX0_jointsWornBy, Cond.instanceMethod yX0_jointsWornBy, Cond.selects RX0 yX0_jointsWornBy yX0_jointsWornBy, Cond.code yX0_jointsWornBy cX0_jointsWornBy 7 (some .int), Cond.fieldLink RX0 15 "DollCitadel$Doll" "wears" "[I", Cond.methodLink RX0 68 yX0_eyesWithDust, Cond.instanceMethod yX0_eyesWithDust, Cond.selects RX0 yX0_eyesWithDust yX0_eyesWithDust, Cond.code yX0_eyesWithDust cX0_eyesWithDust 7 (some .int), Cond.fieldLink RX0 25 "DollCitadel$Doll" "dusts" "[I", Cond.methodLink RX2 195 yX1_digestInto, Cond.instanceMethod yX1_digestInto, Cond.selects RX1 yX1_digestInto yX1_digestInto, Cond.initialized RX1, Cond.code yX1_digestInto cX1_digestInto 9 (some .long), Cond.fieldLink RX1 9 "DollCitadel$Pose" "angles" "[I", Cond.constantLong RX1 15 (31)]
def wsX2_digest_r3 : List Cond := [Cond.methodLink RX2 199 yX2_doll, Cond.instanceMethod yX2_doll, Cond.selects RX2 yX2_doll yX2_doll, Cond.code yX2_doll cX2_doll 4 (some .int), Cond.fieldLink RX2 104 "DollCitadel$Doll" "open" "[Z", Cond.fieldLink RX2 99 "DollCitadel$Doll" "dusts" "[I", Cond.fieldLink RX2 147 "DollCitadel$Doll" "wigEaten" "I", Cond.fieldLink RX2 115 "DollCitadel$Doll" "weight" "I", Cond.fieldLink RX2 112 "DollCitadel$Doll" "pins" "I", Cond.fieldLink RX2 91 "DollCitadel$Doll" "posesTaken" "I", Cond.methodLink RX2 69 yX2_knownDoll, Cond.instanceMethod yX2_knownDoll, Cond.selects RX2 yX2_knownDoll yX2_knownDoll, Cond.code yX2_knownDoll cX2_knownDoll 3 (some (.object "DollCitadel$Doll")), Cond.methodLink RX2 202 yX2_digestJointsInto, Cond.instanceMethod yX2_digestJointsInto, Cond.selects RX2 yX2_digestJointsInto yX2_digestJointsInto, Cond.code yX2_digestJointsInto cX2_digestJointsInto 8 (some .long), Cond.methodLink RX2 206 yX2_joint, Cond.instanceMethod yX2_joint, Cond.selects RX2 yX2_joint yX2_joint, Cond.code yX2_joint cX2_joint 5 (some .int), Cond.fieldLink RX2 152 "DollCitadel$Doll" "angles" "[I", Cond.fieldLink RX2 138 "DollCitadel$Doll" "wears" "[I"]
def wsX2_digest_r4 : List Cond := [Cond.fieldLink RX2 141 "DollCitadel$Doll" "lacquers" "[I"]
def wsX2_digest : List Cond := .code yX2_digest cX2_digest 7 (some .long) :: ((wsX2_digest_r1 ++ (wsX2_digest_r2 ++ (wsX2_digest_r3 ++ wsX2_digest_r4))) ++ wsX20 ++ wsX00 ++ wsX10 ++ (vx_atS RX2 98 "java/lang/IndexOutOfBoundsException" ["java/lang/RuntimeException", "java/lang/Exception"]).filter goodWord)
def wsX3_init : List Cond := .code yX3_init cX3_init 1 none :: ([.methodLink RX3 1 objectInit, .instanceMethod objectInit, .code objectInit ⟨#[0xb1]⟩ 1 none, .fieldLink RX3 7 "DollCitadelModel" "moths" "I", .arrayClass .int, .fieldLink RX3 13 "DollCitadelModel" "limbs" "[I", .fieldLink RX3 17 "DollCitadelModel" "rooms" "[I", .fieldLink RX3 20 "DollCitadelModel" "told" "[I", .fieldLink RX3 23 "DollCitadelModel" "store" "[I", .fieldLink RX3 26 "DollCitadelModel" "day" "[I"] ++ wsX30)
def wsX3_thrown : List Cond := .code yX3_thrown cX3_thrown 1 (some .int) :: ([.fieldLink RX3 29 "DollCitadelModel" "thrown" "I"] ++ wsX30)
def wsX3_fail : List Cond := .code yX3_fail cX3_fail 2 (some .int) :: ([.fieldLink RX3 29 "DollCitadelModel" "thrown" "I"] ++ wsX30)
def wsX3_isIn : List Cond := .code yX3_isIn cX3_isIn 3 (some .boolean) :: ([])
def wsX3_isDoll : List Cond := .code yX3_isDoll cX3_isDoll 2 (some .boolean) :: ([.fieldLink RX3 32 "DollCitadelModel" "dolls" "I", .methodLink RX3 35 yX3_isIn, .static yX3_isIn, .initialized RX3, .code yX3_isIn cX3_isIn 3 (some .boolean)] ++ wsX30)
def wsX3_isPose : List Cond := .code yX3_isPose cX3_isPose 2 (some .boolean) :: ([.fieldLink RX3 39 "DollCitadelModel" "poses" "I", .methodLink RX3 35 yX3_isIn, .static yX3_isIn, .initialized RX3, .code yX3_isIn cX3_isIn 3 (some .boolean)] ++ wsX30)
def wsX3_at : List Cond := .code yX3_at cX3_at 3 (some .int) :: ([])
def wsX3_li : List Cond := .code yX3_li cX3_li 4 (some .int) :: ([.fieldLink RX3 13 "DollCitadelModel" "limbs" "[I", .methodLink RX3 42 yX3_at, .static yX3_at, .initialized RX3, .code yX3_at cX3_at 3 (some .int)] ++ wsX30)
def wsX3_ro : List Cond := .code yX3_ro cX3_ro 3 (some .int) :: ([.fieldLink RX3 17 "DollCitadelModel" "rooms" "[I"] ++ wsX30)
def wsX3_put : List Cond := .code yX3_put cX3_put 4 none :: ([.fieldLink RX3 17 "DollCitadelModel" "rooms" "[I"] ++ wsX30)
def wsX3_make : List Cond := .code yX3_make cX3_make 2 (some .int) :: ([.fieldLink RX3 29 "DollCitadelModel" "thrown" "I", .fieldLink RX3 32 "DollCitadelModel" "dolls" "I", .fieldLink RX3 13 "DollCitadelModel" "limbs" "[I", .arrayClass .int, .fieldLink RX3 17 "DollCitadelModel" "rooms" "[I", .methodLink RX3 50 arraycopyName, .native arraycopyName, .static arraycopyName, .initialized "java/lang/System", .methodLink RX3 46 yX3_fail, .instanceMethod yX3_fail, .selects RX3 yX3_fail yX3_fail, .initialized RX3, .code yX3_fail cX3_fail 2 (some .int), .methodLink RX3 42 yX3_at, .static yX3_at, .code yX3_at cX3_at 3 (some .int)] ++ wsX30)
def wsX3_pose : List Cond := .code yX3_pose cX3_pose 12 (some .int) :: ([.fieldLink RX3 29 "DollCitadelModel" "thrown" "I", .arrayClass .int, .fieldLink RX3 39 "DollCitadelModel" "poses" "I", .fieldLink RX3 20 "DollCitadelModel" "told" "[I", .methodLink RX3 50 arraycopyName, .native arraycopyName, .static arraycopyName, .initialized "java/lang/System", .methodLink RX3 35 yX3_isIn, .static yX3_isIn, .initialized RX3, .code yX3_isIn cX3_isIn 3 (some .boolean), .methodLink RX3 46 yX3_fail, .instanceMethod yX3_fail, .selects RX3 yX3_fail yX3_fail, .code yX3_fail cX3_fail 2 (some .int)] ++ wsX30)
def wsX3_isBroken : List Cond := .code yX3_isBroken cX3_isBroken 3 (some .boolean) :: ([.methodLink RX3 56 yX3_li, .instanceMethod yX3_li, .selects RX3 yX3_li yX3_li, .initialized RX3, .code yX3_li cX3_li 4 (some .int), .fieldLink RX3 13 "DollCitadelModel" "limbs" "[I", .methodLink RX3 42 yX3_at, .static yX3_at, .code yX3_at cX3_at 3 (some .int)] ++ wsX30)
def wsX3_turn : List Cond := .code yX3_turn cX3_turn 6 (some .boolean) :: ([.methodLink RX3 59 Lib.Math.abs.name, .static Lib.Math.abs.name, .initialized "java/lang/Math", .code Lib.Math.abs.name Lib.Math.abs.code 1 (some .int), .fieldLink RX3 13 "DollCitadelModel" "limbs" "[I", .methodLink RX3 64 Lib.Math.min.name, .static Lib.Math.min.name, .code Lib.Math.min.name Lib.Math.min.code 2 (some .int), .methodLink RX3 56 yX3_li, .instanceMethod yX3_li, .selects RX3 yX3_li yX3_li, .initialized RX3, .code yX3_li cX3_li 4 (some .int), .methodLink RX3 42 yX3_at, .static yX3_at, .code yX3_at cX3_at 3 (some .int), .methodLink RX3 68 yX3_isBroken, .instanceMethod yX3_isBroken, .selects RX3 yX3_isBroken yX3_isBroken, .code yX3_isBroken cX3_isBroken 3 (some .boolean)] ++ wsX30)
def wsX3_can : List Cond := .code yX3_can cX3_can 4 (some .boolean) :: ([.fieldLink RX3 20 "DollCitadelModel" "told" "[I", .methodLink RX3 68 yX3_isBroken, .instanceMethod yX3_isBroken, .selects RX3 yX3_isBroken yX3_isBroken, .initialized RX3, .code yX3_isBroken cX3_isBroken 3 (some .boolean), .methodLink RX3 56 yX3_li, .instanceMethod yX3_li, .selects RX3 yX3_li yX3_li, .code yX3_li cX3_li 4 (some .int), .fieldLink RX3 13 "DollCitadelModel" "limbs" "[I", .methodLink RX3 42 yX3_at, .static yX3_at, .code yX3_at cX3_at 3 (some .int)] ++ wsX30)
def wsX3_turnAll_r1 : List Cond := [Cond.fieldLink RX3 20 "DollCitadelModel" "told" "[I", Cond.methodLink RX3 72 yX3_turn, Cond.instanceMethod yX3_turn, Cond.selects RX3 yX3_turn yX3_turn, Cond.initialized RX3, Cond.code yX3_turn cX3_turn 6 (some .boolean), Cond.methodLink RX3 59 Lib.Math.abs.name, Cond.static Lib.Math.abs.name, Cond.initialized "java/lang/Math", Cond.code Lib.Math.abs.name Lib.Math.abs.code 1 (some .int), Cond.fieldLink RX3 13 "DollCitadelModel" "limbs" "[I", Cond.methodLink RX3 64 Lib.Math.min.name, Cond.static Lib.Math.min.name, Cond.code Lib.Math.min.name Lib.Math.min.code 2 (some .int), Cond.methodLink RX3 56 yX3_li, Cond.instanceMethod yX3_li, Cond.selects RX3 yX3_li yX3_li, Cond.code yX3_li cX3_li 4 (some .int), Cond.methodLink RX3 42 yX3_at, Cond.static yX3_at, Cond.code yX3_at cX3_at 3 (some .int), Cond.methodLink RX3 68 yX3_isBroken, Cond.instanceMethod yX3_isBroken, Cond.selects RX3 yX3_isBroken yX3_isBroken]
def wsX3_turnAll_r2 : List Cond := [Cond.code yX3_isBroken cX3_isBroken 3 (some .boolean)]
def wsX3_turnAll : List Cond := .code yX3_turnAll cX3_turnAll 5 (some .int) :: ((wsX3_turnAll_r1 ++ wsX3_turnAll_r2) ++ wsX30)
def wsX3_take_r1 : List Cond := [Cond.fieldLink RX3 29 "DollCitadelModel" "thrown" "I", Cond.methodLink RX3 75 yX3_isDoll, Cond.instanceMethod yX3_isDoll, Cond.selects RX3 yX3_isDoll yX3_isDoll, Cond.initialized RX3, Cond.code yX3_isDoll cX3_isDoll 2 (some .boolean), Cond.fieldLink RX3 32 "DollCitadelModel" "dolls" "I", Cond.methodLink RX3 35 yX3_isIn, Cond.static yX3_isIn, Cond.code yX3_isIn cX3_isIn 3 (some .boolean), Cond.methodLink RX3 79 yX3_isPose, Cond.instanceMethod yX3_isPose, Cond.selects RX3 yX3_isPose yX3_isPose, Cond.code yX3_isPose cX3_isPose 2 (some .boolean), Cond.fieldLink RX3 39 "DollCitadelModel" "poses" "I", Cond.methodLink RX3 46 yX3_fail, Cond.instanceMethod yX3_fail, Cond.selects RX3 yX3_fail yX3_fail, Cond.code yX3_fail cX3_fail 2 (some .int), Cond.methodLink RX3 82 yX3_can, Cond.instanceMethod yX3_can, Cond.selects RX3 yX3_can yX3_can, Cond.code yX3_can cX3_can 4 (some .boolean), Cond.fieldLink RX3 20 "DollCitadelModel" "told" "[I"]
def wsX3_take_r2 : List Cond := [Cond.methodLink RX3 68 yX3_isBroken, Cond.instanceMethod yX3_isBroken, Cond.selects RX3 yX3_isBroken yX3_isBroken, Cond.code yX3_isBroken cX3_isBroken 3 (some .boolean), Cond.methodLink RX3 56 yX3_li, Cond.instanceMethod yX3_li, Cond.selects RX3 yX3_li yX3_li, Cond.code yX3_li cX3_li 4 (some .int), Cond.fieldLink RX3 13 "DollCitadelModel" "limbs" "[I", Cond.methodLink RX3 42 yX3_at, Cond.static yX3_at, Cond.code yX3_at cX3_at 3 (some .int), Cond.methodLink RX3 85 yX3_ro, Cond.instanceMethod yX3_ro, Cond.selects RX3 yX3_ro yX3_ro, Cond.code yX3_ro cX3_ro 3 (some .int), Cond.fieldLink RX3 17 "DollCitadelModel" "rooms" "[I", Cond.methodLink RX3 88 yX3_put, Cond.instanceMethod yX3_put, Cond.selects RX3 yX3_put yX3_put, Cond.code yX3_put cX3_put 4 none, Cond.methodLink RX3 92 yX3_turnAll, Cond.instanceMethod yX3_turnAll, Cond.selects RX3 yX3_turnAll yX3_turnAll]
def wsX3_take_r3 : List Cond := [Cond.code yX3_turnAll cX3_turnAll 5 (some .int), Cond.methodLink RX3 72 yX3_turn, Cond.instanceMethod yX3_turn, Cond.selects RX3 yX3_turn yX3_turn, Cond.code yX3_turn cX3_turn 6 (some .boolean), Cond.methodLink RX3 59 Lib.Math.abs.name, Cond.static Lib.Math.abs.name, Cond.initialized "java/lang/Math", Cond.code Lib.Math.abs.name Lib.Math.abs.code 1 (some .int), Cond.methodLink RX3 64 Lib.Math.min.name, Cond.static Lib.Math.min.name, Cond.code Lib.Math.min.name Lib.Math.min.code 2 (some .int)]
def wsX3_take : List Cond := .code yX3_take cX3_take 3 (some .int) :: ((wsX3_take_r1 ++ (wsX3_take_r2 ++ wsX3_take_r3)) ++ wsX30)
def wsX3_blink : List Cond := .code yX3_blink cX3_blink 3 (some .boolean) :: ([.fieldLink RX3 29 "DollCitadelModel" "thrown" "I", .methodLink RX3 75 yX3_isDoll, .instanceMethod yX3_isDoll, .selects RX3 yX3_isDoll yX3_isDoll, .initialized RX3, .code yX3_isDoll cX3_isDoll 2 (some .boolean), .fieldLink RX3 32 "DollCitadelModel" "dolls" "I", .methodLink RX3 35 yX3_isIn, .static yX3_isIn, .code yX3_isIn cX3_isIn 3 (some .boolean), .methodLink RX3 85 yX3_ro, .instanceMethod yX3_ro, .selects RX3 yX3_ro yX3_ro, .code yX3_ro cX3_ro 3 (some .int), .fieldLink RX3 17 "DollCitadelModel" "rooms" "[I", .methodLink RX3 88 yX3_put, .instanceMethod yX3_put, .selects RX3 yX3_put yX3_put, .code yX3_put cX3_put 4 none] ++ wsX30)
def wsX3_dress_r1 : List Cond := [Cond.fieldLink RX3 29 "DollCitadelModel" "thrown" "I", Cond.fieldLink RX3 23 "DollCitadelModel" "store" "[I", Cond.methodLink RX3 64 Lib.Math.min.name, Cond.static Lib.Math.min.name, Cond.initialized "java/lang/Math", Cond.code Lib.Math.min.name Lib.Math.min.code 2 (some .int), Cond.methodLink RX3 75 yX3_isDoll, Cond.instanceMethod yX3_isDoll, Cond.selects RX3 yX3_isDoll yX3_isDoll, Cond.initialized RX3, Cond.code yX3_isDoll cX3_isDoll 2 (some .boolean), Cond.fieldLink RX3 32 "DollCitadelModel" "dolls" "I", Cond.methodLink RX3 35 yX3_isIn, Cond.static yX3_isIn, Cond.code yX3_isIn cX3_isIn 3 (some .boolean), Cond.methodLink RX3 46 yX3_fail, Cond.instanceMethod yX3_fail, Cond.selects RX3 yX3_fail yX3_fail, Cond.code yX3_fail cX3_fail 2 (some .int), Cond.methodLink RX3 85 yX3_ro, Cond.instanceMethod yX3_ro, Cond.selects RX3 yX3_ro yX3_ro, Cond.code yX3_ro cX3_ro 3 (some .int), Cond.fieldLink RX3 17 "DollCitadelModel" "rooms" "[I"]
def wsX3_dress_r2 : List Cond := [Cond.methodLink RX3 88 yX3_put, Cond.instanceMethod yX3_put, Cond.selects RX3 yX3_put yX3_put, Cond.code yX3_put cX3_put 4 none]
def wsX3_dress : List Cond := .code yX3_dress cX3_dress 4 (some .int) :: ((wsX3_dress_r1 ++ wsX3_dress_r2) ++ wsX30)
def wsX3_bring : List Cond := .code yX3_bring cX3_bring 3 (some .int) :: ([.fieldLink RX3 29 "DollCitadelModel" "thrown" "I", .fieldLink RX3 23 "DollCitadelModel" "store" "[I", .methodLink RX3 64 Lib.Math.min.name, .static Lib.Math.min.name, .initialized "java/lang/Math", .code Lib.Math.min.name Lib.Math.min.code 2 (some .int), .methodLink RX3 35 yX3_isIn, .static yX3_isIn, .initialized RX3, .code yX3_isIn cX3_isIn 3 (some .boolean), .methodLink RX3 46 yX3_fail, .instanceMethod yX3_fail, .selects RX3 yX3_fail yX3_fail, .code yX3_fail cX3_fail 2 (some .int)] ++ wsX30)
def wsX3_setMoths : List Cond := .code yX3_setMoths cX3_setMoths 3 (some .int) :: ([.fieldLink RX3 29 "DollCitadelModel" "thrown" "I", .fieldLink RX3 7 "DollCitadelModel" "moths" "I", .methodLink RX3 35 yX3_isIn, .static yX3_isIn, .initialized RX3, .code yX3_isIn cX3_isIn 3 (some .boolean), .methodLink RX3 46 yX3_fail, .instanceMethod yX3_fail, .selects RX3 yX3_fail yX3_fail, .code yX3_fail cX3_fail 2 (some .int)] ++ wsX30)
def wsX3_mend_r1 : List Cond := [Cond.fieldLink RX3 29 "DollCitadelModel" "thrown" "I", Cond.fieldLink RX3 23 "DollCitadelModel" "store" "[I", Cond.fieldLink RX3 13 "DollCitadelModel" "limbs" "[I", Cond.methodLink RX3 75 yX3_isDoll, Cond.instanceMethod yX3_isDoll, Cond.selects RX3 yX3_isDoll yX3_isDoll, Cond.initialized RX3, Cond.code yX3_isDoll cX3_isDoll 2 (some .boolean), Cond.fieldLink RX3 32 "DollCitadelModel" "dolls" "I", Cond.methodLink RX3 35 yX3_isIn, Cond.static yX3_isIn, Cond.code yX3_isIn cX3_isIn 3 (some .boolean), Cond.methodLink RX3 46 yX3_fail, Cond.instanceMethod yX3_fail, Cond.selects RX3 yX3_fail yX3_fail, Cond.code yX3_fail cX3_fail 2 (some .int), Cond.methodLink RX3 85 yX3_ro, Cond.instanceMethod yX3_ro, Cond.selects RX3 yX3_ro yX3_ro, Cond.code yX3_ro cX3_ro 3 (some .int), Cond.fieldLink RX3 17 "DollCitadelModel" "rooms" "[I", Cond.methodLink RX3 42 yX3_at, Cond.static yX3_at, Cond.code yX3_at cX3_at 3 (some .int)]
def wsX3_mend_r2 : List Cond := [Cond.methodLink RX3 88 yX3_put, Cond.instanceMethod yX3_put, Cond.selects RX3 yX3_put yX3_put, Cond.code yX3_put cX3_put 4 none]
def wsX3_mend : List Cond := .code yX3_mend cX3_mend 4 (some .int) :: ((wsX3_mend_r1 ++ wsX3_mend_r2) ++ wsX30)
def wsX3_jointTold : List Cond := .code yX3_jointTold cX3_jointTold 4 (some .int) :: ([.methodLink RX3 56 yX3_li, .instanceMethod yX3_li, .selects RX3 yX3_li yX3_li, .initialized RX3, .code yX3_li cX3_li 4 (some .int), .fieldLink RX3 13 "DollCitadelModel" "limbs" "[I", .methodLink RX3 42 yX3_at, .static yX3_at, .code yX3_at cX3_at 3 (some .int), .methodLink RX3 68 yX3_isBroken, .instanceMethod yX3_isBroken, .selects RX3 yX3_isBroken yX3_isBroken, .code yX3_isBroken cX3_isBroken 3 (some .boolean)] ++ wsX30)
def wsX3_joint_r1 : List Cond := [Cond.fieldLink RX3 29 "DollCitadelModel" "thrown" "I", Cond.methodLink RX3 75 yX3_isDoll, Cond.instanceMethod yX3_isDoll, Cond.selects RX3 yX3_isDoll yX3_isDoll, Cond.initialized RX3, Cond.code yX3_isDoll cX3_isDoll 2 (some .boolean), Cond.fieldLink RX3 32 "DollCitadelModel" "dolls" "I", Cond.methodLink RX3 35 yX3_isIn, Cond.static yX3_isIn, Cond.code yX3_isIn cX3_isIn 3 (some .boolean), Cond.methodLink RX3 95 yX3_jointTold, Cond.instanceMethod yX3_jointTold, Cond.selects RX3 yX3_jointTold yX3_jointTold, Cond.code yX3_jointTold cX3_jointTold 4 (some .int), Cond.methodLink RX3 56 yX3_li, Cond.instanceMethod yX3_li, Cond.selects RX3 yX3_li yX3_li, Cond.code yX3_li cX3_li 4 (some .int), Cond.fieldLink RX3 13 "DollCitadelModel" "limbs" "[I", Cond.methodLink RX3 42 yX3_at, Cond.static yX3_at, Cond.code yX3_at cX3_at 3 (some .int), Cond.methodLink RX3 68 yX3_isBroken, Cond.instanceMethod yX3_isBroken]
def wsX3_joint_r2 : List Cond := [Cond.selects RX3 yX3_isBroken yX3_isBroken, Cond.code yX3_isBroken cX3_isBroken 3 (some .boolean), Cond.methodLink RX3 46 yX3_fail, Cond.instanceMethod yX3_fail, Cond.selects RX3 yX3_fail yX3_fail, Cond.code yX3_fail cX3_fail 2 (some .int)]
def wsX3_joint : List Cond := .code yX3_joint cX3_joint 4 (some .int) :: ((wsX3_joint_r1 ++ wsX3_joint_r2) ++ wsX30)
def wsX3_doll : List Cond := .code yX3_doll cX3_doll 3 (some .int) :: ([.fieldLink RX3 29 "DollCitadelModel" "thrown" "I", .methodLink RX3 75 yX3_isDoll, .instanceMethod yX3_isDoll, .selects RX3 yX3_isDoll yX3_isDoll, .initialized RX3, .code yX3_isDoll cX3_isDoll 2 (some .boolean), .fieldLink RX3 32 "DollCitadelModel" "dolls" "I", .methodLink RX3 35 yX3_isIn, .static yX3_isIn, .code yX3_isIn cX3_isIn 3 (some .boolean), .methodLink RX3 85 yX3_ro, .instanceMethod yX3_ro, .selects RX3 yX3_ro yX3_ro, .code yX3_ro cX3_ro 3 (some .int), .fieldLink RX3 17 "DollCitadelModel" "rooms" "[I", .methodLink RX3 46 yX3_fail, .instanceMethod yX3_fail, .selects RX3 yX3_fail yX3_fail, .code yX3_fail cX3_fail 2 (some .int)] ++ wsX30)
def wsX3_counted_r1 : List Cond := [Cond.fieldLink RX3 23 "DollCitadelModel" "store" "[I", Cond.fieldLink RX3 26 "DollCitadelModel" "day" "[I", Cond.fieldLink RX3 32 "DollCitadelModel" "dolls" "I", Cond.fieldLink RX3 39 "DollCitadelModel" "poses" "I", Cond.fieldLink RX3 7 "DollCitadelModel" "moths" "I", Cond.methodLink RX3 95 yX3_jointTold, Cond.instanceMethod yX3_jointTold, Cond.selects RX3 yX3_jointTold yX3_jointTold, Cond.initialized RX3, Cond.code yX3_jointTold cX3_jointTold 4 (some .int), Cond.methodLink RX3 56 yX3_li, Cond.instanceMethod yX3_li, Cond.selects RX3 yX3_li yX3_li, Cond.code yX3_li cX3_li 4 (some .int), Cond.fieldLink RX3 13 "DollCitadelModel" "limbs" "[I", Cond.methodLink RX3 42 yX3_at, Cond.static yX3_at, Cond.code yX3_at cX3_at 3 (some .int), Cond.methodLink RX3 68 yX3_isBroken, Cond.instanceMethod yX3_isBroken, Cond.selects RX3 yX3_isBroken yX3_isBroken, Cond.code yX3_isBroken cX3_isBroken 3 (some .boolean), Cond.methodLink RX3 85 yX3_ro, Cond.instanceMethod yX3_ro]
def wsX3_counted_r2 : List Cond := [Cond.selects RX3 yX3_ro yX3_ro, Cond.code yX3_ro cX3_ro 3 (some .int), Cond.fieldLink RX3 17 "DollCitadelModel" "rooms" "[I"]
def wsX3_counted : List Cond := .code yX3_counted cX3_counted 5 (some .int) :: ((wsX3_counted_r1 ++ wsX3_counted_r2) ++ wsX30)
def wsX3_count_r1 : List Cond := [Cond.fieldLink RX3 29 "DollCitadelModel" "thrown" "I", Cond.methodLink RX3 35 yX3_isIn, Cond.static yX3_isIn, Cond.initialized RX3, Cond.code yX3_isIn cX3_isIn 3 (some .boolean), Cond.methodLink RX3 98 yX3_counted, Cond.instanceMethod yX3_counted, Cond.selects RX3 yX3_counted yX3_counted, Cond.code yX3_counted cX3_counted 5 (some .int), Cond.fieldLink RX3 23 "DollCitadelModel" "store" "[I", Cond.fieldLink RX3 26 "DollCitadelModel" "day" "[I", Cond.fieldLink RX3 32 "DollCitadelModel" "dolls" "I", Cond.fieldLink RX3 39 "DollCitadelModel" "poses" "I", Cond.fieldLink RX3 7 "DollCitadelModel" "moths" "I", Cond.methodLink RX3 95 yX3_jointTold, Cond.instanceMethod yX3_jointTold, Cond.selects RX3 yX3_jointTold yX3_jointTold, Cond.code yX3_jointTold cX3_jointTold 4 (some .int), Cond.methodLink RX3 56 yX3_li, Cond.instanceMethod yX3_li, Cond.selects RX3 yX3_li yX3_li, Cond.code yX3_li cX3_li 4 (some .int), Cond.fieldLink RX3 13 "DollCitadelModel" "limbs" "[I", Cond.methodLink RX3 42 yX3_at]
def wsX3_count_r2 : List Cond := [Cond.static yX3_at, Cond.code yX3_at cX3_at 3 (some .int), Cond.methodLink RX3 68 yX3_isBroken, Cond.instanceMethod yX3_isBroken, Cond.selects RX3 yX3_isBroken yX3_isBroken, Cond.code yX3_isBroken cX3_isBroken 3 (some .boolean), Cond.methodLink RX3 85 yX3_ro, Cond.instanceMethod yX3_ro, Cond.selects RX3 yX3_ro yX3_ro, Cond.code yX3_ro cX3_ro 3 (some .int), Cond.fieldLink RX3 17 "DollCitadelModel" "rooms" "[I", Cond.methodLink RX3 46 yX3_fail, Cond.instanceMethod yX3_fail, Cond.selects RX3 yX3_fail yX3_fail, Cond.code yX3_fail cX3_fail 2 (some .int)]
def wsX3_count : List Cond := .code yX3_count cX3_count 2 (some .int) :: ((wsX3_count_r1 ++ wsX3_count_r2) ++ wsX30)
def wsX3_kept : List Cond := .code yX3_kept cX3_kept 1 (some (.array (.array .int))) :: ([.classLink RX3 101 "[I", .fieldLink RX3 13 "DollCitadelModel" "limbs" "[I", .methodLink RX3 102 ⟨"[I", "clone", "()Ljava/lang/Object;"⟩, .sameMethod "[I" "java/lang/Object" "clone" "()Ljava/lang/Object;", .native ⟨"java/lang/Object", "clone", "()Ljava/lang/Object;"⟩, .instanceMethod ⟨"java/lang/Object", "clone", "()Ljava/lang/Object;"⟩, .selects "[I" ⟨"[I", "clone", "()Ljava/lang/Object;"⟩ ⟨"java/lang/Object", "clone", "()Ljava/lang/Object;"⟩, .fieldLink RX3 17 "DollCitadelModel" "rooms" "[I", .fieldLink RX3 26 "DollCitadelModel" "day" "[I"] ++ wsX30)
def wsX3_bringBack : List Cond := .code yX3_bringBack cX3_bringBack 2 none :: ([.fieldLink RX3 13 "DollCitadelModel" "limbs" "[I", .methodLink RX3 50 arraycopyName, .native arraycopyName, .static arraycopyName, .initialized "java/lang/System", .fieldLink RX3 17 "DollCitadelModel" "rooms" "[I", .fieldLink RX3 26 "DollCitadelModel" "day" "[I"] ++ wsX30)
def wsX3_wearOf : List Cond := .code yX3_wearOf cX3_wearOf 4 (some .int) :: ([.methodLink RX3 56 yX3_li, .instanceMethod yX3_li, .selects RX3 yX3_li yX3_li, .initialized RX3, .code yX3_li cX3_li 4 (some .int), .fieldLink RX3 13 "DollCitadelModel" "limbs" "[I", .methodLink RX3 42 yX3_at, .static yX3_at, .code yX3_at cX3_at 3 (some .int)] ++ wsX30)
def wsX3_costs_r1 : List Cond := [Cond.fieldLink RX3 29 "DollCitadelModel" "thrown" "I", Cond.methodLink RX3 75 yX3_isDoll, Cond.instanceMethod yX3_isDoll, Cond.selects RX3 yX3_isDoll yX3_isDoll, Cond.initialized RX3, Cond.code yX3_isDoll cX3_isDoll 2 (some .boolean), Cond.fieldLink RX3 32 "DollCitadelModel" "dolls" "I", Cond.methodLink RX3 35 yX3_isIn, Cond.static yX3_isIn, Cond.code yX3_isIn cX3_isIn 3 (some .boolean), Cond.methodLink RX3 79 yX3_isPose, Cond.instanceMethod yX3_isPose, Cond.selects RX3 yX3_isPose yX3_isPose, Cond.code yX3_isPose cX3_isPose 2 (some .boolean), Cond.fieldLink RX3 39 "DollCitadelModel" "poses" "I", Cond.methodLink RX3 46 yX3_fail, Cond.instanceMethod yX3_fail, Cond.selects RX3 yX3_fail yX3_fail, Cond.code yX3_fail cX3_fail 2 (some .int), Cond.methodLink RX3 82 yX3_can, Cond.instanceMethod yX3_can, Cond.selects RX3 yX3_can yX3_can, Cond.code yX3_can cX3_can 4 (some .boolean), Cond.fieldLink RX3 20 "DollCitadelModel" "told" "[I"]
def wsX3_costs_r2 : List Cond := [Cond.methodLink RX3 68 yX3_isBroken, Cond.instanceMethod yX3_isBroken, Cond.selects RX3 yX3_isBroken yX3_isBroken, Cond.code yX3_isBroken cX3_isBroken 3 (some .boolean), Cond.methodLink RX3 56 yX3_li, Cond.instanceMethod yX3_li, Cond.selects RX3 yX3_li yX3_li, Cond.code yX3_li cX3_li 4 (some .int), Cond.fieldLink RX3 13 "DollCitadelModel" "limbs" "[I", Cond.methodLink RX3 42 yX3_at, Cond.static yX3_at, Cond.code yX3_at cX3_at 3 (some .int), Cond.methodLink RX3 106 yX3_kept, Cond.instanceMethod yX3_kept, Cond.selects RX3 yX3_kept yX3_kept, Cond.code yX3_kept cX3_kept 1 (some (.array (.array .int))), Cond.classLink RX3 101 "[I", Cond.methodLink RX3 102 ⟨"[I", "clone", "()Ljava/lang/Object;"⟩, Cond.sameMethod "[I" "java/lang/Object" "clone" "()Ljava/lang/Object;", Cond.native ⟨"java/lang/Object", "clone", "()Ljava/lang/Object;"⟩, Cond.instanceMethod ⟨"java/lang/Object", "clone", "()Ljava/lang/Object;"⟩, Cond.selects "[I" ⟨"[I", "clone", "()Ljava/lang/Object;"⟩ ⟨"java/lang/Object", "clone", "()Ljava/lang/Object;"⟩, Cond.fieldLink RX3 17 "DollCitadelModel" "rooms" "[I", Cond.fieldLink RX3 26 "DollCitadelModel" "day" "[I"]
def wsX3_costs_r3 : List Cond := [Cond.methodLink RX3 110 yX3_wearOf, Cond.instanceMethod yX3_wearOf, Cond.selects RX3 yX3_wearOf yX3_wearOf, Cond.code yX3_wearOf cX3_wearOf 4 (some .int), Cond.methodLink RX3 92 yX3_turnAll, Cond.instanceMethod yX3_turnAll, Cond.selects RX3 yX3_turnAll yX3_turnAll, Cond.code yX3_turnAll cX3_turnAll 5 (some .int), Cond.methodLink RX3 72 yX3_turn, Cond.instanceMethod yX3_turn, Cond.selects RX3 yX3_turn yX3_turn, Cond.code yX3_turn cX3_turn 6 (some .boolean), Cond.methodLink RX3 59 Lib.Math.abs.name, Cond.static Lib.Math.abs.name, Cond.initialized "java/lang/Math", Cond.code Lib.Math.abs.name Lib.Math.abs.code 1 (some .int), Cond.methodLink RX3 64 Lib.Math.min.name, Cond.static Lib.Math.min.name, Cond.code Lib.Math.min.name Lib.Math.min.code 2 (some .int), Cond.methodLink RX3 113 yX3_bringBack, Cond.instanceMethod yX3_bringBack, Cond.selects RX3 yX3_bringBack yX3_bringBack, Cond.code yX3_bringBack cX3_bringBack 2 none, Cond.methodLink RX3 50 arraycopyName]
def wsX3_costs_r4 : List Cond := [Cond.native arraycopyName, Cond.static arraycopyName, Cond.initialized "java/lang/System"]
def wsX3_costs : List Cond := .code yX3_costs cX3_costs 6 (some .int) :: ((wsX3_costs_r1 ++ (wsX3_costs_r2 ++ (wsX3_costs_r3 ++ wsX3_costs_r4))) ++ wsX30)
def wsX3_often_r1 : List Cond := [Cond.fieldLink RX3 29 "DollCitadelModel" "thrown" "I", Cond.methodLink RX3 75 yX3_isDoll, Cond.instanceMethod yX3_isDoll, Cond.selects RX3 yX3_isDoll yX3_isDoll, Cond.initialized RX3, Cond.code yX3_isDoll cX3_isDoll 2 (some .boolean), Cond.fieldLink RX3 32 "DollCitadelModel" "dolls" "I", Cond.methodLink RX3 35 yX3_isIn, Cond.static yX3_isIn, Cond.code yX3_isIn cX3_isIn 3 (some .boolean), Cond.methodLink RX3 79 yX3_isPose, Cond.instanceMethod yX3_isPose, Cond.selects RX3 yX3_isPose yX3_isPose, Cond.code yX3_isPose cX3_isPose 2 (some .boolean), Cond.fieldLink RX3 39 "DollCitadelModel" "poses" "I", Cond.methodLink RX3 46 yX3_fail, Cond.instanceMethod yX3_fail, Cond.selects RX3 yX3_fail yX3_fail, Cond.code yX3_fail cX3_fail 2 (some .int), Cond.methodLink RX3 106 yX3_kept, Cond.instanceMethod yX3_kept, Cond.selects RX3 yX3_kept yX3_kept, Cond.code yX3_kept cX3_kept 1 (some (.array (.array .int))), Cond.classLink RX3 101 "[I"]
def wsX3_often_r2 : List Cond := [Cond.fieldLink RX3 13 "DollCitadelModel" "limbs" "[I", Cond.methodLink RX3 102 ⟨"[I", "clone", "()Ljava/lang/Object;"⟩, Cond.sameMethod "[I" "java/lang/Object" "clone" "()Ljava/lang/Object;", Cond.native ⟨"java/lang/Object", "clone", "()Ljava/lang/Object;"⟩, Cond.instanceMethod ⟨"java/lang/Object", "clone", "()Ljava/lang/Object;"⟩, Cond.selects "[I" ⟨"[I", "clone", "()Ljava/lang/Object;"⟩ ⟨"java/lang/Object", "clone", "()Ljava/lang/Object;"⟩, Cond.fieldLink RX3 17 "DollCitadelModel" "rooms" "[I", Cond.fieldLink RX3 26 "DollCitadelModel" "day" "[I", Cond.methodLink RX3 82 yX3_can, Cond.instanceMethod yX3_can, Cond.selects RX3 yX3_can yX3_can, Cond.code yX3_can cX3_can 4 (some .boolean), Cond.fieldLink RX3 20 "DollCitadelModel" "told" "[I", Cond.methodLink RX3 68 yX3_isBroken, Cond.instanceMethod yX3_isBroken, Cond.selects RX3 yX3_isBroken yX3_isBroken, Cond.code yX3_isBroken cX3_isBroken 3 (some .boolean), Cond.methodLink RX3 56 yX3_li, Cond.instanceMethod yX3_li, Cond.selects RX3 yX3_li yX3_li, Cond.code yX3_li cX3_li 4 (some .int), Cond.methodLink RX3 42 yX3_at, Cond.static yX3_at, Cond.code yX3_at cX3_at 3 (some .int)]
def wsX3_often_r3 : List Cond := [Cond.methodLink RX3 92 yX3_turnAll, Cond.instanceMethod yX3_turnAll, Cond.selects RX3 yX3_turnAll yX3_turnAll, Cond.code yX3_turnAll cX3_turnAll 5 (some .int), Cond.methodLink RX3 72 yX3_turn, Cond.instanceMethod yX3_turn, Cond.selects RX3 yX3_turn yX3_turn, Cond.code yX3_turn cX3_turn 6 (some .boolean), Cond.methodLink RX3 59 Lib.Math.abs.name, Cond.static Lib.Math.abs.name, Cond.initialized "java/lang/Math", Cond.code Lib.Math.abs.name Lib.Math.abs.code 1 (some .int), Cond.methodLink RX3 64 Lib.Math.min.name, Cond.static Lib.Math.min.name, Cond.code Lib.Math.min.name Lib.Math.min.code 2 (some .int), Cond.methodLink RX3 113 yX3_bringBack, Cond.instanceMethod yX3_bringBack, Cond.selects RX3 yX3_bringBack yX3_bringBack, Cond.code yX3_bringBack cX3_bringBack 2 none, Cond.methodLink RX3 50 arraycopyName, Cond.native arraycopyName, Cond.static arraycopyName, Cond.initialized "java/lang/System"]
def wsX3_often : List Cond := .code yX3_often cX3_often 6 (some .int) :: ((wsX3_often_r1 ++ (wsX3_often_r2 ++ wsX3_often_r3)) ++ wsX30)
def wsX3_needed : List Cond := .code yX3_needed cX3_needed 5 (some .int) :: ([.methodLink RX3 56 yX3_li, .instanceMethod yX3_li, .selects RX3 yX3_li yX3_li, .initialized RX3, .code yX3_li cX3_li 4 (some .int), .fieldLink RX3 13 "DollCitadelModel" "limbs" "[I", .methodLink RX3 42 yX3_at, .static yX3_at, .code yX3_at cX3_at 3 (some .int), .methodLink RX3 85 yX3_ro, .instanceMethod yX3_ro, .selects RX3 yX3_ro yX3_ro, .code yX3_ro cX3_ro 3 (some .int), .fieldLink RX3 17 "DollCitadelModel" "rooms" "[I"] ++ wsX30)
def wsX3_needs_r1 : List Cond := [Cond.fieldLink RX3 29 "DollCitadelModel" "thrown" "I", Cond.methodLink RX3 75 yX3_isDoll, Cond.instanceMethod yX3_isDoll, Cond.selects RX3 yX3_isDoll yX3_isDoll, Cond.initialized RX3, Cond.code yX3_isDoll cX3_isDoll 2 (some .boolean), Cond.fieldLink RX3 32 "DollCitadelModel" "dolls" "I", Cond.methodLink RX3 35 yX3_isIn, Cond.static yX3_isIn, Cond.code yX3_isIn cX3_isIn 3 (some .boolean), Cond.methodLink RX3 46 yX3_fail, Cond.instanceMethod yX3_fail, Cond.selects RX3 yX3_fail yX3_fail, Cond.code yX3_fail cX3_fail 2 (some .int), Cond.methodLink RX3 117 yX3_needed, Cond.instanceMethod yX3_needed, Cond.selects RX3 yX3_needed yX3_needed, Cond.code yX3_needed cX3_needed 5 (some .int), Cond.methodLink RX3 56 yX3_li, Cond.instanceMethod yX3_li, Cond.selects RX3 yX3_li yX3_li, Cond.code yX3_li cX3_li 4 (some .int), Cond.fieldLink RX3 13 "DollCitadelModel" "limbs" "[I", Cond.methodLink RX3 42 yX3_at]
def wsX3_needs_r2 : List Cond := [Cond.static yX3_at, Cond.code yX3_at cX3_at 3 (some .int), Cond.methodLink RX3 85 yX3_ro, Cond.instanceMethod yX3_ro, Cond.selects RX3 yX3_ro yX3_ro, Cond.code yX3_ro cX3_ro 3 (some .int), Cond.fieldLink RX3 17 "DollCitadelModel" "rooms" "[I"]
def wsX3_needs : List Cond := .code yX3_needs cX3_needs 3 (some .int) :: ((wsX3_needs_r1 ++ wsX3_needs_r2) ++ wsX30)
def wsX3_lacks_r1 : List Cond := [Cond.fieldLink RX3 29 "DollCitadelModel" "thrown" "I", Cond.fieldLink RX3 32 "DollCitadelModel" "dolls" "I", Cond.fieldLink RX3 23 "DollCitadelModel" "store" "[I", Cond.methodLink RX3 120 Lib.Math.max.name, Cond.static Lib.Math.max.name, Cond.initialized "java/lang/Math", Cond.code Lib.Math.max.name Lib.Math.max.code 2 (some .int), Cond.methodLink RX3 35 yX3_isIn, Cond.static yX3_isIn, Cond.initialized RX3, Cond.code yX3_isIn cX3_isIn 3 (some .boolean), Cond.methodLink RX3 46 yX3_fail, Cond.instanceMethod yX3_fail, Cond.selects RX3 yX3_fail yX3_fail, Cond.code yX3_fail cX3_fail 2 (some .int), Cond.methodLink RX3 117 yX3_needed, Cond.instanceMethod yX3_needed, Cond.selects RX3 yX3_needed yX3_needed, Cond.code yX3_needed cX3_needed 5 (some .int), Cond.methodLink RX3 56 yX3_li, Cond.instanceMethod yX3_li, Cond.selects RX3 yX3_li yX3_li, Cond.code yX3_li cX3_li 4 (some .int), Cond.fieldLink RX3 13 "DollCitadelModel" "limbs" "[I"]
def wsX3_lacks_r2 : List Cond := [Cond.methodLink RX3 42 yX3_at, Cond.static yX3_at, Cond.code yX3_at cX3_at 3 (some .int), Cond.methodLink RX3 85 yX3_ro, Cond.instanceMethod yX3_ro, Cond.selects RX3 yX3_ro yX3_ro, Cond.code yX3_ro cX3_ro 3 (some .int), Cond.fieldLink RX3 17 "DollCitadelModel" "rooms" "[I"]
def wsX3_lacks : List Cond := .code yX3_lacks cX3_lacks 4 (some .int) :: ((wsX3_lacks_r1 ++ wsX3_lacks_r2) ++ wsX30)
def wsX3_worst : List Cond := .code yX3_worst cX3_worst 6 (some .int) :: ([.fieldLink RX3 29 "DollCitadelModel" "thrown" "I", .fieldLink RX3 32 "DollCitadelModel" "dolls" "I", .methodLink RX3 117 yX3_needed, .instanceMethod yX3_needed, .selects RX3 yX3_needed yX3_needed, .initialized RX3, .code yX3_needed cX3_needed 5 (some .int), .methodLink RX3 56 yX3_li, .instanceMethod yX3_li, .selects RX3 yX3_li yX3_li, .code yX3_li cX3_li 4 (some .int), .fieldLink RX3 13 "DollCitadelModel" "limbs" "[I", .methodLink RX3 42 yX3_at, .static yX3_at, .code yX3_at cX3_at 3 (some .int), .methodLink RX3 85 yX3_ro, .instanceMethod yX3_ro, .selects RX3 yX3_ro yX3_ro, .code yX3_ro cX3_ro 3 (some .int), .fieldLink RX3 17 "DollCitadelModel" "rooms" "[I"] ++ wsX30)
def wsX3_dayOf_r1 : List Cond := [Cond.fieldLink RX3 7 "DollCitadelModel" "moths" "I", Cond.methodLink RX3 120 Lib.Math.max.name, Cond.static Lib.Math.max.name, Cond.initialized "java/lang/Math", Cond.code Lib.Math.max.name Lib.Math.max.code 2 (some .int), Cond.fieldLink RX3 26 "DollCitadelModel" "day" "[I", Cond.fieldLink RX3 13 "DollCitadelModel" "limbs" "[I", Cond.methodLink RX3 64 Lib.Math.min.name, Cond.static Lib.Math.min.name, Cond.code Lib.Math.min.name Lib.Math.min.code 2 (some .int), Cond.methodLink RX3 85 yX3_ro, Cond.instanceMethod yX3_ro, Cond.selects RX3 yX3_ro yX3_ro, Cond.initialized RX3, Cond.code yX3_ro cX3_ro 3 (some .int), Cond.fieldLink RX3 17 "DollCitadelModel" "rooms" "[I", Cond.methodLink RX3 88 yX3_put, Cond.instanceMethod yX3_put, Cond.selects RX3 yX3_put yX3_put, Cond.code yX3_put cX3_put 4 none, Cond.methodLink RX3 56 yX3_li, Cond.instanceMethod yX3_li, Cond.selects RX3 yX3_li yX3_li, Cond.code yX3_li cX3_li 4 (some .int)]
def wsX3_dayOf_r2 : List Cond := [Cond.methodLink RX3 42 yX3_at, Cond.static yX3_at, Cond.code yX3_at cX3_at 3 (some .int)]
def wsX3_dayOf : List Cond := .code yX3_dayOf cX3_dayOf 4 (some .int) :: ((wsX3_dayOf_r1 ++ wsX3_dayOf_r2) ++ wsX30)
def wsX3_daysOn_r1 : List Cond := [Cond.fieldLink RX3 32 "DollCitadelModel" "dolls" "I", Cond.fieldLink RX3 26 "DollCitadelModel" "day" "[I", Cond.methodLink RX3 123 yX3_dayOf, Cond.instanceMethod yX3_dayOf, Cond.selects RX3 yX3_dayOf yX3_dayOf, Cond.initialized RX3, Cond.code yX3_dayOf cX3_dayOf 4 (some .int), Cond.fieldLink RX3 7 "DollCitadelModel" "moths" "I", Cond.methodLink RX3 120 Lib.Math.max.name, Cond.static Lib.Math.max.name, Cond.initialized "java/lang/Math", Cond.code Lib.Math.max.name Lib.Math.max.code 2 (some .int), Cond.fieldLink RX3 13 "DollCitadelModel" "limbs" "[I", Cond.methodLink RX3 64 Lib.Math.min.name, Cond.static Lib.Math.min.name, Cond.code Lib.Math.min.name Lib.Math.min.code 2 (some .int), Cond.methodLink RX3 85 yX3_ro, Cond.instanceMethod yX3_ro, Cond.selects RX3 yX3_ro yX3_ro, Cond.code yX3_ro cX3_ro 3 (some .int), Cond.fieldLink RX3 17 "DollCitadelModel" "rooms" "[I", Cond.methodLink RX3 88 yX3_put, Cond.instanceMethod yX3_put, Cond.selects RX3 yX3_put yX3_put]
def wsX3_daysOn_r2 : List Cond := [Cond.code yX3_put cX3_put 4 none, Cond.methodLink RX3 56 yX3_li, Cond.instanceMethod yX3_li, Cond.selects RX3 yX3_li yX3_li, Cond.code yX3_li cX3_li 4 (some .int), Cond.methodLink RX3 42 yX3_at, Cond.static yX3_at, Cond.code yX3_at cX3_at 3 (some .int)]
def wsX3_daysOn : List Cond := .code yX3_daysOn cX3_daysOn 5 (some .int) :: ((wsX3_daysOn_r1 ++ wsX3_daysOn_r2) ++ wsX30)
def wsX3_foresee_r1 : List Cond := [Cond.fieldLink RX3 29 "DollCitadelModel" "thrown" "I", Cond.methodLink RX3 35 yX3_isIn, Cond.static yX3_isIn, Cond.initialized RX3, Cond.code yX3_isIn cX3_isIn 3 (some .boolean), Cond.methodLink RX3 46 yX3_fail, Cond.instanceMethod yX3_fail, Cond.selects RX3 yX3_fail yX3_fail, Cond.code yX3_fail cX3_fail 2 (some .int), Cond.methodLink RX3 106 yX3_kept, Cond.instanceMethod yX3_kept, Cond.selects RX3 yX3_kept yX3_kept, Cond.code yX3_kept cX3_kept 1 (some (.array (.array .int))), Cond.classLink RX3 101 "[I", Cond.fieldLink RX3 13 "DollCitadelModel" "limbs" "[I", Cond.methodLink RX3 102 ⟨"[I", "clone", "()Ljava/lang/Object;"⟩, Cond.sameMethod "[I" "java/lang/Object" "clone" "()Ljava/lang/Object;", Cond.native ⟨"java/lang/Object", "clone", "()Ljava/lang/Object;"⟩, Cond.instanceMethod ⟨"java/lang/Object", "clone", "()Ljava/lang/Object;"⟩, Cond.selects "[I" ⟨"[I", "clone", "()Ljava/lang/Object;"⟩ ⟨"java/lang/Object", "clone", "()Ljava/lang/Object;"⟩, Cond.fieldLink RX3 17 "DollCitadelModel" "rooms" "[I", Cond.fieldLink RX3 26 "DollCitadelModel" "day" "[I", Cond.methodLink RX3 126 yX3_daysOn, Cond.instanceMethod yX3_daysOn]
def wsX3_foresee_r2 : List Cond := [Cond.selects RX3 yX3_daysOn yX3_daysOn, Cond.code yX3_daysOn cX3_daysOn 5 (some .int), Cond.fieldLink RX3 32 "DollCitadelModel" "dolls" "I", Cond.methodLink RX3 123 yX3_dayOf, Cond.instanceMethod yX3_dayOf, Cond.selects RX3 yX3_dayOf yX3_dayOf, Cond.code yX3_dayOf cX3_dayOf 4 (some .int), Cond.fieldLink RX3 7 "DollCitadelModel" "moths" "I", Cond.methodLink RX3 120 Lib.Math.max.name, Cond.static Lib.Math.max.name, Cond.initialized "java/lang/Math", Cond.code Lib.Math.max.name Lib.Math.max.code 2 (some .int), Cond.methodLink RX3 64 Lib.Math.min.name, Cond.static Lib.Math.min.name, Cond.code Lib.Math.min.name Lib.Math.min.code 2 (some .int), Cond.methodLink RX3 85 yX3_ro, Cond.instanceMethod yX3_ro, Cond.selects RX3 yX3_ro yX3_ro, Cond.code yX3_ro cX3_ro 3 (some .int), Cond.methodLink RX3 88 yX3_put, Cond.instanceMethod yX3_put, Cond.selects RX3 yX3_put yX3_put, Cond.code yX3_put cX3_put 4 none, Cond.methodLink RX3 56 yX3_li]
def wsX3_foresee_r3 : List Cond := [Cond.instanceMethod yX3_li, Cond.selects RX3 yX3_li yX3_li, Cond.code yX3_li cX3_li 4 (some .int), Cond.methodLink RX3 42 yX3_at, Cond.static yX3_at, Cond.code yX3_at cX3_at 3 (some .int), Cond.methodLink RX3 98 yX3_counted, Cond.instanceMethod yX3_counted, Cond.selects RX3 yX3_counted yX3_counted, Cond.code yX3_counted cX3_counted 5 (some .int), Cond.fieldLink RX3 23 "DollCitadelModel" "store" "[I", Cond.fieldLink RX3 39 "DollCitadelModel" "poses" "I", Cond.methodLink RX3 95 yX3_jointTold, Cond.instanceMethod yX3_jointTold, Cond.selects RX3 yX3_jointTold yX3_jointTold, Cond.code yX3_jointTold cX3_jointTold 4 (some .int), Cond.methodLink RX3 68 yX3_isBroken, Cond.instanceMethod yX3_isBroken, Cond.selects RX3 yX3_isBroken yX3_isBroken, Cond.code yX3_isBroken cX3_isBroken 3 (some .boolean), Cond.methodLink RX3 113 yX3_bringBack, Cond.instanceMethod yX3_bringBack, Cond.selects RX3 yX3_bringBack yX3_bringBack, Cond.code yX3_bringBack cX3_bringBack 2 none]
def wsX3_foresee_r4 : List Cond := [Cond.methodLink RX3 50 arraycopyName, Cond.native arraycopyName, Cond.static arraycopyName, Cond.initialized "java/lang/System"]
def wsX3_foresee : List Cond := .code yX3_foresee cX3_foresee 5 (some .int) :: ((wsX3_foresee_r1 ++ (wsX3_foresee_r2 ++ (wsX3_foresee_r3 ++ wsX3_foresee_r4))) ++ wsX30)
def wsX3_pass_r1 : List Cond := [Cond.fieldLink RX3 29 "DollCitadelModel" "thrown" "I", Cond.methodLink RX3 35 yX3_isIn, Cond.static yX3_isIn, Cond.initialized RX3, Cond.code yX3_isIn cX3_isIn 3 (some .boolean), Cond.methodLink RX3 126 yX3_daysOn, Cond.instanceMethod yX3_daysOn, Cond.selects RX3 yX3_daysOn yX3_daysOn, Cond.code yX3_daysOn cX3_daysOn 5 (some .int), Cond.fieldLink RX3 32 "DollCitadelModel" "dolls" "I", Cond.fieldLink RX3 26 "DollCitadelModel" "day" "[I", Cond.methodLink RX3 123 yX3_dayOf, Cond.instanceMethod yX3_dayOf, Cond.selects RX3 yX3_dayOf yX3_dayOf, Cond.code yX3_dayOf cX3_dayOf 4 (some .int), Cond.fieldLink RX3 7 "DollCitadelModel" "moths" "I", Cond.methodLink RX3 120 Lib.Math.max.name, Cond.static Lib.Math.max.name, Cond.initialized "java/lang/Math", Cond.code Lib.Math.max.name Lib.Math.max.code 2 (some .int), Cond.fieldLink RX3 13 "DollCitadelModel" "limbs" "[I", Cond.methodLink RX3 64 Lib.Math.min.name, Cond.static Lib.Math.min.name, Cond.code Lib.Math.min.name Lib.Math.min.code 2 (some .int)]
def wsX3_pass_r2 : List Cond := [Cond.methodLink RX3 85 yX3_ro, Cond.instanceMethod yX3_ro, Cond.selects RX3 yX3_ro yX3_ro, Cond.code yX3_ro cX3_ro 3 (some .int), Cond.fieldLink RX3 17 "DollCitadelModel" "rooms" "[I", Cond.methodLink RX3 88 yX3_put, Cond.instanceMethod yX3_put, Cond.selects RX3 yX3_put yX3_put, Cond.code yX3_put cX3_put 4 none, Cond.methodLink RX3 56 yX3_li, Cond.instanceMethod yX3_li, Cond.selects RX3 yX3_li yX3_li, Cond.code yX3_li cX3_li 4 (some .int), Cond.methodLink RX3 42 yX3_at, Cond.static yX3_at, Cond.code yX3_at cX3_at 3 (some .int), Cond.methodLink RX3 46 yX3_fail, Cond.instanceMethod yX3_fail, Cond.selects RX3 yX3_fail yX3_fail, Cond.code yX3_fail cX3_fail 2 (some .int)]
def wsX3_pass : List Cond := .code yX3_pass cX3_pass 2 (some .int) :: ((wsX3_pass_r1 ++ wsX3_pass_r2) ++ wsX30)
def wsX3_mean : List Cond := .code yX3_mean cX3_mean 3 (some .double) :: ([.fieldLink RX3 29 "DollCitadelModel" "thrown" "I", .fieldLink RX3 32 "DollCitadelModel" "dolls" "I", .methodLink RX3 110 yX3_wearOf, .instanceMethod yX3_wearOf, .selects RX3 yX3_wearOf yX3_wearOf, .initialized RX3, .code yX3_wearOf cX3_wearOf 4 (some .int), .methodLink RX3 56 yX3_li, .instanceMethod yX3_li, .selects RX3 yX3_li yX3_li, .code yX3_li cX3_li 4 (some .int), .fieldLink RX3 13 "DollCitadelModel" "limbs" "[I", .methodLink RX3 42 yX3_at, .static yX3_at, .code yX3_at cX3_at 3 (some .int)] ++ wsX30)
def wsX3_digest_r1 : List Cond := [Cond.fieldLink RX3 29 "DollCitadelModel" "thrown" "I", Cond.constantLong RX3 129 (1063), Cond.constantLong RX3 131 (31), Cond.fieldLink RX3 39 "DollCitadelModel" "poses" "I", Cond.fieldLink RX3 20 "DollCitadelModel" "told" "[I", Cond.fieldLink RX3 32 "DollCitadelModel" "dolls" "I", Cond.methodLink RX3 98 yX3_counted, Cond.instanceMethod yX3_counted, Cond.selects RX3 yX3_counted yX3_counted, Cond.initialized RX3, Cond.code yX3_counted cX3_counted 5 (some .int), Cond.fieldLink RX3 23 "DollCitadelModel" "store" "[I", Cond.fieldLink RX3 26 "DollCitadelModel" "day" "[I", Cond.fieldLink RX3 7 "DollCitadelModel" "moths" "I", Cond.methodLink RX3 95 yX3_jointTold, Cond.instanceMethod yX3_jointTold, Cond.selects RX3 yX3_jointTold yX3_jointTold, Cond.code yX3_jointTold cX3_jointTold 4 (some .int), Cond.methodLink RX3 56 yX3_li, Cond.instanceMethod yX3_li, Cond.selects RX3 yX3_li yX3_li, Cond.code yX3_li cX3_li 4 (some .int), Cond.fieldLink RX3 13 "DollCitadelModel" "limbs" "[I", Cond.methodLink RX3 42 yX3_at]
def wsX3_digest_r2 : List Cond := [Cond.static yX3_at, Cond.code yX3_at cX3_at 3 (some .int), Cond.methodLink RX3 68 yX3_isBroken, Cond.instanceMethod yX3_isBroken, Cond.selects RX3 yX3_isBroken yX3_isBroken, Cond.code yX3_isBroken cX3_isBroken 3 (some .boolean), Cond.methodLink RX3 85 yX3_ro, Cond.instanceMethod yX3_ro, Cond.selects RX3 yX3_ro yX3_ro, Cond.code yX3_ro cX3_ro 3 (some .int), Cond.fieldLink RX3 17 "DollCitadelModel" "rooms" "[I"]
def wsX3_digest : List Cond := .code yX3_digest cX3_digest 6 (some .long) :: ((wsX3_digest_r1 ++ wsX3_digest_r2) ++ wsX30)
def wsJ9_abs_0f7a4 : List Cond := .code yJ9_abs_0f7a4 cJ9_abs_0f7a4 1 (some .int) :: ([])
def wsJ9_max_7cf53 : List Cond := .code yJ9_max_7cf53 cJ9_max_7cf53 2 (some .int) :: ([])
def wsJ9_min_7cf53 : List Cond := .code yJ9_min_7cf53 cJ9_min_7cf53 2 (some .int) :: ([])
def wsL_make_r1 : List Cond := [Cond.classLink RL 13 "java/lang/IllegalStateException", Cond.methodLink RL 7 yX2_make, Cond.instanceMethod yX2_make, Cond.selects RX2 yX2_make yX2_make, Cond.initialized RX2, Cond.code yX2_make cX2_make 2 (some .int), Cond.classLink RX2 48 "java/lang/IllegalStateException", Cond.initialized "java/lang/IllegalStateException", Cond.fieldLink RX2 35 "DollCitadel" "dollCount" "I", Cond.fieldLink RX2 11 "DollCitadel" "dolls" "[LDollCitadel$Doll;", Cond.classLink RX2 9 RX0, Cond.instantiable RX0 9, Cond.initialized RX0, Cond.methodLink RX2 30 yX0_init, Cond.instanceMethod yX0_init, Cond.code yX0_init cX0_init 2 none, Cond.methodLink RX0 3 objectInit, Cond.instanceMethod objectInit, Cond.code objectInit ⟨#[0xb1]⟩ 1 none, Cond.arrayClass .int, Cond.fieldLink RX0 9 "DollCitadel$Doll" "angles" "[I", Cond.fieldLink RX0 15 "DollCitadel$Doll" "wears" "[I", Cond.fieldLink RX0 18 "DollCitadel$Doll" "lacquers" "[I", Cond.arrayClass .boolean]
def wsL_make_r2 : List Cond := [Cond.fieldLink RX0 21 "DollCitadel$Doll" "open" "[Z", Cond.fieldLink RX0 25 "DollCitadel$Doll" "dusts" "[I", Cond.fieldLink RX0 28 "DollCitadel$Doll" "wigEaten" "I", Cond.fieldLink RX0 32 "DollCitadel$Doll" "weight" "I", Cond.fieldLink RX0 35 "DollCitadel$Doll" "pins" "I", Cond.fieldLink RX0 38 "DollCitadel$Doll" "posesTaken" "I"]
def wsL_make : List Cond := .codeWith yL_make cL_make 3 (some .int) [(0, 8, 11, 13)] :: ((wsL_make_r1 ++ wsL_make_r2) ++ wsX20 ++ wsX00 ++ (vx_atS RX2 52 "java/lang/IllegalStateException" ["java/lang/RuntimeException", "java/lang/Exception"]).filter goodWord)
def wsL_pose_r1 : List Cond := [Cond.classLink RL 19 "java/lang/IllegalArgumentException", Cond.classLink RL 13 "java/lang/IllegalStateException", Cond.methodLink RL 15 yX2_pose, Cond.instanceMethod yX2_pose, Cond.selects RX2 yX2_pose yX2_pose, Cond.initialized RX2, Cond.code yX2_pose cX2_pose 9 (some .int), Cond.classLink RX2 59 "java/lang/IllegalArgumentException", Cond.initialized "java/lang/IllegalArgumentException", Cond.classLink RX2 48 "java/lang/IllegalStateException", Cond.initialized "java/lang/IllegalStateException", Cond.fieldLink RX2 39 "DollCitadel" "poseCount" "I", Cond.fieldLink RX2 17 "DollCitadel" "poses" "[LDollCitadel$Pose;", Cond.classLink RX2 15 RX1, Cond.instantiable RX1 1, Cond.initialized RX1, Cond.fieldLink RX2 66 "DollCitadel$Pose" "angles" "[I", Cond.methodLink RX2 55 yX2_isAngle, Cond.static yX2_isAngle, Cond.code yX2_isAngle cX2_isAngle 1 (some .boolean), Cond.instanceMethod yX1_init, Cond.code yX1_init cX1_init 1 none, Cond.methodLink RX1 3 objectInit, Cond.instanceMethod objectInit]
def wsL_pose_r2 : List Cond := [Cond.code objectInit ⟨#[0xb1]⟩ 1 none, Cond.arrayClass .int, Cond.fieldLink RX1 9 "DollCitadel$Pose" "angles" "[I"]
def wsL_pose : List Cond := .codeWith yL_pose cL_pose 9 (some .int) [(0, 18, 21, 19), (0, 18, 25, 13)] :: ((wsL_pose_r1 ++ wsL_pose_r2) ++ wsX20 ++ wsX10 ++ (vx_atS RX2 63 "java/lang/IllegalArgumentException" ["java/lang/RuntimeException", "java/lang/Exception"]).filter goodWord ++ (vx_atS RX2 52 "java/lang/IllegalStateException" ["java/lang/RuntimeException", "java/lang/Exception"]).filter goodWord)
def wsL_take_r1 : List Cond := [Cond.classLink RL 25 "java/lang/IndexOutOfBoundsException", Cond.classLink RL 13 "java/lang/IllegalStateException", Cond.methodLink RL 21 yX2_take, Cond.instanceMethod yX2_take, Cond.selects RX2 yX2_take yX2_take, Cond.initialized RX2, Cond.code yX2_take cX2_take 6 (some .int), Cond.classLink RX2 48 "java/lang/IllegalStateException", Cond.initialized "java/lang/IllegalStateException", Cond.fieldLink RX2 91 "DollCitadel$Doll" "posesTaken" "I", Cond.methodLink RX2 69 yX2_knownDoll, Cond.instanceMethod yX2_knownDoll, Cond.selects RX2 yX2_knownDoll yX2_knownDoll, Cond.code yX2_knownDoll cX2_knownDoll 3 (some (.object "DollCitadel$Doll")), Cond.classLink RX2 94 "java/lang/IndexOutOfBoundsException", Cond.initialized "java/lang/IndexOutOfBoundsException", Cond.fieldLink RX2 11 "DollCitadel" "dolls" "[LDollCitadel$Doll;", Cond.methodLink RX2 73 yX2_knownPose, Cond.instanceMethod yX2_knownPose, Cond.selects RX2 yX2_knownPose yX2_knownPose, Cond.code yX2_knownPose cX2_knownPose 3 (some (.object "DollCitadel$Pose")), Cond.fieldLink RX2 17 "DollCitadel" "poses" "[LDollCitadel$Pose;", Cond.methodLink RX2 77 yX0_canTurnTo, Cond.instanceMethod yX0_canTurnTo]
def wsL_take_r2 : List Cond := [Cond.selects RX0 yX0_canTurnTo yX0_canTurnTo, Cond.initialized RX0, Cond.code yX0_canTurnTo cX0_canTurnTo 3 (some .boolean), Cond.fieldLink RX0 15 "DollCitadel$Doll" "wears" "[I", Cond.fieldLink RX0 9 "DollCitadel$Doll" "angles" "[I", Cond.fieldLink RX0 41 "DollCitadel$Pose" "angles" "[I", Cond.methodLink RX2 83 yX0_brokenJoints, Cond.instanceMethod yX0_brokenJoints, Cond.selects RX0 yX0_brokenJoints yX0_brokenJoints, Cond.code yX0_brokenJoints cX0_brokenJoints 1 (some .int), Cond.methodLink RX0 61 yX0_jointsWornBy, Cond.instanceMethod yX0_jointsWornBy, Cond.selects RX0 yX0_jointsWornBy yX0_jointsWornBy, Cond.code yX0_jointsWornBy cX0_jointsWornBy 7 (some .int), Cond.methodLink RX2 87 yX0_turnTo, Cond.instanceMethod yX0_turnTo, Cond.selects RX0 yX0_turnTo yX0_turnTo, Cond.code yX0_turnTo cX0_turnTo 4 none, Cond.methodLink RX0 44 Lib.Math.abs.name, Cond.static Lib.Math.abs.name, Cond.initialized "java/lang/Math", Cond.code Lib.Math.abs.name Lib.Math.abs.code 1 (some .int), Cond.fieldLink RX0 18 "DollCitadel$Doll" "lacquers" "[I", Cond.methodLink RX0 54 Lib.Math.max.name]
def wsL_take_r3 : List Cond := [Cond.static Lib.Math.max.name, Cond.code Lib.Math.max.name Lib.Math.max.code 2 (some .int), Cond.methodLink RX0 50 yX0_wearBehindTurn, Cond.static yX0_wearBehindTurn, Cond.code yX0_wearBehindTurn cX0_wearBehindTurn 4 (some .int), Cond.methodLink RX0 58 Lib.Math.min.name, Cond.static Lib.Math.min.name, Cond.code Lib.Math.min.name Lib.Math.min.code 2 (some .int)]
def wsL_take : List Cond := .codeWith yL_take cL_take 5 (some .int) [(0, 10, 13, 25), (0, 10, 17, 13)] :: ((wsL_take_r1 ++ (wsL_take_r2 ++ wsL_take_r3)) ++ wsX00 ++ wsX20 ++ wsX10 ++ (vx_atS RX2 52 "java/lang/IllegalStateException" ["java/lang/RuntimeException", "java/lang/Exception"]).filter goodWord ++ (vx_atS RX2 98 "java/lang/IndexOutOfBoundsException" ["java/lang/RuntimeException", "java/lang/Exception"]).filter goodWord)
def wsL_blink : List Cond := .codeWith yL_blink cL_blink 5 (some .int) [(0, 17, 20, 25), (0, 17, 24, 13)] :: ([.classLink RL 25 "java/lang/IndexOutOfBoundsException", .classLink RL 13 "java/lang/IllegalStateException", .methodLink RL 27 yX2_blink, .instanceMethod yX2_blink, .selects RX2 yX2_blink yX2_blink, .initialized RX2, .code yX2_blink cX2_blink 4 (some .boolean), .classLink RX2 94 "java/lang/IndexOutOfBoundsException", .initialized "java/lang/IndexOutOfBoundsException", .classLink RX2 48 "java/lang/IllegalStateException", .initialized "java/lang/IllegalStateException", .fieldLink RX2 99 "DollCitadel$Doll" "dusts" "[I", .fieldLink RX2 104 "DollCitadel$Doll" "open" "[Z", .methodLink RX2 69 yX2_knownDoll, .instanceMethod yX2_knownDoll, .selects RX2 yX2_knownDoll yX2_knownDoll, .code yX2_knownDoll cX2_knownDoll 3 (some (.object "DollCitadel$Doll")), .fieldLink RX2 11 "DollCitadel" "dolls" "[LDollCitadel$Doll;"] ++ wsX00 ++ wsX20 ++ (vx_atS RX2 98 "java/lang/IndexOutOfBoundsException" ["java/lang/RuntimeException", "java/lang/Exception"]).filter goodWord ++ (vx_atS RX2 52 "java/lang/IllegalStateException" ["java/lang/RuntimeException", "java/lang/Exception"]).filter goodWord)
def wsL_dress_r1 : List Cond := [Cond.classLink RL 25 "java/lang/IndexOutOfBoundsException", Cond.classLink RL 19 "java/lang/IllegalArgumentException", Cond.classLink RL 13 "java/lang/IllegalStateException", Cond.methodLink RL 31 yX2_dress, Cond.instanceMethod yX2_dress, Cond.selects RX2 yX2_dress yX2_dress, Cond.initialized RX2, Cond.code yX2_dress cX2_dress 6 (some .int), Cond.classLink RX2 59 "java/lang/IllegalArgumentException", Cond.initialized "java/lang/IllegalArgumentException", Cond.classLink RX2 48 "java/lang/IllegalStateException", Cond.initialized "java/lang/IllegalStateException", Cond.fieldLink RX2 21 "DollCitadel" "store" "[I", Cond.fieldLink RX2 112 "DollCitadel$Doll" "pins" "I", Cond.fieldLink RX2 115 "DollCitadel$Doll" "weight" "I", Cond.methodLink RX2 118 Lib.Math.min.name, Cond.static Lib.Math.min.name, Cond.initialized "java/lang/Math", Cond.code Lib.Math.min.name Lib.Math.min.code 2 (some .int), Cond.methodLink RX2 69 yX2_knownDoll, Cond.instanceMethod yX2_knownDoll, Cond.selects RX2 yX2_knownDoll yX2_knownDoll, Cond.code yX2_knownDoll cX2_knownDoll 3 (some (.object "DollCitadel$Doll")), Cond.classLink RX2 94 "java/lang/IndexOutOfBoundsException"]
def wsL_dress_r2 : List Cond := [Cond.initialized "java/lang/IndexOutOfBoundsException", Cond.fieldLink RX2 11 "DollCitadel" "dolls" "[LDollCitadel$Doll;"]
def wsL_dress : List Cond := .codeWith yL_dress cL_dress 6 (some .int) [(0, 12, 15, 25), (0, 12, 19, 19), (0, 12, 23, 13)] :: ((wsL_dress_r1 ++ wsL_dress_r2) ++ wsX20 ++ wsX00 ++ (vx_atS RX2 63 "java/lang/IllegalArgumentException" ["java/lang/RuntimeException", "java/lang/Exception"]).filter goodWord ++ (vx_atS RX2 52 "java/lang/IllegalStateException" ["java/lang/RuntimeException", "java/lang/Exception"]).filter goodWord ++ (vx_atS RX2 98 "java/lang/IndexOutOfBoundsException" ["java/lang/RuntimeException", "java/lang/Exception"]).filter goodWord)
def wsL_bring : List Cond := .codeWith yL_bring cL_bring 5 (some .int) [(0, 10, 13, 19)] :: ([.classLink RL 19 "java/lang/IllegalArgumentException", .methodLink RL 35 yX2_bring, .instanceMethod yX2_bring, .selects RX2 yX2_bring yX2_bring, .initialized RX2, .code yX2_bring cX2_bring 3 (some .int), .classLink RX2 59 "java/lang/IllegalArgumentException", .initialized "java/lang/IllegalArgumentException", .fieldLink RX2 21 "DollCitadel" "store" "[I", .methodLink RX2 118 Lib.Math.min.name, .static Lib.Math.min.name, .initialized "java/lang/Math", .code Lib.Math.min.name Lib.Math.min.code 2 (some .int)] ++ wsX20 ++ (vx_atS RX2 63 "java/lang/IllegalArgumentException" ["java/lang/RuntimeException", "java/lang/Exception"]).filter goodWord)
def wsL_setMoths : List Cond := .codeWith yL_setMoths cL_setMoths 4 (some .int) [(0, 9, 12, 19)] :: ([.classLink RL 19 "java/lang/IllegalArgumentException", .methodLink RL 38 yX2_setMoths, .instanceMethod yX2_setMoths, .selects RX2 yX2_setMoths yX2_setMoths, .initialized RX2, .code yX2_setMoths cX2_setMoths 3 (some .int), .classLink RX2 59 "java/lang/IllegalArgumentException", .initialized "java/lang/IllegalArgumentException", .fieldLink RX2 45 "DollCitadel" "moths" "I"] ++ wsX20 ++ (vx_atS RX2 63 "java/lang/IllegalArgumentException" ["java/lang/RuntimeException", "java/lang/Exception"]).filter goodWord)
def wsL_mend_r1 : List Cond := [Cond.classLink RL 25 "java/lang/IndexOutOfBoundsException", Cond.classLink RL 19 "java/lang/IllegalArgumentException", Cond.classLink RL 13 "java/lang/IllegalStateException", Cond.methodLink RL 42 yX2_mend, Cond.instanceMethod yX2_mend, Cond.selects RX2 yX2_mend yX2_mend, Cond.initialized RX2, Cond.code yX2_mend cX2_mend 5 (some .int), Cond.classLink RX2 94 "java/lang/IndexOutOfBoundsException", Cond.initialized "java/lang/IndexOutOfBoundsException", Cond.classLink RX2 59 "java/lang/IllegalArgumentException", Cond.initialized "java/lang/IllegalArgumentException", Cond.classLink RX2 48 "java/lang/IllegalStateException", Cond.initialized "java/lang/IllegalStateException", Cond.fieldLink RX2 21 "DollCitadel" "store" "[I", Cond.fieldLink RX2 138 "DollCitadel$Doll" "wears" "[I", Cond.fieldLink RX2 141 "DollCitadel$Doll" "lacquers" "[I", Cond.fieldLink RX2 112 "DollCitadel$Doll" "pins" "I", Cond.fieldLink RX2 147 "DollCitadel$Doll" "wigEaten" "I", Cond.methodLink RX2 69 yX2_knownDoll, Cond.instanceMethod yX2_knownDoll, Cond.selects RX2 yX2_knownDoll yX2_knownDoll, Cond.code yX2_knownDoll cX2_knownDoll 3 (some (.object "DollCitadel$Doll")), Cond.fieldLink RX2 11 "DollCitadel" "dolls" "[LDollCitadel$Doll;"]
def wsL_mend_r2 : List Cond := [Cond.methodLink RX2 132 yX0_hasRoomForPin, Cond.instanceMethod yX0_hasRoomForPin, Cond.selects RX0 yX0_hasRoomForPin yX0_hasRoomForPin, Cond.initialized RX0, Cond.code yX0_hasRoomForPin cX0_hasRoomForPin 1 (some .boolean), Cond.fieldLink RX0 32 "DollCitadel$Doll" "weight" "I", Cond.fieldLink RX0 35 "DollCitadel$Doll" "pins" "I", Cond.methodLink RX2 144 yX0_wipeEyes, Cond.instanceMethod yX0_wipeEyes, Cond.selects RX0 yX0_wipeEyes yX0_wipeEyes, Cond.code yX0_wipeEyes cX0_wipeEyes 2 none, Cond.fieldLink RX0 25 "DollCitadel$Doll" "dusts" "[I"]
def wsL_mend : List Cond := .codeWith yL_mend cL_mend 6 (some .int) [(0, 12, 15, 25), (0, 12, 19, 19), (0, 12, 23, 13)] :: ((wsL_mend_r1 ++ wsL_mend_r2) ++ wsX20 ++ wsX00 ++ (vx_atS RX2 98 "java/lang/IndexOutOfBoundsException" ["java/lang/RuntimeException", "java/lang/Exception"]).filter goodWord ++ (vx_atS RX2 63 "java/lang/IllegalArgumentException" ["java/lang/RuntimeException", "java/lang/Exception"]).filter goodWord ++ (vx_atS RX2 52 "java/lang/IllegalStateException" ["java/lang/RuntimeException", "java/lang/Exception"]).filter goodWord)
def wsL_joint : List Cond := .codeWith yL_joint cL_joint 6 (some .int) [(0, 12, 15, 25)] :: ([.classLink RL 25 "java/lang/IndexOutOfBoundsException", .methodLink RL 45 yX2_joint, .instanceMethod yX2_joint, .selects RX2 yX2_joint yX2_joint, .initialized RX2, .code yX2_joint cX2_joint 5 (some .int), .classLink RX2 94 "java/lang/IndexOutOfBoundsException", .initialized "java/lang/IndexOutOfBoundsException", .fieldLink RX2 152 "DollCitadel$Doll" "angles" "[I", .fieldLink RX2 138 "DollCitadel$Doll" "wears" "[I", .fieldLink RX2 141 "DollCitadel$Doll" "lacquers" "[I", .methodLink RX2 69 yX2_knownDoll, .instanceMethod yX2_knownDoll, .selects RX2 yX2_knownDoll yX2_knownDoll, .code yX2_knownDoll cX2_knownDoll 3 (some (.object "DollCitadel$Doll")), .fieldLink RX2 11 "DollCitadel" "dolls" "[LDollCitadel$Doll;"] ++ wsX00 ++ wsX20 ++ (vx_atS RX2 98 "java/lang/IndexOutOfBoundsException" ["java/lang/RuntimeException", "java/lang/Exception"]).filter goodWord)
def wsL_doll : List Cond := .codeWith yL_doll cL_doll 5 (some .int) [(0, 10, 13, 25)] :: ([.classLink RL 25 "java/lang/IndexOutOfBoundsException", .methodLink RL 48 yX2_doll, .instanceMethod yX2_doll, .selects RX2 yX2_doll yX2_doll, .initialized RX2, .code yX2_doll cX2_doll 4 (some .int), .classLink RX2 94 "java/lang/IndexOutOfBoundsException", .initialized "java/lang/IndexOutOfBoundsException", .fieldLink RX2 104 "DollCitadel$Doll" "open" "[Z", .fieldLink RX2 99 "DollCitadel$Doll" "dusts" "[I", .fieldLink RX2 147 "DollCitadel$Doll" "wigEaten" "I", .fieldLink RX2 115 "DollCitadel$Doll" "weight" "I", .fieldLink RX2 112 "DollCitadel$Doll" "pins" "I", .fieldLink RX2 91 "DollCitadel$Doll" "posesTaken" "I", .methodLink RX2 69 yX2_knownDoll, .instanceMethod yX2_knownDoll, .selects RX2 yX2_knownDoll yX2_knownDoll, .code yX2_knownDoll cX2_knownDoll 3 (some (.object "DollCitadel$Doll")), .fieldLink RX2 11 "DollCitadel" "dolls" "[LDollCitadel$Doll;"] ++ wsX00 ++ wsX20 ++ (vx_atS RX2 98 "java/lang/IndexOutOfBoundsException" ["java/lang/RuntimeException", "java/lang/Exception"]).filter goodWord)
def wsL_count_r1 : List Cond := [Cond.classLink RL 25 "java/lang/IndexOutOfBoundsException", Cond.methodLink RL 51 yX2_count, Cond.instanceMethod yX2_count, Cond.selects RX2 yX2_count yX2_count, Cond.initialized RX2, Cond.code yX2_count cX2_count 2 (some .int), Cond.classLink RX2 94 "java/lang/IndexOutOfBoundsException", Cond.initialized "java/lang/IndexOutOfBoundsException", Cond.fieldLink RX2 21 "DollCitadel" "store" "[I", Cond.fieldLink RX2 42 "DollCitadel" "day" "I", Cond.fieldLink RX2 35 "DollCitadel" "dollCount" "I", Cond.fieldLink RX2 39 "DollCitadel" "poseCount" "I", Cond.fieldLink RX2 45 "DollCitadel" "moths" "I", Cond.methodLink RX2 157 yX2_tallyOfAll, Cond.instanceMethod yX2_tallyOfAll, Cond.selects RX2 yX2_tallyOfAll yX2_tallyOfAll, Cond.code yX2_tallyOfAll cX2_tallyOfAll 7 (some .int), Cond.fieldLink RX2 11 "DollCitadel" "dolls" "[LDollCitadel$Doll;", Cond.methodLink RX2 185 yX0_tally, Cond.instanceMethod yX0_tally, Cond.selects RX0 yX0_tally yX0_tally, Cond.initialized RX0, Cond.code yX0_tally cX0_tally 2 (some .int), Cond.fieldLink RX0 28 "DollCitadel$Doll" "wigEaten" "I"]
def wsL_count_r2 : List Cond := [Cond.fieldLink RX0 32 "DollCitadel$Doll" "weight" "I", Cond.methodLink RX0 64 yX0_brokenJoints, Cond.instanceMethod yX0_brokenJoints, Cond.selects RX0 yX0_brokenJoints yX0_brokenJoints, Cond.code yX0_brokenJoints cX0_brokenJoints 1 (some .int), Cond.methodLink RX0 61 yX0_jointsWornBy, Cond.instanceMethod yX0_jointsWornBy, Cond.selects RX0 yX0_jointsWornBy yX0_jointsWornBy, Cond.code yX0_jointsWornBy cX0_jointsWornBy 7 (some .int), Cond.fieldLink RX0 15 "DollCitadel$Doll" "wears" "[I", Cond.methodLink RX0 68 yX0_eyesWithDust, Cond.instanceMethod yX0_eyesWithDust, Cond.selects RX0 yX0_eyesWithDust yX0_eyesWithDust, Cond.code yX0_eyesWithDust cX0_eyesWithDust 7 (some .int), Cond.fieldLink RX0 25 "DollCitadel$Doll" "dusts" "[I"]
def wsL_count : List Cond := .codeWith yL_count cL_count 4 (some .int) [(0, 9, 12, 25)] :: ((wsL_count_r1 ++ wsL_count_r2) ++ wsX20 ++ wsX00 ++ (vx_atS RX2 98 "java/lang/IndexOutOfBoundsException" ["java/lang/RuntimeException", "java/lang/Exception"]).filter goodWord)
def wsL_costs_r1 : List Cond := [Cond.classLink RL 25 "java/lang/IndexOutOfBoundsException", Cond.methodLink RL 54 yX2_costs, Cond.instanceMethod yX2_costs, Cond.selects RX2 yX2_costs yX2_costs, Cond.initialized RX2, Cond.code yX2_costs cX2_costs 5 (some .int), Cond.fieldLink RX2 31 "DollCitadel" "trial" "LDollCitadel$Doll;", Cond.methodLink RX2 69 yX2_knownDoll, Cond.instanceMethod yX2_knownDoll, Cond.selects RX2 yX2_knownDoll yX2_knownDoll, Cond.code yX2_knownDoll cX2_knownDoll 3 (some (.object "DollCitadel$Doll")), Cond.classLink RX2 94 "java/lang/IndexOutOfBoundsException", Cond.initialized "java/lang/IndexOutOfBoundsException", Cond.fieldLink RX2 11 "DollCitadel" "dolls" "[LDollCitadel$Doll;", Cond.methodLink RX2 73 yX2_knownPose, Cond.instanceMethod yX2_knownPose, Cond.selects RX2 yX2_knownPose yX2_knownPose, Cond.code yX2_knownPose cX2_knownPose 3 (some (.object "DollCitadel$Pose")), Cond.fieldLink RX2 17 "DollCitadel" "poses" "[LDollCitadel$Pose;", Cond.methodLink RX2 77 yX0_canTurnTo, Cond.instanceMethod yX0_canTurnTo, Cond.selects RX0 yX0_canTurnTo yX0_canTurnTo, Cond.initialized RX0, Cond.code yX0_canTurnTo cX0_canTurnTo 3 (some .boolean)]
def wsL_costs_r2 : List Cond := [Cond.fieldLink RX0 15 "DollCitadel$Doll" "wears" "[I", Cond.fieldLink RX0 9 "DollCitadel$Doll" "angles" "[I", Cond.fieldLink RX0 41 "DollCitadel$Pose" "angles" "[I", Cond.methodLink RX2 161 yX0_becomeLike, Cond.instanceMethod yX0_becomeLike, Cond.selects RX0 yX0_becomeLike yX0_becomeLike, Cond.code yX0_becomeLike cX0_becomeLike 3 none, Cond.fieldLink RX0 18 "DollCitadel$Doll" "lacquers" "[I", Cond.fieldLink RX0 21 "DollCitadel$Doll" "open" "[Z", Cond.fieldLink RX0 25 "DollCitadel$Doll" "dusts" "[I", Cond.fieldLink RX0 28 "DollCitadel$Doll" "wigEaten" "I", Cond.fieldLink RX0 32 "DollCitadel$Doll" "weight" "I", Cond.fieldLink RX0 35 "DollCitadel$Doll" "pins" "I", Cond.fieldLink RX0 38 "DollCitadel$Doll" "posesTaken" "I", Cond.methodLink RX2 87 yX0_turnTo, Cond.instanceMethod yX0_turnTo, Cond.selects RX0 yX0_turnTo yX0_turnTo, Cond.code yX0_turnTo cX0_turnTo 4 none, Cond.methodLink RX0 44 Lib.Math.abs.name, Cond.static Lib.Math.abs.name, Cond.initialized "java/lang/Math", Cond.code Lib.Math.abs.name Lib.Math.abs.code 1 (some .int), Cond.methodLink RX0 54 Lib.Math.max.name, Cond.static Lib.Math.max.name]
def wsL_costs_r3 : List Cond := [Cond.code Lib.Math.max.name Lib.Math.max.code 2 (some .int), Cond.methodLink RX0 50 yX0_wearBehindTurn, Cond.static yX0_wearBehindTurn, Cond.code yX0_wearBehindTurn cX0_wearBehindTurn 4 (some .int), Cond.methodLink RX0 58 Lib.Math.min.name, Cond.static Lib.Math.min.name, Cond.code Lib.Math.min.name Lib.Math.min.code 2 (some .int), Cond.methodLink RX2 165 yX0_wearOfAllJoints, Cond.instanceMethod yX0_wearOfAllJoints, Cond.selects RX0 yX0_wearOfAllJoints yX0_wearOfAllJoints, Cond.code yX0_wearOfAllJoints cX0_wearOfAllJoints 6 (some .int)]
def wsL_costs : List Cond := .codeWith yL_costs cL_costs 5 (some .int) [(0, 10, 13, 25)] :: ((wsL_costs_r1 ++ (wsL_costs_r2 ++ wsL_costs_r3)) ++ wsX20 ++ wsX00 ++ wsX10 ++ (vx_atS RX2 98 "java/lang/IndexOutOfBoundsException" ["java/lang/RuntimeException", "java/lang/Exception"]).filter goodWord)
def wsL_often_r1 : List Cond := [Cond.classLink RL 25 "java/lang/IndexOutOfBoundsException", Cond.methodLink RL 57 yX2_often, Cond.instanceMethod yX2_often, Cond.selects RX2 yX2_often yX2_often, Cond.initialized RX2, Cond.code yX2_often cX2_often 6 (some .int), Cond.fieldLink RX2 31 "DollCitadel" "trial" "LDollCitadel$Doll;", Cond.fieldLink RX2 26 "DollCitadel" "rest" "LDollCitadel$Pose;", Cond.methodLink RX2 69 yX2_knownDoll, Cond.instanceMethod yX2_knownDoll, Cond.selects RX2 yX2_knownDoll yX2_knownDoll, Cond.code yX2_knownDoll cX2_knownDoll 3 (some (.object "DollCitadel$Doll")), Cond.classLink RX2 94 "java/lang/IndexOutOfBoundsException", Cond.initialized "java/lang/IndexOutOfBoundsException", Cond.fieldLink RX2 11 "DollCitadel" "dolls" "[LDollCitadel$Doll;", Cond.methodLink RX2 73 yX2_knownPose, Cond.instanceMethod yX2_knownPose, Cond.selects RX2 yX2_knownPose yX2_knownPose, Cond.code yX2_knownPose cX2_knownPose 3 (some (.object "DollCitadel$Pose")), Cond.fieldLink RX2 17 "DollCitadel" "poses" "[LDollCitadel$Pose;", Cond.methodLink RX2 161 yX0_becomeLike, Cond.instanceMethod yX0_becomeLike, Cond.selects RX0 yX0_becomeLike yX0_becomeLike, Cond.initialized RX0]
def wsL_often_r2 : List Cond := [Cond.code yX0_becomeLike cX0_becomeLike 3 none, Cond.fieldLink RX0 9 "DollCitadel$Doll" "angles" "[I", Cond.fieldLink RX0 15 "DollCitadel$Doll" "wears" "[I", Cond.fieldLink RX0 18 "DollCitadel$Doll" "lacquers" "[I", Cond.fieldLink RX0 21 "DollCitadel$Doll" "open" "[Z", Cond.fieldLink RX0 25 "DollCitadel$Doll" "dusts" "[I", Cond.fieldLink RX0 28 "DollCitadel$Doll" "wigEaten" "I", Cond.fieldLink RX0 32 "DollCitadel$Doll" "weight" "I", Cond.fieldLink RX0 35 "DollCitadel$Doll" "pins" "I", Cond.fieldLink RX0 38 "DollCitadel$Doll" "posesTaken" "I", Cond.methodLink RX2 77 yX0_canTurnTo, Cond.instanceMethod yX0_canTurnTo, Cond.selects RX0 yX0_canTurnTo yX0_canTurnTo, Cond.code yX0_canTurnTo cX0_canTurnTo 3 (some .boolean), Cond.fieldLink RX0 41 "DollCitadel$Pose" "angles" "[I", Cond.methodLink RX2 87 yX0_turnTo, Cond.instanceMethod yX0_turnTo, Cond.selects RX0 yX0_turnTo yX0_turnTo, Cond.code yX0_turnTo cX0_turnTo 4 none, Cond.methodLink RX0 44 Lib.Math.abs.name, Cond.static Lib.Math.abs.name, Cond.initialized "java/lang/Math", Cond.code Lib.Math.abs.name Lib.Math.abs.code 1 (some .int), Cond.methodLink RX0 54 Lib.Math.max.name]
def wsL_often_r3 : List Cond := [Cond.static Lib.Math.max.name, Cond.code Lib.Math.max.name Lib.Math.max.code 2 (some .int), Cond.methodLink RX0 50 yX0_wearBehindTurn, Cond.static yX0_wearBehindTurn, Cond.code yX0_wearBehindTurn cX0_wearBehindTurn 4 (some .int), Cond.methodLink RX0 58 Lib.Math.min.name, Cond.static Lib.Math.min.name, Cond.code Lib.Math.min.name Lib.Math.min.code 2 (some .int)]
def wsL_often : List Cond := .codeWith yL_often cL_often 5 (some .int) [(0, 10, 13, 25)] :: ((wsL_often_r1 ++ (wsL_often_r2 ++ wsL_often_r3)) ++ wsX20 ++ wsX00 ++ wsX10 ++ (vx_atS RX2 98 "java/lang/IndexOutOfBoundsException" ["java/lang/RuntimeException", "java/lang/Exception"]).filter goodWord)
def wsL_needs_r1 : List Cond := [Cond.classLink RL 25 "java/lang/IndexOutOfBoundsException", Cond.classLink RL 19 "java/lang/IllegalArgumentException", Cond.methodLink RL 60 yX2_needs, Cond.instanceMethod yX2_needs, Cond.selects RX2 yX2_needs yX2_needs, Cond.initialized RX2, Cond.code yX2_needs cX2_needs 4 (some .int), Cond.classLink RX2 59 "java/lang/IllegalArgumentException", Cond.initialized "java/lang/IllegalArgumentException", Cond.methodLink RX2 69 yX2_knownDoll, Cond.instanceMethod yX2_knownDoll, Cond.selects RX2 yX2_knownDoll yX2_knownDoll, Cond.code yX2_knownDoll cX2_knownDoll 3 (some (.object "DollCitadel$Doll")), Cond.classLink RX2 94 "java/lang/IndexOutOfBoundsException", Cond.initialized "java/lang/IndexOutOfBoundsException", Cond.fieldLink RX2 11 "DollCitadel" "dolls" "[LDollCitadel$Doll;", Cond.methodLink RX2 168 yX0_wants, Cond.instanceMethod yX0_wants, Cond.selects RX0 yX0_wants yX0_wants, Cond.initialized RX0, Cond.code yX0_wants cX0_wants 2 (some .int), Cond.fieldLink RX0 32 "DollCitadel$Doll" "weight" "I", Cond.fieldLink RX0 35 "DollCitadel$Doll" "pins" "I", Cond.fieldLink RX0 28 "DollCitadel$Doll" "wigEaten" "I"]
def wsL_needs_r2 : List Cond := [Cond.methodLink RX0 61 yX0_jointsWornBy, Cond.instanceMethod yX0_jointsWornBy, Cond.selects RX0 yX0_jointsWornBy yX0_jointsWornBy, Cond.code yX0_jointsWornBy cX0_jointsWornBy 7 (some .int), Cond.fieldLink RX0 15 "DollCitadel$Doll" "wears" "[I", Cond.methodLink RX0 71 yX0_jointsWithoutLacquer, Cond.instanceMethod yX0_jointsWithoutLacquer, Cond.selects RX0 yX0_jointsWithoutLacquer yX0_jointsWithoutLacquer, Cond.code yX0_jointsWithoutLacquer cX0_jointsWithoutLacquer 6 (some .int), Cond.fieldLink RX0 18 "DollCitadel$Doll" "lacquers" "[I", Cond.methodLink RX0 68 yX0_eyesWithDust, Cond.instanceMethod yX0_eyesWithDust, Cond.selects RX0 yX0_eyesWithDust yX0_eyesWithDust, Cond.code yX0_eyesWithDust cX0_eyesWithDust 7 (some .int), Cond.fieldLink RX0 25 "DollCitadel$Doll" "dusts" "[I"]
def wsL_needs : List Cond := .codeWith yL_needs cL_needs 5 (some .int) [(0, 10, 13, 25), (0, 10, 17, 19)] :: ((wsL_needs_r1 ++ wsL_needs_r2) ++ wsX20 ++ wsX00 ++ (vx_atS RX2 63 "java/lang/IllegalArgumentException" ["java/lang/RuntimeException", "java/lang/Exception"]).filter goodWord ++ (vx_atS RX2 98 "java/lang/IndexOutOfBoundsException" ["java/lang/RuntimeException", "java/lang/Exception"]).filter goodWord)
def wsL_lacks_r1 : List Cond := [Cond.classLink RL 19 "java/lang/IllegalArgumentException", Cond.methodLink RL 63 yX2_lacks, Cond.instanceMethod yX2_lacks, Cond.selects RX2 yX2_lacks yX2_lacks, Cond.initialized RX2, Cond.code yX2_lacks cX2_lacks 7 (some .int), Cond.classLink RX2 59 "java/lang/IllegalArgumentException", Cond.initialized "java/lang/IllegalArgumentException", Cond.fieldLink RX2 11 "DollCitadel" "dolls" "[LDollCitadel$Doll;", Cond.fieldLink RX2 21 "DollCitadel" "store" "[I", Cond.methodLink RX2 171 Lib.Math.max.name, Cond.static Lib.Math.max.name, Cond.initialized "java/lang/Math", Cond.code Lib.Math.max.name Lib.Math.max.code 2 (some .int), Cond.methodLink RX2 168 yX0_wants, Cond.instanceMethod yX0_wants, Cond.selects RX0 yX0_wants yX0_wants, Cond.initialized RX0, Cond.code yX0_wants cX0_wants 2 (some .int), Cond.fieldLink RX0 32 "DollCitadel$Doll" "weight" "I", Cond.fieldLink RX0 35 "DollCitadel$Doll" "pins" "I", Cond.fieldLink RX0 28 "DollCitadel$Doll" "wigEaten" "I", Cond.methodLink RX0 61 yX0_jointsWornBy, Cond.instanceMethod yX0_jointsWornBy]
def wsL_lacks_r2 : List Cond := [Cond.selects RX0 yX0_jointsWornBy yX0_jointsWornBy, Cond.code yX0_jointsWornBy cX0_jointsWornBy 7 (some .int), Cond.fieldLink RX0 15 "DollCitadel$Doll" "wears" "[I", Cond.methodLink RX0 71 yX0_jointsWithoutLacquer, Cond.instanceMethod yX0_jointsWithoutLacquer, Cond.selects RX0 yX0_jointsWithoutLacquer yX0_jointsWithoutLacquer, Cond.code yX0_jointsWithoutLacquer cX0_jointsWithoutLacquer 6 (some .int), Cond.fieldLink RX0 18 "DollCitadel$Doll" "lacquers" "[I", Cond.methodLink RX0 68 yX0_eyesWithDust, Cond.instanceMethod yX0_eyesWithDust, Cond.selects RX0 yX0_eyesWithDust yX0_eyesWithDust, Cond.code yX0_eyesWithDust cX0_eyesWithDust 7 (some .int), Cond.fieldLink RX0 25 "DollCitadel$Doll" "dusts" "[I"]
def wsL_lacks : List Cond := .codeWith yL_lacks cL_lacks 4 (some .int) [(0, 9, 12, 19)] :: ((wsL_lacks_r1 ++ wsL_lacks_r2) ++ wsX20 ++ wsX00 ++ (vx_atS RX2 63 "java/lang/IllegalArgumentException" ["java/lang/RuntimeException", "java/lang/Exception"]).filter goodWord)
def wsL_foresee_r1 : List Cond := [Cond.classLink RL 19 "java/lang/IllegalArgumentException", Cond.classLink RL 25 "java/lang/IndexOutOfBoundsException", Cond.methodLink RL 66 yX2_foresee, Cond.instanceMethod yX2_foresee, Cond.selects RX2 yX2_foresee yX2_foresee, Cond.initialized RX2, Cond.code yX2_foresee cX2_foresee 8 (some .int), Cond.classLink RX2 59 "java/lang/IllegalArgumentException", Cond.initialized "java/lang/IllegalArgumentException", Cond.classLink RX2 94 "java/lang/IndexOutOfBoundsException", Cond.initialized "java/lang/IndexOutOfBoundsException", Cond.fieldLink RX2 11 "DollCitadel" "dolls" "[LDollCitadel$Doll;", Cond.fieldLink RX2 31 "DollCitadel" "trial" "LDollCitadel$Doll;", Cond.methodLink RX2 161 yX0_becomeLike, Cond.instanceMethod yX0_becomeLike, Cond.selects RX0 yX0_becomeLike yX0_becomeLike, Cond.initialized RX0, Cond.code yX0_becomeLike cX0_becomeLike 3 none, Cond.fieldLink RX0 9 "DollCitadel$Doll" "angles" "[I", Cond.fieldLink RX0 15 "DollCitadel$Doll" "wears" "[I", Cond.fieldLink RX0 18 "DollCitadel$Doll" "lacquers" "[I", Cond.fieldLink RX0 21 "DollCitadel$Doll" "open" "[Z", Cond.fieldLink RX0 25 "DollCitadel$Doll" "dusts" "[I", Cond.fieldLink RX0 28 "DollCitadel$Doll" "wigEaten" "I"]
def wsL_foresee_r2 : List Cond := [Cond.fieldLink RX0 32 "DollCitadel$Doll" "weight" "I", Cond.fieldLink RX0 35 "DollCitadel$Doll" "pins" "I", Cond.fieldLink RX0 38 "DollCitadel$Doll" "posesTaken" "I", Cond.methodLink RX2 181 yX2_liveThrough, Cond.instanceMethod yX2_liveThrough, Cond.selects RX2 yX2_liveThrough yX2_liveThrough, Cond.code yX2_liveThrough cX2_liveThrough 5 (some .int), Cond.fieldLink RX2 42 "DollCitadel" "day" "I", Cond.fieldLink RX2 45 "DollCitadel" "moths" "I", Cond.methodLink RX2 214 yX0_liveOneDay, Cond.instanceMethod yX0_liveOneDay, Cond.selects RX0 yX0_liveOneDay yX0_liveOneDay, Cond.code yX0_liveOneDay cX0_liveOneDay 5 (some .int), Cond.methodLink RX0 77 yX0_tally, Cond.instanceMethod yX0_tally, Cond.selects RX0 yX0_tally yX0_tally, Cond.code yX0_tally cX0_tally 2 (some .int), Cond.methodLink RX0 64 yX0_brokenJoints, Cond.instanceMethod yX0_brokenJoints, Cond.selects RX0 yX0_brokenJoints yX0_brokenJoints, Cond.code yX0_brokenJoints cX0_brokenJoints 1 (some .int), Cond.methodLink RX0 61 yX0_jointsWornBy, Cond.instanceMethod yX0_jointsWornBy, Cond.selects RX0 yX0_jointsWornBy yX0_jointsWornBy]
def wsL_foresee_r3 : List Cond := [Cond.code yX0_jointsWornBy cX0_jointsWornBy 7 (some .int), Cond.methodLink RX0 68 yX0_eyesWithDust, Cond.instanceMethod yX0_eyesWithDust, Cond.selects RX0 yX0_eyesWithDust yX0_eyesWithDust, Cond.code yX0_eyesWithDust cX0_eyesWithDust 7 (some .int), Cond.methodLink RX0 80 yX0_eatWig, Cond.instanceMethod yX0_eatWig, Cond.selects RX0 yX0_eatWig yX0_eatWig, Cond.code yX0_eatWig cX0_eatWig 2 none, Cond.methodLink RX0 84 yX0_loosenDress, Cond.instanceMethod yX0_loosenDress, Cond.selects RX0 yX0_loosenDress yX0_loosenDress, Cond.code yX0_loosenDress cX0_loosenDress 1 none, Cond.methodLink RX0 54 Lib.Math.max.name, Cond.static Lib.Math.max.name, Cond.initialized "java/lang/Math", Cond.code Lib.Math.max.name Lib.Math.max.code 2 (some .int), Cond.methodLink RX0 87 yX0_dryLacquer, Cond.instanceMethod yX0_dryLacquer, Cond.selects RX0 yX0_dryLacquer yX0_dryLacquer, Cond.code yX0_dryLacquer cX0_dryLacquer 2 none, Cond.methodLink RX0 90 yX0_gatherDust, Cond.instanceMethod yX0_gatherDust, Cond.selects RX0 yX0_gatherDust yX0_gatherDust]
def wsL_foresee_r4 : List Cond := [Cond.code yX0_gatherDust cX0_gatherDust 2 none, Cond.methodLink RX0 58 Lib.Math.min.name, Cond.static Lib.Math.min.name, Cond.code Lib.Math.min.name Lib.Math.min.code 2 (some .int), Cond.methodLink RX2 185 yX0_tally]
def wsL_foresee : List Cond := .codeWith yL_foresee cL_foresee 5 (some .int) [(0, 10, 13, 19), (0, 10, 17, 25)] :: ((wsL_foresee_r1 ++ (wsL_foresee_r2 ++ (wsL_foresee_r3 ++ wsL_foresee_r4))) ++ wsX20 ++ wsX00 ++ (vx_atS RX2 63 "java/lang/IllegalArgumentException" ["java/lang/RuntimeException", "java/lang/Exception"]).filter goodWord ++ (vx_atS RX2 98 "java/lang/IndexOutOfBoundsException" ["java/lang/RuntimeException", "java/lang/Exception"]).filter goodWord)
def wsL_pass_r1 : List Cond := [Cond.classLink RL 19 "java/lang/IllegalArgumentException", Cond.methodLink RL 69 yX2_pass, Cond.instanceMethod yX2_pass, Cond.selects RX2 yX2_pass yX2_pass, Cond.initialized RX2, Cond.code yX2_pass cX2_pass 7 (some .int), Cond.classLink RX2 59 "java/lang/IllegalArgumentException", Cond.initialized "java/lang/IllegalArgumentException", Cond.fieldLink RX2 11 "DollCitadel" "dolls" "[LDollCitadel$Doll;", Cond.fieldLink RX2 42 "DollCitadel" "day" "I", Cond.methodLink RX2 181 yX2_liveThrough, Cond.instanceMethod yX2_liveThrough, Cond.selects RX2 yX2_liveThrough yX2_liveThrough, Cond.code yX2_liveThrough cX2_liveThrough 5 (some .int), Cond.fieldLink RX2 45 "DollCitadel" "moths" "I", Cond.methodLink RX2 214 yX0_liveOneDay, Cond.instanceMethod yX0_liveOneDay, Cond.selects RX0 yX0_liveOneDay yX0_liveOneDay, Cond.initialized RX0, Cond.code yX0_liveOneDay cX0_liveOneDay 5 (some .int), Cond.methodLink RX0 77 yX0_tally, Cond.instanceMethod yX0_tally, Cond.selects RX0 yX0_tally yX0_tally, Cond.code yX0_tally cX0_tally 2 (some .int)]
def wsL_pass_r2 : List Cond := [Cond.fieldLink RX0 28 "DollCitadel$Doll" "wigEaten" "I", Cond.fieldLink RX0 32 "DollCitadel$Doll" "weight" "I", Cond.methodLink RX0 64 yX0_brokenJoints, Cond.instanceMethod yX0_brokenJoints, Cond.selects RX0 yX0_brokenJoints yX0_brokenJoints, Cond.code yX0_brokenJoints cX0_brokenJoints 1 (some .int), Cond.methodLink RX0 61 yX0_jointsWornBy, Cond.instanceMethod yX0_jointsWornBy, Cond.selects RX0 yX0_jointsWornBy yX0_jointsWornBy, Cond.code yX0_jointsWornBy cX0_jointsWornBy 7 (some .int), Cond.fieldLink RX0 15 "DollCitadel$Doll" "wears" "[I", Cond.methodLink RX0 68 yX0_eyesWithDust, Cond.instanceMethod yX0_eyesWithDust, Cond.selects RX0 yX0_eyesWithDust yX0_eyesWithDust, Cond.code yX0_eyesWithDust cX0_eyesWithDust 7 (some .int), Cond.fieldLink RX0 25 "DollCitadel$Doll" "dusts" "[I", Cond.methodLink RX0 80 yX0_eatWig, Cond.instanceMethod yX0_eatWig, Cond.selects RX0 yX0_eatWig yX0_eatWig, Cond.code yX0_eatWig cX0_eatWig 2 none, Cond.methodLink RX0 84 yX0_loosenDress, Cond.instanceMethod yX0_loosenDress, Cond.selects RX0 yX0_loosenDress yX0_loosenDress, Cond.code yX0_loosenDress cX0_loosenDress 1 none]
def wsL_pass_r3 : List Cond := [Cond.fieldLink RX0 35 "DollCitadel$Doll" "pins" "I", Cond.methodLink RX0 54 Lib.Math.max.name, Cond.static Lib.Math.max.name, Cond.initialized "java/lang/Math", Cond.code Lib.Math.max.name Lib.Math.max.code 2 (some .int), Cond.methodLink RX0 87 yX0_dryLacquer, Cond.instanceMethod yX0_dryLacquer, Cond.selects RX0 yX0_dryLacquer yX0_dryLacquer, Cond.code yX0_dryLacquer cX0_dryLacquer 2 none, Cond.fieldLink RX0 18 "DollCitadel$Doll" "lacquers" "[I", Cond.methodLink RX0 90 yX0_gatherDust, Cond.instanceMethod yX0_gatherDust, Cond.selects RX0 yX0_gatherDust yX0_gatherDust, Cond.code yX0_gatherDust cX0_gatherDust 2 none, Cond.fieldLink RX0 21 "DollCitadel$Doll" "open" "[Z", Cond.methodLink RX0 58 Lib.Math.min.name, Cond.static Lib.Math.min.name, Cond.code Lib.Math.min.name Lib.Math.min.code 2 (some .int)]
def wsL_pass : List Cond := .codeWith yL_pass cL_pass 4 (some .int) [(0, 9, 12, 19)] :: ((wsL_pass_r1 ++ (wsL_pass_r2 ++ wsL_pass_r3)) ++ wsX20 ++ wsX00 ++ (vx_atS RX2 63 "java/lang/IllegalArgumentException" ["java/lang/RuntimeException", "java/lang/Exception"]).filter goodWord)
def wsL_law0_r1 : List Cond := [Cond.classLink RL 8 RX2, Cond.instantiable RX2 9, Cond.initialized RX2, Cond.classLink RL 73 RX3, Cond.instantiable RX3 9, Cond.initialized RX3, Cond.arrayClass .long, Cond.methodLink RL 72 yX2_init, Cond.instanceMethod yX2_init, Cond.code yX2_init cX2_init 1 none, Cond.methodLink RX2 1 objectInit, Cond.instanceMethod objectInit, Cond.code objectInit ⟨#[0xb1]⟩ 1 none, Cond.classLink RX2 9 RX0, Cond.fieldLink RX2 11 "DollCitadel" "dolls" "[LDollCitadel$Doll;", Cond.classLink RX2 15 RX1, Cond.fieldLink RX2 17 "DollCitadel" "poses" "[LDollCitadel$Pose;", Cond.arrayClass .int, Cond.fieldLink RX2 21 "DollCitadel" "store" "[I", Cond.instantiable RX1 1, Cond.initialized RX1, Cond.fieldLink RX2 26 "DollCitadel" "rest" "LDollCitadel$Pose;", Cond.instantiable RX0 9, Cond.initialized RX0]
def wsL_law0_r2 : List Cond := [Cond.fieldLink RX2 31 "DollCitadel" "trial" "LDollCitadel$Doll;", Cond.fieldLink RX2 35 "DollCitadel" "dollCount" "I", Cond.fieldLink RX2 39 "DollCitadel" "poseCount" "I", Cond.fieldLink RX2 42 "DollCitadel" "day" "I", Cond.fieldLink RX2 45 "DollCitadel" "moths" "I", Cond.instanceMethod yX1_init, Cond.code yX1_init cX1_init 1 none, Cond.methodLink RX1 3 objectInit, Cond.fieldLink RX1 9 "DollCitadel$Pose" "angles" "[I", Cond.methodLink RX2 30 yX0_init, Cond.instanceMethod yX0_init, Cond.code yX0_init cX0_init 2 none, Cond.methodLink RX0 3 objectInit, Cond.fieldLink RX0 9 "DollCitadel$Doll" "angles" "[I", Cond.fieldLink RX0 15 "DollCitadel$Doll" "wears" "[I", Cond.fieldLink RX0 18 "DollCitadel$Doll" "lacquers" "[I", Cond.arrayClass .boolean, Cond.fieldLink RX0 21 "DollCitadel$Doll" "open" "[Z", Cond.fieldLink RX0 25 "DollCitadel$Doll" "dusts" "[I", Cond.fieldLink RX0 28 "DollCitadel$Doll" "wigEaten" "I", Cond.fieldLink RX0 32 "DollCitadel$Doll" "weight" "I", Cond.fieldLink RX0 35 "DollCitadel$Doll" "pins" "I", Cond.fieldLink RX0 38 "DollCitadel$Doll" "posesTaken" "I", Cond.methodLink RL 75 yX3_init]
def wsL_law0_r3 : List Cond := [Cond.instanceMethod yX3_init, Cond.code yX3_init cX3_init 1 none, Cond.methodLink RX3 1 objectInit, Cond.fieldLink RX3 7 "DollCitadelModel" "moths" "I", Cond.fieldLink RX3 13 "DollCitadelModel" "limbs" "[I", Cond.fieldLink RX3 17 "DollCitadelModel" "rooms" "[I", Cond.fieldLink RX3 20 "DollCitadelModel" "told" "[I", Cond.fieldLink RX3 23 "DollCitadelModel" "store" "[I", Cond.fieldLink RX3 26 "DollCitadelModel" "day" "[I", Cond.methodLink RL 76 yL_make, Cond.static yL_make, Cond.initialized RL, Cond.codeWith yL_make cL_make 3 (some .int) [(0, 8, 11, 13)], Cond.classLink RL 13 "java/lang/IllegalStateException", Cond.methodLink RL 7 yX2_make, Cond.instanceMethod yX2_make, Cond.selects RX2 yX2_make yX2_make, Cond.code yX2_make cX2_make 2 (some .int), Cond.classLink RX2 48 "java/lang/IllegalStateException", Cond.initialized "java/lang/IllegalStateException", Cond.methodLink RL 81 yX3_make, Cond.instanceMethod yX3_make, Cond.selects RX3 yX3_make yX3_make, Cond.code yX3_make cX3_make 2 (some .int)]
def wsL_law0_r4 : List Cond := [Cond.fieldLink RX3 29 "DollCitadelModel" "thrown" "I", Cond.fieldLink RX3 32 "DollCitadelModel" "dolls" "I", Cond.methodLink RX3 50 arraycopyName, Cond.native arraycopyName, Cond.static arraycopyName, Cond.initialized "java/lang/System", Cond.methodLink RX3 46 yX3_fail, Cond.instanceMethod yX3_fail, Cond.selects RX3 yX3_fail yX3_fail, Cond.code yX3_fail cX3_fail 2 (some .int), Cond.methodLink RX3 42 yX3_at, Cond.static yX3_at, Cond.code yX3_at cX3_at 3 (some .int), Cond.methodLink RL 82 yX3_thrown, Cond.instanceMethod yX3_thrown, Cond.selects RX3 yX3_thrown yX3_thrown, Cond.code yX3_thrown cX3_thrown 1 (some .int), Cond.methodLink RL 85 yL_pose, Cond.static yL_pose, Cond.codeWith yL_pose cL_pose 9 (some .int) [(0, 18, 21, 19), (0, 18, 25, 13)], Cond.classLink RL 19 "java/lang/IllegalArgumentException", Cond.methodLink RL 15 yX2_pose, Cond.instanceMethod yX2_pose, Cond.selects RX2 yX2_pose yX2_pose]
def wsL_law0_r5 : List Cond := [Cond.code yX2_pose cX2_pose 9 (some .int), Cond.classLink RX2 59 "java/lang/IllegalArgumentException", Cond.initialized "java/lang/IllegalArgumentException", Cond.fieldLink RX2 66 "DollCitadel$Pose" "angles" "[I", Cond.methodLink RX2 55 yX2_isAngle, Cond.static yX2_isAngle, Cond.code yX2_isAngle cX2_isAngle 1 (some .boolean), Cond.methodLink RL 88 yX3_pose, Cond.instanceMethod yX3_pose, Cond.selects RX3 yX3_pose yX3_pose, Cond.code yX3_pose cX3_pose 12 (some .int), Cond.fieldLink RX3 39 "DollCitadelModel" "poses" "I", Cond.methodLink RX3 35 yX3_isIn, Cond.static yX3_isIn, Cond.code yX3_isIn cX3_isIn 3 (some .boolean), Cond.methodLink RL 89 yL_take, Cond.static yL_take, Cond.codeWith yL_take cL_take 5 (some .int) [(0, 10, 13, 25), (0, 10, 17, 13)], Cond.classLink RL 25 "java/lang/IndexOutOfBoundsException", Cond.methodLink RL 21 yX2_take, Cond.instanceMethod yX2_take, Cond.selects RX2 yX2_take yX2_take, Cond.code yX2_take cX2_take 6 (some .int), Cond.fieldLink RX2 91 "DollCitadel$Doll" "posesTaken" "I"]
def wsL_law0_r6 : List Cond := [Cond.methodLink RX2 69 yX2_knownDoll, Cond.instanceMethod yX2_knownDoll, Cond.selects RX2 yX2_knownDoll yX2_knownDoll, Cond.code yX2_knownDoll cX2_knownDoll 3 (some (.object "DollCitadel$Doll")), Cond.classLink RX2 94 "java/lang/IndexOutOfBoundsException", Cond.initialized "java/lang/IndexOutOfBoundsException", Cond.methodLink RX2 73 yX2_knownPose, Cond.instanceMethod yX2_knownPose, Cond.selects RX2 yX2_knownPose yX2_knownPose, Cond.code yX2_knownPose cX2_knownPose 3 (some (.object "DollCitadel$Pose")), Cond.methodLink RX2 77 yX0_canTurnTo, Cond.instanceMethod yX0_canTurnTo, Cond.selects RX0 yX0_canTurnTo yX0_canTurnTo, Cond.code yX0_canTurnTo cX0_canTurnTo 3 (some .boolean), Cond.fieldLink RX0 41 "DollCitadel$Pose" "angles" "[I", Cond.methodLink RX2 83 yX0_brokenJoints, Cond.instanceMethod yX0_brokenJoints, Cond.selects RX0 yX0_brokenJoints yX0_brokenJoints, Cond.code yX0_brokenJoints cX0_brokenJoints 1 (some .int), Cond.methodLink RX0 61 yX0_jointsWornBy, Cond.instanceMethod yX0_jointsWornBy, Cond.selects RX0 yX0_jointsWornBy yX0_jointsWornBy, Cond.code yX0_jointsWornBy cX0_jointsWornBy 7 (some .int), Cond.methodLink RX2 87 yX0_turnTo]
def wsL_law0_r7 : List Cond := [Cond.instanceMethod yX0_turnTo, Cond.selects RX0 yX0_turnTo yX0_turnTo, Cond.code yX0_turnTo cX0_turnTo 4 none, Cond.methodLink RX0 44 Lib.Math.abs.name, Cond.static Lib.Math.abs.name, Cond.initialized "java/lang/Math", Cond.code Lib.Math.abs.name Lib.Math.abs.code 1 (some .int), Cond.methodLink RX0 54 Lib.Math.max.name, Cond.static Lib.Math.max.name, Cond.code Lib.Math.max.name Lib.Math.max.code 2 (some .int), Cond.methodLink RX0 50 yX0_wearBehindTurn, Cond.static yX0_wearBehindTurn, Cond.code yX0_wearBehindTurn cX0_wearBehindTurn 4 (some .int), Cond.methodLink RX0 58 Lib.Math.min.name, Cond.static Lib.Math.min.name, Cond.code Lib.Math.min.name Lib.Math.min.code 2 (some .int), Cond.methodLink RL 92 yX3_take, Cond.instanceMethod yX3_take, Cond.selects RX3 yX3_take yX3_take, Cond.code yX3_take cX3_take 3 (some .int), Cond.methodLink RX3 75 yX3_isDoll, Cond.instanceMethod yX3_isDoll, Cond.selects RX3 yX3_isDoll yX3_isDoll, Cond.code yX3_isDoll cX3_isDoll 2 (some .boolean)]
def wsL_law0_r8 : List Cond := [Cond.methodLink RX3 79 yX3_isPose, Cond.instanceMethod yX3_isPose, Cond.selects RX3 yX3_isPose yX3_isPose, Cond.code yX3_isPose cX3_isPose 2 (some .boolean), Cond.methodLink RX3 82 yX3_can, Cond.instanceMethod yX3_can, Cond.selects RX3 yX3_can yX3_can, Cond.code yX3_can cX3_can 4 (some .boolean), Cond.methodLink RX3 68 yX3_isBroken, Cond.instanceMethod yX3_isBroken, Cond.selects RX3 yX3_isBroken yX3_isBroken, Cond.code yX3_isBroken cX3_isBroken 3 (some .boolean), Cond.methodLink RX3 56 yX3_li, Cond.instanceMethod yX3_li, Cond.selects RX3 yX3_li yX3_li, Cond.code yX3_li cX3_li 4 (some .int), Cond.methodLink RX3 85 yX3_ro, Cond.instanceMethod yX3_ro, Cond.selects RX3 yX3_ro yX3_ro, Cond.code yX3_ro cX3_ro 3 (some .int), Cond.methodLink RX3 88 yX3_put, Cond.instanceMethod yX3_put, Cond.selects RX3 yX3_put yX3_put, Cond.code yX3_put cX3_put 4 none]
def wsL_law0_r9 : List Cond := [Cond.methodLink RX3 92 yX3_turnAll, Cond.instanceMethod yX3_turnAll, Cond.selects RX3 yX3_turnAll yX3_turnAll, Cond.code yX3_turnAll cX3_turnAll 5 (some .int), Cond.methodLink RX3 72 yX3_turn, Cond.instanceMethod yX3_turn, Cond.selects RX3 yX3_turn yX3_turn, Cond.code yX3_turn cX3_turn 6 (some .boolean), Cond.methodLink RX3 59 Lib.Math.abs.name, Cond.methodLink RX3 64 Lib.Math.min.name, Cond.methodLink RL 93 yL_blink, Cond.static yL_blink, Cond.codeWith yL_blink cL_blink 5 (some .int) [(0, 17, 20, 25), (0, 17, 24, 13)], Cond.methodLink RL 27 yX2_blink, Cond.instanceMethod yX2_blink, Cond.selects RX2 yX2_blink yX2_blink, Cond.code yX2_blink cX2_blink 4 (some .boolean), Cond.fieldLink RX2 99 "DollCitadel$Doll" "dusts" "[I", Cond.fieldLink RX2 104 "DollCitadel$Doll" "open" "[Z", Cond.methodLink RL 95 yX3_blink, Cond.instanceMethod yX3_blink, Cond.selects RX3 yX3_blink yX3_blink, Cond.code yX3_blink cX3_blink 3 (some .boolean), Cond.methodLink RL 96 yL_dress]
def wsL_law0_r10 : List Cond := [Cond.static yL_dress, Cond.codeWith yL_dress cL_dress 6 (some .int) [(0, 12, 15, 25), (0, 12, 19, 19), (0, 12, 23, 13)], Cond.methodLink RL 31 yX2_dress, Cond.instanceMethod yX2_dress, Cond.selects RX2 yX2_dress yX2_dress, Cond.code yX2_dress cX2_dress 6 (some .int), Cond.fieldLink RX2 112 "DollCitadel$Doll" "pins" "I", Cond.fieldLink RX2 115 "DollCitadel$Doll" "weight" "I", Cond.methodLink RX2 118 Lib.Math.min.name, Cond.methodLink RL 99 yX3_dress, Cond.instanceMethod yX3_dress, Cond.selects RX3 yX3_dress yX3_dress, Cond.code yX3_dress cX3_dress 4 (some .int), Cond.methodLink RL 100 yL_bring, Cond.static yL_bring, Cond.codeWith yL_bring cL_bring 5 (some .int) [(0, 10, 13, 19)], Cond.methodLink RL 35 yX2_bring, Cond.instanceMethod yX2_bring, Cond.selects RX2 yX2_bring yX2_bring, Cond.code yX2_bring cX2_bring 3 (some .int), Cond.methodLink RL 102 yX3_bring, Cond.instanceMethod yX3_bring, Cond.selects RX3 yX3_bring yX3_bring, Cond.code yX3_bring cX3_bring 3 (some .int)]
def wsL_law0_r11 : List Cond := [Cond.methodLink RL 103 yL_setMoths, Cond.static yL_setMoths, Cond.codeWith yL_setMoths cL_setMoths 4 (some .int) [(0, 9, 12, 19)], Cond.methodLink RL 38 yX2_setMoths, Cond.instanceMethod yX2_setMoths, Cond.selects RX2 yX2_setMoths yX2_setMoths, Cond.code yX2_setMoths cX2_setMoths 3 (some .int), Cond.methodLink RL 106 yX3_setMoths, Cond.instanceMethod yX3_setMoths, Cond.selects RX3 yX3_setMoths yX3_setMoths, Cond.code yX3_setMoths cX3_setMoths 3 (some .int), Cond.methodLink RL 107 yL_mend, Cond.static yL_mend, Cond.codeWith yL_mend cL_mend 6 (some .int) [(0, 12, 15, 25), (0, 12, 19, 19), (0, 12, 23, 13)], Cond.methodLink RL 42 yX2_mend, Cond.instanceMethod yX2_mend, Cond.selects RX2 yX2_mend yX2_mend, Cond.code yX2_mend cX2_mend 5 (some .int), Cond.fieldLink RX2 138 "DollCitadel$Doll" "wears" "[I", Cond.fieldLink RX2 141 "DollCitadel$Doll" "lacquers" "[I", Cond.fieldLink RX2 147 "DollCitadel$Doll" "wigEaten" "I", Cond.methodLink RX2 132 yX0_hasRoomForPin, Cond.instanceMethod yX0_hasRoomForPin, Cond.selects RX0 yX0_hasRoomForPin yX0_hasRoomForPin]
def wsL_law0_r12 : List Cond := [Cond.code yX0_hasRoomForPin cX0_hasRoomForPin 1 (some .boolean), Cond.methodLink RX2 144 yX0_wipeEyes, Cond.instanceMethod yX0_wipeEyes, Cond.selects RX0 yX0_wipeEyes yX0_wipeEyes, Cond.code yX0_wipeEyes cX0_wipeEyes 2 none, Cond.methodLink RL 109 yX3_mend, Cond.instanceMethod yX3_mend, Cond.selects RX3 yX3_mend yX3_mend, Cond.code yX3_mend cX3_mend 4 (some .int), Cond.methodLink RL 110 yL_joint, Cond.static yL_joint, Cond.codeWith yL_joint cL_joint 6 (some .int) [(0, 12, 15, 25)], Cond.methodLink RL 45 yX2_joint, Cond.instanceMethod yX2_joint, Cond.selects RX2 yX2_joint yX2_joint, Cond.code yX2_joint cX2_joint 5 (some .int), Cond.fieldLink RX2 152 "DollCitadel$Doll" "angles" "[I", Cond.methodLink RL 112 yX3_joint, Cond.instanceMethod yX3_joint, Cond.selects RX3 yX3_joint yX3_joint, Cond.code yX3_joint cX3_joint 4 (some .int), Cond.methodLink RX3 95 yX3_jointTold, Cond.instanceMethod yX3_jointTold, Cond.selects RX3 yX3_jointTold yX3_jointTold]
def wsL_law0_r13 : List Cond := [Cond.code yX3_jointTold cX3_jointTold 4 (some .int), Cond.methodLink RL 113 yL_doll, Cond.static yL_doll, Cond.codeWith yL_doll cL_doll 5 (some .int) [(0, 10, 13, 25)], Cond.methodLink RL 48 yX2_doll, Cond.instanceMethod yX2_doll, Cond.selects RX2 yX2_doll yX2_doll, Cond.code yX2_doll cX2_doll 4 (some .int), Cond.methodLink RL 115 yX3_doll, Cond.instanceMethod yX3_doll, Cond.selects RX3 yX3_doll yX3_doll, Cond.code yX3_doll cX3_doll 3 (some .int), Cond.methodLink RL 116 yL_count, Cond.static yL_count, Cond.codeWith yL_count cL_count 4 (some .int) [(0, 9, 12, 25)], Cond.methodLink RL 51 yX2_count, Cond.instanceMethod yX2_count, Cond.selects RX2 yX2_count yX2_count, Cond.code yX2_count cX2_count 2 (some .int), Cond.methodLink RX2 157 yX2_tallyOfAll, Cond.instanceMethod yX2_tallyOfAll, Cond.selects RX2 yX2_tallyOfAll yX2_tallyOfAll, Cond.code yX2_tallyOfAll cX2_tallyOfAll 7 (some .int), Cond.methodLink RX2 185 yX0_tally]
def wsL_law0_r14 : List Cond := [Cond.instanceMethod yX0_tally, Cond.selects RX0 yX0_tally yX0_tally, Cond.code yX0_tally cX0_tally 2 (some .int), Cond.methodLink RX0 64 yX0_brokenJoints, Cond.methodLink RX0 68 yX0_eyesWithDust, Cond.instanceMethod yX0_eyesWithDust, Cond.selects RX0 yX0_eyesWithDust yX0_eyesWithDust, Cond.code yX0_eyesWithDust cX0_eyesWithDust 7 (some .int), Cond.methodLink RL 118 yX3_count, Cond.instanceMethod yX3_count, Cond.selects RX3 yX3_count yX3_count, Cond.code yX3_count cX3_count 2 (some .int), Cond.methodLink RX3 98 yX3_counted, Cond.instanceMethod yX3_counted, Cond.selects RX3 yX3_counted yX3_counted, Cond.code yX3_counted cX3_counted 5 (some .int), Cond.methodLink RL 119 yL_costs, Cond.static yL_costs, Cond.codeWith yL_costs cL_costs 5 (some .int) [(0, 10, 13, 25)], Cond.methodLink RL 54 yX2_costs, Cond.instanceMethod yX2_costs, Cond.selects RX2 yX2_costs yX2_costs, Cond.code yX2_costs cX2_costs 5 (some .int), Cond.methodLink RX2 161 yX0_becomeLike]
def wsL_law0_r15 : List Cond := [Cond.instanceMethod yX0_becomeLike, Cond.selects RX0 yX0_becomeLike yX0_becomeLike, Cond.code yX0_becomeLike cX0_becomeLike 3 none, Cond.methodLink RX2 165 yX0_wearOfAllJoints, Cond.instanceMethod yX0_wearOfAllJoints, Cond.selects RX0 yX0_wearOfAllJoints yX0_wearOfAllJoints, Cond.code yX0_wearOfAllJoints cX0_wearOfAllJoints 6 (some .int), Cond.methodLink RL 121 yX3_costs, Cond.instanceMethod yX3_costs, Cond.selects RX3 yX3_costs yX3_costs, Cond.code yX3_costs cX3_costs 6 (some .int), Cond.methodLink RX3 106 yX3_kept, Cond.instanceMethod yX3_kept, Cond.selects RX3 yX3_kept yX3_kept, Cond.code yX3_kept cX3_kept 1 (some (.array (.array .int))), Cond.classLink RX3 101 "[I", Cond.methodLink RX3 102 ⟨"[I", "clone", "()Ljava/lang/Object;"⟩, Cond.sameMethod "[I" "java/lang/Object" "clone" "()Ljava/lang/Object;", Cond.native ⟨"java/lang/Object", "clone", "()Ljava/lang/Object;"⟩, Cond.instanceMethod ⟨"java/lang/Object", "clone", "()Ljava/lang/Object;"⟩, Cond.selects "[I" ⟨"[I", "clone", "()Ljava/lang/Object;"⟩ ⟨"java/lang/Object", "clone", "()Ljava/lang/Object;"⟩, Cond.methodLink RX3 110 yX3_wearOf, Cond.instanceMethod yX3_wearOf, Cond.selects RX3 yX3_wearOf yX3_wearOf]
def wsL_law0_r16 : List Cond := [Cond.code yX3_wearOf cX3_wearOf 4 (some .int), Cond.methodLink RX3 113 yX3_bringBack, Cond.instanceMethod yX3_bringBack, Cond.selects RX3 yX3_bringBack yX3_bringBack, Cond.code yX3_bringBack cX3_bringBack 2 none, Cond.methodLink RL 122 yL_often, Cond.static yL_often, Cond.codeWith yL_often cL_often 5 (some .int) [(0, 10, 13, 25)], Cond.methodLink RL 57 yX2_often, Cond.instanceMethod yX2_often, Cond.selects RX2 yX2_often yX2_often, Cond.code yX2_often cX2_often 6 (some .int), Cond.methodLink RL 124 yX3_often, Cond.instanceMethod yX3_often, Cond.selects RX3 yX3_often yX3_often, Cond.code yX3_often cX3_often 6 (some .int), Cond.methodLink RL 125 yL_needs, Cond.static yL_needs, Cond.codeWith yL_needs cL_needs 5 (some .int) [(0, 10, 13, 25), (0, 10, 17, 19)], Cond.methodLink RL 60 yX2_needs, Cond.instanceMethod yX2_needs, Cond.selects RX2 yX2_needs yX2_needs, Cond.code yX2_needs cX2_needs 4 (some .int), Cond.methodLink RX2 168 yX0_wants]
def wsL_law0_r17 : List Cond := [Cond.instanceMethod yX0_wants, Cond.selects RX0 yX0_wants yX0_wants, Cond.code yX0_wants cX0_wants 2 (some .int), Cond.methodLink RX0 71 yX0_jointsWithoutLacquer, Cond.instanceMethod yX0_jointsWithoutLacquer, Cond.selects RX0 yX0_jointsWithoutLacquer yX0_jointsWithoutLacquer, Cond.code yX0_jointsWithoutLacquer cX0_jointsWithoutLacquer 6 (some .int), Cond.methodLink RL 127 yX3_needs, Cond.instanceMethod yX3_needs, Cond.selects RX3 yX3_needs yX3_needs, Cond.code yX3_needs cX3_needs 3 (some .int), Cond.methodLink RX3 117 yX3_needed, Cond.instanceMethod yX3_needed, Cond.selects RX3 yX3_needed yX3_needed, Cond.code yX3_needed cX3_needed 5 (some .int), Cond.methodLink RL 128 yL_lacks, Cond.static yL_lacks, Cond.codeWith yL_lacks cL_lacks 4 (some .int) [(0, 9, 12, 19)], Cond.methodLink RL 63 yX2_lacks, Cond.instanceMethod yX2_lacks, Cond.selects RX2 yX2_lacks yX2_lacks, Cond.code yX2_lacks cX2_lacks 7 (some .int), Cond.methodLink RX2 171 Lib.Math.max.name, Cond.methodLink RL 130 yX3_lacks]
def wsL_law0_r18 : List Cond := [Cond.instanceMethod yX3_lacks, Cond.selects RX3 yX3_lacks yX3_lacks, Cond.code yX3_lacks cX3_lacks 4 (some .int), Cond.methodLink RX3 120 Lib.Math.max.name, Cond.methodLink RL 131 yX2_worst, Cond.instanceMethod yX2_worst, Cond.selects RX2 yX2_worst yX2_worst, Cond.code yX2_worst cX2_worst 6 (some .int), Cond.methodLink RX2 174 yX0_wantsInAll, Cond.instanceMethod yX0_wantsInAll, Cond.selects RX0 yX0_wantsInAll yX0_wantsInAll, Cond.code yX0_wantsInAll cX0_wantsInAll 3 (some .int), Cond.methodLink RX0 74 yX0_wants, Cond.methodLink RL 134 yX3_worst, Cond.instanceMethod yX3_worst, Cond.selects RX3 yX3_worst yX3_worst, Cond.code yX3_worst cX3_worst 6 (some .int), Cond.methodLink RL 135 yL_foresee, Cond.static yL_foresee, Cond.codeWith yL_foresee cL_foresee 5 (some .int) [(0, 10, 13, 19), (0, 10, 17, 25)], Cond.methodLink RL 66 yX2_foresee, Cond.instanceMethod yX2_foresee, Cond.selects RX2 yX2_foresee yX2_foresee, Cond.code yX2_foresee cX2_foresee 8 (some .int)]
def wsL_law0_r19 : List Cond := [Cond.methodLink RX2 181 yX2_liveThrough, Cond.instanceMethod yX2_liveThrough, Cond.selects RX2 yX2_liveThrough yX2_liveThrough, Cond.code yX2_liveThrough cX2_liveThrough 5 (some .int), Cond.methodLink RX2 214 yX0_liveOneDay, Cond.instanceMethod yX0_liveOneDay, Cond.selects RX0 yX0_liveOneDay yX0_liveOneDay, Cond.code yX0_liveOneDay cX0_liveOneDay 5 (some .int), Cond.methodLink RX0 77 yX0_tally, Cond.methodLink RX0 80 yX0_eatWig, Cond.instanceMethod yX0_eatWig, Cond.selects RX0 yX0_eatWig yX0_eatWig, Cond.code yX0_eatWig cX0_eatWig 2 none, Cond.methodLink RX0 84 yX0_loosenDress, Cond.instanceMethod yX0_loosenDress, Cond.selects RX0 yX0_loosenDress yX0_loosenDress, Cond.code yX0_loosenDress cX0_loosenDress 1 none, Cond.methodLink RX0 87 yX0_dryLacquer, Cond.instanceMethod yX0_dryLacquer, Cond.selects RX0 yX0_dryLacquer yX0_dryLacquer, Cond.code yX0_dryLacquer cX0_dryLacquer 2 none, Cond.methodLink RX0 90 yX0_gatherDust, Cond.instanceMethod yX0_gatherDust, Cond.selects RX0 yX0_gatherDust yX0_gatherDust]
def wsL_law0_r20 : List Cond := [Cond.code yX0_gatherDust cX0_gatherDust 2 none, Cond.methodLink RL 137 yX3_foresee, Cond.instanceMethod yX3_foresee, Cond.selects RX3 yX3_foresee yX3_foresee, Cond.code yX3_foresee cX3_foresee 5 (some .int), Cond.methodLink RX3 126 yX3_daysOn, Cond.instanceMethod yX3_daysOn, Cond.selects RX3 yX3_daysOn yX3_daysOn, Cond.code yX3_daysOn cX3_daysOn 5 (some .int), Cond.methodLink RX3 123 yX3_dayOf, Cond.instanceMethod yX3_dayOf, Cond.selects RX3 yX3_dayOf yX3_dayOf, Cond.code yX3_dayOf cX3_dayOf 4 (some .int), Cond.methodLink RL 138 yL_pass, Cond.static yL_pass, Cond.codeWith yL_pass cL_pass 4 (some .int) [(0, 9, 12, 19)], Cond.methodLink RL 69 yX2_pass, Cond.instanceMethod yX2_pass, Cond.selects RX2 yX2_pass yX2_pass, Cond.code yX2_pass cX2_pass 7 (some .int), Cond.methodLink RL 140 yX3_pass, Cond.instanceMethod yX3_pass, Cond.selects RX3 yX3_pass yX3_pass, Cond.code yX3_pass cX3_pass 2 (some .int)]
def wsL_law0_r21 : List Cond := [Cond.methodLink RL 141 yX2_mean, Cond.instanceMethod yX2_mean, Cond.selects RX2 yX2_mean yX2_mean, Cond.code yX2_mean cX2_mean 6 (some .double), Cond.methodLink RL 145 yX3_mean, Cond.instanceMethod yX3_mean, Cond.selects RX3 yX3_mean yX3_mean, Cond.code yX3_mean cX3_mean 3 (some .double), Cond.methodLink RL 146 yX2_digest, Cond.instanceMethod yX2_digest, Cond.selects RX2 yX2_digest yX2_digest, Cond.code yX2_digest cX2_digest 7 (some .long), Cond.constantLong RX2 188 (1063), Cond.constantLong RX2 190 (31), Cond.methodLink RX2 192 yX2_count, Cond.methodLink RX2 195 yX1_digestInto, Cond.instanceMethod yX1_digestInto, Cond.selects RX1 yX1_digestInto yX1_digestInto, Cond.code yX1_digestInto cX1_digestInto 9 (some .long), Cond.constantLong RX1 15 (31), Cond.methodLink RX2 199 yX2_doll, Cond.methodLink RX2 202 yX2_digestJointsInto, Cond.instanceMethod yX2_digestJointsInto, Cond.selects RX2 yX2_digestJointsInto yX2_digestJointsInto]
def wsL_law0_r22 : List Cond := [Cond.code yX2_digestJointsInto cX2_digestJointsInto 8 (some .long), Cond.methodLink RX2 206 yX2_joint, Cond.methodLink RL 150 yX3_digest, Cond.instanceMethod yX3_digest, Cond.selects RX3 yX3_digest yX3_digest, Cond.code yX3_digest cX3_digest 6 (some .long), Cond.constantLong RX3 129 (1063), Cond.constantLong RX3 131 (31)]
def wsL_law0 : List Cond := (wsL_law0_r1 ++ (wsL_law0_r2 ++ (wsL_law0_r3 ++ (wsL_law0_r4 ++ (wsL_law0_r5 ++ (wsL_law0_r6 ++ (wsL_law0_r7 ++ (wsL_law0_r8 ++ (wsL_law0_r9 ++ (wsL_law0_r10 ++ (wsL_law0_r11 ++ (wsL_law0_r12 ++ (wsL_law0_r13 ++ (wsL_law0_r14 ++ (wsL_law0_r15 ++ (wsL_law0_r16 ++ (wsL_law0_r17 ++ (wsL_law0_r18 ++ (wsL_law0_r19 ++ (wsL_law0_r20 ++ (wsL_law0_r21 ++ wsL_law0_r22))))))))))))))))))))) ++ wsX20 ++ wsX30 ++ wsX10 ++ wsX00 ++ ([] : List Cond)
def wsL_law : List Cond := wsL_law0 ++ (vx_atS RX2 52 "java/lang/IllegalStateException" ["java/lang/RuntimeException", "java/lang/Exception"]).filter goodWord ++ (vx_atS RX2 63 "java/lang/IllegalArgumentException" ["java/lang/RuntimeException", "java/lang/Exception"]).filter goodWord ++ (vx_atS RX2 98 "java/lang/IndexOutOfBoundsException" ["java/lang/RuntimeException", "java/lang/Exception"]).filter goodWord
abbrev vwCl : List vw_C := [(RX0, TX0, 9), (RX1, TX1, 1), (RX2, TX2, 9), (RX3, TX3, 9)]
end
section
-- BASE: whole numbers on the machine
def iv (z : Int) : Int32 := Int32.ofInt z
theorem iv_toInt {z : Int} (h : -2147483648 ≤ z ∧ z < 2147483648) : (iv z).toInt = z := by
  unfold iv
  exact Int32.toInt_ofInt_of_le (by omega) (by omega)
theorem iv_of (x : Int32) : iv x.toInt = x := by
  unfold iv
  exact Int32.ofInt_toInt x
theorem iv_rng (x : Int32) : -2147483648 ≤ x.toInt ∧ x.toInt < 2147483648 := by
  have h1 := Int32.le_toInt x
  have h2 := Int32.toInt_lt x
  omega
theorem iv_add (a b : Int) : iv a + iv b = iv (a + b) := by
  unfold iv
  exact (Int32.ofInt_add a b).symm
theorem iv_sub (a b : Int) : iv a - iv b = iv (a - b) := by
  unfold iv
  exact (Int32.ofInt_sub a b).symm
theorem iv_mul (a b : Int) : iv a * iv b = iv (a * b) := by
  unfold iv
  exact (Int32.ofInt_mul a b).symm
theorem iv_le {a b : Int} (ha : -2147483648 ≤ a ∧ a < 2147483648) (hb : -2147483648 ≤ b ∧ b < 2147483648) : iv a ≤ iv b ↔ a ≤ b := by
  rw [Int32.le_iff_toInt_le, iv_toInt ha, iv_toInt hb]
theorem iv_lt {a b : Int} (ha : -2147483648 ≤ a ∧ a < 2147483648) (hb : -2147483648 ≤ b ∧ b < 2147483648) : iv a < iv b ↔ a < b := by
  rw [Int32.lt_iff_toInt_lt, iv_toInt ha, iv_toInt hb]
theorem iv_eq {a b : Int} (ha : -2147483648 ≤ a ∧ a < 2147483648) (hb : -2147483648 ≤ b ∧ b < 2147483648) : iv a = iv b ↔ a = b := by
  rw [← Int32.toInt_inj, iv_toInt ha, iv_toInt hb]
theorem iv_zero : (0 : Int32) = iv 0 := rfl
theorem iv_nI (n : Nat) : nI n = iv (n : Int) := by
  unfold nI iv
  exact (Int32.ofInt_eq_ofNat).symm
theorem iv_div {a b : Int} (ha : 0 ≤ a ∧ a < 2147483648) (hb : 0 < b ∧ b < 2147483648) : iv a / iv b = iv (a / b) := by
  obtain ⟨x, rfl⟩ := Int.eq_ofNat_of_zero_le ha.1
  obtain ⟨y, rfl⟩ := Int.eq_ofNat_of_zero_le (Int.le_of_lt hb.1)
  rw [← iv_nI, ← iv_nI, pk_div (by omega) (by omega) (by omega), iv_nI]
  rfl
theorem iv_rem {a b : Int} (ha : 0 ≤ a ∧ a < 2147483648) (hb : 0 < b ∧ b < 2147483648) : iv a - iv a / iv b * iv b = iv (a % b) := by
  obtain ⟨x, rfl⟩ := Int.eq_ofNat_of_zero_le ha.1
  obtain ⟨y, rfl⟩ := Int.eq_ofNat_of_zero_le (Int.le_of_lt hb.1)
  rw [← iv_nI, ← iv_nI, pk_rem (by omega) (by omega) (by omega), iv_nI]
  rfl
theorem iv_ix {z : Int} {n k : Nat} (hk : z = (k : Int)) (hlt : k < n) (hn : n < 2147483648) : vp_in (iv z) n ∧ (iv z).toNatClampNeg = k := by
  subst hk
  rw [← iv_nI]
  exact ⟨vp_in_nI hlt (by omega), nI_clamp (by omega)⟩
theorem iv_max {a b : Int} (ha : -2147483648 ≤ a ∧ a < 2147483648) (hb : -2147483648 ≤ b ∧ b < 2147483648) : (if iv a < iv b then iv b else iv a) = iv (max a b) := by
  by_cases h : a < b
  · rw [if_pos ((iv_lt ha hb).mpr h), show max a b = b by omega]
  · rw [if_neg (fun q => h ((iv_lt ha hb).mp q)), show max a b = a by omega]
theorem iv_inj {a b : Int} (ha : -2147483648 ≤ a ∧ a < 2147483648) (hb : -2147483648 ≤ b ∧ b < 2147483648) (h : iv a = iv b) : a = b := (iv_eq ha hb).mp h
def updI (F : Nat → Int) (k : Nat) (x : Int) : Nat → Int := fun j => if j = k then x else F j
theorem updI_s (F : Nat → Int) (k : Nat) (x : Int) : updI F k x k = x := by simp [updI]
theorem updI_n (F : Nat → Int) {k j : Nat} (x : Int) (h : j ≠ k) : updI F k x j = F j := by simp [updI, h]
theorem iv_upd (F : Nat → Int) (k : Nat) (x : Int) : upd (fun j => iv (F j)) k (iv x) = fun j => iv (updI F k x j) := by
  funext j
  unfold upd updI
  by_cases h : j = k
  · simp [h]
  · simp [h]
-- truth as a number
def b2i (b : Bool) : Int := if b then 1 else 0
theorem b2i_rng (b : Bool) : 0 ≤ b2i b ∧ b2i b ≤ 1 := by cases b <;> simp [b2i]
-- worlds by membership
theorem wP_iff {D : va_G} {ws : va_W} {H : Heap} : va_P D vwCl ws H ↔ ∀ q ∈ ws, va_at D vwCl q H := by
  constructor
  · intro h q hq
    obtain ⟨k, hk⟩ := List.getElem?_of_mem hq
    exact h k q hk
  · intro h k q hk
    exact h q (List.mem_of_getElem? hk)
theorem wD_iff {A : Nat → Prop} {ws : va_W} : va_D A ws ↔ (ws.map (fun q => q.1)).Nodup ∧ ∀ q ∈ ws, A q.1 := by
  constructor
  · intro h
    refine ⟨?_, ?_⟩
    · unfold List.Nodup
      rw [List.pairwise_iff_getElem]
      intro i j hi hj hij he
      rw [List.length_map] at hi hj
      rw [List.getElem_map, List.getElem_map] at he
      have := h.1 i j _ _ (List.getElem?_eq_getElem hi) (List.getElem?_eq_getElem hj) he
      omega
    · intro q hq
      obtain ⟨k, hk⟩ := List.getElem?_of_mem hq
      exact h.2 k q hk
  · intro h
    refine ⟨?_, fun k q hk => h.2 q (List.mem_of_getElem? hk)⟩
    intro i j p q hi hj hpq
    have hn := h.1
    unfold List.Nodup at hn
    rw [List.pairwise_iff_getElem] at hn
    obtain ⟨li, ei⟩ := List.getElem?_eq_some_iff.mp hi
    obtain ⟨lj, ej⟩ := List.getElem?_eq_some_iff.mp hj
    rcases Nat.lt_trichotomy i j with hl | hl | hl
    · have := hn i j (by rw [List.length_map]; exact li) (by rw [List.length_map]; exact lj) hl
      rw [List.getElem_map, List.getElem_map, ei, ej] at this
      exact absurd hpq this
    · exact hl
    · have := hn j i (by rw [List.length_map]; exact lj) (by rw [List.length_map]; exact li) hl
      rw [List.getElem_map, List.getElem_map, ei, ej] at this
      exact absurd hpq.symm this
theorem wP_perm {D : va_G} {ws ws' : va_W} {H : Heap} (h : va_P D vwCl ws H) (hp : ws.Perm ws') : va_P D vwCl ws' H := wP_iff.mpr fun q hq => wP_iff.mp h q (hp.mem_iff.mpr hq)
theorem wD_perm {A : Nat → Prop} {ws ws' : va_W} (h : va_D A ws) (hp : ws.Perm ws') : va_D A ws' := by
  obtain ⟨h1, h2⟩ := wD_iff.mp h
  exact wD_iff.mpr ⟨(hp.map _).nodup_iff.mp h1, fun q hq => h2 q (hp.mem_iff.mpr hq)⟩
theorem wP_app {D : va_G} {w1 w2 : va_W} {H : Heap} : va_P D vwCl (w1 ++ w2) H ↔ va_P D vwCl w1 H ∧ va_P D vwCl w2 H := by
  constructor
  · intro h
    exact ⟨wP_iff.mpr fun q hq => wP_iff.mp h q (List.mem_append_left _ hq), wP_iff.mpr fun q hq => wP_iff.mp h q (List.mem_append_right _ hq)⟩
  · intro h
    exact va_P.app h.1 h.2
theorem wD_app1 {A : Nat → Prop} {w1 w2 : va_W} (h : va_D A (w1 ++ w2)) : va_D A w1 := by
  obtain ⟨h1, h2⟩ := wD_iff.mp h
  rw [List.map_append] at h1
  exact wD_iff.mpr ⟨(List.nodup_append.mp h1).1, fun q hq => h2 q (List.mem_append_left _ hq)⟩
/-- which addresses a world takes -/
theorem wA_mem {ws : va_W} {sz : Nat} {q : Nat} : va_A ws sz q ↔ (∃ e, (q, e) ∈ ws) ∨ sz ≤ q := by
  constructor
  · rintro (⟨k, e, h⟩ | h)
    · exact Or.inl ⟨e, List.mem_of_getElem? h⟩
    · exact Or.inr h
  · rintro (⟨e, h⟩ | h)
    · obtain ⟨k, hk⟩ := List.getElem?_of_mem h
      exact Or.inl ⟨k, e, hk⟩
    · exact Or.inr h
/-- a part of the world, handed to a callee: what it may write lies in ours -/
theorem wF {A : Nat → Prop} {ws wc wr : va_W} {H0 H : Heap} {locs : List Loc} (hD : va_D A ws) (hS : va_S A H0 H locs) (hA : ∀ q, H0.size ≤ q → A q) (hp : ws.Perm (wc ++ wr)) : ∀ q, va_A wc H.size q → A q := by
  intro q h
  rcases wA_mem.mp h with ⟨e, h⟩ | h
  · exact (wD_iff.mp hD).2 (q, e) (hp.mem_iff.mpr (List.mem_append_left _ h))
  · exact hA q (Nat.le_trans hS.1 h)
/-- and what comes back, beside the rest -/
theorem wJ {A : Nat → Prop} {D : va_G} {ws wc wr u : va_W} {H H1 : Heap} (hP : va_P D vwCl ws H) (hD : va_D A ws) (hp : ws.Perm (wc ++ wr)) (hk : ∀ q : Nat, q < H.size → ¬ va_A wc H.size q → H1[q]? = H[q]?) (hF : ∀ q, va_A wc H.size q → A q) (hP1 : va_P D vwCl u H1) (hD1 : va_D (va_A wc H.size) u) : va_P D vwCl (u ++ wr) H1 ∧ va_D A (u ++ wr) := by
  have hP' := wP_perm hP hp
  have hD' := wD_perm hD hp
  obtain ⟨n1, n2⟩ := wD_iff.mp hD'
  rw [List.map_append] at n1
  obtain ⟨-, m2, m3⟩ := List.nodup_append.mp n1
  obtain ⟨o1, o2⟩ := wD_iff.mp hD1
  have apart : ∀ q ∈ wr, q.1 < H.size ∧ ¬ va_A wc H.size q.1 := by
    intro q hq
    have hl := (wP_iff.mp hP' q (List.mem_append_right _ hq)).lt
    refine ⟨hl, fun h => ?_⟩
    rcases wA_mem.mp h with ⟨e, h⟩ | h
    · exact m3 q.1 (List.mem_map.mpr ⟨(q.1, e), h, rfl⟩) q.1 (List.mem_map.mpr ⟨q, hq, rfl⟩) rfl
    · omega
  refine ⟨wP_app.mpr ⟨hP1, wP_iff.mpr fun q hq => ?_⟩, wD_iff.mpr ⟨?_, ?_⟩⟩
  · exact (wP_iff.mp hP' q (List.mem_append_right _ hq)).kept (hk q.1 (apart q hq).1 (apart q hq).2)
  · rw [List.map_append, List.nodup_append]
    refine ⟨o1, m2, ?_⟩
    intro a ha b hb hab
    obtain ⟨q1, hq1, rfl⟩ := List.mem_map.mp ha
    obtain ⟨q2, hq2, rfl⟩ := List.mem_map.mp hb
    exact (apart q2 hq2).2 (hab ▸ o2 q1 hq1)
  · intro q hq
    rcases List.mem_append.mp hq with h | h
    · exact hF _ (o2 q h)
    · exact n2 q (List.mem_append_right _ h)
/-- an explicit head of a world, in another order -/
def wpick (E : va_W) (is : List Nat) : va_W := is.filterMap (fun i => E[i]?)
theorem wpick_all : ∀ (E : va_W), wpick E (List.range E.length) = E := by
  intro E
  induction E with
  | nil => rfl
  | cons a E ih =>
    unfold wpick at ih ⊢
    rw [List.length_cons, List.range_succ_eq_map, List.filterMap_cons]
    show a :: List.filterMap (fun i => (a :: E)[i]?) (List.map Nat.succ (List.range E.length)) = a :: E
    rw [List.filterMap_map]
    exact congrArg (fun l => a :: l) ih
theorem wpick_perm (E : va_W) {is : List Nat} (h : is.Perm (List.range E.length)) : (wpick E is).Perm E := by
  have h1 : (wpick E is).Perm (wpick E (List.range E.length)) := h.filterMap _
  rw [wpick_all] at h1
  exact h1
theorem wsplit (E rest : va_W) {is js : List Nat} {wc wr : va_W} (h : (is ++ js).Perm (List.range E.length)) (hc : wpick E is = wc) (hr : wpick E js = wr) : (E ++ rest).Perm (wc ++ (wr ++ rest)) := by
  subst hc
  subst hr
  have h1 := wpick_perm E h
  have h2 : wpick E (is ++ js) = wpick E is ++ wpick E js := List.filterMap_append
  rw [h2] at h1
  rw [← List.append_assoc]
  exact (h1.symm).append_right rest
end
section
-- ROWS over whole numbers
section RW
variable {p : Program} {l : Launch} {e : Env} {R : Room} {s : State} {m : MethodId} {args : Array Value} {below : List Frame} {meth : Method} {c : Code} {H : Heap} {locs : List Loc} {cells slots : Nat} {Q : State → Prop}
variable {cc : ByteArray} {pc : Nat} {ls : Array Slot} {rest : List Value}
theorem r_const (hx : p.tables.exec = Jvm.exec) (hb : c.code = cc) {n : Int} (d : decode cc pc = .ok (.iconst n, 1)) (k : W p l e R s m args below meth c H locs cells slots Q (F0 m (pc + 1) ls (.int (iv n) :: rest))) : W p l e R s m args below meth c H locs cells slots Q (F0 m pc ls rest) := lv_iconst hx hb d rfl k
theorem r_add (hx : p.tables.exec = Jvm.exec) (hb : c.code = cc) {a b : Int} (d : decode cc pc = .ok (.iadd, 1)) (k : W p l e R s m args below meth c H locs cells slots Q (F0 m (pc + 1) ls (.int (iv (a + b)) :: rest))) : W p l e R s m args below meth c H locs cells slots Q (F0 m pc ls (.int (iv b) :: .int (iv a) :: rest)) := lv_iadd hx hb d (by rw [iv_add]; exact k)
theorem r_sub (hx : p.tables.exec = Jvm.exec) (hb : c.code = cc) {a b : Int} (d : decode cc pc = .ok (.isub, 1)) (k : W p l e R s m args below meth c H locs cells slots Q (F0 m (pc + 1) ls (.int (iv (a - b)) :: rest))) : W p l e R s m args below meth c H locs cells slots Q (F0 m pc ls (.int (iv b) :: .int (iv a) :: rest)) := lv_isub hx hb d (by rw [iv_sub]; exact k)
theorem r_mul (hx : p.tables.exec = Jvm.exec) (hb : c.code = cc) {a b : Int} (d : decode cc pc = .ok (.imul, 1)) (k : W p l e R s m args below meth c H locs cells slots Q (F0 m (pc + 1) ls (.int (iv (a * b)) :: rest))) : W p l e R s m args below meth c H locs cells slots Q (F0 m pc ls (.int (iv b) :: .int (iv a) :: rest)) := lv_imul hx hb d (by rw [iv_mul]; exact k)
theorem r_div (hx : p.tables.exec = Jvm.exec) (hb : c.code = cc) {a b : Int} (d : decode cc pc = .ok (.idiv, 1)) (ha : 0 ≤ a ∧ a < 2147483648) (hc : 0 < b ∧ b < 2147483648) (k : W p l e R s m args below meth c H locs cells slots Q (F0 m (pc + 1) ls (.int (iv (a / b)) :: rest))) : W p l e R s m args below meth c H locs cells slots Q (F0 m pc ls (.int (iv b) :: .int (iv a) :: rest)) := lv_idiv hx hb d (fun q => by have := iv_inj (a := b) (b := 0) (by omega) (by omega) (q.trans iv_zero); omega) (by rw [iv_div ha hc]; exact k)
theorem r_rem (hx : p.tables.exec = Jvm.exec) (hb : c.code = cc) {a b : Int} (d : decode cc pc = .ok (.irem, 1)) (ha : 0 ≤ a ∧ a < 2147483648) (hc : 0 < b ∧ b < 2147483648) (k : W p l e R s m args below meth c H locs cells slots Q (F0 m (pc + 1) ls (.int (iv (a % b)) :: rest))) : W p l e R s m args below meth c H locs cells slots Q (F0 m pc ls (.int (iv b) :: .int (iv a) :: rest)) := lv_irem hx hb d (fun q => by have := iv_inj (a := b) (b := 0) (by omega) (by omega) (q.trans iv_zero); omega) (by rw [iv_rem ha hc]; exact k)
theorem r_iinc (hx : p.tables.exec = Jvm.exec) (hb : c.code = cc) {i nL k : Nat} {n a : Int} {lv lv' : List (Nat × Value)} (d : decode cc pc = .ok (.iinc i n, 3)) (h : lv_has ls nL lv) (hk : lv[k]? = some (i, .int (iv a))) (hn : i < nL) (hl : (i, Value.int (iv (a + n))) :: lv.filter (fun q => !(q.1 == i) && !(q.1 + 1 == i && q.2.category == 2)) = lv') (kk : ∀ ls' : Array Slot, lv_has ls' nL lv' → W p l e R s m args below meth c H locs cells slots Q (F0 m (pc + 3) ls' rest)) : W p l e R s m args below meth c H locs cells slots Q (F0 m pc ls rest) := lv_iinc hx hb d h hk (by rw [show Int32.ofInt n = iv n from rfl, iv_add]) hn hl kk
theorem r_goto (hx : p.tables.exec = Jvm.exec) (hb : c.code = cc) {off : Int} (tgt : Nat) (d : decode cc pc = .ok (.goto off, 3)) (ht : (pc : Int) + off = (tgt : Int)) (k : W p l e R s m args below meth c H locs cells slots Q (F0 m tgt ls rest)) : W p l e R s m args below meth c H locs cells slots Q (F0 m pc ls rest) := lv_goto hx hb d ht k
theorem r_icmp_lt (hx : p.tables.exec = Jvm.exec) (hb : c.code = cc) {a b : Int} {off : Int} (tgt : Nat) (d : decode cc pc = .ok (.if_icmp .lt off, 3)) (ht : (pc : Int) + off = (tgt : Int)) (ha : -2147483648 ≤ a ∧ a < 2147483648) (hc : -2147483648 ≤ b ∧ b < 2147483648) (kt : a < b → W p l e R s m args below meth c H locs cells slots Q (F0 m tgt ls rest)) (kf : b ≤ a → W p l e R s m args below meth c H locs cells slots Q (F0 m (pc + 3) ls rest)) : W p l e R s m args below meth c H locs cells slots Q (F0 m pc ls (.int (iv b) :: .int (iv a) :: rest)) := lv_icmp_lt hx hb d ht (fun q => kt ((iv_lt ha hc).mp q)) (fun q => kf (Int.not_lt.mp fun z => q ((iv_lt ha hc).mpr z)))
theorem r_icmp_ge (hx : p.tables.exec = Jvm.exec) (hb : c.code = cc) {a b : Int} {off : Int} (tgt : Nat) (d : decode cc pc = .ok (.if_icmp .ge off, 3)) (ht : (pc : Int) + off = (tgt : Int)) (ha : -2147483648 ≤ a ∧ a < 2147483648) (hc : -2147483648 ≤ b ∧ b < 2147483648) (kt : b ≤ a → W p l e R s m args below meth c H locs cells slots Q (F0 m tgt ls rest)) (kf : a < b → W p l e R s m args below meth c H locs cells slots Q (F0 m (pc + 3) ls rest)) : W p l e R s m args below meth c H locs cells slots Q (F0 m pc ls (.int (iv b) :: .int (iv a) :: rest)) := lv_icmp_ge hx hb d ht (fun q => kt ((iv_le hc ha).mp q)) (fun q => kf (Int.not_le.mp fun z => q ((iv_le hc ha).mpr z)))
theorem r_icmp_gt (hx : p.tables.exec = Jvm.exec) (hb : c.code = cc) {a b : Int} {off : Int} (tgt : Nat) (d : decode cc pc = .ok (.if_icmp .gt off, 3)) (ht : (pc : Int) + off = (tgt : Int)) (ha : -2147483648 ≤ a ∧ a < 2147483648) (hc : -2147483648 ≤ b ∧ b < 2147483648) (kt : b < a → W p l e R s m args below meth c H locs cells slots Q (F0 m tgt ls rest)) (kf : a ≤ b → W p l e R s m args below meth c H locs cells slots Q (F0 m (pc + 3) ls rest)) : W p l e R s m args below meth c H locs cells slots Q (F0 m pc ls (.int (iv b) :: .int (iv a) :: rest)) := lv_icmp_gt hx hb d ht (fun q => kt ((iv_lt hc ha).mp q)) (fun q => kf (Int.not_lt.mp fun z => q ((iv_lt hc ha).mpr z)))
theorem r_icmp_le (hx : p.tables.exec = Jvm.exec) (hb : c.code = cc) {a b : Int} {off : Int} (tgt : Nat) (d : decode cc pc = .ok (.if_icmp .le off, 3)) (ht : (pc : Int) + off = (tgt : Int)) (ha : -2147483648 ≤ a ∧ a < 2147483648) (hc : -2147483648 ≤ b ∧ b < 2147483648) (kt : a ≤ b → W p l e R s m args below meth c H locs cells slots Q (F0 m tgt ls rest)) (kf : b < a → W p l e R s m args below meth c H locs cells slots Q (F0 m (pc + 3) ls rest)) : W p l e R s m args below meth c H locs cells slots Q (F0 m pc ls (.int (iv b) :: .int (iv a) :: rest)) := lv_icmp_le hx hb d ht (fun q => kt ((iv_le ha hc).mp q)) (fun q => kf (Int.not_le.mp fun z => q ((iv_le ha hc).mpr z)))
theorem r_icmp_eq (hx : p.tables.exec = Jvm.exec) (hb : c.code = cc) {a b : Int} {off : Int} (tgt : Nat) (d : decode cc pc = .ok (.if_icmp .eq off, 3)) (ht : (pc : Int) + off = (tgt : Int)) (ha : -2147483648 ≤ a ∧ a < 2147483648) (hc : -2147483648 ≤ b ∧ b < 2147483648) (kt : a = b → W p l e R s m args below meth c H locs cells slots Q (F0 m tgt ls rest)) (kf : ¬ a = b → W p l e R s m args below meth c H locs cells slots Q (F0 m (pc + 3) ls rest)) : W p l e R s m args below meth c H locs cells slots Q (F0 m pc ls (.int (iv b) :: .int (iv a) :: rest)) := lv_icmp_eq hx hb d ht (fun q => kt (iv_inj ha hc q)) (fun q => kf fun z => q (congrArg iv z))
theorem r_icmp_ne (hx : p.tables.exec = Jvm.exec) (hb : c.code = cc) {a b : Int} {off : Int} (tgt : Nat) (d : decode cc pc = .ok (.if_icmp .ne off, 3)) (ht : (pc : Int) + off = (tgt : Int)) (ha : -2147483648 ≤ a ∧ a < 2147483648) (hc : -2147483648 ≤ b ∧ b < 2147483648) (kt : ¬ a = b → W p l e R s m args below meth c H locs cells slots Q (F0 m tgt ls rest)) (kf : a = b → W p l e R s m args below meth c H locs cells slots Q (F0 m (pc + 3) ls rest)) : W p l e R s m args below meth c H locs cells slots Q (F0 m pc ls (.int (iv b) :: .int (iv a) :: rest)) := lv_icmp_ne hx hb d ht (fun q => kt fun z => q (congrArg iv z)) (fun q => kf (iv_inj ha hc q))
theorem r_if_lt (hx : p.tables.exec = Jvm.exec) (hb : c.code = cc) {a : Int} {off : Int} (tgt : Nat) (d : decode cc pc = .ok (.ifCond .lt off, 3)) (ht : (pc : Int) + off = (tgt : Int)) (ha : -2147483648 ≤ a ∧ a < 2147483648) (kt : a < 0 → W p l e R s m args below meth c H locs cells slots Q (F0 m tgt ls rest)) (kf : 0 ≤ a → W p l e R s m args below meth c H locs cells slots Q (F0 m (pc + 3) ls rest)) : W p l e R s m args below meth c H locs cells slots Q (F0 m pc ls (.int (iv a) :: rest)) := lv_if_lt hx hb d ht (fun q => kt ((iv_lt ha (by decide)).mp q)) (fun q => kf (Int.not_lt.mp fun z => q ((iv_lt ha (by decide)).mpr z)))
theorem r_if_ge (hx : p.tables.exec = Jvm.exec) (hb : c.code = cc) {a : Int} {off : Int} (tgt : Nat) (d : decode cc pc = .ok (.ifCond .ge off, 3)) (ht : (pc : Int) + off = (tgt : Int)) (ha : -2147483648 ≤ a ∧ a < 2147483648) (kt : 0 ≤ a → W p l e R s m args below meth c H locs cells slots Q (F0 m tgt ls rest)) (kf : a < 0 → W p l e R s m args below meth c H locs cells slots Q (F0 m (pc + 3) ls rest)) : W p l e R s m args below meth c H locs cells slots Q (F0 m pc ls (.int (iv a) :: rest)) := lv_if_ge hx hb d ht (fun q => kt ((iv_le (by decide) ha).mp q)) (fun q => kf (Int.not_le.mp fun z => q ((iv_le (by decide) ha).mpr z)))
theorem r_if_gt (hx : p.tables.exec = Jvm.exec) (hb : c.code = cc) {a : Int} {off : Int} (tgt : Nat) (d : decode cc pc = .ok (.ifCond .gt off, 3)) (ht : (pc : Int) + off = (tgt : Int)) (ha : -2147483648 ≤ a ∧ a < 2147483648) (kt : 0 < a → W p l e R s m args below meth c H locs cells slots Q (F0 m tgt ls rest)) (kf : a ≤ 0 → W p l e R s m args below meth c H locs cells slots Q (F0 m (pc + 3) ls rest)) : W p l e R s m args below meth c H locs cells slots Q (F0 m pc ls (.int (iv a) :: rest)) := lv_if_gt hx hb d ht (fun q => kt ((iv_lt (by decide) ha).mp q)) (fun q => kf (Int.not_lt.mp fun z => q ((iv_lt (by decide) ha).mpr z)))
theorem r_if_le (hx : p.tables.exec = Jvm.exec) (hb : c.code = cc) {a : Int} {off : Int} (tgt : Nat) (d : decode cc pc = .ok (.ifCond .le off, 3)) (ht : (pc : Int) + off = (tgt : Int)) (ha : -2147483648 ≤ a ∧ a < 2147483648) (kt : a ≤ 0 → W p l e R s m args below meth c H locs cells slots Q (F0 m tgt ls rest)) (kf : 0 < a → W p l e R s m args below meth c H locs cells slots Q (F0 m (pc + 3) ls rest)) : W p l e R s m args below meth c H locs cells slots Q (F0 m pc ls (.int (iv a) :: rest)) := lv_if_le hx hb d ht (fun q => kt ((iv_le ha (by decide)).mp q)) (fun q => kf (Int.not_le.mp fun z => q ((iv_le ha (by decide)).mpr z)))
theorem r_if_eq (hx : p.tables.exec = Jvm.exec) (hb : c.code = cc) {a : Int} {off : Int} (tgt : Nat) (d : decode cc pc = .ok (.ifCond .eq off, 3)) (ht : (pc : Int) + off = (tgt : Int)) (ha : -2147483648 ≤ a ∧ a < 2147483648) (kt : a = 0 → W p l e R s m args below meth c H locs cells slots Q (F0 m tgt ls rest)) (kf : ¬ a = 0 → W p l e R s m args below meth c H locs cells slots Q (F0 m (pc + 3) ls rest)) : W p l e R s m args below meth c H locs cells slots Q (F0 m pc ls (.int (iv a) :: rest)) := lv_if_eq hx hb d ht (fun q => kt (iv_inj ha (by decide) q)) (fun q => kf fun z => q (congrArg iv z))
theorem r_if_ne (hx : p.tables.exec = Jvm.exec) (hb : c.code = cc) {a : Int} {off : Int} (tgt : Nat) (d : decode cc pc = .ok (.ifCond .ne off, 3)) (ht : (pc : Int) + off = (tgt : Int)) (ha : -2147483648 ≤ a ∧ a < 2147483648) (kt : ¬ a = 0 → W p l e R s m args below meth c H locs cells slots Q (F0 m tgt ls rest)) (kf : a = 0 → W p l e R s m args below meth c H locs cells slots Q (F0 m (pc + 3) ls rest)) : W p l e R s m args below meth c H locs cells slots Q (F0 m pc ls (.int (iv a) :: rest)) := lv_if_ne hx hb d ht (fun q => kt fun z => q (congrArg iv z)) (fun q => kf (iv_inj ha (by decide) q))
theorem r_bool_eq (hx : p.tables.exec = Jvm.exec) (hb : c.code = cc) {a : Bool} {off : Int} (tgt : Nat) (d : decode cc pc = .ok (.ifCond .eq off, 3)) (ht : (pc : Int) + off = (tgt : Int)) (kt : a = false → W p l e R s m args below meth c H locs cells slots Q (F0 m tgt ls rest)) (kf : a = true → W p l e R s m args below meth c H locs cells slots Q (F0 m (pc + 3) ls rest)) : W p l e R s m args below meth c H locs cells slots Q (F0 m pc ls (.int (iv (b2i a)) :: rest)) := r_if_eq hx hb tgt d ht (by have := b2i_rng a; omega) (fun q => kt (by cases a; rfl; exact absurd q (by decide))) (fun q => kf (by cases a; exact absurd rfl q; rfl))
theorem r_bool_ne (hx : p.tables.exec = Jvm.exec) (hb : c.code = cc) {a : Bool} {off : Int} (tgt : Nat) (d : decode cc pc = .ok (.ifCond .ne off, 3)) (ht : (pc : Int) + off = (tgt : Int)) (kt : a = true → W p l e R s m args below meth c H locs cells slots Q (F0 m tgt ls rest)) (kf : a = false → W p l e R s m args below meth c H locs cells slots Q (F0 m (pc + 3) ls rest)) : W p l e R s m args below meth c H locs cells slots Q (F0 m pc ls (.int (iv (b2i a)) :: rest)) := r_if_ne hx hb tgt d ht (by have := b2i_rng a; omega) (fun q => kt (by cases a; exact absurd rfl q; rfl)) (fun q => kf (by cases a; rfl; exact absurd q (by decide)))
theorem r_iald {D : va_G} {tys : List (ClassId × FieldType)} {ws : va_W} {a : Nat} (hx : p.tables.exec = Jvm.exec) (hb : c.code = cc) (hK : va_K D vwCl tys s) (hP : va_P D vwCl ws H) (q0 t0 : Nat) {cA : ClassId} {n : Nat} {F : Nat → Int} (ha : ws[q0]? = some (a, .inl (cA, n, .inl (fun j => iv (F j))))) (ht : tys[t0]? = some (cA, .int)) {z : Int} (k : Nat) (hz : z = (k : Int)) (hk : k < n) (hn : n < 2147483648) (d : decode cc pc = .ok (.iaload, 1)) (kk : W p l e R s m args below meth c H locs cells slots Q (F0 m (pc + 1) ls (.int (iv (F k)) :: rest))) : W p l e R s m args below meth c H locs cells slots Q (F0 m pc ls (.int (iv z) :: .ref a :: rest)) := by
  obtain ⟨h1, h2⟩ := iv_ix hz hk hn
  refine va_iald hx hb hK hP q0 t0 ha ht h1 d ?_
  rw [h2]
  exact kk
theorem r_zald {D : va_G} {tys : List (ClassId × FieldType)} {ws : va_W} {a : Nat} (hx : p.tables.exec = Jvm.exec) (hb : c.code = cc) (hK : va_K D vwCl tys s) (hP : va_P D vwCl ws H) (q0 t0 : Nat) {cA : ClassId} {n : Nat} {F : Nat → Int} (ha : ws[q0]? = some (a, .inl (cA, n, .inl (fun j => iv (F j))))) (ht : tys[t0]? = some (cA, .boolean)) {z : Int} (k : Nat) (hz : z = (k : Int)) (hk : k < n) (hn : n < 2147483648) (d : decode cc pc = .ok (.baload, 1)) (kk : W p l e R s m args below meth c H locs cells slots Q (F0 m (pc + 1) ls (.int (iv (F k)) :: rest))) : W p l e R s m args below meth c H locs cells slots Q (F0 m pc ls (.int (iv z) :: .ref a :: rest)) := by
  obtain ⟨h1, h2⟩ := iv_ix hz hk hn
  refine va_zald hx hb hK hP q0 t0 ha ht h1 d ?_
  rw [h2]
  exact kk
theorem r_iast {D : va_G} {A : Nat → Prop} {H0 : Heap} {tys : List (ClassId × FieldType)} {ws : va_W} {a : Nat} (hx : p.tables.exec = Jvm.exec) (hb : c.code = cc) (hK : va_K D vwCl tys s) (hP : va_P D vwCl ws H) (hD : va_D A ws) (hS : va_S A H0 H locs) (q0 t0 : Nat) {cA : ClassId} {n : Nat} {F : Nat → Int} (ha : ws[q0]? = some (a, .inl (cA, n, .inl (fun j => iv (F j))))) (ht : tys[t0]? = some (cA, .int)) {z x : Int} (k : Nat) (hz : z = (k : Int)) (hk : k < n) (hn : n < 2147483648) (d : decode cc pc = .ok (.iastore, 1)) (kk : ∀ (H1 : Heap) (locs1 : List Loc), va_P D vwCl (ws.set q0 (a, .inl (cA, n, .inl (fun j => iv (updI F k x j))))) H1 → va_D A (ws.set q0 (a, .inl (cA, n, .inl (fun j => iv (updI F k x j))))) → va_S A H0 H1 locs1 → W p l e R s m args below meth c H1 locs1 cells slots Q (F0 m (pc + 1) ls rest)) : W p l e R s m args below meth c H locs cells slots Q (F0 m pc ls (.int (iv x) :: .int (iv z) :: .ref a :: rest)) := by
  obtain ⟨h1, h2⟩ := iv_ix hz hk hn
  refine va_iast hx hb hK hP hD hS q0 t0 ha ht h1 d (fun H1 locs1 g1 g2 g3 => ?_)
  rw [h2, iv_upd] at g1 g2
  exact kk H1 locs1 g1 g2 g3
theorem r_zast {D : va_G} {A : Nat → Prop} {H0 : Heap} {tys : List (ClassId × FieldType)} {ws : va_W} {a : Nat} (hx : p.tables.exec = Jvm.exec) (hb : c.code = cc) (hK : va_K D vwCl tys s) (hP : va_P D vwCl ws H) (hD : va_D A ws) (hS : va_S A H0 H locs) (q0 t0 : Nat) {cA : ClassId} {n : Nat} {F : Nat → Int} (ha : ws[q0]? = some (a, .inl (cA, n, .inl (fun j => iv (F j))))) (ht : tys[t0]? = some (cA, .boolean)) {z x : Int} (k : Nat) (hz : z = (k : Int)) (hk : k < n) (hn : n < 2147483648) (hx01 : x = 0 ∨ x = 1) (d : decode cc pc = .ok (.bastore, 1)) (kk : ∀ (H1 : Heap) (locs1 : List Loc), va_P D vwCl (ws.set q0 (a, .inl (cA, n, .inl (fun j => iv (updI F k x j))))) H1 → va_D A (ws.set q0 (a, .inl (cA, n, .inl (fun j => iv (updI F k x j))))) → va_S A H0 H1 locs1 → W p l e R s m args below meth c H1 locs1 cells slots Q (F0 m (pc + 1) ls rest)) : W p l e R s m args below meth c H locs cells slots Q (F0 m pc ls (.int (iv x) :: .int (iv z) :: .ref a :: rest)) := by
  obtain ⟨h1, h2⟩ := iv_ix hz hk hn
  have hnar : vp_nar .boolean (iv x) = iv x := by rcases hx01 with rfl | rfl <;> decide
  refine va_zast hx hb hK hP hD hS q0 t0 ha ht h1 d (fun H1 locs1 g1 g2 g3 => ?_)
  rw [h2, hnar, iv_upd] at g1 g2
  exact kk H1 locs1 g1 g2 g3
theorem r_max {own : String} {index : Nat} (hx : p.tables.exec = Jvm.exec) (hb : c.code = cc) (hml : c.maxLocals = ls.size) (hown : s.vm.findClass own = some m.cls) (hlink : (Cond.methodLink own index Lib.Math.max.name).before args s = true) (hstat : (Cond.static Lib.Math.max.name).before args s = true) (hini : (Cond.initialized "java/lang/Math").before args s = true) (hcode : (Cond.code Lib.Math.max.name Lib.Math.max.code 2 (some .int)).before args s = true) (hframes : 1 ≤ R.frames) (hlocals : (rest.map fun v => v.category).sum + 13 ≤ R.locals) (hc : cells ≤ R.cells) (hs : slots ≤ R.slots) {a b : Int} (ha : -2147483648 ≤ a ∧ a < 2147483648) (hb2 : -2147483648 ≤ b ∧ b < 2147483648) (d : decode cc pc = .ok (.invokestatic index, 3)) (k : W p l e R s m args below meth c H locs cells slots Q (F0 m (pc + 3) ls (.int (iv (max a b)) :: rest))) : W p l e R s m args below meth c H locs cells slots Q (F0 m pc ls (.int (iv b) :: .int (iv a) :: rest)) := va_mmax hx hb hml hown hlink hstat hini hcode hframes hlocals hc hs d (by rw [iv_max ha hb2]; exact k)
theorem r_min {own : String} {index : Nat} (hx : p.tables.exec = Jvm.exec) (hb : c.code = cc) (hml : c.maxLocals = ls.size) (hown : s.vm.findClass own = some m.cls) (hlink : (Cond.methodLink own index Lib.Math.min.name).before args s = true) (hstat : (Cond.static Lib.Math.min.name).before args s = true) (hini : (Cond.initialized "java/lang/Math").before args s = true) (hcode : (Cond.code Lib.Math.min.name Lib.Math.min.code 2 (some .int)).before args s = true) (hframes : 1 ≤ R.frames) (hlocals : (rest.map fun v => v.category).sum + 13 ≤ R.locals) (hc : cells ≤ R.cells) (hs : slots ≤ R.slots) {a b : Int} (ha : -2147483648 ≤ a ∧ a < 2147483648) (hb2 : -2147483648 ≤ b ∧ b < 2147483648) (d : decode cc pc = .ok (.invokestatic index, 3)) (k : W p l e R s m args below meth c H locs cells slots Q (F0 m (pc + 3) ls (.int (iv (min a b)) :: rest))) : W p l e R s m args below meth c H locs cells slots Q (F0 m pc ls (.int (iv b) :: .int (iv a) :: rest)) := va_mmin hx hb hml hown hlink hstat hini hcode hframes hlocals hc hs d (by
    have h : ∀ t f : Int32, (if iv b < iv a then t else f) = if b < a then t else f := fun t f => by
      by_cases q : b < a
      · rw [if_pos q, if_pos ((iv_lt hb2 ha).mpr q)]
      · rw [if_neg q, if_neg (fun z => q ((iv_lt hb2 ha).mp z))]
    have h' : ∀ t f : Int32, (if iv a < iv b then t else f) = if a < b then t else f := fun t f => by
      by_cases q : a < b
      · rw [if_pos q, if_pos ((iv_lt ha hb2).mpr q)]
      · rw [if_neg q, if_neg (fun z => q ((iv_lt ha hb2).mp z))]
    have e : (if iv b < iv a then iv b else iv a) = iv (min a b) := by
      rw [h]
      by_cases q : b < a
      · rw [if_pos q, show min a b = b by omega]
      · rw [if_neg q, show min a b = a by omega]
    first | (rw [e]; exact k) | (rw [h']; by_cases q : a < b; (rw [if_pos q]; rw [show min a b = a by omega] at k; exact k); (rw [if_neg q]; rw [show min a b = b by omega] at k; exact k)))
theorem r_abs {own : String} {index : Nat} (hx : p.tables.exec = Jvm.exec) (hb : c.code = cc) (hml : c.maxLocals = ls.size) (hown : s.vm.findClass own = some m.cls) (hlink : (Cond.methodLink own index Lib.Math.abs.name).before args s = true) (hstat : (Cond.static Lib.Math.abs.name).before args s = true) (hini : (Cond.initialized "java/lang/Math").before args s = true) (hcode : (Cond.code Lib.Math.abs.name Lib.Math.abs.code 1 (some .int)).before args s = true) (hframes : 1 ≤ R.frames) (hlocals : (rest.map fun v => v.category).sum + 13 ≤ R.locals) (hc : cells ≤ R.cells) (hs : slots ≤ R.slots) {a : Int} (ha : -2147483648 ≤ a ∧ a < 2147483648) (d : decode cc pc = .ok (.invokestatic index, 3)) (k : W p l e R s m args below meth c H locs cells slots Q (F0 m (pc + 3) ls (.int (iv (max a (-a))) :: rest))) : W p l e R s m args below meth c H locs cells slots Q (F0 m pc ls (.int (iv a) :: rest)) := va_mabs hx hb hml hown hlink hstat hini hcode hframes hlocals hc hs d (by
    by_cases q : 0 ≤ a
    · rw [if_pos (show (0 : Int32) ≤ iv a from (iv_le (by decide) ha).mpr q)]
      rw [show max a (-a) = a by omega] at k
      exact k
    · rw [if_neg (show ¬ (0 : Int32) ≤ iv a from fun z => q ((iv_le (by decide) ha).mp (show iv 0 ≤ iv a from z))), iv_zero, iv_sub]
      rw [show max a (-a) = 0 - a by omega] at k
      exact k)
end RW
end
section
-- CONTRACTS in one form: a world in, a world out
abbrev wPre (D : va_G) (tys : List (ClassId × FieldType)) (av : List Value) (w : va_W) (sz : Nat) : Array Value → State → Prop := va_Pc av (fun U => U.heap.size = sz ∧ va_P D vwCl w U.heap ∧ va_K D vwCl tys U ∧ va_D (fun _ => True) w)
def wB (D : va_G) (A : Nat → Prop) (u : va_W) (t : State) : Prop := va_P D vwCl u t.heap ∧ va_D A u
abbrev rmOf (f lc mc ms : Nat) : Room := { frames := f, cells := mc, slots := ms, locals := lc }
abbrev QcT : Type := (Nat → Prop) → Array Value → State → Outcome → State → Prop
def qI (D : va_G) (post : Int32 → va_W → Prop) : QcT := fun A => va_Qi post (wB D A) A
def qL (D : va_G) (post : Int64 → va_W → Prop) : QcT := fun A => va_Ql post (wB D A) A
def qD (D : va_G) (post : UInt64 → va_W → Prop) : QcT := fun A => va_Qd post (wB D A) A
def qV (D : va_G) (post : va_W → Prop) : QcT := fun A => va_Qv post (wB D A) A
def qR (D : va_G) (post : Nat → va_W → Prop) : QcT := fun A => va_Qr (S := va_W) (fun _ => True) (fun u a t => post a u ∧ wB D A u t) A
def MtG (l : Launch) (y : MethodName) (ws : List Cond) (f lc mc ms : Nat) (D : va_G) (tys : List (ClassId × FieldType)) (av : List Value) (w : va_W) (qc : QcT) : Prop := ∀ sz, Met l y ws (rmOf f lc mc ms) (wPre D tys av w sz) (qc (va_A w sz)) mc ms (va_A w sz)
theorem MtG.mk {l : Launch} {y : MethodName} {ws ws' : List Cond} {f lc mc ms : Nat} {D : va_G} {tys : List (ClassId × FieldType)} {av : List Value} {w : va_W} {qc : QcT} {cc : ByteArray} {maxL : Nat} {ret : Option FieldType} (hy : plainName y.cls = true) (hw : ws = Cond.code y cc maxL ret :: ws') (hL : (lg_sl av).length ≤ maxL)
    (body : ∀ (p : Program) (e : Env) (s : State) (m : MethodId) (below : List Frame) (meth : Method) (c : Code) (A : Nat → Prop) (ls : Array Slot), p.tables.exec = Jvm.exec → c.code = cc → meth.sig.returnType = ret → meth.locks = false → c.maxLocals = maxL → s.vm.findClass y.cls = some m.cls → meth.name = y.name → (∀ w ∈ ws, w.before av.toArray s = true) → va_K D vwCl tys s → (∀ q, s.heap.size ≤ q → A q) → va_P D vwCl w s.heap → va_D A w → va_S A s.heap s.heap [] → lv_has ls maxL (lv_args 0 av) →
      W p l e (rmOf f lc mc ms) s m av.toArray below meth c s.heap [] 0 0 (MQ below (qc A) av.toArray s mc ms A) (F0 m 0 ls [])) : MtG l y ws f lc mc ms D tys av w qc := by
  intro sz
  refine Met.ofW (cc := cc) (maxL := maxL) (ret := ret) hy hw ?_
  intro p e s m args below meth c s₁ B hml hv
  obtain ⟨rfl, hsz, hP, hK, hD0⟩ := hv
  have hts := atoms_spec (ws := ws) B.pre
  have hown : s.vm.findClass y.cls = some m.cls := findClass_of_methodNamed B.named
  have hin : meth.name = y.name := (name_of_methodNamed B.named B.method).1
  subst hsz
  have hl := lv_entry av (n := maxL) hL
  rw [lg_entry_eq]
  exact body p e s m below meth c (va_A w s.heap.size) _ B.exec B.bytes B.returns B.notSynchronized hml hown hin hts hK (fun q h => Or.inr h) hP hD0.self va_S.rf hl
section ENDS
variable {p : Program} {l : Launch} {e : Env} {R : Room} {s : State} {m : MethodId} {args : Array Value} {below : List Frame} {meth : Method} {c : Code} {H : Heap} {locs : List Loc} {cells slots mc ms : Nat} {cc : ByteArray} {pc : Nat} {ls : Array Slot} {D : va_G} {A : Nat → Prop}
theorem e_int {post : Int32 → va_W → Prop} {u : va_W} {v : Int32} (hx : p.tables.exec = Jvm.exec) (hb : c.code = cc) (hr : meth.sig.returnType = some .int) (hlk : meth.locks = false) (d : decode cc pc = .ok (.ireturn, 1)) (hS : va_S A s.heap H locs) (hP : va_P D vwCl u H) (hD : va_D A u) (hc : cells ≤ mc) (hs : slots ≤ ms) (hp : post v u) : W p l e R s m args below meth c H locs cells slots (MQ below (qI D post A) args s mc ms A) (F0 m pc ls [.int v]) :=
  W.widen hc hs (W.iret hx hb hr (fun t ht _ => ⟨⟨v, u, rfl, hp, by rw [ht]; exact hP, hD⟩, hS.F ht⟩) hS.2.2 d (hlocks := hlk))
theorem e_bool {post : Int32 → va_W → Prop} {u : va_W} {v : Bool} (hx : p.tables.exec = Jvm.exec) (hb : c.code = cc) (hr : meth.sig.returnType = some .boolean) (hlk : meth.locks = false) (d : decode cc pc = .ok (.ireturn, 1)) (hS : va_S A s.heap H locs) (hP : va_P D vwCl u H) (hD : va_D A u) (hc : cells ≤ mc) (hs : slots ≤ ms) (hp : post (iv (b2i v)) u) : W p l e R s m args below meth c H locs cells slots (MQ below (qI D post A) args s mc ms A) (F0 m pc ls [.int (iv (b2i v))]) :=
  W.widen hc hs (W.zret hx hb hr (by cases v <;> decide) (fun t ht _ => ⟨⟨_, u, rfl, hp, by rw [ht]; exact hP, hD⟩, hS.F ht⟩) hS.2.2 d (hlocks := hlk))
theorem e_long {post : Int64 → va_W → Prop} {u : va_W} {v : Int64} (hx : p.tables.exec = Jvm.exec) (hb : c.code = cc) (hr : meth.sig.returnType = some .long) (hlk : meth.locks = false) (d : decode cc pc = .ok (.lreturn, 1)) (hS : va_S A s.heap H locs) (hP : va_P D vwCl u H) (hD : va_D A u) (hc : cells ≤ mc) (hs : slots ≤ ms) (hp : post v u) : W p l e R s m args below meth c H locs cells slots (MQ below (qL D post A) args s mc ms A) (F0 m pc ls [.long v]) :=
  W.widen hc hs (W.lret hx hb hr (fun t ht _ => ⟨⟨v, u, rfl, hp, by rw [ht]; exact hP, hD⟩, hS.F ht⟩) hS.2.2 d (hlocks := hlk))
theorem e_void {post : va_W → Prop} {u : va_W} (hx : p.tables.exec = Jvm.exec) (hb : c.code = cc) (hr : meth.sig.returnType = none) (hlk : meth.locks = false) (d : decode cc pc = .ok (.return_, 1)) (hS : va_S A s.heap H locs) (hP : va_P D vwCl u H) (hD : va_D A u) (hc : cells ≤ mc) (hs : slots ≤ ms) (hp : post u) : W p l e R s m args below meth c H locs cells slots (MQ below (qV D post A) args s mc ms A) (F0 m pc ls []) :=
  W.widen hc hs (W.vret hx hb hr (fun t ht _ => ⟨⟨u, rfl, hp, by rw [ht]; exact hP, hD⟩, hS.F ht⟩) hS.2.2 d (hlocks := hlk))
theorem e_ref {post : Nat → va_W → Prop} {u : va_W} {a : Nat} {rt : FieldType} (hx : p.tables.exec = Jvm.exec) (hb : c.code = cc) (hr : meth.sig.returnType = some rt) (hrt : (∃ n, rt = .object n) ∨ ∃ t, rt = .array t) (hlk : meth.locks = false) (d : decode cc pc = .ok (.areturn, 1)) (hS : va_S A s.heap H locs) (hP : va_P D vwCl u H) (hD : va_D A u) (hc : cells ≤ mc) (hs : slots ≤ ms) (hp : post a u) : W p l e R s m args below meth c H locs cells slots (MQ below (qR D post A) args s mc ms A) (F0 m pc ls [.ref a]) :=
  W.widen hc hs (W.aret hx hb hr hrt (Or.inr ⟨a, rfl⟩) (fun t ht _ => ⟨⟨u, a, rfl, trivial, hp, by rw [ht]; exact hP, hD⟩, hS.F ht⟩) hS.2.2 d (hlocks := hlk))
end ENDS
section CALLS
variable {p : Program} {l : Launch} {e : Env} {R : Room} {s : State} {m : MethodId} {args : Array Value} {below : List Frame} {meth : Method} {c : Code} {H : Heap} {locs : List Loc} {cells slots mc ms : Nat} {cc : ByteArray} {pc : Nat} {ls : Array Slot} {D : va_G} {A : Nat → Prop} {Q : State → Prop}
variable {tys : List (ClassId × FieldType)} {ws wc wr : va_W} {H0 : Heap} {As rest st0 : List Value} {f lc : Nat}
theorem w_blind (D : va_G) (tys : List (ClassId × FieldType)) (av : List Value) (w : va_W) (sz : Nat) : FrameBlind (wPre D tys av w sz) := fun a U g mk q => by
  obtain ⟨q0, q1, qP, qK, qD⟩ := q
  exact ⟨q0, q1, qP, va_K.moved (u := U) (U := U.calling g mk a) (Vm.Alike.refl U.vm) qK, qD⟩
theorem w_pre (hK : va_K D vwCl tys s) (hP : va_P D vwCl ws H) (hD : va_D A ws) (hp : ws.Perm (wc ++ wr)) (av : List Value) : ∀ U : State, U.heap = H → s.WarmedH U.vm → wPre D tys av wc H.size av.toArray U := fun U hU hW =>
  ⟨rfl, by rw [hU], by rw [hU]; exact (wP_app.mp (wP_perm hP hp)).1, va_K.moved hW.alike hK, (wD_app1 (wD_perm hD hp)).weaken (fun _ _ _ _ => trivial)⟩
theorem w_recv {b q0 ci : Nat} {fs : List Value} {r : vw_C} (hK : va_K D vwCl tys s) (hP : va_P D vwCl ws H) (hc : vwCl[ci]? = some r) (he : ws[q0]? = some (b, .inr (ci, fs))) : ∃ cell : Cell, H[b]? = some cell ∧ cell.vm.isStatics = false ∧ s.vm.findClass r.1 = some cell.cls := va_recv hK hP hc he
theorem g_V {Ts ws1 : List Cond} {nL maxL n index : Nat} {own C : String} {y : MethodName} {bytes : ByteArray} {ret : Option FieldType} {qc : QcT} {b q0 ci : Nat} {fs : List Value} {r : vw_C} (S : CallFix p m c cc nL s args Ts own) (hM : MtG l y ws1 f lc mc ms D tys (.ref b :: As) wc qc) (cw : CallW R s args own C index y bytes maxL ret ws1 (rmOf f lc mc ms) mc ms n) (hK : va_K D vwCl tys s) (hP : va_P D vwCl ws H) (hD : va_D A ws) (hp : ws.Perm (wc ++ wr)) (he : ws[q0]? = some (b, .inr (ci, fs))) (hc : vwCl[ci]? = some r) (hC : r.1 = C) (hn : As.length = n) (hsize : ls.size = nL) (hst : st0 = As.reverse ++ .ref b :: rest) (hW : (rest.map fun v => v.category).sum ≤ 8) (d : decode cc pc = .ok (.invokevirtual index, 3)) (hf : cells + mc ≤ R.cells ∧ slots + ms ≤ R.slots) : va_Run p l e R s m args below meth c H locs cells slots mc ms (F0 m pc ls st0) rest (qc (va_A wc H.size) (Value.ref b :: As).toArray) (va_A wc H.size) := by
  subst hC
  exact va_runV (g := F0 m pc ls st0) S (hM H.size) cw ⟨w_blind _ _ _ _ _, w_recv hK hP hc he, w_pre hK hP hD hp _⟩ rfl hn hsize hst (by simpa [JFrame.monitorRoom] using hW) d hf
theorem g_S {Ts ws1 : List Cond} {nL maxL n index : Nat} {own : String} {y : MethodName} {bytes : ByteArray} {ret : Option FieldType} {qc : QcT} (S : CallFix p m c cc nL s args Ts own) (hM : MtG l y ws1 f lc mc ms D tys As wc qc) (cw : CallB R s args own index y bytes maxL ret ws1 (rmOf f lc mc ms) mc ms n ∧ (Cond.static y).before args s = true) (hK : va_K D vwCl tys s) (hP : va_P D vwCl ws H) (hD : va_D A ws) (hp : ws.Perm (wc ++ wr)) (hn : As.length = n) (hsize : ls.size = nL) (hst : st0 = As.reverse ++ rest) (hW : (rest.map fun v => v.category).sum ≤ 8) (d : decode cc pc = .ok (.invokestatic index, 3)) (hf : cells + mc ≤ R.cells ∧ slots + ms ≤ R.slots) : va_Run p l e R s m args below meth c H locs cells slots mc ms (F0 m pc ls st0) rest (qc (va_A wc H.size) As.toArray) (va_A wc H.size) :=
  va_runS (g := F0 m pc ls st0) S (hM H.size) cw ⟨w_blind _ _ _ _ _, w_pre hK hP hD hp _⟩ rfl hn hsize hst (by simpa [JFrame.monitorRoom] using hW) d hf
theorem g_I {Ts ws1 : List Cond} {nL maxL n index : Nat} {own : String} {y : MethodName} {bytes : ByteArray} {qc : QcT} {b : Nat} (S : CallFix p m c cc nL s args Ts own) (hM : MtG l y ws1 f lc mc ms D tys (.ref b :: As) wc qc) (cw : CallB R s args own index y bytes maxL none ws1 (rmOf f lc mc ms) mc ms n ∧ y.name = "<init>" ∧ (Cond.instanceMethod y).before args s = true) (hK : va_K D vwCl tys s) (hP : va_P D vwCl ws H) (hD : va_D A ws) (hp : ws.Perm (wc ++ wr)) (hn : As.length = n) (hsize : ls.size = nL) (hst : st0 = As.reverse ++ .ref b :: rest) (hW : (rest.map fun v => v.category).sum ≤ 8) (d : decode cc pc = .ok (.invokespecial index, 3)) (hf : cells + mc ≤ R.cells ∧ slots + ms ≤ R.slots) : va_Run p l e R s m args below meth c H locs cells slots mc ms (F0 m pc ls st0) rest (qc (va_A wc H.size) (Value.ref b :: As).toArray) (va_A wc H.size) :=
  va_runI (g := F0 m pc ls st0) S (hM H.size) cw ⟨w_blind _ _ _ _ _, w_pre hK hP hD hp _⟩ rfl hn hsize hst (by simpa [JFrame.monitorRoom] using hW) d hf
theorem k_int {post : Int32 → va_W → Prop} {a : Array Value} (hr : va_Run p l e R s m args below meth c H locs cells slots mc ms (F0 m pc ls st0) rest (qI D post (va_A wc H.size) a) (va_A wc H.size)) (hP : va_P D vwCl ws H) (hD : va_D A ws) (hS : va_S A H0 H locs) (hA : ∀ q, H0.size ≤ q → A q) (hp : ws.Perm (wc ++ wr))
    (kk : ∀ (v : Int32) (u : va_W) (H1 : Heap) (locs1 : List Loc), post v u → va_P D vwCl (u ++ wr) H1 → va_D A (u ++ wr) → va_S A H0 H1 locs1 → W p l e R s m args below meth c H1 locs1 (cells + mc) (slots + ms) Q (F0 m (pc + 3) ls (.int v :: rest))) : W p l e R s m args below meth c H locs cells slots Q (F0 m pc ls st0) := by
  have hF := wF hD hS hA hp
  refine va_calli hr hS (fun q _ h => hF q h) hF (fun v u t H1 locs1 ht _ hw hB _ hk hS1 => ?_)
  obtain ⟨hP1, hD1⟩ := hB
  rw [ht] at hP1
  obtain ⟨g1, g2⟩ := wJ hP hD hp hk hF hP1 hD1
  exact kk v u H1 locs1 hw g1 g2 hS1
theorem k_long {post : Int64 → va_W → Prop} {a : Array Value} (hr : va_Run p l e R s m args below meth c H locs cells slots mc ms (F0 m pc ls st0) rest (qL D post (va_A wc H.size) a) (va_A wc H.size)) (hP : va_P D vwCl ws H) (hD : va_D A ws) (hS : va_S A H0 H locs) (hA : ∀ q, H0.size ≤ q → A q) (hp : ws.Perm (wc ++ wr))
    (kk : ∀ (v : Int64) (u : va_W) (H1 : Heap) (locs1 : List Loc), post v u → va_P D vwCl (u ++ wr) H1 → va_D A (u ++ wr) → va_S A H0 H1 locs1 → W p l e R s m args below meth c H1 locs1 (cells + mc) (slots + ms) Q (F0 m (pc + 3) ls (.long v :: rest))) : W p l e R s m args below meth c H locs cells slots Q (F0 m pc ls st0) := by
  have hF := wF hD hS hA hp
  refine va_calll hr hS (fun q _ h => hF q h) hF (fun v u t H1 locs1 ht _ hw hB _ hk hS1 => ?_)
  obtain ⟨hP1, hD1⟩ := hB
  rw [ht] at hP1
  obtain ⟨g1, g2⟩ := wJ hP hD hp hk hF hP1 hD1
  exact kk v u H1 locs1 hw g1 g2 hS1
theorem k_void {post : va_W → Prop} {a : Array Value} (hr : va_Run p l e R s m args below meth c H locs cells slots mc ms (F0 m pc ls st0) rest (qV D post (va_A wc H.size) a) (va_A wc H.size)) (hP : va_P D vwCl ws H) (hD : va_D A ws) (hS : va_S A H0 H locs) (hA : ∀ q, H0.size ≤ q → A q) (hp : ws.Perm (wc ++ wr))
    (kk : ∀ (u : va_W) (H1 : Heap) (locs1 : List Loc), post u → va_P D vwCl (u ++ wr) H1 → va_D A (u ++ wr) → va_S A H0 H1 locs1 → W p l e R s m args below meth c H1 locs1 (cells + mc) (slots + ms) Q (F0 m (pc + 3) ls rest)) : W p l e R s m args below meth c H locs cells slots Q (F0 m pc ls st0) := by
  have hF := wF hD hS hA hp
  refine va_callv hr hS (fun q _ h => hF q h) hF (fun u t H1 locs1 ht _ hw hB _ hk hS1 => ?_)
  obtain ⟨hP1, hD1⟩ := hB
  rw [ht] at hP1
  obtain ⟨g1, g2⟩ := wJ hP hD hp hk hF hP1 hD1
  exact kk u H1 locs1 hw g1 g2 hS1
theorem k_ref {post : Nat → va_W → Prop} {a : Array Value} (hr : va_Run p l e R s m args below meth c H locs cells slots mc ms (F0 m pc ls st0) rest (qR D post (va_A wc H.size) a) (va_A wc H.size)) (hP : va_P D vwCl ws H) (hD : va_D A ws) (hS : va_S A H0 H locs) (hA : ∀ q, H0.size ≤ q → A q) (hp : ws.Perm (wc ++ wr))
    (kk : ∀ (v : Nat) (u : va_W) (H1 : Heap) (locs1 : List Loc), post v u → va_P D vwCl (u ++ wr) H1 → va_D A (u ++ wr) → va_S A H0 H1 locs1 → W p l e R s m args below meth c H1 locs1 (cells + mc) (slots + ms) Q (F0 m (pc + 3) ls (.ref v :: rest))) : W p l e R s m args below meth c H locs cells slots Q (F0 m pc ls st0) := by
  have hF := wF hD hS hA hp
  refine va_callr hr hS (fun q _ h => hF q h) hF (fun u v t H1 locs1 ht _ _ hB _ hk hS1 => ?_)
  obtain ⟨hw, hP1, hD1⟩ := hB
  rw [ht] at hP1
  obtain ⟨g1, g2⟩ := wJ hP hD hp hk hF hP1 hD1
  exact kk v u H1 locs1 hw g1 g2 hS1
end CALLS
end
