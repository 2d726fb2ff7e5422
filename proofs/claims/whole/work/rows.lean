section
-- ===== PART A: goes FIRST, ahead of the names: the tables' words, and 'selects' of the private methods out of them =====
/-- a private method of a class that the tables say can be made, by its rows of tables_1 -/
def lw_okq (q : MethodName × Nat) : Prop := (q.1.cls ≠ "java/lang/invoke/MethodHandle" ∧ q.1.cls ≠ "java/lang/invoke/VarHandle") ∧ Cond.instantiable q.1.cls q.2 ∈ tables_1 ∧ Cond.privateMethod q.1 ∈ tables_1 ∧ Cond.instanceMethod q.1 ∈ tables_1
theorem lw_p0 : lw_okq (⟨"DollCitadel$Doll", "jointsWornBy", "(I)I"⟩, 9) := ⟨⟨by decide +kernel, by decide +kernel⟩, List.mem_of_getElem? (i := 37) (by decide +kernel), List.mem_of_getElem? (i := 121) (by decide +kernel), List.mem_of_getElem? (i := 122) (by decide +kernel)⟩
theorem lw_p1 : lw_okq (⟨"DollCitadel$Doll", "jointsWithoutLacquer", "()I"⟩, 9) := ⟨⟨by decide +kernel, by decide +kernel⟩, List.mem_of_getElem? (i := 37) (by decide +kernel), List.mem_of_getElem? (i := 125) (by decide +kernel), List.mem_of_getElem? (i := 126) (by decide +kernel)⟩
theorem lw_p2 : lw_okq (⟨"DollCitadel$Doll", "eyesWithDust", "(I)I"⟩, 9) := ⟨⟨by decide +kernel, by decide +kernel⟩, List.mem_of_getElem? (i := 37) (by decide +kernel), List.mem_of_getElem? (i := 129) (by decide +kernel), List.mem_of_getElem? (i := 130) (by decide +kernel)⟩
theorem lw_p3 : lw_okq (⟨"java/lang/Throwable", "fillInStackTrace", "(I)Ljava/lang/Throwable;"⟩, 6) := ⟨⟨by decide +kernel, by decide +kernel⟩, List.mem_of_getElem? (i := 189) (by decide +kernel), List.mem_of_getElem? (i := 187) (by decide +kernel), List.mem_of_getElem? (i := 188) (by decide +kernel)⟩
theorem lw_p4 : lw_okq (⟨"DollCitadel", "tallyOfAll", "(I)I"⟩, 9) := ⟨⟨by decide +kernel, by decide +kernel⟩, List.mem_of_getElem? (i := 14) (by decide +kernel), List.mem_of_getElem? (i := 219) (by decide +kernel), List.mem_of_getElem? (i := 220) (by decide +kernel)⟩
theorem lw_p5 : lw_okq (⟨"DollCitadel", "knownDoll", "(I)LDollCitadel$Doll;"⟩, 9) := ⟨⟨by decide +kernel, by decide +kernel⟩, List.mem_of_getElem? (i := 14) (by decide +kernel), List.mem_of_getElem? (i := 240) (by decide +kernel), List.mem_of_getElem? (i := 241) (by decide +kernel)⟩
theorem lw_p6 : lw_okq (⟨"DollCitadel", "digestJointsInto", "(JI)J"⟩, 9) := ⟨⟨by decide +kernel, by decide +kernel⟩, List.mem_of_getElem? (i := 14) (by decide +kernel), List.mem_of_getElem? (i := 246) (by decide +kernel), List.mem_of_getElem? (i := 247) (by decide +kernel)⟩
theorem lw_p7 : lw_okq (⟨"DollCitadel", "knownPose", "(I)LDollCitadel$Pose;"⟩, 9) := ⟨⟨by decide +kernel, by decide +kernel⟩, List.mem_of_getElem? (i := 14) (by decide +kernel), List.mem_of_getElem? (i := 315) (by decide +kernel), List.mem_of_getElem? (i := 316) (by decide +kernel)⟩
theorem lw_p8 : lw_okq (⟨"DollCitadel", "liveThrough", "(LDollCitadel$Doll;I)I"⟩, 9) := ⟨⟨by decide +kernel, by decide +kernel⟩, List.mem_of_getElem? (i := 14) (by decide +kernel), List.mem_of_getElem? (i := 450) (by decide +kernel), List.mem_of_getElem? (i := 451) (by decide +kernel)⟩
theorem lw_p9 : lw_okq (⟨"DollCitadel$Doll", "eatWig", "(I)V"⟩, 9) := ⟨⟨by decide +kernel, by decide +kernel⟩, List.mem_of_getElem? (i := 37) (by decide +kernel), List.mem_of_getElem? (i := 459) (by decide +kernel), List.mem_of_getElem? (i := 460) (by decide +kernel)⟩
theorem lw_p10 : lw_okq (⟨"DollCitadel$Doll", "loosenDress", "()V"⟩, 9) := ⟨⟨by decide +kernel, by decide +kernel⟩, List.mem_of_getElem? (i := 37) (by decide +kernel), List.mem_of_getElem? (i := 463) (by decide +kernel), List.mem_of_getElem? (i := 464) (by decide +kernel)⟩
theorem lw_p11 : lw_okq (⟨"DollCitadel$Doll", "dryLacquer", "()V"⟩, 9) := ⟨⟨by decide +kernel, by decide +kernel⟩, List.mem_of_getElem? (i := 37) (by decide +kernel), List.mem_of_getElem? (i := 467) (by decide +kernel), List.mem_of_getElem? (i := 468) (by decide +kernel)⟩
theorem lw_p12 : lw_okq (⟨"DollCitadel$Doll", "gatherDust", "()V"⟩, 9) := ⟨⟨by decide +kernel, by decide +kernel⟩, List.mem_of_getElem? (i := 37) (by decide +kernel), List.mem_of_getElem? (i := 471) (by decide +kernel), List.mem_of_getElem? (i := 472) (by decide +kernel)⟩
theorem lw_p13 : lw_okq (⟨"DollCitadelModel", "fail", "(I)I"⟩, 9) := ⟨⟨by decide +kernel, by decide +kernel⟩, List.mem_of_getElem? (i := 482) (by decide +kernel), List.mem_of_getElem? (i := 524) (by decide +kernel), List.mem_of_getElem? (i := 525) (by decide +kernel)⟩
theorem lw_p14 : lw_okq (⟨"DollCitadelModel", "isDoll", "(I)Z"⟩, 9) := ⟨⟨by decide +kernel, by decide +kernel⟩, List.mem_of_getElem? (i := 482) (by decide +kernel), List.mem_of_getElem? (i := 545) (by decide +kernel), List.mem_of_getElem? (i := 546) (by decide +kernel)⟩
theorem lw_p15 : lw_okq (⟨"DollCitadelModel", "isPose", "(I)Z"⟩, 9) := ⟨⟨by decide +kernel, by decide +kernel⟩, List.mem_of_getElem? (i := 482) (by decide +kernel), List.mem_of_getElem? (i := 549) (by decide +kernel), List.mem_of_getElem? (i := 550) (by decide +kernel)⟩
def lw_privs_1 : List (MethodName × Nat) := [(⟨"DollCitadel$Doll", "jointsWornBy", "(I)I"⟩, 9), (⟨"DollCitadel$Doll", "jointsWithoutLacquer", "()I"⟩, 9), (⟨"DollCitadel$Doll", "eyesWithDust", "(I)I"⟩, 9), (⟨"java/lang/Throwable", "fillInStackTrace", "(I)Ljava/lang/Throwable;"⟩, 6), (⟨"DollCitadel", "tallyOfAll", "(I)I"⟩, 9), (⟨"DollCitadel", "knownDoll", "(I)LDollCitadel$Doll;"⟩, 9), (⟨"DollCitadel", "digestJointsInto", "(JI)J"⟩, 9), (⟨"DollCitadel", "knownPose", "(I)LDollCitadel$Pose;"⟩, 9), (⟨"DollCitadel", "liveThrough", "(LDollCitadel$Doll;I)I"⟩, 9), (⟨"DollCitadel$Doll", "eatWig", "(I)V"⟩, 9), (⟨"DollCitadel$Doll", "loosenDress", "()V"⟩, 9), (⟨"DollCitadel$Doll", "dryLacquer", "()V"⟩, 9), (⟨"DollCitadel$Doll", "gatherDust", "()V"⟩, 9), (⟨"DollCitadelModel", "fail", "(I)I"⟩, 9), (⟨"DollCitadelModel", "isDoll", "(I)Z"⟩, 9), (⟨"DollCitadelModel", "isPose", "(I)Z"⟩, 9)]
theorem lw_r1 : ∀ q ∈ lw_privs_1, lw_okq q := List.forall_mem_cons.mpr ⟨lw_p0, List.forall_mem_cons.mpr ⟨lw_p1, List.forall_mem_cons.mpr ⟨lw_p2, List.forall_mem_cons.mpr ⟨lw_p3, List.forall_mem_cons.mpr ⟨lw_p4, List.forall_mem_cons.mpr ⟨lw_p5, List.forall_mem_cons.mpr ⟨lw_p6, List.forall_mem_cons.mpr ⟨lw_p7, List.forall_mem_cons.mpr ⟨lw_p8, List.forall_mem_cons.mpr ⟨lw_p9, List.forall_mem_cons.mpr ⟨lw_p10, List.forall_mem_cons.mpr ⟨lw_p11, List.forall_mem_cons.mpr ⟨lw_p12, List.forall_mem_cons.mpr ⟨lw_p13, List.forall_mem_cons.mpr ⟨lw_p14, List.forall_mem_cons.mpr ⟨lw_p15, fun _ h => absurd h List.not_mem_nil⟩⟩⟩⟩⟩⟩⟩⟩⟩⟩⟩⟩⟩⟩⟩⟩
theorem lw_p16 : lw_okq (⟨"DollCitadelModel", "can", "(II)Z"⟩, 9) := ⟨⟨by decide +kernel, by decide +kernel⟩, List.mem_of_getElem? (i := 482) (by decide +kernel), List.mem_of_getElem? (i := 553) (by decide +kernel), List.mem_of_getElem? (i := 554) (by decide +kernel)⟩
theorem lw_p17 : lw_okq (⟨"DollCitadelModel", "isBroken", "(II)Z"⟩, 9) := ⟨⟨by decide +kernel, by decide +kernel⟩, List.mem_of_getElem? (i := 482) (by decide +kernel), List.mem_of_getElem? (i := 557) (by decide +kernel), List.mem_of_getElem? (i := 558) (by decide +kernel)⟩
theorem lw_p18 : lw_okq (⟨"DollCitadelModel", "li", "(III)I"⟩, 9) := ⟨⟨by decide +kernel, by decide +kernel⟩, List.mem_of_getElem? (i := 482) (by decide +kernel), List.mem_of_getElem? (i := 561) (by decide +kernel), List.mem_of_getElem? (i := 562) (by decide +kernel)⟩
theorem lw_p19 : lw_okq (⟨"DollCitadelModel", "ro", "(II)I"⟩, 9) := ⟨⟨by decide +kernel, by decide +kernel⟩, List.mem_of_getElem? (i := 482) (by decide +kernel), List.mem_of_getElem? (i := 565) (by decide +kernel), List.mem_of_getElem? (i := 566) (by decide +kernel)⟩
theorem lw_p20 : lw_okq (⟨"DollCitadelModel", "put", "(III)V"⟩, 9) := ⟨⟨by decide +kernel, by decide +kernel⟩, List.mem_of_getElem? (i := 482) (by decide +kernel), List.mem_of_getElem? (i := 569) (by decide +kernel), List.mem_of_getElem? (i := 570) (by decide +kernel)⟩
theorem lw_p21 : lw_okq (⟨"DollCitadelModel", "turnAll", "(II)I"⟩, 9) := ⟨⟨by decide +kernel, by decide +kernel⟩, List.mem_of_getElem? (i := 482) (by decide +kernel), List.mem_of_getElem? (i := 573) (by decide +kernel), List.mem_of_getElem? (i := 574) (by decide +kernel)⟩
theorem lw_p22 : lw_okq (⟨"DollCitadelModel", "turn", "(III)Z"⟩, 9) := ⟨⟨by decide +kernel, by decide +kernel⟩, List.mem_of_getElem? (i := 482) (by decide +kernel), List.mem_of_getElem? (i := 577) (by decide +kernel), List.mem_of_getElem? (i := 578) (by decide +kernel)⟩
theorem lw_p23 : lw_okq (⟨"DollCitadelModel", "jointTold", "(III)I"⟩, 9) := ⟨⟨by decide +kernel, by decide +kernel⟩, List.mem_of_getElem? (i := 482) (by decide +kernel), List.mem_of_getElem? (i := 607) (by decide +kernel), List.mem_of_getElem? (i := 608) (by decide +kernel)⟩
theorem lw_p24 : lw_okq (⟨"DollCitadelModel", "counted", "(I)I"⟩, 9) := ⟨⟨by decide +kernel, by decide +kernel⟩, List.mem_of_getElem? (i := 482) (by decide +kernel), List.mem_of_getElem? (i := 619) (by decide +kernel), List.mem_of_getElem? (i := 620) (by decide +kernel)⟩
theorem lw_p25 : lw_okq (⟨"DollCitadelModel", "kept", "()[[I"⟩, 9) := ⟨⟨by decide +kernel, by decide +kernel⟩, List.mem_of_getElem? (i := 482) (by decide +kernel), List.mem_of_getElem? (i := 627) (by decide +kernel), List.mem_of_getElem? (i := 628) (by decide +kernel)⟩
theorem lw_p26 : lw_okq (⟨"DollCitadelModel", "wearOf", "(I)I"⟩, 9) := ⟨⟨by decide +kernel, by decide +kernel⟩, List.mem_of_getElem? (i := 482) (by decide +kernel), List.mem_of_getElem? (i := 639) (by decide +kernel), List.mem_of_getElem? (i := 640) (by decide +kernel)⟩
theorem lw_p27 : lw_okq (⟨"DollCitadelModel", "bringBack", "([[I)V"⟩, 9) := ⟨⟨by decide +kernel, by decide +kernel⟩, List.mem_of_getElem? (i := 482) (by decide +kernel), List.mem_of_getElem? (i := 643) (by decide +kernel), List.mem_of_getElem? (i := 644) (by decide +kernel)⟩
theorem lw_p28 : lw_okq (⟨"DollCitadelModel", "needed", "(II)I"⟩, 9) := ⟨⟨by decide +kernel, by decide +kernel⟩, List.mem_of_getElem? (i := 482) (by decide +kernel), List.mem_of_getElem? (i := 655) (by decide +kernel), List.mem_of_getElem? (i := 656) (by decide +kernel)⟩
theorem lw_p29 : lw_okq (⟨"DollCitadelModel", "daysOn", "(I)I"⟩, 9) := ⟨⟨by decide +kernel, by decide +kernel⟩, List.mem_of_getElem? (i := 482) (by decide +kernel), List.mem_of_getElem? (i := 672) (by decide +kernel), List.mem_of_getElem? (i := 673) (by decide +kernel)⟩
theorem lw_p30 : lw_okq (⟨"DollCitadelModel", "dayOf", "(I)I"⟩, 9) := ⟨⟨by decide +kernel, by decide +kernel⟩, List.mem_of_getElem? (i := 482) (by decide +kernel), List.mem_of_getElem? (i := 676) (by decide +kernel), List.mem_of_getElem? (i := 677) (by decide +kernel)⟩
def lw_privs_2 : List (MethodName × Nat) := [(⟨"DollCitadelModel", "can", "(II)Z"⟩, 9), (⟨"DollCitadelModel", "isBroken", "(II)Z"⟩, 9), (⟨"DollCitadelModel", "li", "(III)I"⟩, 9), (⟨"DollCitadelModel", "ro", "(II)I"⟩, 9), (⟨"DollCitadelModel", "put", "(III)V"⟩, 9), (⟨"DollCitadelModel", "turnAll", "(II)I"⟩, 9), (⟨"DollCitadelModel", "turn", "(III)Z"⟩, 9), (⟨"DollCitadelModel", "jointTold", "(III)I"⟩, 9), (⟨"DollCitadelModel", "counted", "(I)I"⟩, 9), (⟨"DollCitadelModel", "kept", "()[[I"⟩, 9), (⟨"DollCitadelModel", "wearOf", "(I)I"⟩, 9), (⟨"DollCitadelModel", "bringBack", "([[I)V"⟩, 9), (⟨"DollCitadelModel", "needed", "(II)I"⟩, 9), (⟨"DollCitadelModel", "daysOn", "(I)I"⟩, 9), (⟨"DollCitadelModel", "dayOf", "(I)I"⟩, 9)]
theorem lw_r2 : ∀ q ∈ lw_privs_2, lw_okq q := List.forall_mem_cons.mpr ⟨lw_p16, List.forall_mem_cons.mpr ⟨lw_p17, List.forall_mem_cons.mpr ⟨lw_p18, List.forall_mem_cons.mpr ⟨lw_p19, List.forall_mem_cons.mpr ⟨lw_p20, List.forall_mem_cons.mpr ⟨lw_p21, List.forall_mem_cons.mpr ⟨lw_p22, List.forall_mem_cons.mpr ⟨lw_p23, List.forall_mem_cons.mpr ⟨lw_p24, List.forall_mem_cons.mpr ⟨lw_p25, List.forall_mem_cons.mpr ⟨lw_p26, List.forall_mem_cons.mpr ⟨lw_p27, List.forall_mem_cons.mpr ⟨lw_p28, List.forall_mem_cons.mpr ⟨lw_p29, List.forall_mem_cons.mpr ⟨lw_p30, fun _ h => absurd h List.not_mem_nil⟩⟩⟩⟩⟩⟩⟩⟩⟩⟩⟩⟩⟩⟩⟩
def lw_privs : List (MethodName × Nat) := lw_privs_1 ++ (lw_privs_2)
def lw_tbl : List Cond := k2_sels lw_privs ++ tables_1
theorem lw_privs_ok : ∀ q ∈ lw_privs, lw_okq q := by
  show ∀ q ∈ lw_privs_1 ++ (lw_privs_2), lw_okq q
  exact List.forall_mem_append.mpr ⟨lw_r1, lw_r2⟩
/-- the streams that the claim lets the run draw from -/
abbrev lw_cs : List Choice := [Jvm.Choice.named "NaN.bits"]
theorem lw_bits : nanBits ∈ lw_cs := by first | decide | exact List.mem_cons_self | simp [lw_cs, nanBits]
end
section
/-! ===== BEGIN words of one list among another's, by their places ===== -/
theorem goodIn_r {big : List Cond} (ws : List Cond) (ps : List Nat) (hp : ws = ps.filterMap (fun i => big[i]?)) (h : ws.all goodWord = true) : GoodIn big ws := by
  intro w hw
  have h1 := List.all_eq_true.mp h w hw
  rw [hp] at hw
  obtain ⟨i, -, hi⟩ := List.mem_filterMap.mp hw
  have hm : w ∈ big := by first | exact List.mem_of_getElem? hi | exact List.getElem?_mem hi
  exact ⟨hm, good_of_word h1⟩
theorem goodIn_app {big a b : List Cond} (ha : GoodIn big a) (hb : GoodIn big b) : GoodIn big (a ++ b) := fun w h => (List.mem_append.mp h).elim (ha w) (hb w)
theorem goodIn_ca {big a b : List Cond} {c : Cond} (ha : GoodIn big (c :: a)) (hb : GoodIn big b) : GoodIn big (c :: (a ++ b)) := fun w h => (List.mem_cons.mp h).elim (fun e => ha w (List.mem_cons.mpr (Or.inl e))) (fun h => (List.mem_append.mp h).elim (fun h => ha w (List.mem_cons.mpr (Or.inr h))) (hb w))
theorem goodIn_sub {big ws : List Cond} (hm : ∀ w ∈ ws, w ∈ big) (h : ws.all goodWord = true) : GoodIn big ws := fun w hw => ⟨hm w hw, good_of_word (List.all_eq_true.mp h w hw)⟩
/-! ===== END ===== -/

/-! ===== BEGIN exceptions that leave a method, and their catching by the caller (launches without stack traces) ===== -/
section VXA
/-! The laws vx_back, vx_callV, vx_callS, vx_callSW, vx_throw0, vx_throwS follow proofs of the library, with one case more: JvmDerived/Free/Laws.lean (Back.of_free), Shelf42/LK1.lean (callV, callS), Shelf/KitTraced.lean (throwNew0V, throwNewS). -/
/-- where a method has thrown q: the class by its name, the cell, what was written, the world -/
def vx_T (XC : String → State → State → Prop) (st : State) (q : Addr) (t : State) (mc ms : Nat) (free : Addr → Prop) : Prop :=
  ∃ (E : String) (ce : Cell) (L : List Loc), XC E st t ∧ t.heap[q]? = some ce ∧ ce.vm = .none ∧ st.vm.findClass E = some ce.cls ∧ st.WarmedH t.vm ∧ st.sameButNew ({ t with vm := st.vm } : State) L mc ms ∧ ∀ z ∈ L, free z.base
def vx_Q (Qc : Array Value → State → Outcome → State → Prop) (XC : String → State → State → Prop) (mc ms : Nat) (free : Addr → Prop) : Array Value → State → Outcome → State → Prop := fun a st o t =>
  (Qc a st o t ∧ ∃ L, FrameEnd st o t L mc ms ∧ ∀ q ∈ L, free q.base) ∨ ∃ q, o = .threw q ∧ vx_T XC st q t mc ms free
/-- a callee that returns or throws -/
def vx_Met (l : Launch) (y : MethodName) (ws : List Cond) (rm : Room) (Pc : Array Value → State → Prop) (Qc : Array Value → State → Outcome → State → Prop) (XC : String → State → State → Prop) (mc ms : Nat) (free : Addr → Prop) : Prop :=
  MetFree l y (headSpec ws rm) Pc (fun _ _ _ _ _ => True) (vx_Q Qc XC mc ms free)
def vx_Post (XC : String → State → State → Prop) (mc ms : Nat) (free : Addr → Prop) : Pt → Array Value → Addr → Pt → Prop := fun A a q B =>
  ∃ (g : JFrame) (mk : MethodId) (t : State) (L : List Loc) (E : String) (ce : Cell), B.U.heap = t.heap ∧ B.U.vm = t.vm ∧ XC E (A.U.calling g mk a) t ∧ t.heap[q]? = some ce ∧ ce.vm = .none ∧ A.U.vm.findClass E = some ce.cls ∧ B.locs = A.locs ++ L ∧ (∀ z ∈ L, free z.base) ∧ B.cells = A.cells + mc ∧ B.slots = A.slots + ms
def vx_Back (l : Launch) (R : Room) (p : Program) (e : Env) (below : List Frame) (s : State) (sargs : Array Value) (y : MethodName) (len W9 : Nat)
    (Pre : Pt → Array Value → Prop) (Post : Pt → Array Value → Option Value → Pt → Prop) (PostX : Pt → Array Value → Addr → Pt → Prop) : Prop :=
  ∀ (m : MethodId) (meth : Method) (c : Code) (A : Pt) (g : JFrame) (ig : Instr) (mk : MethodId) (a : Array Value),
    Stand p l e R s m sargs below meth c A.U A.locs A.cells A.slots → g.method = m → g.locals.size = c.maxLocals → decode c.code g.pc = .ok (ig, len) →
    2 * g.monitorRoom + (g.stack.map fun v => v.category).sum ≤ W9 → A.U.methodNamed? y = some mk → Pre A a →
    (∃ (v : Option Value) (B : Pt), Stand p l e R s m sargs below meth c B.U B.locs B.cells B.slots ∧ Post A a v B ∧
      Steps p.tables e below (doInvoke e (A.U.setTop g) [] mk a).1 (B.U.setTop { g with pc := g.pc + len, stack := v.toList ++ g.stack })) ∨
    (∃ (q : Addr) (B : Pt), Stand p l e R s m sargs below meth c B.U B.locs B.cells B.slots ∧ PostX A a q B ∧
      Steps p.tables e below (doInvoke e (A.U.setTop g) [] mk a).1 ((B.U.setTop g).pushFrame (.throwing q)))
section Payer
variable {l : Launch} {R : Room} {p : Program} {e : Env} {below : List Frame} {s : State} {sargs : Array Value} {y : MethodName} {len W9 : Nat}
theorem vx_back {ws : List Cond} {rm : Room} {Pc : Array Value → State → Prop} {Qc : Array Value → State → Outcome → State → Prop} {XC : String → State → State → Prop} {mc ms : Nat} {free : Addr → Prop} {bytes : ByteArray} {maxL : Nat} {ret : Option FieldType}
    (hM : vx_Met l y ws rm Pc Qc XC mc ms free) (hblind : FrameBlind Pc) (hrc : rm.cells = mc) (hrs : rm.slots = ms)
    (hframes : rm.frames + 1 ≤ R.frames) (hlocals : W9 + (maxL + 11) + rm.locals ≤ R.locals)
    (hws : ∀ w ∈ ws, ∀ a' U, s.WarmedH U.vm → w.before a' U = true) (hcode : Cond.code y bytes maxL ret ∈ ws) (hinit : ∀ a' U, s.WarmedH U.vm → (Cond.initialized y.cls).before a' U = true) :
    vx_Back l R p e below s sargs y len W9 (PreOf R mc ms Pc) (PostOf Qc mc ms free) (vx_Post XC mc ms free) := by
  intro m meth c A g ig mk a X hg hsize hdg hW hn hp
  have h1 : (headSpec ws rm).pre.before a A.U = true := atoms_intro fun w hw => hws w hw _ _ X.warmed
  have h2 : (Cond.code y bytes maxL ret).before a A.U = true := hws _ hcode _ _ X.warmed
  have h3 : (Cond.initialized y.cls).before a A.U = true := hinit _ _ X.warmed
  have h4 : A.cells + (headSpec ws rm).room.cells ≤ R.cells := by rw [show (headSpec ws rm).room.cells = mc from hrc]; exact hp.1
  have h5 : A.slots + (headSpec ws rm).room.slots ≤ R.slots := by rw [show (headSpec ws rm).room.slots = ms from hrs]; exact hp.2.1
  have hPc : Pc a (A.U.calling g mk a) := hblind _ _ _ _ hp.2.2
  obtain ⟨U, Ls, c0, s0⟩ := A
  dsimp only [Pt.U, Pt.locs, Pt.cells, Pt.slots] at h1 h2 h3 h4 h5 X hn hPc ⊢
  obtain ⟨methY, cY, hmY, hcY, -, hlY, -, -, -, -⟩ := Cond.code_spec hn h2
  obtain ⟨kY, hkY, -⟩ := className_of_methodNamed hn
  have hinitY : kY.init = .initialized := Cond.initialized_spec (findClass_of_methodNamed hn) hkY h3
  have h : At U g.method c below := by rw [hg]; exact X.here
  have hlocals9 : W9 + (maxL + 11) + (headSpec ws rm).room.locals ≤ R.locals := hlocals
  have happ : (headSpec ws rm).appliesLoose y e.platform (U.calling g mk a) = true :=
    Spec.appliesLoose_calling (g := g) h hdg hn hkY hinitY
      (X.room_calling (g := g) (R' := (headSpec ws rm).room) hsize hmY hcY hframes (by rw [hlY]; omega) h4 h5) h1
  obtain ⟨mid, hmid⟩ := h.above
  have hfr : (U.setTop g).frames = (.java g :: mid) ++ below := by rw [State.frames_setTop' g h.top, hmid]; rfl
  obtain ⟨o, s₂, hsteps, -, hend, hq⟩ := Steps.callFree hM p X.admits X.cas X.clock (acts := []) hfr happ hPc trivial
  have hq' : vx_Q Qc XC mc ms free a (U.calling g mk a) o s₂ := hq
  rw [State.frames_setTop' g h.top] at hend
  obtain ⟨g₀, hg0⟩ := Option.isSome_iff_exists.mp h.top
  obtain ⟨r, hr⟩ := State.topJava?_eq_some.mp hg0
  have hr' : (({ U with heap := s₂.heap, slotsUsed := s₂.slotsUsed } : State).setVm s₂.vm).frames = .java g₀ :: r := hr
  rcases hq' with ⟨hqc, L, hfe, hL⟩ | ⟨q, rfl, E, ce, L, hx, hce, hcv, hcl, hW₂, hsm, hL⟩
  · obtain ⟨⟨v, rfl⟩, hW₂, e2, q2, q3, q4, q5, q6⟩ := id hfe
    have e3 : s₂ = ({ (U.calling g mk a).setFrames s₂.frames with heap := s₂.heap, slotsUsed := s₂.slotsUsed } : State).setVm s₂.vm := by
      have : s₂ = ({ s₂ with vm := (U.calling g mk a).vm } : State).setVm s₂.vm := rfl
      rw [e2] at this
      exact this
    obtain ⟨c₂, i₂, len₂, hc₂, hd₂, hf₂⟩ := hend
    have hW' : U.WarmedH s₂.vm := hW₂
    have hcc : c₂ = c := by
      have h1 : s₂.code? g.method = U.code? g.method := by
        rw [State.code?_eq, State.code?_eq, hW'.alike.method?]
      exact Option.some.inj (hc₂.symm.trans (h1.trans h.code))
    subst hcc
    have hlen : len₂ = len := by rw [hdg] at hd₂; cases hd₂; rfl
    subst hlen
    have hs₂ : s₂ = (({ U with heap := s₂.heap, slotsUsed := s₂.slotsUsed } : State).setVm s₂.vm).setTop { g with pc := g.pc + len₂, stack := v.toList ++ g.stack } := by
      refine e3.trans ?_
      rw [hf₂, State.calling_eq h.top, State.setFrames_setFrames, State.setTop_of_frames _ hr', hr]
      rfl
    have hsame : U.sameButNew ({ U with heap := s₂.heap, slotsUsed := s₂.slotsUsed } : State) L mc ms := by
      refine ⟨?_, q2, q3, q4, q5, q6⟩
      obtain ⟨t, ht, -⟩ := State.frames_cons hr
      show ({ U with heap := s₂.heap, slotsUsed := s₂.slotsUsed } : State) = { U.setFrames U.frames with heap := s₂.heap, slotsUsed := s₂.slotsUsed }
      rw [State.setFrames_self ht]
    subst hg
    refine Or.inl ⟨v, ⟨(({ U with heap := s₂.heap, slotsUsed := s₂.slotsUsed } : State).setVm s₂.vm), Ls ++ L, c0 + mc, s0 + ms⟩,
      ⟨X.admits, X.cas, X.clock, X.frames, X.room, X.hears, X.method, X.code, (X.here.setHeapUsed s₂.heap s₂.slotsUsed).setVm hW'.alike, X.tail, State.WarmedH.trans X.warmed hW', X.limits, X.bytes, X.same.trans (hsame.setVm s.vm)⟩,
      ⟨g, mk, s₂, L, rfl, rfl, hqc, rfl, hL, rfl, rfl⟩, ?_⟩
    show Steps p.tables e below _ ((({ U with heap := s₂.heap, slotsUsed := s₂.slotsUsed } : State).setVm s₂.vm).setTop { g with pc := g.pc + len₂, stack := v.toList ++ g.stack })
    rw [← hs₂]
    exact hsteps
  · obtain ⟨e2, q2, q3, q4, q5, q6⟩ := id hsm
    have e3 : s₂ = ({ (U.calling g mk a).setFrames s₂.frames with heap := s₂.heap, slotsUsed := s₂.slotsUsed } : State).setVm s₂.vm := by
      have : s₂ = ({ s₂ with vm := (U.calling g mk a).vm } : State).setVm s₂.vm := rfl
      rw [e2] at this
      exact this
    have hf₂ : s₂.frames = .throwing q :: .java g :: U.frames.tail := hend
    have hW' : U.WarmedH s₂.vm := hW₂
    have hs₂ : s₂ = ((({ U with heap := s₂.heap, slotsUsed := s₂.slotsUsed } : State).setVm s₂.vm).setTop g).pushFrame (.throwing q) := by
      refine e3.trans ?_
      rw [hf₂, State.calling_eq h.top, State.setFrames_setFrames, State.pushFrame, State.frames_setTop _ hr', State.setTop_of_frames _ hr', State.setFrames_setFrames, hr]
      rfl
    have hsame : U.sameButNew ({ U with heap := s₂.heap, slotsUsed := s₂.slotsUsed } : State) L mc ms := by
      refine ⟨?_, q2, q3, q4, q5, q6⟩
      obtain ⟨t, ht, -⟩ := State.frames_cons hr
      show ({ U with heap := s₂.heap, slotsUsed := s₂.slotsUsed } : State) = { U.setFrames U.frames with heap := s₂.heap, slotsUsed := s₂.slotsUsed }
      rw [State.setFrames_self ht]
    subst hg
    refine Or.inr ⟨q, ⟨(({ U with heap := s₂.heap, slotsUsed := s₂.slotsUsed } : State).setVm s₂.vm), Ls ++ L, c0 + mc, s0 + ms⟩,
      ⟨X.admits, X.cas, X.clock, X.frames, X.room, X.hears, X.method, X.code, (X.here.setHeapUsed s₂.heap s₂.slotsUsed).setVm hW'.alike, X.tail, State.WarmedH.trans X.warmed hW', X.limits, X.bytes, X.same.trans (hsame.setVm s.vm)⟩,
      ⟨g, mk, s₂, L, E, ce, rfl, rfl, hx, hce, hcv, hcl, rfl, hL, rfl, rfl⟩, ?_⟩
    show Steps p.tables e below _ (((({ U with heap := s₂.heap, slotsUsed := s₂.slotsUsed } : State).setVm s₂.vm).setTop g).pushFrame (.throwing q))
    rw [← hs₂]
    exact hsteps
end Payer
section Calls
variable {p : Program} {l : Launch} {e : Env} {R : Room} {s : State} {m : MethodId} {args : Array Value} {below : List Frame} {meth : Method} {c : Code} {T : State} {locs : List Loc} {cells slots : Nat}
theorem vx_callV (X : Stand p l e R s m args below meth c T locs cells slots) (hexec : p.tables.exec = Jvm.exec) {own C : String} {index : Nat} {y : MethodName} {bytes : ByteArray} {maxL : Nat} {ret : Option FieldType}
    (hown : s.vm.findClass own = some m.cls) (hlink : (Cond.methodLink own index y).before args s = true) (hinst : (Cond.instanceMethod y).before args s = true) (hsel : (Cond.selects C y y).before args s = true)
    (hcode : (Cond.code y bytes maxL ret).before args s = true) (hy : y.cls ≠ "java/lang/invoke/MethodHandle" ∧ y.cls ≠ "java/lang/invoke/VarHandle")
    {W9 : Nat} {Pre : Pt → Array Value → Prop} {Post : Pt → Array Value → Option Value → Pt → Prop} {PostX : Pt → Array Value → Addr → Pt → Prop} (hK : vx_Back l R p e below s args y 3 W9 Pre Post PostX)
    {b : Addr} {cellB : Cell} (hcell : T.heap[b]? = some cellB) (hobj : cellB.vm.isStatics = false) (hcls : s.vm.findClass C = some cellB.cls)
    {g : JFrame} (hg : g.method = m) (hsize : g.locals.size = c.maxLocals) {argsL rest : List Value} (hlen : ∀ sig, parseMethodDescriptor y.desc = some sig → argsL.length = sig.parameters.length)
    (hstack : g.stack = argsL.reverse ++ .ref b :: rest) (hW : 2 * g.monitorRoom + (rest.map fun v => v.category).sum ≤ W9) (hdg : decode c.code g.pc = .ok (.invokevirtual index, 3))
    (hpre : ∀ vm₁, s.WarmedH vm₁ → Pre ⟨T.setVm vm₁, locs, cells, slots⟩ (Value.ref b :: argsL).toArray) :
    (∃ (v : Option Value) (vm₁ : Vm) (B : Pt), s.WarmedH vm₁ ∧ Stand p l e R s m args below meth c B.U B.locs B.cells B.slots ∧ Post ⟨T.setVm vm₁, locs, cells, slots⟩ (Value.ref b :: argsL).toArray v B ∧
      ∀ target, Steps p.tables e below (B.U.setTop { g with pc := g.pc + 3, stack := v.toList ++ rest }) target → Steps p.tables e below (T.setTop g) target) ∨
    (∃ (q : Addr) (vm₁ : Vm) (B : Pt), s.WarmedH vm₁ ∧ Stand p l e R s m args below meth c B.U B.locs B.cells B.slots ∧ PostX ⟨T.setVm vm₁, locs, cells, slots⟩ (Value.ref b :: argsL).toArray q B ∧
      Steps p.tables e below (T.setTop g) ((B.U.setTop { g with stack := rest }).pushFrame (.throwing q))) := by
  obtain ⟨mk, methM, hnamed, hmethM, hstM, habM⟩ := Cond.instanceMethod_spec hinst
  obtain ⟨methM', cM, hmethM', -, -, -, -, -, -, hsigM⟩ := Cond.code_spec hnamed hcode
  cases hmethM.symm.trans hmethM'
  obtain ⟨c2, r2, m2, q1, q2, q3, q4, kP, hkP, hkPi⟩ := Cond.selects_spec hsel
  cases hcls.symm.trans q1
  cases (State.methodFound?_of_named hnamed hy).symm.trans q2
  cases hnamed.symm.trans q3
  have hselP : selectMethod e.platform s.vm cellB.cls mk = .method mk := by rw [Launch.admits_selectMethod X.admits]; exact q4
  obtain ⟨vm₁, X₁, hstep₁⟩ := X.invokevirtual hexec hown hlink hnamed hmethM hstM hkP hkPi hy (a := b) (cell := cellB) hcell
    (fun z h => by rw [h] at hobj; cases hobj) hselP hmethM habM hkP hkPi (g := g) hg (argsL := argsL) (rest := rest) (hlen _ hsigM) hstack hdg
  rcases hK m meth c ⟨T.setVm vm₁, locs, cells, slots⟩ { g with stack := rest } (.invokevirtual index) mk (Value.ref b :: argsL).toArray X₁ hg hsize hdg hW (X₁.named hnamed) (hpre vm₁ X₁.warmed) with ⟨v, B, X', hpost, hsteps⟩ | ⟨q, B, X', hpost, hsteps⟩
  · exact Or.inl ⟨v, vm₁, B, X₁.warmed, X', hpost, fun target h => hstep₁ _ fun acts => by rw [doInvoke_state]; exact hsteps.trans h⟩
  · exact Or.inr ⟨q, vm₁, B, X₁.warmed, X', hpost, hstep₁ _ fun acts => by rw [doInvoke_state]; exact hsteps⟩
theorem vx_callS (X : Stand p l e R s m args below meth c T locs cells slots) (hexec : p.tables.exec = Jvm.exec) {own : String} {index : Nat} {y : MethodName} {bytes : ByteArray} {maxL : Nat} {ret : Option FieldType}
    (hown : s.vm.findClass own = some m.cls) (hlink : (Cond.methodLink own index y).before args s = true) (hstat : (Cond.static y).before args s = true) (hinit : (Cond.initialized y.cls).before args s = true)
    (hcode : (Cond.code y bytes maxL ret).before args s = true) (hy : y.cls ≠ "java/lang/invoke/MethodHandle" ∧ y.cls ≠ "java/lang/invoke/VarHandle")
    {W9 : Nat} {Pre : Pt → Array Value → Prop} {Post : Pt → Array Value → Option Value → Pt → Prop} {PostX : Pt → Array Value → Addr → Pt → Prop} (hK : vx_Back l R p e below s args y 3 W9 Pre Post PostX)
    {g : JFrame} (hg : g.method = m) (hsize : g.locals.size = c.maxLocals) {argsL rest : List Value} (hlen : ∀ sig, parseMethodDescriptor y.desc = some sig → argsL.length = sig.parameters.length)
    (hstack : g.stack = argsL.reverse ++ rest) (hW : 2 * g.monitorRoom + (rest.map fun v => v.category).sum ≤ W9) (hdg : decode c.code g.pc = .ok (.invokestatic index, 3))
    (hpre : ∀ vm₁, s.WarmedH vm₁ → Pre ⟨T.setVm vm₁, locs, cells, slots⟩ argsL.toArray) :
    (∃ (v : Option Value) (vm₁ : Vm) (B : Pt), s.WarmedH vm₁ ∧ Stand p l e R s m args below meth c B.U B.locs B.cells B.slots ∧ Post ⟨T.setVm vm₁, locs, cells, slots⟩ argsL.toArray v B ∧
      ∀ target, Steps p.tables e below (B.U.setTop { g with pc := g.pc + 3, stack := v.toList ++ rest }) target → Steps p.tables e below (T.setTop g) target) ∨
    (∃ (q : Addr) (vm₁ : Vm) (B : Pt), s.WarmedH vm₁ ∧ Stand p l e R s m args below meth c B.U B.locs B.cells B.slots ∧ PostX ⟨T.setVm vm₁, locs, cells, slots⟩ argsL.toArray q B ∧
      Steps p.tables e below (T.setTop g) ((B.U.setTop { g with stack := rest }).pushFrame (.throwing q))) := by
  obtain ⟨mk, hnamed⟩ := Cond.code_named hcode
  obtain ⟨methM, cM, hmethM, -, -, -, -, -, -, hsigM⟩ := Cond.code_spec hnamed hcode
  have hstatic : methM.isStatic = true := Cond.static_spec hnamed hmethM hstat
  obtain ⟨kP, hkP, -⟩ := className_of_methodNamed hnamed
  have hinitP : kP.init = .initialized := Cond.initialized_spec (findClass_of_methodNamed hnamed) hkP hinit
  obtain ⟨vm₁, X₁, hstep₁⟩ := X.invokestatic hexec hown hlink hnamed hmethM hstatic hkP hinitP hy (g := g) hg (argsL := argsL) (rest := rest) (hlen _ hsigM) hstack hdg
  rcases hK m meth c ⟨T.setVm vm₁, locs, cells, slots⟩ { g with stack := rest } (.invokestatic index) mk argsL.toArray X₁ hg hsize hdg hW (X₁.named hnamed) (hpre vm₁ X₁.warmed) with ⟨v, B, X', hpost, hsteps⟩ | ⟨q, B, X', hpost, hsteps⟩
  · exact Or.inl ⟨v, vm₁, B, X₁.warmed, X', hpost, fun target h => hstep₁ _ fun acts => by rw [doInvoke_state]; exact hsteps.trans h⟩
  · exact Or.inr ⟨q, vm₁, B, X₁.warmed, X', hpost, hstep₁ _ fun acts => by rw [doInvoke_state]; exact hsteps⟩
end Calls
theorem vx_cls {s : State} {T : State} {vm₁ : Vm} {E : String} {k : ClassId} (hW : s.WarmedH vm₁) (h : (T.setVm vm₁).vm.findClass E = some k) : s.vm.findClass E = some k := by
  have h1 : vm₁.findClass E = some k := h
  rw [hW.alike.findClass] at h1
  exact h1
/-- the method's frame g, with q thrown over it -/
def vx_W (p : Program) (l : Launch) (e : Env) (R : Room) (s : State) (m : MethodId) (args : Array Value) (below : List Frame) (meth : Method) (c : Code) (H : Heap) (locs : List Loc) (cells slots : Nat) (Q : State → Prop) (g : JFrame) (q : Addr) : Prop :=
  ∀ T : State, T.heap = H → Stand p l e R s m args below meth c T locs cells slots → ∃ t, Steps p.tables e below ((T.setTop g).pushFrame (.throwing q)) t ∧ Q t
def vx_Run (p : Program) (l : Launch) (e : Env) (R : Room) (s : State) (m : MethodId) (args : Array Value) (below : List Frame) (meth : Method) (c : Code) (H : Heap) (locs : List Loc) (cells slots mc ms : Nat) (g : JFrame) (rest : List Value) (Qa : State → Outcome → State → Prop) (XC : String → State → State → Prop) (free : Addr → Prop) : Prop :=
  ∀ T : State, T.heap = H → Stand p l e R s m args below meth c T locs cells slots →
    (∃ (v : Option Value) (st₀ t T' : State) (L : List Loc), st₀.heap = H ∧ Stand p l e R s m args below meth c T' (locs ++ L) (cells + mc) (slots + ms) ∧ (∀ q ∈ L, free q.base) ∧ T'.heap = t.heap ∧ T'.vm = t.vm ∧ Qa st₀ (.returned v) t ∧
      Goes p e below T g T' { g with pc := g.pc + 3, stack := v.toList ++ rest }) ∨
    (∃ (q : Addr) (st₀ t T' : State) (L : List Loc) (E : String) (ce : Cell), st₀.heap = H ∧ Stand p l e R s m args below meth c T' (locs ++ L) (cells + mc) (slots + ms) ∧ (∀ z ∈ L, free z.base) ∧ T'.heap = t.heap ∧ T'.vm = t.vm ∧ XC E st₀ t ∧ t.heap[q]? = some ce ∧ ce.vm = .none ∧ s.vm.findClass E = some ce.cls ∧
      Steps p.tables e below (T.setTop g) ((T'.setTop { g with stack := rest }).pushFrame (.throwing q)))
def vx_X {S : Type} (px : S → Prop) (B : String → S → State → Prop) (A : Nat → Prop) : String → State → State → Prop := fun E st t => ∃ u : S, px u ∧ B E u t ∧ va_F A st t
section Runs
variable {p : Program} {l : Launch} {e : Env} {R : Room} {s : State} {m : MethodId} {args : Array Value} {below : List Frame} {meth : Method} {c : Code} {H : Heap} {locs : List Loc} {cells slots : Nat}
variable {y : MethodName} {bytes cc : ByteArray} {maxL nL mc ms n index : Nat} {ret : Option FieldType} {ws : List Cond} {rm : Room} {Pc : Array Value → State → Prop} {Qc : Array Value → State → Outcome → State → Prop} {XC : String → State → State → Prop} {free : Addr → Prop} {Ts : List Cond} {own C : String} {b : Addr} {As rest : List Value} {g : JFrame}
theorem vx_callBack (cb : CallB R s args own index y bytes maxL ret ws rm mc ms n) (hM : vx_Met l y ws rm Pc Qc XC mc ms free) (hbl : FrameBlind Pc) : vx_Back l R p e below s args y 3 8 (PreOf R mc ms Pc) (PostOf Qc mc ms free) (vx_Post XC mc ms free) := by
  obtain ⟨hrc, hrs, hfr, hlo, hws, hcw, -, hini, -⟩ := cb
  exact vx_back (bytes := bytes) (maxL := maxL) (ret := ret) hM hbl hrc hrs hfr hlo hws hcw (fun a' U hW => word_at hW (Or.inl (by first | rfl | simp [Cond.onTables, Cond.keeps, Cond.steady])) hini)
theorem vx_runV (S : CallFix p m c cc nL s args Ts own) (hM : vx_Met l y ws rm Pc Qc XC mc ms free) (cw : CallW R s args own C index y bytes maxL ret ws rm mc ms n) (hp : PreV s H C b Pc As)
    (hg : g.method = m) (hn : As.length = n) (hsize : g.locals.size = nL) (hstack : g.stack = As.reverse ++ .ref b :: rest) (hW : 2 * g.monitorRoom + (rest.map fun v => v.category).sum ≤ 8) (hdg : decode cc g.pc = .ok (.invokevirtual index, 3)) (hf : cells + mc ≤ R.cells ∧ slots + ms ≤ R.slots) :
    vx_Run p l e R s m args below meth c H locs cells slots mc ms g rest (Qc (Value.ref b :: As).toArray) XC free := by
  have hK : vx_Back l R p e below s args y 3 8 (PreOf R mc ms Pc) (PostOf Qc mc ms free) (vx_Post XC mc ms free) := vx_callBack cw.1 hM hp.1
  obtain ⟨⟨-, -, -, -, -, -, hcode, -, hy, hlen, hl⟩, hin, hse⟩ := cw
  obtain ⟨hx, hb, hml, ho, -⟩ := S
  obtain ⟨-, ⟨cellB, hcB, hoB, hclB⟩, hPc⟩ := hp
  intro T hT X
  rcases vx_callV X hx (C := C) (bytes := bytes) (maxL := maxL) (ret := ret) ho hl hin hse hcode hy hK (by rw [hT]; exact hcB) hoB hclB hg (hsize.trans hml.symm) (argsL := As) (rest := rest) (fun sig h => hn.trans (hlen sig h)) hstack hW (by rw [hb]; exact hdg)
    (fun vm₁ hW₁ => ⟨hf.1, hf.2, hPc (T.setVm vm₁) hT hW₁⟩) with ⟨v, vm₁, ⟨U', l2, c2, s2⟩, hW₁, X', ⟨g', mk, t, L, e1, e2, hq, h1, hL, h2, h3⟩, st⟩ | ⟨q, vm₁, ⟨U', l2, c2, s2⟩, hW₁, X', ⟨g', mk, t, L, E, ce, e1, e2, hq, hce, hcv, hcl, h1, hL, h2, h3⟩, st⟩
  · dsimp only [Pt.U, Pt.locs, Pt.cells, Pt.slots] at X' e1 e2 h1 h2 h3 st
    subst h1; subst h2; subst h3
    exact Or.inl ⟨v, (T.setVm vm₁).calling g' mk (Value.ref b :: As).toArray, t, U', L, hT, X', hL, e1, e2, hq, st⟩
  · dsimp only [Pt.U, Pt.locs, Pt.cells, Pt.slots] at X' e1 e2 h1 h2 h3 st hcl
    subst h1; subst h2; subst h3
    exact Or.inr ⟨q, (T.setVm vm₁).calling g' mk (Value.ref b :: As).toArray, t, U', L, E, ce, hT, X', hL, e1, e2, hq, hce, hcv, vx_cls hW₁ hcl, st⟩
theorem vx_runS (S : CallFix p m c cc nL s args Ts own) (hM : vx_Met l y ws rm Pc Qc XC mc ms free) (cw : CallB R s args own index y bytes maxL ret ws rm mc ms n ∧ (Cond.static y).before args s = true) (hp : PreS s H Pc As)
    (hg : g.method = m) (hn : As.length = n) (hsize : g.locals.size = nL) (hstack : g.stack = As.reverse ++ rest) (hW : 2 * g.monitorRoom + (rest.map fun v => v.category).sum ≤ 8) (hdg : decode cc g.pc = .ok (.invokestatic index, 3)) (hf : cells + mc ≤ R.cells ∧ slots + ms ≤ R.slots) :
    vx_Run p l e R s m args below meth c H locs cells slots mc ms g rest (Qc As.toArray) XC free := by
  have hK : vx_Back l R p e below s args y 3 8 (PreOf R mc ms Pc) (PostOf Qc mc ms free) (vx_Post XC mc ms free) := vx_callBack cw.1 hM hp.1
  obtain ⟨⟨-, -, -, -, -, -, hcode, hini, hy, hlen, hl⟩, hstt⟩ := cw
  obtain ⟨hx, hb, hml, ho, -⟩ := S
  intro T hT X
  rcases vx_callS X hx (bytes := bytes) (maxL := maxL) (ret := ret) ho hl hstt hini hcode hy hK hg (hsize.trans hml.symm) (argsL := As) (rest := rest) (fun sig h => hn.trans (hlen sig h)) hstack hW (by rw [hb]; exact hdg)
    (fun vm₁ hW₁ => ⟨hf.1, hf.2, hp.2 (T.setVm vm₁) hT hW₁⟩) with ⟨v, vm₁, ⟨U', l2, c2, s2⟩, hW₁, X', ⟨g', mk, t, L, e1, e2, hq, h1, hL, h2, h3⟩, st⟩ | ⟨q, vm₁, ⟨U', l2, c2, s2⟩, hW₁, X', ⟨g', mk, t, L, E, ce, e1, e2, hq, hce, hcv, hcl, h1, hL, h2, h3⟩, st⟩
  · dsimp only [Pt.U, Pt.locs, Pt.cells, Pt.slots] at X' e1 e2 h1 h2 h3 st
    subst h1; subst h2; subst h3
    exact Or.inl ⟨v, (T.setVm vm₁).calling g' mk As.toArray, t, U', L, hT, X', hL, e1, e2, hq, st⟩
  · dsimp only [Pt.U, Pt.locs, Pt.cells, Pt.slots] at X' e1 e2 h1 h2 h3 st hcl
    subst h1; subst h2; subst h3
    exact Or.inr ⟨q, (T.setVm vm₁).calling g' mk As.toArray, t, U', L, E, ce, hT, X', hL, e1, e2, hq, hce, hcv, vx_cls hW₁ hcl, st⟩
end Runs
section Rows
variable {p : Program} {l : Launch} {e : Env} {R : Room} {s : State} {m : MethodId} {args : Array Value} {below : List Frame} {meth : Method} {c : Code} {H : Heap} {locs : List Loc} {cells slots : Nat} {Q : State → Prop}
variable {mc ms : Nat} {free : Addr → Prop} {A0 A1 : Nat → Prop} {H0 : Heap} {a : Array Value} {pc : Nat} {ls : Array Slot} {st0 rest : List Value}
theorem vx_keep {st₀ t T' : State} {L : List Loc} (h0 : st₀.heap = H) (e1 : T'.heap = t.heap) (hS : va_S A0 H0 H locs) (hA : ∀ q, q < H.size → A1 q → A0 q) (hf : ∀ q, free q → A0 q) (hL : ∀ q ∈ L, free q.base) (hF : va_F A1 st₀ t) :
    H.size ≤ T'.heap.size ∧ (∀ q : Nat, q < H.size → ¬ A1 q → T'.heap[q]? = H[q]?) ∧ va_S A0 H0 T'.heap (locs ++ L) := by
  obtain ⟨hz, hk⟩ := hF
  rw [h0] at hz hk
  exact ⟨by rw [e1]; exact hz, fun q h1 h2 => by rw [e1]; exact hk q h1 h2,
    ⟨Nat.le_trans hS.1 (by rw [e1]; exact hz), fun q h1 h2 => by rw [e1, hk q (Nat.lt_of_lt_of_le h1 hS.1) (fun z => h2 (hA q (Nat.lt_of_lt_of_le h1 hS.1) z))]; exact hS.2.1 q h1 h2, fun q hq => by
      rcases List.mem_append.mp hq with h | h
      · exact hS.2.2 q h
      · exact hf _ (hL q h)⟩⟩
theorem vx_calli {S SX : Type} {post : Int32 → S → Prop} {px : SX → Prop} {B : S → State → Prop} {BX : String → SX → State → Prop} {AX : Nat → Prop} (hr : vx_Run p l e R s m args below meth c H locs cells slots mc ms (F0 m pc ls st0) rest (va_Qi post B A1 a) (vx_X px BX AX) free) (hS : va_S A0 H0 H locs) (hA : ∀ q, q < H.size → A1 q → A0 q) (hf : ∀ q, free q → A0 q) (hAX : ∀ q, q < H.size → AX q → A0 q)
    (kx : ∀ (E : String) (ce : Cell) (q9 : Addr) (u : SX) (t : State) (H1 : Heap) (locs1 : List Loc), t.heap = H1 → s.vm.Alike t.vm → px u → BX E u t → H.size ≤ H1.size → (∀ q : Nat, q < H.size → ¬ AX q → H1[q]? = H[q]?) → va_S A0 H0 H1 locs1 → H1[q9]? = some ce → ce.vm = .none → s.vm.findClass E = some ce.cls → vx_W p l e R s m args below meth c H1 locs1 (cells + mc) (slots + ms) Q (F0 m pc ls rest) q9)
    (kk : ∀ (r : Int32) (u : S) (t : State) (H1 : Heap) (locs1 : List Loc), t.heap = H1 → s.vm.Alike t.vm → post r u → B u t → H.size ≤ H1.size → (∀ q : Nat, q < H.size → ¬ A1 q → H1[q]? = H[q]?) → va_S A0 H0 H1 locs1 → W p l e R s m args below meth c H1 locs1 (cells + mc) (slots + ms) Q (F0 m (pc + 3) ls (.int r :: rest))) : W p l e R s m args below meth c H locs cells slots Q (F0 m pc ls st0) := by
  intro T hT X
  rcases hr T hT X with ⟨v, st₀, t, T', L, h0, X', hL, e1, e2, ⟨⟨r, u, hv, hp, hb⟩, hF⟩, st⟩ | ⟨q, st₀, t, T', L, E, ce, h0, X', hL, e1, e2, ⟨u, hp, hb, hF⟩, hce, hcv, hcl, st⟩
  · cases hv
    obtain ⟨k1, k2, k3⟩ := vx_keep h0 e1 hS hA hf hL hF
    obtain ⟨t2, a1, b1⟩ := kk r u t T'.heap (locs ++ L) e1.symm (by rw [← e2]; exact X'.warmed.alike) hp hb k1 k2 k3 T' rfl X'
    exact ⟨t2, st t2 a1, b1⟩
  · obtain ⟨k1, k2, k3⟩ := vx_keep h0 e1 hS hAX hf hL hF
    obtain ⟨t2, a1, b1⟩ := kx E ce q u t T'.heap (locs ++ L) e1.symm (by rw [← e2]; exact X'.warmed.alike) hp hb k1 k2 k3 (by rw [e1]; exact hce) hcv hcl T' rfl X'
    exact ⟨t2, st.trans a1, b1⟩
theorem vx_calll {S SX : Type} {post : Int64 → S → Prop} {px : SX → Prop} {B : S → State → Prop} {BX : String → SX → State → Prop} {AX : Nat → Prop} (hr : vx_Run p l e R s m args below meth c H locs cells slots mc ms (F0 m pc ls st0) rest (va_Ql post B A1 a) (vx_X px BX AX) free) (hS : va_S A0 H0 H locs) (hA : ∀ q, q < H.size → A1 q → A0 q) (hf : ∀ q, free q → A0 q) (hAX : ∀ q, q < H.size → AX q → A0 q)
    (kx : ∀ (E : String) (ce : Cell) (q9 : Addr) (u : SX) (t : State) (H1 : Heap) (locs1 : List Loc), t.heap = H1 → s.vm.Alike t.vm → px u → BX E u t → H.size ≤ H1.size → (∀ q : Nat, q < H.size → ¬ AX q → H1[q]? = H[q]?) → va_S A0 H0 H1 locs1 → H1[q9]? = some ce → ce.vm = .none → s.vm.findClass E = some ce.cls → vx_W p l e R s m args below meth c H1 locs1 (cells + mc) (slots + ms) Q (F0 m pc ls rest) q9)
    (kk : ∀ (r : Int64) (u : S) (t : State) (H1 : Heap) (locs1 : List Loc), t.heap = H1 → s.vm.Alike t.vm → post r u → B u t → H.size ≤ H1.size → (∀ q : Nat, q < H.size → ¬ A1 q → H1[q]? = H[q]?) → va_S A0 H0 H1 locs1 → W p l e R s m args below meth c H1 locs1 (cells + mc) (slots + ms) Q (F0 m (pc + 3) ls (.long r :: rest))) : W p l e R s m args below meth c H locs cells slots Q (F0 m pc ls st0) := by
  intro T hT X
  rcases hr T hT X with ⟨v, st₀, t, T', L, h0, X', hL, e1, e2, ⟨⟨r, u, hv, hp, hb⟩, hF⟩, st⟩ | ⟨q, st₀, t, T', L, E, ce, h0, X', hL, e1, e2, ⟨u, hp, hb, hF⟩, hce, hcv, hcl, st⟩
  · cases hv
    obtain ⟨k1, k2, k3⟩ := vx_keep h0 e1 hS hA hf hL hF
    obtain ⟨t2, a1, b1⟩ := kk r u t T'.heap (locs ++ L) e1.symm (by rw [← e2]; exact X'.warmed.alike) hp hb k1 k2 k3 T' rfl X'
    exact ⟨t2, st t2 a1, b1⟩
  · obtain ⟨k1, k2, k3⟩ := vx_keep h0 e1 hS hAX hf hL hF
    obtain ⟨t2, a1, b1⟩ := kx E ce q u t T'.heap (locs ++ L) e1.symm (by rw [← e2]; exact X'.warmed.alike) hp hb k1 k2 k3 (by rw [e1]; exact hce) hcv hcl T' rfl X'
    exact ⟨t2, st.trans a1, b1⟩
theorem vx_callf {S SX : Type} {post : UInt32 → S → Prop} {px : SX → Prop} {B : S → State → Prop} {BX : String → SX → State → Prop} {AX : Nat → Prop} (hr : vx_Run p l e R s m args below meth c H locs cells slots mc ms (F0 m pc ls st0) rest (va_Qf post B A1 a) (vx_X px BX AX) free) (hS : va_S A0 H0 H locs) (hA : ∀ q, q < H.size → A1 q → A0 q) (hf : ∀ q, free q → A0 q) (hAX : ∀ q, q < H.size → AX q → A0 q)
    (kx : ∀ (E : String) (ce : Cell) (q9 : Addr) (u : SX) (t : State) (H1 : Heap) (locs1 : List Loc), t.heap = H1 → s.vm.Alike t.vm → px u → BX E u t → H.size ≤ H1.size → (∀ q : Nat, q < H.size → ¬ AX q → H1[q]? = H[q]?) → va_S A0 H0 H1 locs1 → H1[q9]? = some ce → ce.vm = .none → s.vm.findClass E = some ce.cls → vx_W p l e R s m args below meth c H1 locs1 (cells + mc) (slots + ms) Q (F0 m pc ls rest) q9)
    (kk : ∀ (r : UInt32) (u : S) (t : State) (H1 : Heap) (locs1 : List Loc), t.heap = H1 → s.vm.Alike t.vm → post r u → B u t → H.size ≤ H1.size → (∀ q : Nat, q < H.size → ¬ A1 q → H1[q]? = H[q]?) → va_S A0 H0 H1 locs1 → W p l e R s m args below meth c H1 locs1 (cells + mc) (slots + ms) Q (F0 m (pc + 3) ls (.float r :: rest))) : W p l e R s m args below meth c H locs cells slots Q (F0 m pc ls st0) := by
  intro T hT X
  rcases hr T hT X with ⟨v, st₀, t, T', L, h0, X', hL, e1, e2, ⟨⟨r, u, hv, hp, hb⟩, hF⟩, st⟩ | ⟨q, st₀, t, T', L, E, ce, h0, X', hL, e1, e2, ⟨u, hp, hb, hF⟩, hce, hcv, hcl, st⟩
  · cases hv
    obtain ⟨k1, k2, k3⟩ := vx_keep h0 e1 hS hA hf hL hF
    obtain ⟨t2, a1, b1⟩ := kk r u t T'.heap (locs ++ L) e1.symm (by rw [← e2]; exact X'.warmed.alike) hp hb k1 k2 k3 T' rfl X'
    exact ⟨t2, st t2 a1, b1⟩
  · obtain ⟨k1, k2, k3⟩ := vx_keep h0 e1 hS hAX hf hL hF
    obtain ⟨t2, a1, b1⟩ := kx E ce q u t T'.heap (locs ++ L) e1.symm (by rw [← e2]; exact X'.warmed.alike) hp hb k1 k2 k3 (by rw [e1]; exact hce) hcv hcl T' rfl X'
    exact ⟨t2, st.trans a1, b1⟩
theorem vx_calld {S SX : Type} {post : UInt64 → S → Prop} {px : SX → Prop} {B : S → State → Prop} {BX : String → SX → State → Prop} {AX : Nat → Prop} (hr : vx_Run p l e R s m args below meth c H locs cells slots mc ms (F0 m pc ls st0) rest (va_Qd post B A1 a) (vx_X px BX AX) free) (hS : va_S A0 H0 H locs) (hA : ∀ q, q < H.size → A1 q → A0 q) (hf : ∀ q, free q → A0 q) (hAX : ∀ q, q < H.size → AX q → A0 q)
    (kx : ∀ (E : String) (ce : Cell) (q9 : Addr) (u : SX) (t : State) (H1 : Heap) (locs1 : List Loc), t.heap = H1 → s.vm.Alike t.vm → px u → BX E u t → H.size ≤ H1.size → (∀ q : Nat, q < H.size → ¬ AX q → H1[q]? = H[q]?) → va_S A0 H0 H1 locs1 → H1[q9]? = some ce → ce.vm = .none → s.vm.findClass E = some ce.cls → vx_W p l e R s m args below meth c H1 locs1 (cells + mc) (slots + ms) Q (F0 m pc ls rest) q9)
    (kk : ∀ (r : UInt64) (u : S) (t : State) (H1 : Heap) (locs1 : List Loc), t.heap = H1 → s.vm.Alike t.vm → post r u → B u t → H.size ≤ H1.size → (∀ q : Nat, q < H.size → ¬ A1 q → H1[q]? = H[q]?) → va_S A0 H0 H1 locs1 → W p l e R s m args below meth c H1 locs1 (cells + mc) (slots + ms) Q (F0 m (pc + 3) ls (.double r :: rest))) : W p l e R s m args below meth c H locs cells slots Q (F0 m pc ls st0) := by
  intro T hT X
  rcases hr T hT X with ⟨v, st₀, t, T', L, h0, X', hL, e1, e2, ⟨⟨r, u, hv, hp, hb⟩, hF⟩, st⟩ | ⟨q, st₀, t, T', L, E, ce, h0, X', hL, e1, e2, ⟨u, hp, hb, hF⟩, hce, hcv, hcl, st⟩
  · cases hv
    obtain ⟨k1, k2, k3⟩ := vx_keep h0 e1 hS hA hf hL hF
    obtain ⟨t2, a1, b1⟩ := kk r u t T'.heap (locs ++ L) e1.symm (by rw [← e2]; exact X'.warmed.alike) hp hb k1 k2 k3 T' rfl X'
    exact ⟨t2, st t2 a1, b1⟩
  · obtain ⟨k1, k2, k3⟩ := vx_keep h0 e1 hS hAX hf hL hF
    obtain ⟨t2, a1, b1⟩ := kx E ce q u t T'.heap (locs ++ L) e1.symm (by rw [← e2]; exact X'.warmed.alike) hp hb k1 k2 k3 (by rw [e1]; exact hce) hcv hcl T' rfl X'
    exact ⟨t2, st.trans a1, b1⟩
theorem vx_callv {S SX : Type} {post : S → Prop} {px : SX → Prop} {B : S → State → Prop} {BX : String → SX → State → Prop} {AX : Nat → Prop} (hr : vx_Run p l e R s m args below meth c H locs cells slots mc ms (F0 m pc ls st0) rest (va_Qv post B A1 a) (vx_X px BX AX) free) (hS : va_S A0 H0 H locs) (hA : ∀ q, q < H.size → A1 q → A0 q) (hf : ∀ q, free q → A0 q) (hAX : ∀ q, q < H.size → AX q → A0 q)
    (kx : ∀ (E : String) (ce : Cell) (q9 : Addr) (u : SX) (t : State) (H1 : Heap) (locs1 : List Loc), t.heap = H1 → s.vm.Alike t.vm → px u → BX E u t → H.size ≤ H1.size → (∀ q : Nat, q < H.size → ¬ AX q → H1[q]? = H[q]?) → va_S A0 H0 H1 locs1 → H1[q9]? = some ce → ce.vm = .none → s.vm.findClass E = some ce.cls → vx_W p l e R s m args below meth c H1 locs1 (cells + mc) (slots + ms) Q (F0 m pc ls rest) q9)
    (kk : ∀ (u : S) (t : State) (H1 : Heap) (locs1 : List Loc), t.heap = H1 → s.vm.Alike t.vm → post u → B u t → H.size ≤ H1.size → (∀ q : Nat, q < H.size → ¬ A1 q → H1[q]? = H[q]?) → va_S A0 H0 H1 locs1 → W p l e R s m args below meth c H1 locs1 (cells + mc) (slots + ms) Q (F0 m (pc + 3) ls (rest))) : W p l e R s m args below meth c H locs cells slots Q (F0 m pc ls st0) := by
  intro T hT X
  rcases hr T hT X with ⟨v, st₀, t, T', L, h0, X', hL, e1, e2, ⟨⟨u, hv, hp, hb⟩, hF⟩, st⟩ | ⟨q, st₀, t, T', L, E, ce, h0, X', hL, e1, e2, ⟨u, hp, hb, hF⟩, hce, hcv, hcl, st⟩
  · cases hv
    obtain ⟨k1, k2, k3⟩ := vx_keep h0 e1 hS hA hf hL hF
    obtain ⟨t2, a1, b1⟩ := kk u t T'.heap (locs ++ L) e1.symm (by rw [← e2]; exact X'.warmed.alike) hp hb k1 k2 k3 T' rfl X'
    exact ⟨t2, st t2 a1, b1⟩
  · obtain ⟨k1, k2, k3⟩ := vx_keep h0 e1 hS hAX hf hL hF
    obtain ⟨t2, a1, b1⟩ := kx E ce q u t T'.heap (locs ++ L) e1.symm (by rw [← e2]; exact X'.warmed.alike) hp hb k1 k2 k3 (by rw [e1]; exact hce) hcv hcl T' rfl X'
    exact ⟨t2, st.trans a1, b1⟩
/-- caught by the row x of this method's table; the rows ahead don't take it -/
theorem vx_catch {own name : String} {E : String} {ce : Cell} {q : Addr} (hown : s.vm.findClass own = some m.cls) (pre : List ExceptionTableEntry) (x : ExceptionTableEntry) (suf : List ExceptionTableEntry) (hsplit : c.exceptionTable.toList = pre ++ x :: suf)
    (hpass : ∀ z ∈ pre, covers z pc = false ∨ (z.catchType ≠ 0 ∧ ∃ nm : String, (Cond.classLink own z.catchType nm).before args s = true ∧ va_Nc E nm s)) (hx : covers x pc = true) (h0 : x.catchType ≠ 0)
    (hlink : (Cond.classLink own x.catchType name).before args s = true) (hcast : (Cond.castable E name).before args s = true) (hcell : H[q]? = some ce) (hv : ce.vm = .none) (hcl : s.vm.findClass E = some ce.cls)
    (kk : W p l e R s m args below meth c H locs cells slots Q (F0 m x.handlerPc ls [.ref q])) : vx_W p l e R s m args below meth c H locs cells slots Q (F0 m pc ls rest) q := by
  intro T hT X
  have hpl : e.platform.magicAccessors = ({} : Platform).magicAccessors := by rw [X.admits.platform]
  obtain ⟨c3, c4, hc3, hc4, hasg⟩ := Cond.castable_spec hcast
  cases Option.some.inj (hc3.symm.trans hcl)
  obtain ⟨c5, hc5, hcl5⟩ := Cond.classLink_spec hown hlink e.platform hpl
  cases Option.some.inj (hc4.symm.trans hc5)
  obtain ⟨vm', X', st⟩ := X.thenCaughtThrough q (g := F0 m pc ls rest) rfl (Steps.refl _) (by rw [hT]; exact hcell) (by rw [hv]; rfl) (by obtain ⟨k9, h9, -⟩ := Vm.findClass_spec hcl; exact ⟨k9, h9⟩) pre x suf hsplit
    (fun z hz => by
      rcases hpass z hz with h | ⟨hz0, nm, hl1, hn1⟩
      · exact Or.inl h
      · obtain ⟨c6, hc6, hcl6⟩ := Cond.classLink_spec hown hl1 e.platform hpl
        obtain ⟨a8, b8, h1, h2, h3⟩ := hn1
        cases Option.some.inj (h1.symm.trans hcl)
        cases Option.some.inj (h2.symm.trans hc6)
        exact Or.inr ⟨hz0, _, hcl6, h3⟩) hx (Or.inr ⟨h0, c4, hcl5, hasg⟩)
  obtain ⟨t, a1, b1⟩ := kk (T.setVm vm') hT X'
  exact ⟨t, st.trans a1, b1⟩
end Rows
section Ends
variable {p : Program} {l : Launch} {e : Env} {R : Room} {s : State} {m : MethodId} {args : Array Value} {below : List Frame} {meth : Method} {c : Code} {H : Heap} {locs : List Loc} {cells slots : Nat} {Q : State → Prop}
variable {mc ms : Nat} {free : Addr → Prop} {A0 A1 : Nat → Prop} {H0 : Heap} {a : Array Value} {ls : Array Slot} {st0 rest : List Value}
variable {Qc : Array Value → State → Outcome → State → Prop} {XC : String → State → State → Prop}
/-- what a body that may throw owes at its end -/
def vx_MQ (below : List Frame) (Qc : Array Value → State → Outcome → State → Prop) (XC : String → State → State → Prop) (a : Array Value) (s : State) (mc ms : Nat) (free : Addr → Prop) : State → Prop := fun t =>
  ∃ o, t.status = .running ∧ Ended t below o ∧ vx_Q Qc XC mc ms free a s o t
theorem vx_ret {g : JFrame} {mc ms : Nat} (k : W p l e R s m args below meth c H locs cells slots (MQ below Qc args s mc ms free) g) : W p l e R s m args below meth c H locs cells slots (vx_MQ below Qc XC args s mc ms free) g := by
  intro T hT X
  obtain ⟨t, a1, o, b1, b2, b3, b4⟩ := k T hT X
  exact ⟨t, a1, o, b1, b2, Or.inl ⟨b3, b4⟩⟩
/-- not caught here: it goes on to the caller -/
theorem vx_widen {g : JFrame} {q : Addr} {k n : Nat} (h1 : cells ≤ k) (h2 : slots ≤ n) (kk : vx_W p l e R s m args below meth c H locs k n Q g q) : vx_W p l e R s m args below meth c H locs cells slots Q g q := fun T hT X => kk T hT (stand_widen X h1 h2)
theorem vx_out {pc : Nat} {E : String} {ce : Cell} {q : Addr} {mc ms : Nat} (hout : ∀ x ∈ c.exceptionTable.toList, covers x pc = false) (hlocks : meth.locks = false) (hcell : H[q]? = some ce) (hv : ce.vm = .none) (hcl : s.vm.findClass E = some ce.cls)
    (hx : ∀ t : State, t.heap = H → s.vm.Alike t.vm → XC E s t) (hf : ∀ z ∈ locs, free z.base) (hc : cells ≤ mc) (hs : slots ≤ ms) :
    vx_W p l e R s m args below meth c H locs cells slots (vx_MQ below Qc XC args s mc ms free) (F0 m pc ls rest) q := by
  intro T hT X
  obtain ⟨st1, hrun, hend, hW, hsm⟩ := X.leaveThrown q (g := F0 m pc ls rest) rfl rfl rfl hout hlocks
  have hcell9 : (T.setFrames (.throwing q :: below)).heap[q]? = some ce := by
    show T.heap[q]? = some ce
    rw [hT]; exact hcell
  exact ⟨_, st1, .threw q, hrun, hend, Or.inr ⟨q, rfl, E, ce, locs, hx _ hT hW.alike, hcell9, hv, hcl, hW, hsm.mono hc hs, hf⟩⟩
theorem vx_frame {U : State} {k n : Nat} (h : s.sameButNew ({ U with vm := s.vm } : State) locs k n) : s.heap.size ≤ U.heap.size ∧ ∀ q : Nat, q < s.heap.size → (∀ z ∈ locs, z.base ≠ q) → U.heap[q]? = s.heap[q]? := by
  obtain ⟨-, h2, -, -, -, h6⟩ := h
  refine ⟨h2, fun q hq hz => ?_⟩
  obtain ⟨c9, e1, e2, e3, e4⟩ := h6 q _ (Array.getElem?_eq_getElem hq)
  have hs : c9.slots = (s.heap[q]).slots := Array.ext_getElem? fun i => e4 i fun hm => hz _ hm rfl
  have h9 : c9 = s.heap[q] := by
    rw [hs] at e2
    exact e2
  have e5 : U.heap[q]? = some c9 := e1
  rw [e5, h9, Array.getElem?_eq_getElem hq]
/-- the words of a throw but the four that speak of the heap -/
def vx_no (w : Cond) : Bool := decide (w ≠ .isRef (.static Bundle.tN "UNASSIGNED_STACK" Bundle.steD)) && decide (w ≠ .isRef (.static Bundle.tN "SUPPRESSED_SENTINEL" Bundle.listD)) && decide (w ≠ .laysStatic Bundle.tN "UNASSIGNED_STACK" Bundle.steD) && decide (w ≠ .laysStatic Bundle.tN "SUPPRESSED_SENTINEL" Bundle.listD)
def vx_at0 (own : String) (ic : Nat) (X : String) (names : List String) : List Cond := (Bundle.ownAtoms0 own ic X names).filter vx_no
def vx_atS (own : String) (ic : Nat) (X : String) (names : List String) : List Cond := (Bundle.ownAtoms own ic X names).filter vx_no
/-- a word that the tables alone decide, or a good one -/
def vx_ot (w : Cond) : Bool := w.onTables || goodWord w
theorem vx_ot_at {args a' : Array Value} {s U : State} {w : Cond} (hW : s.WarmedH U.vm) (hvm : s.vm = U.vm) (hg : vx_ot w = true) (h : w.before args s = true) : w.before a' U = true := by
  simp only [vx_ot, Bool.or_eq_true] at hg
  rcases hg with hg | hg
  · exact va_tabs hg hvm h
  · exact word_at hW (good_of_word hg) h
/-- a list's words: the good ones out of the method's own list, the others by premises of their own -/
theorem vx_hat {args : Array Value} {s : State} {L B : List Cond} (h1 : ∀ w ∈ L.filter goodWord, w.before args s = true) (h2 : ∀ w ∈ L.filter (fun w => !goodWord w), w ∈ B) (h3 : ∀ w ∈ B, w.before args s = true) : ∀ w ∈ L, w.before args s = true := by
  intro w hw
  by_cases g : goodWord w = true
  · exact h1 w (List.mem_filter.mpr ⟨hw, g⟩)
  · refine h3 w (h2 w (List.mem_filter.mpr ⟨hw, ?_⟩))
    show (!goodWord w) = true
    cases hgw : goodWord w
    · rfl
    · exact absurd hgw g
theorem vx_c {args : Array Value} {s : State} {w : Cond} {B : List Cond} (h : w.before args s = true) (t : ∀ w ∈ B, w.before args s = true) : ∀ w' ∈ w :: B, w'.before args s = true := fun w' h' => (List.mem_cons.mp h').elim (fun e => by rw [e]; exact h) (t w')
theorem vx_n {args : Array Value} {s : State} : ∀ w ∈ ([] : List Cond), w.before args s = true := fun _ h => nomatch h
theorem vx_own {args : Array Value} {s : State} {L : List Cond} (h1 : ∀ w ∈ L.filter vx_no, w.before args s = true)
    (hU : (Cond.isRef (.static Bundle.tN "UNASSIGNED_STACK" Bundle.steD)).before args s = true) (hN : (Cond.isRef (.static Bundle.tN "SUPPRESSED_SENTINEL" Bundle.listD)).before args s = true)
    (lU : (Cond.laysStatic Bundle.tN "UNASSIGNED_STACK" Bundle.steD).before args s = true) (lN : (Cond.laysStatic Bundle.tN "SUPPRESSED_SENTINEL" Bundle.listD).before args s = true) : ∀ w ∈ L, w.before args s = true := by
  intro w hw
  by_cases e1 : w = .isRef (.static Bundle.tN "UNASSIGNED_STACK" Bundle.steD)
  · rw [e1]; exact hU
  · by_cases e2 : w = .isRef (.static Bundle.tN "SUPPRESSED_SENTINEL" Bundle.listD)
    · rw [e2]; exact hN
    · by_cases e3 : w = .laysStatic Bundle.tN "UNASSIGNED_STACK" Bundle.steD
      · rw [e3]; exact lU
      · by_cases e4 : w = .laysStatic Bundle.tN "SUPPRESSED_SENTINEL" Bundle.listD
        · rw [e4]; exact lN
        · exact h1 w (List.mem_filter.mpr ⟨hw, by unfold vx_no; rw [decide_eq_true e1, decide_eq_true e2, decide_eq_true e3, decide_eq_true e4]; rfl⟩)
/-- where a static field lies, its class's statics cell in H -/
def vx_L (C n d : String) (A : Nat → Prop) (U : State) (H : Heap) : Prop := ∃ (c : ClassId) (k : Class) (i : Nat) (f : Field) (a : Nat) (cell : Cell), U.vm.findClass C = some c ∧ U.fieldFound? C n d = some (c, k, i, f) ∧ f.isStatic = true ∧ k.statics = some a ∧ H[a]? = some cell ∧ cell.vm.isStatics = true ∧ cell.cls = c ∧ f.slot < cell.slots.size ∧ k.staticTypes[f.slot]? = some f.type ∧ ¬ A a
theorem vx_L.moved {C n d : String} {A : Nat → Prop} {u U : State} {H : Heap} (hvm : u.vm.Alike U.vm) (h : vx_L C n d A u H) : vx_L C n d A U H := by
  obtain ⟨c, k, i, f, a, cell, h1, h2, h3, h4, h5, h6, h7, h8, h9, h10⟩ := h
  obtain ⟨k', hi', he⟩ := State.fieldFound?_setVm hvm h2
  exact ⟨c, k', i, f, a, cell, by rw [hvm.findClass]; exact h1, hi', h3, by rw [he]; exact h4, h5, h6, h7, h8, by rw [he]; exact h9, h10⟩
theorem vx_L.kept {C n d : String} {A : Nat → Prop} {U : State} {H H1 : Heap} (h : vx_L C n d A U H) (hq : ∀ a : Nat, a < H.size → ¬ A a → H1[a]? = H[a]?) : vx_L C n d A U H1 := by
  obtain ⟨c, k, i, f, a, cell, h1, h2, h3, h4, h5, h6, h7, h8, h9, h10⟩ := h
  exact ⟨c, k, i, f, a, cell, h1, h2, h3, h4, by rw [hq a (Array.getElem?_eq_some_iff.mp h5).1 h10]; exact h5, h6, h7, h8, h9, h10⟩
theorem vx_L.narrow {C n d : String} {A B : Nat → Prop} {U : State} {H : Heap} (h : vx_L C n d A U H) (hAB : ∀ q, B q → A q) : vx_L C n d B U H := by
  obtain ⟨c, k, i, f, a, cell, h1, h2, h3, h4, h5, h6, h7, h8, h9, h10⟩ := h
  exact ⟨c, k, i, f, a, cell, h1, h2, h3, h4, h5, h6, h7, h8, h9, fun z => h10 (hAB _ z)⟩
theorem vx_L.word {C n d : String} {A : Nat → Prop} {s : State} {args : Array Value} (h : vx_L C n d A s s.heap) : (Cond.laysStatic C n d).before args s = true := by
  obtain ⟨c, k, i, f, a, cell, h1, h2, h3, h4, h5, h6, h7, h8, h9, -⟩ := h
  show (Cond.laysStatic C n d).holds args s none s [] = true
  exact Cond.laysStatic_of h1 h2 h3 h4 h5 h6 h7 h8 h9
/-- .. and what it holds: null or some reference -/
def vx_Zq (C n d : String) (A : Nat → Prop) (U : State) (H : Heap) : Prop := va_Zq C n d A U H ∧ vx_L C n d A U H
theorem vx_Zq.moved {C n d : String} {A : Nat → Prop} {u U : State} {H : Heap} (hvm : u.vm.Alike U.vm) (h : vx_Zq C n d A u H) : vx_Zq C n d A U H := ⟨va_Zq.moved hvm h.1, vx_L.moved hvm h.2⟩
theorem vx_Zq.kept {C n d : String} {A : Nat → Prop} {U : State} {H H1 : Heap} (h : vx_Zq C n d A U H) (hq : ∀ a : Nat, a < H.size → ¬ A a → H1[a]? = H[a]?) : vx_Zq C n d A U H1 := ⟨va_Zq.kept h.1 hq, vx_L.kept h.2 hq⟩
theorem vx_Zq.narrow {C n d : String} {A B : Nat → Prop} {U : State} {H : Heap} (h : vx_Zq C n d A U H) (hAB : ∀ q, B q → A q) : vx_Zq C n d B U H := ⟨va_Zq.narrow h.1 hAB, vx_L.narrow h.2 hAB⟩
theorem vx_Zqof {args : Array Value} {s : State} {C n d : String} {A : Nat → Prop} (hl : (Cond.laysStatic C n d).before args s = true) (hini : (Cond.initialized C).before args s = true) (h : (Cond.isRef (.static C n d)).before args s = true) (hA : ∀ a : Nat, a < s.heap.size → ¬ A a) : vx_Zq C n d A s s.heap := by
  refine ⟨va_Zqof hl hini h hA, ?_⟩
  obtain ⟨c, k, i, f, a, cell, h1, h2, h3, h4, h5, h6, h7, h8, h9⟩ := Cond.laysStatic_spec hl
  exact ⟨c, k, i, f, a, cell, h1, h2, h3, h4, h5, h6, h7, h8, h9, hA a (Array.getElem?_eq_some_iff.mp h5).1⟩
theorem vx_isRef {C n d : String} {v : Value} {A : Nat → Prop} {s : State} {args : Array Value} (h : va_Z C n d v A s s.heap) (hv : v.isRef = true) : (Cond.isRef (.static C n d)).before args s = true := by
  obtain ⟨cf, kf, fi, f, a, cell, h1, h2, h3, h4, h5, h6, h7, -⟩ := h
  have he : (Term.static C n d).eval args s none [] s = some v := by
    simp [Term.eval, State.fieldNamed?, h1, h2, h4, h5, h6, h7]
  simp only [Cond.before, Cond.holds, Cond.value, he]
  cases v <;> simp_all [Value.isRef]
theorem vx_isRefq {C n d : String} {A : Nat → Prop} {s : State} {args : Array Value} (h : va_Zq C n d A s s.heap) : (Cond.isRef (.static C n d)).before args s = true := by
  rcases h with h | ⟨t, h⟩
  · exact vx_isRef h rfl
  · exact vx_isRef h rfl
/-- the same frame, seen from here: as if the method were called anew in this heap -/
theorem vx_rebase {T : State} (X : Stand p l e R s m args below meth c T locs cells slots) {R' : Room} (hf : R'.frames ≤ R.frames) (hl : R'.locals ≤ R.locals) (hc : cells + R'.cells ≤ R.cells) (hs : slots + R'.slots ≤ R.slots) :
    Stand p l e R' ((T.setVm s.vm).setFrames (.invoking m args :: below)) m args below meth c T [] 0 0 := by
  have htop : (T.setVm s.vm).topJava?.isSome := X.here.top
  have hF : ((T.setVm s.vm).setFrames (.invoking m args :: below)).frames = .invoking m args :: below := State.frames_setFrames _ (State.cur_lt_of_top htop)
  obtain ⟨g₀, hg0⟩ := Option.isSome_iff_exists.mp htop
  obtain ⟨r, hr⟩ := State.topJava?_eq_some.mp hg0
  have hl9 : e.platform.stackLimits (T.setVm s.vm).me = e.platform.stackLimits s.me := X.limits
  have hb9 : (T.setVm s.vm).me.stackBytes = s.me.stackBytes := X.bytes
  refine ⟨X.admits, X.cas, X.clock, hF, ?_, X.hears, X.method, X.code, X.here, X.tail, X.warmed, ?_, ?_, ?_⟩
  · have h := X.room
    have hU : ((T.setVm s.vm).setFrames (.invoking m args :: below)).localsInUse = s.localsInUse := by
      rw [State.localsInUse_invoking hF (meth := meth) (c := c) X.method X.code, State.localsInUse_invoking X.frames X.method X.code]
    simp only [State.hasRoom, Bool.and_eq_true, decide_eq_true_eq] at h ⊢
    obtain ⟨⟨⟨⟨h1, h2, h3, h4, h5, h6⟩, h7⟩, h8⟩, h9⟩ := h
    rw [X.frames, List.length_cons] at h2 h3
    have q1 := X.heapSize
    have q2 := X.used
    simp only [hF, hU, List.length_cons, State.stackLimits_setFrames, State.stackBytes_setFrames, hl9, hb9]
    refine ⟨⟨⟨⟨by omega, by omega, by omega, by omega, by omega, h6⟩, ?_⟩, ?_⟩, X.book⟩
    · show T.heap.size + R'.cells ≤ e.platform.maxCells
      omega
    · show T.slotsUsed + R'.slots ≤ e.platform.maxSlots
      omega
  · rw [State.stackLimits_setFrames]; rfl
  · rw [State.stackBytes_setFrames]; rfl
  · refine ⟨?_, Nat.le_refl _, Nat.le_refl _, ?_, ?_, fun a c9 h9 => ⟨c9, h9, rfl, rfl, fun _ _ => rfl⟩⟩
    · obtain ⟨t, ht, -⟩ := State.frames_cons hr
      show T.setVm s.vm = { ((T.setVm s.vm).setFrames (.invoking m args :: below)).setFrames (T.setVm s.vm).frames with heap := T.heap, slotsUsed := T.slotsUsed }
      rw [State.setFrames_setFrames, State.setFrames_self ht]
      rfl
    · show T.slotsUsed = T.slotsUsed + ((T.heap.toList.drop T.heap.size).map (·.slots.size)).sum
      rw [List.drop_eq_nil_of_le (Nat.le_of_eq Array.length_toList)]
      rfl
    · show ((T.heap.toList.drop T.heap.size).map (·.slots.size)).sum ≤ 0
      rw [List.drop_eq_nil_of_le (Nat.le_of_eq Array.length_toList)]
      exact Nat.le_refl _
/-- 'throw new E()': new; dup; invokespecial; athrow -/
theorem vx_throw0 {cc : ByteArray} {pc : Nat} (hexec : p.tables.exec = Jvm.exec) (hb : c.code = cc) (hl : l.stackTraces = false) {own cls : String} {names : List String} {ik ic mc ms : Nat} {A : Nat → Prop}
    (hown : s.vm.findClass own = some m.cls) (hcls : Bundle.fit cls = true) (hnames : ∀ n ∈ names, Bundle.fit n = true)
    (hk : (Cond.classLink own ik cls).before args s = true) (hini : (Cond.initialized cls).before args s = true) (hat : ∀ w ∈ vx_at0 own ic cls names, w.before args s = true)
    (hgood : ∀ w ∈ Cond.classLink own ik cls :: Cond.initialized cls :: vx_at0 own ic cls names, vx_ot w = true)
    (hU : vx_Zq Bundle.tN "UNASSIGNED_STACK" Bundle.steD A s s.heap) (hN : vx_Zq Bundle.tN "SUPPRESSED_SENTINEL" Bundle.listD A s s.heap) (hS : va_S A s.heap H locs) (hsize : ls.size = c.maxLocals)
    (d0 : decode cc pc = .ok (.new ik, 3)) (d3 : decode cc (pc + 3) = .ok (.dup, 1)) (d4 : decode cc (pc + 4) = .ok (.invokespecial ic, 3)) (d7 : decode cc (pc + 7) = .ok (.athrow, 1))
    (hout : ∀ x ∈ c.exceptionTable.toList, covers x (pc + 7) = false)
    (hRframes : names.length + 3 < R.frames) (hRlocals : (rest.map fun v => v.category).sum + (13 * (names.length + 1) + 42) ≤ R.locals) (hRcells : cells + 1 ≤ R.cells) (hRslots : slots + 6 ≤ R.slots) (hlocks : meth.locks = false)
    (hx : ∀ t : State, s.vm.Alike t.vm → H.size ≤ t.heap.size → (∀ q : Nat, q < H.size → t.heap[q]? = H[q]?) → XC cls s t)
    (hf : ∀ z ∈ locs, free z.base) (hc : cells + 1 ≤ mc) (hs : slots + 6 ≤ ms) :
    W p l e R s m args below meth c H locs cells slots (vx_MQ below Qc XC args s mc ms free) (F0 m pc ls rest) := by
  intro T hT X
  have htr : e.platform.stackTraces = false := (show e.platform.stackTraces = l.stackTraces by rw [X.admits.platform]).trans hl
  have Y := vx_rebase X (R' := { frames := R.frames, locals := R.locals, cells := 1, slots := 6 }) (Nat.le_refl _) (Nat.le_refl _) hRcells hRslots
  obtain ⟨s', hA⟩ : ∃ z, z = (T.setVm s.vm).setFrames (.invoking m args :: below) := ⟨_, rfl⟩
  rw [← hA] at Y
  have hvm : s'.vm = s.vm := by rw [hA]; rfl
  have hhp : s'.heap = H := by rw [hA]; exact hT
  have hW0 : s.WarmedH s'.vm := by rw [hvm]; exact State.WarmedH.refl s
  have hat' : ∀ w ∈ vx_at0 own ic cls names, w.before args s' = true := fun w hw => vx_ot_at hW0 hvm.symm (hgood w (List.mem_cons_of_mem _ (List.mem_cons_of_mem _ hw))) (hat w hw)
  have hk' : (Cond.classLink own ik cls).before args s' = true := vx_ot_at hW0 hvm.symm (hgood _ List.mem_cons_self) hk
  have hini' : (Cond.initialized cls).before args s' = true := vx_ot_at hW0 hvm.symm (hgood _ (List.mem_cons_of_mem _ List.mem_cons_self)) hini
  have hU' : vx_Zq Bundle.tN "UNASSIGNED_STACK" Bundle.steD A s' s'.heap := by rw [hhp]; exact vx_Zq.moved hW0.alike (hU.kept hS.2.1)
  have hN' : vx_Zq Bundle.tN "SUPPRESSED_SENTINEL" Bundle.listD A s' s'.heap := by rw [hhp]; exact vx_Zq.moved hW0.alike (hN.kept hS.2.1)
  have h : ∀ w ∈ Bundle.ownAtoms0 own ic cls names, w.before args s' = true := vx_own hat' (vx_isRefq hU'.1) (vx_isRefq hN'.1) hU'.2.word hN'.2.word
  have hown' : s'.vm.findClass own = some m.cls := by rw [hvm]; exact hown
  have hins : (Cond.instantiable cls 6).before args s' = true := h _ (by simp [Bundle.ownAtoms0])
  obtain ⟨vm₁, cX, kX, hfX, hkX, -, -, X₁, st1⟩ := Y.newCold hexec (own := own) (C := cls) (index := ik) (n := 6) hown' hk' hins hini'
    (g := F0 m pc ls rest) rfl (by rw [hb]; exact d0) (Nat.le_refl _) (Nat.le_refl _)
  generalize hT1 : (T.setVm vm₁).pushCell { cls := cX, slots := kX.instanceTypes.map defaultValue, vm := .none } = T1 at X₁ st1
  have hcat : (Value.ref T.heap.size).category = 1 := rfl
  have hcellA : T1.heap[T.heap.size]? = some (freshCell cX kX) := by rw [← hT1]; exact State.heap_pushCell_size _ _
  have d3' : decode c.code (pc + 3) = .ok (.dup, 1) := by rw [hb]; exact d3
  obtain ⟨U, hsteps, hrun, hend, hW, hsame, ce, hce, hO⟩ := X₁.ctorThrow0 hexec htr (own := own) (cls := cls) (names := names) (ic := ic) hown' hcls hnames h (fun x hx => nomatch hx) hfX hkX hcellA (by rw [hhp, hT]; exact Nat.le_refl _)
    (g := { method := m, pc := pc + 4, locals := ls, stack := .ref T.heap.size :: .ref T.heap.size :: rest, locked := none }) rfl hsize rfl rfl (rest := rest) rfl
    (by rw [hb]; exact d4) (by rw [hb]; exact d7) hout hRframes (by simp only [List.map_cons, List.sum_cons, hcat]; omega) hlocks
  obtain ⟨f1, f2⟩ := vx_frame hsame
  rw [hhp] at f1 f2
  have hWs : s.WarmedH U.vm := State.WarmedH.trans hW0 hW
  have hcl : s.vm.findClass cls = some ce.cls := by
    have h9 := hO.cls
    rw [hvm] at h9
    exact h9
  have hall : s.sameButNew ({ U with vm := s.vm } : State) locs mc ms := by
    subst hA
    obtain ⟨e1, e2⟩ := hsame
    rw [State.setFrames_setFrames] at e1
    have h2 : (T.setVm s.vm).sameButNew ({ U with vm := s.vm } : State) [] (0 + 1) (0 + 6) := ⟨e1, e2⟩
    have h3 := X.same.trans h2
    rw [List.append_nil] at h3
    exact h3.mono hc hs
  refine ⟨U, ?_, .threw T.heap.size, hrun, hend, Or.inr ⟨T.heap.size, rfl, cls, ce, locs, hx U hWs.alike f1 (fun q hq => f2 q hq (fun z hz => nomatch hz)), hce, hO.vm, hcl, hWs, hall, hf⟩⟩
  refine st1 _ ?_
  show Steps p.tables e below (T1.setTop { method := m, pc := pc + 3, locals := ls, stack := .ref T.heap.size :: rest, locked := none }) _
  jvm_step X₁.here [X₁.here.top, hexec, d3', Value.category]
  exact hsteps
/-- 'throw new E("text")': new; dup; ldc; invokespecial; athrow -/
theorem vx_throwS {cc : ByteArray} {pc : Nat} (hexec : p.tables.exec = Jvm.exec) (hb : c.code = cc) (hl : l.stackTraces = false) {own cls text : String} {names : List String} {ik is ic mc ms sa : Nat} {A : Nat → Prop}
    (hown : s.vm.findClass own = some m.cls) (hcls : Bundle.fit cls = true) (hnames : ∀ n ∈ names, Bundle.fit n = true)
    (hk : (Cond.classLink own ik cls).before args s = true) (hini : (Cond.initialized cls).before args s = true) (hstr : vk_R own is text sa s) (hat : ∀ w ∈ vx_atS own ic cls names, w.before args s = true)
    (hgood : ∀ w ∈ Cond.classLink own ik cls :: Cond.initialized cls :: vx_atS own ic cls names, vx_ot w = true)
    (hU : vx_Zq Bundle.tN "UNASSIGNED_STACK" Bundle.steD A s s.heap) (hN : vx_Zq Bundle.tN "SUPPRESSED_SENTINEL" Bundle.listD A s s.heap) (hS : va_S A s.heap H locs) (hsize : ls.size = c.maxLocals)
    (d0 : decode cc pc = .ok (.new ik, 3)) (d3 : decode cc (pc + 3) = .ok (.dup, 1)) (d4 : decode cc (pc + 4) = .ok (.ldc is, 2)) (d6 : decode cc (pc + 6) = .ok (.invokespecial ic, 3)) (d9 : decode cc (pc + 9) = .ok (.athrow, 1))
    (hout : ∀ x ∈ c.exceptionTable.toList, covers x (pc + 9) = false)
    (hRframes : names.length + 3 < R.frames) (hRlocals : (rest.map fun v => v.category).sum + (13 * (names.length + 1) + 43) ≤ R.locals) (hRcells : cells + 1 ≤ R.cells) (hRslots : slots + 6 ≤ R.slots) (hlocks : meth.locks = false)
    (hx : ∀ t : State, s.vm.Alike t.vm → H.size ≤ t.heap.size → (∀ q : Nat, q < H.size → t.heap[q]? = H[q]?) → XC cls s t)
    (hf : ∀ z ∈ locs, free z.base) (hc : cells + 1 ≤ mc) (hs : slots + 6 ≤ ms) :
    W p l e R s m args below meth c H locs cells slots (vx_MQ below Qc XC args s mc ms free) (F0 m pc ls rest) := by
  intro T hT X
  have htr : e.platform.stackTraces = false := (show e.platform.stackTraces = l.stackTraces by rw [X.admits.platform]).trans hl
  have Y := vx_rebase X (R' := { frames := R.frames, locals := R.locals, cells := 1, slots := 6 }) (Nat.le_refl _) (Nat.le_refl _) hRcells hRslots
  obtain ⟨s', hA⟩ : ∃ z, z = (T.setVm s.vm).setFrames (.invoking m args :: below) := ⟨_, rfl⟩
  rw [← hA] at Y
  have hvm : s'.vm = s.vm := by rw [hA]; rfl
  have hhp : s'.heap = H := by rw [hA]; exact hT
  have hW0 : s.WarmedH s'.vm := by rw [hvm]; exact State.WarmedH.refl s
  have hat' : ∀ w ∈ vx_atS own ic cls names, w.before args s' = true := fun w hw => vx_ot_at hW0 hvm.symm (hgood w (List.mem_cons_of_mem _ (List.mem_cons_of_mem _ hw))) (hat w hw)
  have hk' : (Cond.classLink own ik cls).before args s' = true := vx_ot_at hW0 hvm.symm (hgood _ List.mem_cons_self) hk
  have hini' : (Cond.initialized cls).before args s' = true := vx_ot_at hW0 hvm.symm (hgood _ (List.mem_cons_of_mem _ List.mem_cons_self)) hini
  have hU' : vx_Zq Bundle.tN "UNASSIGNED_STACK" Bundle.steD A s' s'.heap := by rw [hhp]; exact vx_Zq.moved hW0.alike (hU.kept hS.2.1)
  have hN' : vx_Zq Bundle.tN "SUPPRESSED_SENTINEL" Bundle.listD A s' s'.heap := by rw [hhp]; exact vx_Zq.moved hW0.alike (hN.kept hS.2.1)
  have h : ∀ w ∈ Bundle.ownAtoms own ic cls names, w.before args s' = true := vx_own hat' (vx_isRefq hU'.1) (vx_isRefq hN'.1) hU'.2.word hN'.2.word
  have hown' : s'.vm.findClass own = some m.cls := by rw [hvm]; exact hown
  have hins : (Cond.instantiable cls 6).before args s' = true := h _ (by simp [Bundle.ownAtoms])
  obtain ⟨vm₁, cX, kX, hfX, hkX, -, -, X₁, st1⟩ := Y.newCold hexec (own := own) (C := cls) (index := ik) (n := 6) hown' hk' hins hini'
    (g := F0 m pc ls rest) rfl (by rw [hb]; exact d0) (Nat.le_refl _) (Nat.le_refl _)
  generalize hT1 : (T.setVm vm₁).pushCell { cls := cX, slots := kX.instanceTypes.map defaultValue, vm := .none } = T1 at X₁ st1
  have hcat : (Value.ref T.heap.size).category = 1 := rfl
  have hcellA : T1.heap[T.heap.size]? = some (freshCell cX kX) := by rw [← hT1]; exact State.heap_pushCell_size _ _
  have d3' : decode c.code (pc + 3) = .ok (.dup, 1) := by rw [hb]; exact d3
  have d4' : decode c.code (pc + 4) = .ok (.ldc is, 2) := by rw [hb]; exact d4
  have hstr' : vk_R own is text sa s' := vk_R.warm hW0 hstr
  obtain ⟨U, hsteps, hrun, hend, hW, hsame, ce, hce, hO⟩ := X₁.ctorThrowS hexec htr (own := own) (cls := cls) (names := names) (ic := ic) hown' hcls hnames h (fun x hx => nomatch hx) hfX hkX hcellA (by rw [hhp, hT]; exact Nat.le_refl _) (msg := .ref sa) rfl
    (g := { method := m, pc := pc + 6, locals := ls, stack := .ref sa :: .ref T.heap.size :: .ref T.heap.size :: rest, locked := none }) rfl hsize rfl rfl (rest := rest) rfl
    (by rw [hb]; exact d6) (by rw [hb]; exact d9) hout hRframes (by simp only [List.map_cons, List.sum_cons, hcat]; omega) hlocks
  obtain ⟨f1, f2⟩ := vx_frame hsame
  rw [hhp] at f1 f2
  have hWs : s.WarmedH U.vm := State.WarmedH.trans hW0 hW
  have hcl : s.vm.findClass cls = some ce.cls := by
    have h9 := hO.cls
    rw [hvm] at h9
    exact h9
  have hall : s.sameButNew ({ U with vm := s.vm } : State) locs mc ms := by
    subst hA
    obtain ⟨e1, e2⟩ := hsame
    rw [State.setFrames_setFrames] at e1
    have h2 : (T.setVm s.vm).sameButNew ({ U with vm := s.vm } : State) [] (0 + 1) (0 + 6) := ⟨e1, e2⟩
    have h3 := X.same.trans h2
    rw [List.append_nil] at h3
    exact h3.mono hc hs
  refine ⟨U, ?_, .threw T.heap.size, hrun, hend, Or.inr ⟨T.heap.size, rfl, cls, ce, locs, hx U hWs.alike f1 (fun q hq => f2 q hq (fun z hz => nomatch hz)), hce, hO.vm, hcl, hWs, hall, hf⟩⟩
  refine st1 _ ?_
  show Steps p.tables e below (T1.setTop { method := m, pc := pc + 3, locals := ls, stack := .ref T.heap.size :: rest, locked := none }) _
  jvm_step X₁.here [X₁.here.top, hexec, d3', Value.category]
  exact X₁.ldcString hexec (own := own) (text := text) (index := is) (a := sa) hown' hstr'.1 hstr'.2
    (g := { method := m, pc := pc + 4, locals := ls, stack := .ref T.heap.size :: .ref T.heap.size :: rest, locked := none }) rfl d4' _ hsteps
/-- 'throw new E("text")', the text by a wide index -/
theorem vx_throwSW {cc : ByteArray} {pc : Nat} (hexec : p.tables.exec = Jvm.exec) (hb : c.code = cc) (hl : l.stackTraces = false) {own cls text : String} {names : List String} {ik is ic mc ms sa : Nat} {A : Nat → Prop}
    (hown : s.vm.findClass own = some m.cls) (hcls : Bundle.fit cls = true) (hnames : ∀ n ∈ names, Bundle.fit n = true)
    (hk : (Cond.classLink own ik cls).before args s = true) (hini : (Cond.initialized cls).before args s = true) (hstr : vk_R own is text sa s) (hat : ∀ w ∈ vx_atS own ic cls names, w.before args s = true)
    (hgood : ∀ w ∈ Cond.classLink own ik cls :: Cond.initialized cls :: vx_atS own ic cls names, vx_ot w = true)
    (hU : vx_Zq Bundle.tN "UNASSIGNED_STACK" Bundle.steD A s s.heap) (hN : vx_Zq Bundle.tN "SUPPRESSED_SENTINEL" Bundle.listD A s s.heap) (hS : va_S A s.heap H locs) (hsize : ls.size = c.maxLocals)
    (d0 : decode cc pc = .ok (.new ik, 3)) (d3 : decode cc (pc + 3) = .ok (.dup, 1)) (d4 : decode cc (pc + 4) = .ok (.ldc_w is, 3)) (d7 : decode cc (pc + 7) = .ok (.invokespecial ic, 3)) (d10 : decode cc (pc + 10) = .ok (.athrow, 1))
    (hout : ∀ x ∈ c.exceptionTable.toList, covers x (pc + 10) = false)
    (hRframes : names.length + 3 < R.frames) (hRlocals : (rest.map fun v => v.category).sum + (13 * (names.length + 1) + 43) ≤ R.locals) (hRcells : cells + 1 ≤ R.cells) (hRslots : slots + 6 ≤ R.slots) (hlocks : meth.locks = false)
    (hx : ∀ t : State, s.vm.Alike t.vm → H.size ≤ t.heap.size → (∀ q : Nat, q < H.size → t.heap[q]? = H[q]?) → XC cls s t)
    (hf : ∀ z ∈ locs, free z.base) (hc : cells + 1 ≤ mc) (hs : slots + 6 ≤ ms) :
    W p l e R s m args below meth c H locs cells slots (vx_MQ below Qc XC args s mc ms free) (F0 m pc ls rest) := by
  intro T hT X
  have htr : e.platform.stackTraces = false := (show e.platform.stackTraces = l.stackTraces by rw [X.admits.platform]).trans hl
  have Y := vx_rebase X (R' := { frames := R.frames, locals := R.locals, cells := 1, slots := 6 }) (Nat.le_refl _) (Nat.le_refl _) hRcells hRslots
  obtain ⟨s', hA⟩ : ∃ z, z = (T.setVm s.vm).setFrames (.invoking m args :: below) := ⟨_, rfl⟩
  rw [← hA] at Y
  have hvm : s'.vm = s.vm := by rw [hA]; rfl
  have hhp : s'.heap = H := by rw [hA]; exact hT
  have hW0 : s.WarmedH s'.vm := by rw [hvm]; exact State.WarmedH.refl s
  have hat' : ∀ w ∈ vx_atS own ic cls names, w.before args s' = true := fun w hw => vx_ot_at hW0 hvm.symm (hgood w (List.mem_cons_of_mem _ (List.mem_cons_of_mem _ hw))) (hat w hw)
  have hk' : (Cond.classLink own ik cls).before args s' = true := vx_ot_at hW0 hvm.symm (hgood _ List.mem_cons_self) hk
  have hini' : (Cond.initialized cls).before args s' = true := vx_ot_at hW0 hvm.symm (hgood _ (List.mem_cons_of_mem _ List.mem_cons_self)) hini
  have hU' : vx_Zq Bundle.tN "UNASSIGNED_STACK" Bundle.steD A s' s'.heap := by rw [hhp]; exact vx_Zq.moved hW0.alike (hU.kept hS.2.1)
  have hN' : vx_Zq Bundle.tN "SUPPRESSED_SENTINEL" Bundle.listD A s' s'.heap := by rw [hhp]; exact vx_Zq.moved hW0.alike (hN.kept hS.2.1)
  have h : ∀ w ∈ Bundle.ownAtoms own ic cls names, w.before args s' = true := vx_own hat' (vx_isRefq hU'.1) (vx_isRefq hN'.1) hU'.2.word hN'.2.word
  have hown' : s'.vm.findClass own = some m.cls := by rw [hvm]; exact hown
  have hins : (Cond.instantiable cls 6).before args s' = true := h _ (by simp [Bundle.ownAtoms])
  obtain ⟨vm₁, cX, kX, hfX, hkX, -, -, X₁, st1⟩ := Y.newCold hexec (own := own) (C := cls) (index := ik) (n := 6) hown' hk' hins hini'
    (g := F0 m pc ls rest) rfl (by rw [hb]; exact d0) (Nat.le_refl _) (Nat.le_refl _)
  generalize hT1 : (T.setVm vm₁).pushCell { cls := cX, slots := kX.instanceTypes.map defaultValue, vm := .none } = T1 at X₁ st1
  have hcat : (Value.ref T.heap.size).category = 1 := rfl
  have hcellA : T1.heap[T.heap.size]? = some (freshCell cX kX) := by rw [← hT1]; exact State.heap_pushCell_size _ _
  have d3' : decode c.code (pc + 3) = .ok (.dup, 1) := by rw [hb]; exact d3
  have d4' : decode c.code (pc + 4) = .ok (.ldc_w is, 3) := by rw [hb]; exact d4
  have hstr' : vk_R own is text sa s' := vk_R.warm hW0 hstr
  obtain ⟨U, hsteps, hrun, hend, hW, hsame, ce, hce, hO⟩ := X₁.ctorThrowS hexec htr (own := own) (cls := cls) (names := names) (ic := ic) hown' hcls hnames h (fun x hx => nomatch hx) hfX hkX hcellA (by rw [hhp, hT]; exact Nat.le_refl _) (msg := .ref sa) rfl
    (g := { method := m, pc := pc + 7, locals := ls, stack := .ref sa :: .ref T.heap.size :: .ref T.heap.size :: rest, locked := none }) rfl hsize rfl rfl (rest := rest) rfl
    (by rw [hb]; exact d7) (by rw [hb]; exact d10) hout hRframes (by simp only [List.map_cons, List.sum_cons, hcat]; omega) hlocks
  obtain ⟨f1, f2⟩ := vx_frame hsame
  rw [hhp] at f1 f2
  have hWs : s.WarmedH U.vm := State.WarmedH.trans hW0 hW
  have hcl : s.vm.findClass cls = some ce.cls := by
    have h9 := hO.cls
    rw [hvm] at h9
    exact h9
  have hall : s.sameButNew ({ U with vm := s.vm } : State) locs mc ms := by
    subst hA
    obtain ⟨e1, e2⟩ := hsame
    rw [State.setFrames_setFrames] at e1
    have h2 : (T.setVm s.vm).sameButNew ({ U with vm := s.vm } : State) [] (0 + 1) (0 + 6) := ⟨e1, e2⟩
    have h3 := X.same.trans h2
    rw [List.append_nil] at h3
    exact h3.mono hc hs
  refine ⟨U, ?_, .threw T.heap.size, hrun, hend, Or.inr ⟨T.heap.size, rfl, cls, ce, locs, hx U hWs.alike f1 (fun q hq => f2 q hq (fun z hz => nomatch hz)), hce, hO.vm, hcl, hWs, hall, hf⟩⟩
  refine st1 _ ?_
  show Steps p.tables e below (T1.setTop { method := m, pc := pc + 3, locals := ls, stack := .ref T.heap.size :: rest, locked := none }) _
  jvm_step X₁.here [X₁.here.top, hexec, d3', Value.category]
  exact X₁.ldcStringW hexec (own := own) (text := text) (index := is) (a := sa) hown' hstr'.1 hstr'.2
    (g := { method := m, pc := pc + 4, locals := ls, stack := .ref T.heap.size :: .ref T.heap.size :: rest, locked := none }) rfl d4' _ hsteps
end Ends
section Bodies
variable {l : Launch}
theorem vx_ofW {y : MethodName} {ws ws' : List Cond} {rm : Room} {Pc : Array Value → State → Prop} {Qc : Array Value → State → Outcome → State → Prop} {XC : String → State → State → Prop} {mc ms : Nat} {free : Addr → Prop} {cc : ByteArray} {maxL : Nat} {ret : Option FieldType}
    (hy : plainName y.cls = true) (hw : ws = Cond.code y cc maxL ret :: ws')
    (body : ∀ p e s m args below meth c s₁, BodyLoose p l y (headSpec ws rm) cc maxL ret e s m args below meth c s₁ → c.maxLocals = maxL → (∀ x ∈ c.exceptionTable.toList, False) → Pc args s →
      W p l e (headSpec ws rm).room s m args below meth c s.heap [] 0 0 (vx_MQ below Qc XC args s mc ms free) (entryFrame m args maxL)) : vx_Met l y ws rm Pc Qc XC mc ms free := by
  refine MetFree.of_bodyS (code := cc) (maxLocals := maxL) (ret := ret) hy ?_ ?_
  · intro args s m h hn
    obtain ⟨meth, c, h1, h2, h3, h4, h5, h6, -, -⟩ := Cond.code_spec hn (atoms_spec (ws := ws) h _ (by rw [hw]; exact List.mem_cons_self))
    exact ⟨meth, c, h1, h2, h3, h4, h5, h6⟩
  · intro p e s m args below meth c s₁ B hml hP _
    have hh0 : s₁.heap = s.heap := by rw [B.state]; rfl
    have ht : ∀ x ∈ c.exceptionTable.toList, False := by
      obtain ⟨meth9, c9, h1, h2, -, -, -, -, h7, -⟩ := Cond.code_spec B.named (atoms_spec (ws := ws) B.pre _ (by rw [hw]; exact List.mem_cons_self))
      cases Option.some.inj (h1.symm.trans B.method)
      cases Option.some.inj (h2.symm.trans (Stand.of_body B).code)
      intro x hx
      rw [Array.isEmpty_iff.mp h7] at hx
      cases hx
    obtain ⟨t, a1, o, b1, b2, b3⟩ := body p e s m args below meth c s₁ B hml ht hP s₁ hh0 (Stand.of_body B)
    exact ⟨t, o, a1, b1, b2, b3⟩
/-- the table of a body with handlers -/
theorem vx_table {p : Program} {x y : MethodName} {S : Spec} {cc bytes : ByteArray} {maxL maxL' : Nat} {ret ret' : Option FieldType} {e : Env} {s s₁ : State} {m : MethodId} {args : Array Value} {below : List Frame} {meth : Method} {c : Code} {hh : List (Nat × Nat × Nat × Nat)}
    (B : BodyLoose p l y S cc maxL ret e s m args below meth c s₁) (h : (Cond.codeWith y bytes maxL' ret' hh).before args s = true) : c.exceptionTable.toList = tableOf hh := by
  obtain ⟨m9, meth9, c9, hn9, h1, h2, -, -, h6, -⟩ := Cond.codeWith_spec h
  cases Option.some.inj (hn9.symm.trans B.named)
  cases Option.some.inj (h1.symm.trans B.method)
  cases Option.some.inj (h2.symm.trans (Stand.of_body B).code)
  rw [← h6, table_eq]
end Bodies
end VXA
/-! ===== END ===== -/
/-! ===== BEGIN a static call of a method with an exception table ===== -/
section VXS
variable {p : Program} {l : Launch} {e : Env} {R : Room} {s : State} {m : MethodId} {args : Array Value} {below : List Frame} {meth : Method} {c : Code} {T : State} {H : Heap} {locs : List Loc} {cells slots : Nat}
abbrev vx_CSW (R : Room) (s : State) (args : Array Value) (own : String) (index : Nat) (y : MethodName) (bytes : ByteArray) (maxL : Nat) (ret : Option FieldType) (hh : List (Nat × Nat × Nat × Nat)) (ws : List Cond) (rm : Room) (mc ms n : Nat) : Prop :=
  (rm.cells = mc ∧ rm.slots = ms ∧ rm.frames + 1 ≤ R.frames ∧ 8 + (maxL + 11) + rm.locals ≤ R.locals ∧ (∀ w ∈ ws, ∀ (a' : Array Value) (U : State), s.WarmedH U.vm → w.before a' U = true) ∧ Cond.codeWith y bytes maxL ret hh ∈ ws) ∧
  (Cond.codeWith y bytes maxL ret hh).before args s = true ∧ (Cond.initialized y.cls).before args s = true ∧ (y.cls ≠ "java/lang/invoke/MethodHandle" ∧ y.cls ≠ "java/lang/invoke/VarHandle") ∧
  (∀ sig, parseMethodDescriptor y.desc = some sig → n = sig.parameters.length) ∧ (Cond.methodLink own index y).before args s = true ∧ (Cond.static y).before args s = true
theorem vx_cwSW {own : String} {index maxL mc ms : Nat} {y : MethodName} {bytes : ByteArray} {ret : Option FieldType} {hh : List (Nat × Nat × Nat × Nat)} {Ts ws ws' : List Cond} {rm : Room} (n : Nat) (ht : ∀ w ∈ Ts, w.before args s = true) (hT : GoodIn Ts (va_wsS own index y ws)) (hw : ws = Cond.codeWith y bytes maxL ret hh :: ws') (hrc : rm.cells = mc) (hrs : rm.slots = ms)
    (hd : y.cls ≠ "java/lang/invoke/MethodHandle" ∧ y.cls ≠ "java/lang/invoke/VarHandle" ∧ (parseMethodDescriptor y.desc).map (fun d => d.parameters.length) = some n) (hR : rm.frames + 1 ≤ R.frames ∧ 8 + (maxL + 11) + rm.locals ≤ R.locals) :
    vx_CSW R s args own index y bytes maxL ret hh ws rm mc ms n := by
  have ok : ∀ w ∈ va_wsS own index y ws, w.before args s = true := fun w h => ht w (hT w h).1
  have hG : GoodIn Ts ws := fun w h => hT w (by unfold va_wsS; exact List.mem_append_right _ h)
  have hc : Cond.codeWith y bytes maxL ret hh ∈ ws := by rw [hw]; exact List.mem_cons_self
  refine ⟨⟨hrc, hrs, hR.1, hR.2, pay_in ht hG, hc⟩, ht _ (hG _ hc).1, ok _ (by simp [va_wsS]), ⟨hd.1, hd.2.1⟩, fun sig h => ?_, ok _ (by simp [va_wsS]), ok _ (by simp [va_wsS])⟩
  have h2 := hd.2.2
  rw [h] at h2
  exact (Option.some.inj h2).symm
theorem vx_callSW (X : Stand p l e R s m args below meth c T locs cells slots) (hexec : p.tables.exec = Jvm.exec) {own : String} {index : Nat} {y : MethodName} {bytes : ByteArray} {maxL : Nat} {ret : Option FieldType} {hh : List (Nat × Nat × Nat × Nat)}
    (hown : s.vm.findClass own = some m.cls) (hlink : (Cond.methodLink own index y).before args s = true) (hstat : (Cond.static y).before args s = true) (hinit : (Cond.initialized y.cls).before args s = true)
    (hcode : (Cond.codeWith y bytes maxL ret hh).before args s = true) (hy : y.cls ≠ "java/lang/invoke/MethodHandle" ∧ y.cls ≠ "java/lang/invoke/VarHandle")
    {W9 : Nat} {Pre : Pt → Array Value → Prop} {Post : Pt → Array Value → Option Value → Pt → Prop} (hK : Back l R p e below s args y 3 W9 Pre Post)
    {g : JFrame} (hg : g.method = m) (hsize : g.locals.size = c.maxLocals) {argsL rest : List Value} (hlen : ∀ sig, parseMethodDescriptor y.desc = some sig → argsL.length = sig.parameters.length)
    (hstack : g.stack = argsL.reverse ++ rest) (hW : 2 * g.monitorRoom + (rest.map fun v => v.category).sum ≤ W9) (hdg : decode c.code g.pc = .ok (.invokestatic index, 3))
    (hpre : ∀ vm₁, s.WarmedH vm₁ → Pre ⟨T.setVm vm₁, locs, cells, slots⟩ argsL.toArray) :
    ∃ (v : Option Value) (vm₁ : Vm) (B : Pt), s.WarmedH vm₁ ∧ Stand p l e R s m args below meth c B.U B.locs B.cells B.slots ∧ Post ⟨T.setVm vm₁, locs, cells, slots⟩ argsL.toArray v B ∧
      ∀ target, Steps p.tables e below (B.U.setTop { g with pc := g.pc + 3, stack := v.toList ++ rest }) target → Steps p.tables e below (T.setTop g) target := by
  obtain ⟨mk, methM, cM, hnamed, hmethM, -, -, -, -, -, -, hsigM⟩ := Cond.codeWith_spec hcode
  have hstatic : methM.isStatic = true := Cond.static_spec hnamed hmethM hstat
  obtain ⟨kP, hkP, -⟩ := className_of_methodNamed hnamed
  have hinitP : kP.init = .initialized := Cond.initialized_spec (findClass_of_methodNamed hnamed) hkP hinit
  obtain ⟨vm₁, X₁, hstep₁⟩ := X.invokestatic hexec hown hlink hnamed hmethM hstatic hkP hinitP hy (g := g) hg (argsL := argsL) (rest := rest) (hlen _ hsigM) hstack hdg
  obtain ⟨v, B, X', hpost, hsteps⟩ := hK m meth c ⟨T.setVm vm₁, locs, cells, slots⟩ { g with stack := rest } (.invokestatic index) mk argsL.toArray X₁ hg hsize hdg hW (X₁.named hnamed) (hpre vm₁ X₁.warmed)
  exact ⟨v, vm₁, B, X₁.warmed, X', hpost, fun target h => hstep₁ _ fun acts => by rw [doInvoke_state]; exact hsteps.trans h⟩
theorem vx_runSW {y : MethodName} {bytes cc : ByteArray} {maxL nL mc ms n index : Nat} {ret : Option FieldType} {hh : List (Nat × Nat × Nat × Nat)} {ws : List Cond} {rm : Room} {Pc : Array Value → State → Prop} {Qc : Array Value → State → Outcome → State → Prop} {free : Addr → Prop} {Ts : List Cond} {own : String} {As rest : List Value} {g : JFrame}
    (S : CallFix p m c cc nL s args Ts own) (hM : Met l y ws rm Pc Qc mc ms free) (cw : vx_CSW R s args own index y bytes maxL ret hh ws rm mc ms n) (hp : PreS s H Pc As)
    (hg : g.method = m) (hn : As.length = n) (hsize : g.locals.size = nL) (hstack : g.stack = As.reverse ++ rest) (hW : 2 * g.monitorRoom + (rest.map fun v => v.category).sum ≤ 8) (hdg : decode cc g.pc = .ok (.invokestatic index, 3)) (hf : cells + mc ≤ R.cells ∧ slots + ms ≤ R.slots) :
    va_Run p l e R s m args below meth c H locs cells slots mc ms g rest (Qc As.toArray) (free) := by
  obtain ⟨⟨hrc, hrs, hfr, hlo, hws, hcw⟩, hcode, hini, hy, hlen, hl, hstt⟩ := cw
  have hK : Back l R p e below s args y 3 8 (PreOf R mc ms Pc) (PostOf Qc mc ms free) := va_backW (hh := hh) (bytes := bytes) (maxL := maxL) (ret := ret) hM hp.1 hrc hrs hfr hlo hws hcw (fun a' U hW => word_at hW (Or.inl (by first | rfl | simp [Cond.onTables, Cond.keeps, Cond.steady])) hini)
  obtain ⟨hx, hb, hml, ho, -⟩ := S
  intro T hT X
  obtain ⟨v, vm₁, ⟨U', l2, c2, s2⟩, hW₁, X', ⟨g', mk, t, L, e1, e2, hq, h1, hL, h2, h3⟩, st⟩ := vx_callSW X hx (hh := hh) (bytes := bytes) (maxL := maxL) (ret := ret) ho hl hstt hini hcode hy hK hg (hsize.trans hml.symm) (argsL := As) (rest := rest) (fun sig h => hn.trans (hlen sig h)) hstack hW (by rw [hb]; exact hdg)
    (fun vm₁ hW₁ => ⟨hf.1, hf.2, hp.2 (T.setVm vm₁) hT hW₁⟩)
  dsimp only [Pt.U, Pt.locs, Pt.cells, Pt.slots] at X' e1 e2 h1 h2 h3 st
  subst h1; subst h2; subst h3
  exact ⟨v, (T.setVm vm₁).calling g' mk As.toArray, t, U', L, hT, X', hL, e1, e2, hq, st⟩
/-- not caught here, past rows that name other classes: it goes on to the caller -/
theorem vx_outP {p : Program} {l : Launch} {e : Env} {R : Room} {s : State} {m : MethodId} {args : Array Value} {below : List Frame} {meth : Method} {c : Code} {H : Heap} {locs : List Loc} {cells slots : Nat} {free : Addr → Prop} {ls : Array Slot} {rest : List Value} {Qc : Array Value → State → Outcome → State → Prop} {XC : String → State → State → Prop}
    {pc : Nat} {own E : String} {ce : Cell} {q : Addr} {mc ms : Nat} (hown : s.vm.findClass own = some m.cls) (hlocks : meth.locks = false)
    (hpass : ∀ z ∈ c.exceptionTable.toList, covers z pc = false ∨ (z.catchType ≠ 0 ∧ ∃ nm : String, (Cond.classLink own z.catchType nm).before args s = true ∧ va_Nc E nm s)) (hcell : H[q]? = some ce) (hv : ce.vm = .none) (hcl : s.vm.findClass E = some ce.cls)
    (hx : ∀ t : State, t.heap = H → s.vm.Alike t.vm → XC E s t) (hf : ∀ z ∈ locs, free z.base) (hc : cells ≤ mc) (hs : slots ≤ ms) :
    vx_W p l e R s m args below meth c H locs cells slots (vx_MQ below Qc XC args s mc ms free) (F0 m pc ls rest) q := by
  intro T hT X
  have hpl : e.platform.magicAccessors = ({} : Platform).magicAccessors := by rw [X.admits.platform]
  obtain ⟨vm', hW', X', st⟩ := X.outThrough hlocks q (g := F0 m pc ls rest) rfl rfl rfl (cell := ce) (by rw [hT]; exact hcell) (by rw [hv]; rfl)
    (by obtain ⟨k9, h9, -⟩ := Vm.findClass_spec hcl; exact ⟨k9, h9⟩) (fun z hz => by
      rcases hpass z hz with h | ⟨hz0, nm, hl1, hn1⟩
      · exact Or.inl h
      · obtain ⟨c6, hc6, hcl6⟩ := Cond.classLink_spec hown hl1 e.platform hpl
        obtain ⟨a8, b8, h1, h2, h3⟩ := hn1
        cases Option.some.inj (h1.symm.trans hcl)
        cases Option.some.inj (h2.symm.trans hc6)
        exact Or.inr ⟨hz0, _, hcl6, h3⟩)
  obtain ⟨g₀, hfr⟩ := X'.frames_eq
  have hcell9 : ((T.setVm vm').setFrames (.throwing q :: below)).heap[q]? = some ce := by
    show T.heap[q]? = some ce
    rw [hT]; exact hcell
  have hend : Ended ((T.setVm vm').setFrames (.throwing q :: below)) below (.threw q) := State.frames_setFrames _ (State.cur_lt_of_frames hfr)
  refine ⟨(T.setVm vm').setFrames (.throwing q :: below), ?_, .threw q, X'.here.running, hend, Or.inr ⟨q, rfl, E, ce, locs, hx _ hT (X'.ends _).1.alike, hcell9, hv, hcl, (X'.ends _).1, (X'.ends _).2.mono hc hs, hf⟩⟩
  rw [X.pushThrowing_eq]
  exact st
/-- a thing of a world lies in the heap -/
theorem vx_lt {D : va_G} {cl : List vw_C} {ws : va_W} {H1 : Heap} (h : va_P D cl ws H1) {k : Nat} {q : Nat × va_E} (hk : ws[k]? = some q) : q.1 < H1.size := (h k q hk).lt
end VXS
/-! ===== END ===== -/
/-! ===== BEGIN methods with a table of their own: called by a name, returning or throwing ===== -/
section VXH
/-! vx_backW, vx_callVX, vx_callSX, vx_callVW, vx_runVW, vx_runVX, vx_runSX, vx_ofWH follow the same proofs as their sisters above (Free/Laws.lean, Shelf42/LK1.lean); vx_outP calls Shelf42/NT130.lean (outThrough). -/
section
variable {l : Launch} {R : Room} {p : Program} {e : Env} {below : List Frame} {s : State} {sargs : Array Value} {y : MethodName} {len W9 : Nat}
theorem vx_backW {ws : List Cond} {rm : Room} {Pc : Array Value → State → Prop} {Qc : Array Value → State → Outcome → State → Prop} {XC : String → State → State → Prop} {mc ms : Nat} {free : Addr → Prop} {bytes : ByteArray} {maxL : Nat} {ret : Option FieldType} {hh : List (Nat × Nat × Nat × Nat)}
    (hM : vx_Met l y ws rm Pc Qc XC mc ms free) (hblind : FrameBlind Pc) (hrc : rm.cells = mc) (hrs : rm.slots = ms)
    (hframes : rm.frames + 1 ≤ R.frames) (hlocals : W9 + (maxL + 11) + rm.locals ≤ R.locals)
    (hws : ∀ w ∈ ws, ∀ a' U, s.WarmedH U.vm → w.before a' U = true) (hcode : Cond.codeWith y bytes maxL ret hh ∈ ws) (hinit : ∀ a' U, s.WarmedH U.vm → (Cond.initialized y.cls).before a' U = true) :
    vx_Back l R p e below s sargs y len W9 (PreOf R mc ms Pc) (PostOf Qc mc ms free) (vx_Post XC mc ms free) := by
  intro m meth c A g ig mk a X hg hsize hdg hW hn hp
  have h1 : (headSpec ws rm).pre.before a A.U = true := atoms_intro fun w hw => hws w hw _ _ X.warmed
  have h2 : (Cond.codeWith y bytes maxL ret hh).before a A.U = true := hws _ hcode _ _ X.warmed
  have h3 : (Cond.initialized y.cls).before a A.U = true := hinit _ _ X.warmed
  have h4 : A.cells + (headSpec ws rm).room.cells ≤ R.cells := by rw [show (headSpec ws rm).room.cells = mc from hrc]; exact hp.1
  have h5 : A.slots + (headSpec ws rm).room.slots ≤ R.slots := by rw [show (headSpec ws rm).room.slots = ms from hrs]; exact hp.2.1
  have hPc : Pc a (A.U.calling g mk a) := hblind _ _ _ _ hp.2.2
  obtain ⟨U, Ls, c0, s0⟩ := A
  dsimp only [Pt.U, Pt.locs, Pt.cells, Pt.slots] at h1 h2 h3 h4 h5 X hn hPc ⊢
  obtain ⟨m9, methY, cY, hn9, hmY, hcY, -, hlY, -⟩ := Cond.codeWith_spec h2
  cases Option.some.inj (hn9.symm.trans hn)
  obtain ⟨kY, hkY, -⟩ := className_of_methodNamed hn
  have hinitY : kY.init = .initialized := Cond.initialized_spec (findClass_of_methodNamed hn) hkY h3
  have h : At U g.method c below := by rw [hg]; exact X.here
  have hlocals9 : W9 + (maxL + 11) + (headSpec ws rm).room.locals ≤ R.locals := hlocals
  have happ : (headSpec ws rm).appliesLoose y e.platform (U.calling g mk a) = true :=
    Spec.appliesLoose_calling (g := g) h hdg hn hkY hinitY
      (X.room_calling (g := g) (R' := (headSpec ws rm).room) hsize hmY hcY hframes (by rw [hlY]; omega) h4 h5) h1
  obtain ⟨mid, hmid⟩ := h.above
  have hfr : (U.setTop g).frames = (.java g :: mid) ++ below := by rw [State.frames_setTop' g h.top, hmid]; rfl
  obtain ⟨o, s₂, hsteps, -, hend, hq⟩ := Steps.callFree hM p X.admits X.cas X.clock (acts := []) hfr happ hPc trivial
  have hq' : vx_Q Qc XC mc ms free a (U.calling g mk a) o s₂ := hq
  rw [State.frames_setTop' g h.top] at hend
  obtain ⟨g₀, hg0⟩ := Option.isSome_iff_exists.mp h.top
  obtain ⟨r, hr⟩ := State.topJava?_eq_some.mp hg0
  have hr' : (({ U with heap := s₂.heap, slotsUsed := s₂.slotsUsed } : State).setVm s₂.vm).frames = .java g₀ :: r := hr
  rcases hq' with ⟨hqc, L, hfe, hL⟩ | ⟨q, rfl, E, ce, L, hx, hce, hcv, hcl, hW₂, hsm, hL⟩
  · obtain ⟨⟨v, rfl⟩, hW₂, e2, q2, q3, q4, q5, q6⟩ := id hfe
    have e3 : s₂ = ({ (U.calling g mk a).setFrames s₂.frames with heap := s₂.heap, slotsUsed := s₂.slotsUsed } : State).setVm s₂.vm := by
      have : s₂ = ({ s₂ with vm := (U.calling g mk a).vm } : State).setVm s₂.vm := rfl
      rw [e2] at this
      exact this
    obtain ⟨c₂, i₂, len₂, hc₂, hd₂, hf₂⟩ := hend
    have hW' : U.WarmedH s₂.vm := hW₂
    have hcc : c₂ = c := by
      have h1 : s₂.code? g.method = U.code? g.method := by
        rw [State.code?_eq, State.code?_eq, hW'.alike.method?]
      exact Option.some.inj (hc₂.symm.trans (h1.trans h.code))
    subst hcc
    have hlen : len₂ = len := by rw [hdg] at hd₂; cases hd₂; rfl
    subst hlen
    have hs₂ : s₂ = (({ U with heap := s₂.heap, slotsUsed := s₂.slotsUsed } : State).setVm s₂.vm).setTop { g with pc := g.pc + len₂, stack := v.toList ++ g.stack } := by
      refine e3.trans ?_
      rw [hf₂, State.calling_eq h.top, State.setFrames_setFrames, State.setTop_of_frames _ hr', hr]
      rfl
    have hsame : U.sameButNew ({ U with heap := s₂.heap, slotsUsed := s₂.slotsUsed } : State) L mc ms := by
      refine ⟨?_, q2, q3, q4, q5, q6⟩
      obtain ⟨t, ht, -⟩ := State.frames_cons hr
      show ({ U with heap := s₂.heap, slotsUsed := s₂.slotsUsed } : State) = { U.setFrames U.frames with heap := s₂.heap, slotsUsed := s₂.slotsUsed }
      rw [State.setFrames_self ht]
    subst hg
    refine Or.inl ⟨v, ⟨(({ U with heap := s₂.heap, slotsUsed := s₂.slotsUsed } : State).setVm s₂.vm), Ls ++ L, c0 + mc, s0 + ms⟩,
      ⟨X.admits, X.cas, X.clock, X.frames, X.room, X.hears, X.method, X.code, (X.here.setHeapUsed s₂.heap s₂.slotsUsed).setVm hW'.alike, X.tail, State.WarmedH.trans X.warmed hW', X.limits, X.bytes, X.same.trans (hsame.setVm s.vm)⟩,
      ⟨g, mk, s₂, L, rfl, rfl, hqc, rfl, hL, rfl, rfl⟩, ?_⟩
    show Steps p.tables e below _ ((({ U with heap := s₂.heap, slotsUsed := s₂.slotsUsed } : State).setVm s₂.vm).setTop { g with pc := g.pc + len₂, stack := v.toList ++ g.stack })
    rw [← hs₂]
    exact hsteps
  · obtain ⟨e2, q2, q3, q4, q5, q6⟩ := id hsm
    have e3 : s₂ = ({ (U.calling g mk a).setFrames s₂.frames with heap := s₂.heap, slotsUsed := s₂.slotsUsed } : State).setVm s₂.vm := by
      have : s₂ = ({ s₂ with vm := (U.calling g mk a).vm } : State).setVm s₂.vm := rfl
      rw [e2] at this
      exact this
    have hf₂ : s₂.frames = .throwing q :: .java g :: U.frames.tail := hend
    have hW' : U.WarmedH s₂.vm := hW₂
    have hs₂ : s₂ = ((({ U with heap := s₂.heap, slotsUsed := s₂.slotsUsed } : State).setVm s₂.vm).setTop g).pushFrame (.throwing q) := by
      refine e3.trans ?_
      rw [hf₂, State.calling_eq h.top, State.setFrames_setFrames, State.pushFrame, State.frames_setTop _ hr', State.setTop_of_frames _ hr', State.setFrames_setFrames, hr]
      rfl
    have hsame : U.sameButNew ({ U with heap := s₂.heap, slotsUsed := s₂.slotsUsed } : State) L mc ms := by
      refine ⟨?_, q2, q3, q4, q5, q6⟩
      obtain ⟨t, ht, -⟩ := State.frames_cons hr
      show ({ U with heap := s₂.heap, slotsUsed := s₂.slotsUsed } : State) = { U.setFrames U.frames with heap := s₂.heap, slotsUsed := s₂.slotsUsed }
      rw [State.setFrames_self ht]
    subst hg
    refine Or.inr ⟨q, ⟨(({ U with heap := s₂.heap, slotsUsed := s₂.slotsUsed } : State).setVm s₂.vm), Ls ++ L, c0 + mc, s0 + ms⟩,
      ⟨X.admits, X.cas, X.clock, X.frames, X.room, X.hears, X.method, X.code, (X.here.setHeapUsed s₂.heap s₂.slotsUsed).setVm hW'.alike, X.tail, State.WarmedH.trans X.warmed hW', X.limits, X.bytes, X.same.trans (hsame.setVm s.vm)⟩,
      ⟨g, mk, s₂, L, E, ce, rfl, rfl, hx, hce, hcv, hcl, rfl, hL, rfl, rfl⟩, ?_⟩
    show Steps p.tables e below _ (((({ U with heap := s₂.heap, slotsUsed := s₂.slotsUsed } : State).setVm s₂.vm).setTop g).pushFrame (.throwing q))
    rw [← hs₂]
    exact hsteps
end
variable {p : Program} {l : Launch} {e : Env} {R : Room} {s : State} {m : MethodId} {args : Array Value} {below : List Frame} {meth : Method} {c : Code} {T : State} {H : Heap} {locs : List Loc} {cells slots : Nat}
theorem vx_callVX (X : Stand p l e R s m args below meth c T locs cells slots) (hexec : p.tables.exec = Jvm.exec) {own C : String} {index : Nat} {y : MethodName} {bytes : ByteArray} {maxL : Nat} {ret : Option FieldType} {hh : List (Nat × Nat × Nat × Nat)}
    (hown : s.vm.findClass own = some m.cls) (hlink : (Cond.methodLink own index y).before args s = true) (hinst : (Cond.instanceMethod y).before args s = true) (hsel : (Cond.selects C y y).before args s = true)
    (hcode : (Cond.codeWith y bytes maxL ret hh).before args s = true) (hy : y.cls ≠ "java/lang/invoke/MethodHandle" ∧ y.cls ≠ "java/lang/invoke/VarHandle")
    {W9 : Nat} {Pre : Pt → Array Value → Prop} {Post : Pt → Array Value → Option Value → Pt → Prop} {PostX : Pt → Array Value → Addr → Pt → Prop} (hK : vx_Back l R p e below s args y 3 W9 Pre Post PostX)
    {b : Addr} {cellB : Cell} (hcell : T.heap[b]? = some cellB) (hobj : cellB.vm.isStatics = false) (hcls : s.vm.findClass C = some cellB.cls)
    {g : JFrame} (hg : g.method = m) (hsize : g.locals.size = c.maxLocals) {argsL rest : List Value} (hlen : ∀ sig, parseMethodDescriptor y.desc = some sig → argsL.length = sig.parameters.length)
    (hstack : g.stack = argsL.reverse ++ .ref b :: rest) (hW : 2 * g.monitorRoom + (rest.map fun v => v.category).sum ≤ W9) (hdg : decode c.code g.pc = .ok (.invokevirtual index, 3))
    (hpre : ∀ vm₁, s.WarmedH vm₁ → Pre ⟨T.setVm vm₁, locs, cells, slots⟩ (Value.ref b :: argsL).toArray) :
    (∃ (v : Option Value) (vm₁ : Vm) (B : Pt), s.WarmedH vm₁ ∧ Stand p l e R s m args below meth c B.U B.locs B.cells B.slots ∧ Post ⟨T.setVm vm₁, locs, cells, slots⟩ (Value.ref b :: argsL).toArray v B ∧
      ∀ target, Steps p.tables e below (B.U.setTop { g with pc := g.pc + 3, stack := v.toList ++ rest }) target → Steps p.tables e below (T.setTop g) target) ∨
    (∃ (q : Addr) (vm₁ : Vm) (B : Pt), s.WarmedH vm₁ ∧ Stand p l e R s m args below meth c B.U B.locs B.cells B.slots ∧ PostX ⟨T.setVm vm₁, locs, cells, slots⟩ (Value.ref b :: argsL).toArray q B ∧
      Steps p.tables e below (T.setTop g) ((B.U.setTop { g with stack := rest }).pushFrame (.throwing q))) := by
  obtain ⟨mk, methM, hnamed, hmethM, hstM, habM⟩ := Cond.instanceMethod_spec hinst
  obtain ⟨m8, methM', cM, hn8, hmethM', -, -, -, -, -, -, hsigM⟩ := Cond.codeWith_spec hcode
  cases Option.some.inj (hn8.symm.trans hnamed)
  cases hmethM.symm.trans hmethM'
  obtain ⟨c2, r2, m2, q1, q2, q3, q4, kP, hkP, hkPi⟩ := Cond.selects_spec hsel
  cases hcls.symm.trans q1
  cases (State.methodFound?_of_named hnamed hy).symm.trans q2
  cases hnamed.symm.trans q3
  have hselP : selectMethod e.platform s.vm cellB.cls mk = .method mk := by rw [Launch.admits_selectMethod X.admits]; exact q4
  obtain ⟨vm₁, X₁, hstep₁⟩ := X.invokevirtual hexec hown hlink hnamed hmethM hstM hkP hkPi hy (a := b) (cell := cellB) hcell
    (fun z h => by rw [h] at hobj; cases hobj) hselP hmethM habM hkP hkPi (g := g) hg (argsL := argsL) (rest := rest) (hlen _ hsigM) hstack hdg
  rcases hK m meth c ⟨T.setVm vm₁, locs, cells, slots⟩ { g with stack := rest } (.invokevirtual index) mk (Value.ref b :: argsL).toArray X₁ hg hsize hdg hW (X₁.named hnamed) (hpre vm₁ X₁.warmed) with ⟨v, B, X', hpost, hsteps⟩ | ⟨q, B, X', hpost, hsteps⟩
  · exact Or.inl ⟨v, vm₁, B, X₁.warmed, X', hpost, fun target h => hstep₁ _ fun acts => by rw [doInvoke_state]; exact hsteps.trans h⟩
  · exact Or.inr ⟨q, vm₁, B, X₁.warmed, X', hpost, hstep₁ _ fun acts => by rw [doInvoke_state]; exact hsteps⟩
theorem vx_callSX (X : Stand p l e R s m args below meth c T locs cells slots) (hexec : p.tables.exec = Jvm.exec) {own : String} {index : Nat} {y : MethodName} {bytes : ByteArray} {maxL : Nat} {ret : Option FieldType} {hh : List (Nat × Nat × Nat × Nat)}
    (hown : s.vm.findClass own = some m.cls) (hlink : (Cond.methodLink own index y).before args s = true) (hstat : (Cond.static y).before args s = true) (hinit : (Cond.initialized y.cls).before args s = true)
    (hcode : (Cond.codeWith y bytes maxL ret hh).before args s = true) (hy : y.cls ≠ "java/lang/invoke/MethodHandle" ∧ y.cls ≠ "java/lang/invoke/VarHandle")
    {W9 : Nat} {Pre : Pt → Array Value → Prop} {Post : Pt → Array Value → Option Value → Pt → Prop} {PostX : Pt → Array Value → Addr → Pt → Prop} (hK : vx_Back l R p e below s args y 3 W9 Pre Post PostX)
    {g : JFrame} (hg : g.method = m) (hsize : g.locals.size = c.maxLocals) {argsL rest : List Value} (hlen : ∀ sig, parseMethodDescriptor y.desc = some sig → argsL.length = sig.parameters.length)
    (hstack : g.stack = argsL.reverse ++ rest) (hW : 2 * g.monitorRoom + (rest.map fun v => v.category).sum ≤ W9) (hdg : decode c.code g.pc = .ok (.invokestatic index, 3))
    (hpre : ∀ vm₁, s.WarmedH vm₁ → Pre ⟨T.setVm vm₁, locs, cells, slots⟩ argsL.toArray) :
    (∃ (v : Option Value) (vm₁ : Vm) (B : Pt), s.WarmedH vm₁ ∧ Stand p l e R s m args below meth c B.U B.locs B.cells B.slots ∧ Post ⟨T.setVm vm₁, locs, cells, slots⟩ argsL.toArray v B ∧
      ∀ target, Steps p.tables e below (B.U.setTop { g with pc := g.pc + 3, stack := v.toList ++ rest }) target → Steps p.tables e below (T.setTop g) target) ∨
    (∃ (q : Addr) (vm₁ : Vm) (B : Pt), s.WarmedH vm₁ ∧ Stand p l e R s m args below meth c B.U B.locs B.cells B.slots ∧ PostX ⟨T.setVm vm₁, locs, cells, slots⟩ argsL.toArray q B ∧
      Steps p.tables e below (T.setTop g) ((B.U.setTop { g with stack := rest }).pushFrame (.throwing q))) := by
  obtain ⟨mk, methM, cM, hnamed, hmethM, -, -, -, -, -, -, hsigM⟩ := Cond.codeWith_spec hcode
  have hstatic : methM.isStatic = true := Cond.static_spec hnamed hmethM hstat
  obtain ⟨kP, hkP, -⟩ := className_of_methodNamed hnamed
  have hinitP : kP.init = .initialized := Cond.initialized_spec (findClass_of_methodNamed hnamed) hkP hinit
  obtain ⟨vm₁, X₁, hstep₁⟩ := X.invokestatic hexec hown hlink hnamed hmethM hstatic hkP hinitP hy (g := g) hg (argsL := argsL) (rest := rest) (hlen _ hsigM) hstack hdg
  rcases hK m meth c ⟨T.setVm vm₁, locs, cells, slots⟩ { g with stack := rest } (.invokestatic index) mk argsL.toArray X₁ hg hsize hdg hW (X₁.named hnamed) (hpre vm₁ X₁.warmed) with ⟨v, B, X', hpost, hsteps⟩ | ⟨q, B, X', hpost, hsteps⟩
  · exact Or.inl ⟨v, vm₁, B, X₁.warmed, X', hpost, fun target h => hstep₁ _ fun acts => by rw [doInvoke_state]; exact hsteps.trans h⟩
  · exact Or.inr ⟨q, vm₁, B, X₁.warmed, X', hpost, hstep₁ _ fun acts => by rw [doInvoke_state]; exact hsteps⟩
theorem vx_callVW (X : Stand p l e R s m args below meth c T locs cells slots) (hexec : p.tables.exec = Jvm.exec) {own C : String} {index : Nat} {y : MethodName} {bytes : ByteArray} {maxL : Nat} {ret : Option FieldType} {hh : List (Nat × Nat × Nat × Nat)}
    (hown : s.vm.findClass own = some m.cls) (hlink : (Cond.methodLink own index y).before args s = true) (hinst : (Cond.instanceMethod y).before args s = true) (hsel : (Cond.selects C y y).before args s = true)
    (hcode : (Cond.codeWith y bytes maxL ret hh).before args s = true) (hy : y.cls ≠ "java/lang/invoke/MethodHandle" ∧ y.cls ≠ "java/lang/invoke/VarHandle")
    {W9 : Nat} {Pre : Pt → Array Value → Prop} {Post : Pt → Array Value → Option Value → Pt → Prop} (hK : Back l R p e below s args y 3 W9 Pre Post)
    {b : Addr} {cellB : Cell} (hcell : T.heap[b]? = some cellB) (hobj : cellB.vm.isStatics = false) (hcls : s.vm.findClass C = some cellB.cls)
    {g : JFrame} (hg : g.method = m) (hsize : g.locals.size = c.maxLocals) {argsL rest : List Value} (hlen : ∀ sig, parseMethodDescriptor y.desc = some sig → argsL.length = sig.parameters.length)
    (hstack : g.stack = argsL.reverse ++ .ref b :: rest) (hW : 2 * g.monitorRoom + (rest.map fun v => v.category).sum ≤ W9) (hdg : decode c.code g.pc = .ok (.invokevirtual index, 3))
    (hpre : ∀ vm₁, s.WarmedH vm₁ → Pre ⟨T.setVm vm₁, locs, cells, slots⟩ (Value.ref b :: argsL).toArray) :
    ∃ (v : Option Value) (vm₁ : Vm) (B : Pt), s.WarmedH vm₁ ∧ Stand p l e R s m args below meth c B.U B.locs B.cells B.slots ∧ Post ⟨T.setVm vm₁, locs, cells, slots⟩ (Value.ref b :: argsL).toArray v B ∧
      ∀ target, Steps p.tables e below (B.U.setTop { g with pc := g.pc + 3, stack := v.toList ++ rest }) target → Steps p.tables e below (T.setTop g) target := by
  obtain ⟨mk, methM, hnamed, hmethM, hstM, habM⟩ := Cond.instanceMethod_spec hinst
  obtain ⟨m8, methM', cM, hn8, hmethM', -, -, -, -, -, -, hsigM⟩ := Cond.codeWith_spec hcode
  cases Option.some.inj (hn8.symm.trans hnamed)
  cases hmethM.symm.trans hmethM'
  obtain ⟨c2, r2, m2, q1, q2, q3, q4, kP, hkP, hkPi⟩ := Cond.selects_spec hsel
  cases hcls.symm.trans q1
  cases (State.methodFound?_of_named hnamed hy).symm.trans q2
  cases hnamed.symm.trans q3
  have hselP : selectMethod e.platform s.vm cellB.cls mk = .method mk := by rw [Launch.admits_selectMethod X.admits]; exact q4
  obtain ⟨vm₁, X₁, hstep₁⟩ := X.invokevirtual hexec hown hlink hnamed hmethM hstM hkP hkPi hy (a := b) (cell := cellB) hcell
    (fun z h => by rw [h] at hobj; cases hobj) hselP hmethM habM hkP hkPi (g := g) hg (argsL := argsL) (rest := rest) (hlen _ hsigM) hstack hdg
  obtain ⟨v, B, X', hpost, hsteps⟩ := hK m meth c ⟨T.setVm vm₁, locs, cells, slots⟩ { g with stack := rest } (.invokevirtual index) mk (Value.ref b :: argsL).toArray X₁ hg hsize hdg hW (X₁.named hnamed) (hpre vm₁ X₁.warmed)
  exact ⟨v, vm₁, B, X₁.warmed, X', hpost, fun target h => hstep₁ _ fun acts => by rw [doInvoke_state]; exact hsteps.trans h⟩
abbrev vx_CVW (R : Room) (s : State) (args : Array Value) (own C : String) (index : Nat) (y : MethodName) (bytes : ByteArray) (maxL : Nat) (ret : Option FieldType) (hh : List (Nat × Nat × Nat × Nat)) (ws : List Cond) (rm : Room) (mc ms n : Nat) : Prop :=
  (rm.cells = mc ∧ rm.slots = ms ∧ rm.frames + 1 ≤ R.frames ∧ 8 + (maxL + 11) + rm.locals ≤ R.locals ∧ (∀ w ∈ ws, ∀ (a' : Array Value) (U : State), s.WarmedH U.vm → w.before a' U = true) ∧ Cond.codeWith y bytes maxL ret hh ∈ ws) ∧
  (Cond.codeWith y bytes maxL ret hh).before args s = true ∧ (Cond.initialized y.cls).before args s = true ∧ (y.cls ≠ "java/lang/invoke/MethodHandle" ∧ y.cls ≠ "java/lang/invoke/VarHandle") ∧
  (∀ sig, parseMethodDescriptor y.desc = some sig → n = sig.parameters.length) ∧ (Cond.methodLink own index y).before args s = true ∧ (Cond.instanceMethod y).before args s = true ∧ (Cond.selects C y y).before args s = true
theorem vx_cwVW {own C : String} {index maxL mc ms : Nat} {y : MethodName} {bytes : ByteArray} {ret : Option FieldType} {hh : List (Nat × Nat × Nat × Nat)} {Ts ws ws' : List Cond} {rm : Room} (n : Nat) (ht : ∀ w ∈ Ts, w.before args s = true) (hT : GoodIn Ts (wsV own index C y ws)) (hw : ws = Cond.codeWith y bytes maxL ret hh :: ws') (hrc : rm.cells = mc) (hrs : rm.slots = ms)
    (hd : y.cls = C ∧ y.cls ≠ "java/lang/invoke/MethodHandle" ∧ y.cls ≠ "java/lang/invoke/VarHandle" ∧ (parseMethodDescriptor y.desc).map (fun d => d.parameters.length) = some n) (hR : rm.frames + 1 ≤ R.frames ∧ 8 + (maxL + 11) + rm.locals ≤ R.locals) :
    vx_CVW R s args own C index y bytes maxL ret hh ws rm mc ms n := by
  obtain ⟨hC, hd⟩ := hd
  subst hC
  have ok : ∀ w ∈ wsV own index y.cls y ws, w.before args s = true := fun w h => ht w (hT w h).1
  have hG : GoodIn Ts ws := fun w h => hT w (by unfold wsV; exact List.mem_append_right _ h)
  have hc : Cond.codeWith y bytes maxL ret hh ∈ ws := by rw [hw]; exact List.mem_cons_self
  refine ⟨⟨hrc, hrs, hR.1, hR.2, pay_in ht hG, hc⟩, ht _ (hG _ hc).1, ok _ (by simp [wsV]), ⟨hd.1, hd.2.1⟩, fun sig h => ?_, ok _ (by simp [wsV]), ok _ (by simp [wsV]), ok _ (by simp [wsV])⟩
  have h2 := hd.2.2
  rw [h] at h2
  exact (Option.some.inj h2).symm
theorem vx_runVW {y : MethodName} {bytes cc : ByteArray} {maxL nL mc ms n index : Nat} {ret : Option FieldType} {hh : List (Nat × Nat × Nat × Nat)} {ws : List Cond} {rm : Room} {Pc : Array Value → State → Prop} {Qc : Array Value → State → Outcome → State → Prop} {free : Addr → Prop} {Ts : List Cond} {own C : String} {b : Addr} {As rest : List Value} {g : JFrame}
    (S : CallFix p m c cc nL s args Ts own) (hM : Met l y ws rm Pc Qc mc ms free) (cw : vx_CVW R s args own C index y bytes maxL ret hh ws rm mc ms n) (hp : PreV s H C b Pc As)
    (hg : g.method = m) (hn : As.length = n) (hsize : g.locals.size = nL) (hstack : g.stack = As.reverse ++ .ref b :: rest) (hW : 2 * g.monitorRoom + (rest.map fun v => v.category).sum ≤ 8) (hdg : decode cc g.pc = .ok (.invokevirtual index, 3)) (hf : cells + mc ≤ R.cells ∧ slots + ms ≤ R.slots) :
    va_Run p l e R s m args below meth c H locs cells slots mc ms g rest (Qc (Value.ref b :: As).toArray) free := by
  obtain ⟨⟨hrc, hrs, hfr, hlo, hws, hcw⟩, hcode, hini, hy, hlen, hl, hin, hse⟩ := cw
  have hK : Back l R p e below s args y 3 8 (PreOf R mc ms Pc) (PostOf Qc mc ms free) := va_backW (hh := hh) (bytes := bytes) (maxL := maxL) (ret := ret) hM hp.1 hrc hrs hfr hlo hws hcw (fun a' U hW => word_at hW (Or.inl (by first | rfl | simp [Cond.onTables, Cond.keeps, Cond.steady])) hini)
  obtain ⟨hx, hb, hml, ho, -⟩ := S
  obtain ⟨-, ⟨cellB, hcB, hoB, hclB⟩, hPc⟩ := hp
  intro T hT X
  obtain ⟨v, vm₁, ⟨U', l2, c2, s2⟩, hW₁, X', ⟨g', mk, t, L, e1, e2, hq, h1, hL, h2, h3⟩, st⟩ := vx_callVW X hx (C := C) (hh := hh) (bytes := bytes) (maxL := maxL) (ret := ret) ho hl hin hse hcode hy hK (by rw [hT]; exact hcB) hoB hclB hg (hsize.trans hml.symm) (argsL := As) (rest := rest) (fun sig h => hn.trans (hlen sig h)) hstack hW (by rw [hb]; exact hdg)
    (fun vm₁ hW₁ => ⟨hf.1, hf.2, hPc (T.setVm vm₁) hT hW₁⟩)
  dsimp only [Pt.U, Pt.locs, Pt.cells, Pt.slots] at X' e1 e2 h1 h2 h3 st
  subst h1; subst h2; subst h3
  exact ⟨v, (T.setVm vm₁).calling g' mk (Value.ref b :: As).toArray, t, U', L, hT, X', hL, e1, e2, hq, st⟩
section
variable {y : MethodName} {bytes cc : ByteArray} {maxL nL mc ms n index : Nat} {ret : Option FieldType} {ws : List Cond} {rm : Room} {Pc : Array Value → State → Prop} {Qc : Array Value → State → Outcome → State → Prop} {XC : String → State → State → Prop} {free : Addr → Prop} {Ts : List Cond} {own C : String} {b : Addr} {As rest : List Value} {g : JFrame}
theorem vx_runVX {hh : List (Nat × Nat × Nat × Nat)} (S : CallFix p m c cc nL s args Ts own) (hM : vx_Met l y ws rm Pc Qc XC mc ms free) (cw : vx_CVW R s args own C index y bytes maxL ret hh ws rm mc ms n) (hp : PreV s H C b Pc As)
    (hg : g.method = m) (hn : As.length = n) (hsize : g.locals.size = nL) (hstack : g.stack = As.reverse ++ .ref b :: rest) (hW : 2 * g.monitorRoom + (rest.map fun v => v.category).sum ≤ 8) (hdg : decode cc g.pc = .ok (.invokevirtual index, 3)) (hf : cells + mc ≤ R.cells ∧ slots + ms ≤ R.slots) :
    vx_Run p l e R s m args below meth c H locs cells slots mc ms g rest (Qc (Value.ref b :: As).toArray) XC free := by
  obtain ⟨⟨hrc, hrs, hfr, hlo, hws, hcw⟩, hcode, hini, hy, hlen, hl, hin, hse⟩ := cw
  have hK : vx_Back l R p e below s args y 3 8 (PreOf R mc ms Pc) (PostOf Qc mc ms free) (vx_Post XC mc ms free) := vx_backW (hh := hh) (bytes := bytes) (maxL := maxL) (ret := ret) hM hp.1 hrc hrs hfr hlo hws hcw (fun a' U hW => word_at hW (Or.inl (by first | rfl | simp [Cond.onTables, Cond.keeps, Cond.steady])) hini)
  obtain ⟨hx, hb, hml, ho, -⟩ := S
  obtain ⟨-, ⟨cellB, hcB, hoB, hclB⟩, hPc⟩ := hp
  intro T hT X
  rcases vx_callVX X hx (C := C) (hh := hh) (bytes := bytes) (maxL := maxL) (ret := ret) ho hl hin hse hcode hy hK (by rw [hT]; exact hcB) hoB hclB hg (hsize.trans hml.symm) (argsL := As) (rest := rest) (fun sig h => hn.trans (hlen sig h)) hstack hW (by rw [hb]; exact hdg)
    (fun vm₁ hW₁ => ⟨hf.1, hf.2, hPc (T.setVm vm₁) hT hW₁⟩) with ⟨v, vm₁, ⟨U', l2, c2, s2⟩, hW₁, X', ⟨g', mk, t, L, e1, e2, hq, h1, hL, h2, h3⟩, st⟩ | ⟨q, vm₁, ⟨U', l2, c2, s2⟩, hW₁, X', ⟨g', mk, t, L, E, ce, e1, e2, hq, hce, hcv, hcl, h1, hL, h2, h3⟩, st⟩
  · dsimp only [Pt.U, Pt.locs, Pt.cells, Pt.slots] at X' e1 e2 h1 h2 h3 st
    subst h1; subst h2; subst h3
    exact Or.inl ⟨v, (T.setVm vm₁).calling g' mk (Value.ref b :: As).toArray, t, U', L, hT, X', hL, e1, e2, hq, st⟩
  · dsimp only [Pt.U, Pt.locs, Pt.cells, Pt.slots] at X' e1 e2 h1 h2 h3 st hcl
    subst h1; subst h2; subst h3
    exact Or.inr ⟨q, (T.setVm vm₁).calling g' mk (Value.ref b :: As).toArray, t, U', L, E, ce, hT, X', hL, e1, e2, hq, hce, hcv, vx_cls hW₁ hcl, st⟩
theorem vx_runSX {hh : List (Nat × Nat × Nat × Nat)} (S : CallFix p m c cc nL s args Ts own) (hM : vx_Met l y ws rm Pc Qc XC mc ms free) (cw : vx_CSW R s args own index y bytes maxL ret hh ws rm mc ms n) (hp : PreS s H Pc As)
    (hg : g.method = m) (hn : As.length = n) (hsize : g.locals.size = nL) (hstack : g.stack = As.reverse ++ rest) (hW : 2 * g.monitorRoom + (rest.map fun v => v.category).sum ≤ 8) (hdg : decode cc g.pc = .ok (.invokestatic index, 3)) (hf : cells + mc ≤ R.cells ∧ slots + ms ≤ R.slots) :
    vx_Run p l e R s m args below meth c H locs cells slots mc ms g rest (Qc As.toArray) XC free := by
  obtain ⟨⟨hrc, hrs, hfr, hlo, hws, hcw⟩, hcode, hini, hy, hlen, hl, hstt⟩ := cw
  have hK : vx_Back l R p e below s args y 3 8 (PreOf R mc ms Pc) (PostOf Qc mc ms free) (vx_Post XC mc ms free) := vx_backW (hh := hh) (bytes := bytes) (maxL := maxL) (ret := ret) hM hp.1 hrc hrs hfr hlo hws hcw (fun a' U hW => word_at hW (Or.inl (by first | rfl | simp [Cond.onTables, Cond.keeps, Cond.steady])) hini)
  obtain ⟨hx, hb, hml, ho, -⟩ := S
  intro T hT X
  rcases vx_callSX X hx (hh := hh) (bytes := bytes) (maxL := maxL) (ret := ret) ho hl hstt hini hcode hy hK hg (hsize.trans hml.symm) (argsL := As) (rest := rest) (fun sig h => hn.trans (hlen sig h)) hstack hW (by rw [hb]; exact hdg)
    (fun vm₁ hW₁ => ⟨hf.1, hf.2, hp.2 (T.setVm vm₁) hT hW₁⟩) with ⟨v, vm₁, ⟨U', l2, c2, s2⟩, hW₁, X', ⟨g', mk, t, L, e1, e2, hq, h1, hL, h2, h3⟩, st⟩ | ⟨q, vm₁, ⟨U', l2, c2, s2⟩, hW₁, X', ⟨g', mk, t, L, E, ce, e1, e2, hq, hce, hcv, hcl, h1, hL, h2, h3⟩, st⟩
  · dsimp only [Pt.U, Pt.locs, Pt.cells, Pt.slots] at X' e1 e2 h1 h2 h3 st
    subst h1; subst h2; subst h3
    exact Or.inl ⟨v, (T.setVm vm₁).calling g' mk As.toArray, t, U', L, hT, X', hL, e1, e2, hq, st⟩
  · dsimp only [Pt.U, Pt.locs, Pt.cells, Pt.slots] at X' e1 e2 h1 h2 h3 st hcl
    subst h1; subst h2; subst h3
    exact Or.inr ⟨q, (T.setVm vm₁).calling g' mk As.toArray, t, U', L, E, ce, hT, X', hL, e1, e2, hq, hce, hcv, vx_cls hW₁ hcl, st⟩
end
end VXH
theorem vx_ofWH {l : Launch} {y : MethodName} {ws ws' : List Cond} {rm : Room} {Pc : Array Value → State → Prop} {Qc : Array Value → State → Outcome → State → Prop} {XC : String → State → State → Prop} {mc ms : Nat} {free : Addr → Prop} {cc : ByteArray} {maxL : Nat} {ret : Option FieldType} {hh : List (Nat × Nat × Nat × Nat)}
    (hy : plainName y.cls = true) (hw : ws = Cond.codeWith y cc maxL ret hh :: ws')
    (body : ∀ p e s m args below meth c s₁, BodyLoose p l y (headSpec ws rm) cc maxL ret e s m args below meth c s₁ → c.maxLocals = maxL → Pc args s →
      W p l e (headSpec ws rm).room s m args below meth c s.heap [] 0 0 (vx_MQ below Qc XC args s mc ms free) (entryFrame m args maxL)) : vx_Met l y ws rm Pc Qc XC mc ms free := by
  refine MetFree.of_bodyS (code := cc) (maxLocals := maxL) (ret := ret) hy ?_ ?_
  · intro args s m h hn
    obtain ⟨m9, meth, c, hn9, h1, h2, h3, h4, -, h5, h6, -⟩ := Cond.codeWith_spec (atoms_spec (ws := ws) h _ (by rw [hw]; exact List.mem_cons_self))
    cases hn.symm.trans hn9
    exact ⟨meth, c, h1, h2, h3, h4, h5, h6⟩
  · intro p e s m args below meth c s₁ B hml hP _
    have hh0 : s₁.heap = s.heap := by rw [B.state]; rfl
    obtain ⟨t, a1, o, b1, b2, b3⟩ := body p e s m args below meth c s₁ B hml hP s₁ hh0 (Stand.of_body B)
    exact ⟨t, o, a1, b1, b2, b3⟩
/-! ===== END ===== -/
end
section
def RX0 : String := "DollCitadel$Doll"
def TX0 : u_T := fun k => match k with
  | 0 => ("DollCitadel$Doll", "angles", "[I", true)
  | 1 => ("DollCitadel$Doll", "wears", "[I", true)
  | 2 => ("DollCitadel$Doll", "lacquers", "[I", true)
  | 3 => ("DollCitadel$Doll", "open", "[Z", true)
  | 4 => ("DollCitadel$Doll", "dusts", "[I", true)
  | 5 => ("DollCitadel$Doll", "wigEaten", "I", false)
  | 6 => ("DollCitadel$Doll", "weight", "I", false)
  | 7 => ("DollCitadel$Doll", "pins", "I", false)
  | _ => ("DollCitadel$Doll", "posesTaken", "I", false)
def tyX0 : Nat → FieldType := fun k => match k with
  | 0 => .array .int
  | 1 => .array .int
  | 2 => .array .int
  | 3 => .array .boolean
  | 4 => .array .int
  | 5 => .int
  | 6 => .int
  | 7 => .int
  | _ => .int
abbrev wsX00 : List Cond := u_ws RX0 TX0 9
theorem nmX0 : ∀ a, a < 9 → ∀ b, b < 9 → a ≠ b → (TX0 a).2.1 ≠ (TX0 b).2.1 := by decide +kernel
theorem tyX0_ok : ∀ k, k < 9 → parseFieldDescriptor (TX0 k).2.2.1 = some (tyX0 k) := by decide +kernel
abbrev cX0_init : ByteArray := prog_2_method_1_code
def yX0_init : MethodName := ⟨RX0, "<init>", "()V"⟩
abbrev cX0_becomeLike : ByteArray := prog_2_method_2_code
def yX0_becomeLike : MethodName := ⟨RX0, "becomeLike", "(LDollCitadel$Doll;)V"⟩
abbrev cX0_canTurnTo : ByteArray := prog_2_method_3_code
def yX0_canTurnTo : MethodName := ⟨RX0, "canTurnTo", "(LDollCitadel$Pose;)Z"⟩
abbrev cX0_turnTo : ByteArray := prog_2_method_4_code
def yX0_turnTo : MethodName := ⟨RX0, "turnTo", "(LDollCitadel$Pose;)V"⟩
abbrev cX0_wearBehindTurn : ByteArray := prog_2_method_5_code
def yX0_wearBehindTurn : MethodName := ⟨RX0, "wearBehindTurn", "(III)I"⟩
abbrev cX0_wearOfAllJoints : ByteArray := prog_2_method_6_code
def yX0_wearOfAllJoints : MethodName := ⟨RX0, "wearOfAllJoints", "()I"⟩
abbrev cX0_brokenJoints : ByteArray := prog_2_method_7_code
def yX0_brokenJoints : MethodName := ⟨RX0, "brokenJoints", "()I"⟩
abbrev cX0_jointsWornBy : ByteArray := prog_2_method_8_code
def yX0_jointsWornBy : MethodName := ⟨RX0, "jointsWornBy", "(I)I"⟩
abbrev cX0_jointsWithoutLacquer : ByteArray := prog_2_method_9_code
def yX0_jointsWithoutLacquer : MethodName := ⟨RX0, "jointsWithoutLacquer", "()I"⟩
abbrev cX0_eyesWithDust : ByteArray := prog_2_method_10_code
def yX0_eyesWithDust : MethodName := ⟨RX0, "eyesWithDust", "(I)I"⟩
abbrev cX0_wipeEyes : ByteArray := prog_2_method_11_code
def yX0_wipeEyes : MethodName := ⟨RX0, "wipeEyes", "()V"⟩
abbrev cX0_hasRoomForPin : ByteArray := prog_2_method_12_code
def yX0_hasRoomForPin : MethodName := ⟨RX0, "hasRoomForPin", "()Z"⟩
abbrev cX0_tally : ByteArray := prog_2_method_13_code
def yX0_tally : MethodName := ⟨RX0, "tally", "(I)I"⟩
abbrev cX0_wants : ByteArray := prog_2_method_14_code
def yX0_wants : MethodName := ⟨RX0, "wants", "(I)I"⟩
abbrev cX0_wantsInAll : ByteArray := prog_2_method_15_code
def yX0_wantsInAll : MethodName := ⟨RX0, "wantsInAll", "()I"⟩
abbrev cX0_liveOneDay : ByteArray := prog_2_method_16_code
def yX0_liveOneDay : MethodName := ⟨RX0, "liveOneDay", "(II)I"⟩
abbrev cX0_eatWig : ByteArray := prog_2_method_17_code
def yX0_eatWig : MethodName := ⟨RX0, "eatWig", "(I)V"⟩
abbrev cX0_loosenDress : ByteArray := prog_2_method_18_code
def yX0_loosenDress : MethodName := ⟨RX0, "loosenDress", "()V"⟩
abbrev cX0_dryLacquer : ByteArray := prog_2_method_19_code
def yX0_dryLacquer : MethodName := ⟨RX0, "dryLacquer", "()V"⟩
abbrev cX0_gatherDust : ByteArray := prog_2_method_20_code
def yX0_gatherDust : MethodName := ⟨RX0, "gatherDust", "()V"⟩
def RX1 : String := "DollCitadel$Pose"
def TX1 : u_T := fun k => match k with
  | _ => ("DollCitadel$Pose", "angles", "[I", true)
def tyX1 : Nat → FieldType := fun k => match k with
  | _ => .array .int
abbrev wsX10 : List Cond := u_ws RX1 TX1 1
theorem nmX1 : ∀ a, a < 1 → ∀ b, b < 1 → a ≠ b → (TX1 a).2.1 ≠ (TX1 b).2.1 := by decide +kernel
theorem tyX1_ok : ∀ k, k < 1 → parseFieldDescriptor (TX1 k).2.2.1 = some (tyX1 k) := by decide +kernel
abbrev cX1_init : ByteArray := prog_3_method_1_code
def yX1_init : MethodName := ⟨RX1, "<init>", "()V"⟩
abbrev cX1_digestInto : ByteArray := prog_3_method_2_code
def yX1_digestInto : MethodName := ⟨RX1, "digestInto", "(J)J"⟩
def RX2 : String := "DollCitadel"
def TX2 : u_T := fun k => match k with
  | 0 => ("DollCitadel", "dolls", "[LDollCitadel$Doll;", true)
  | 1 => ("DollCitadel", "poses", "[LDollCitadel$Pose;", true)
  | 2 => ("DollCitadel", "store", "[I", true)
  | 3 => ("DollCitadel", "rest", "LDollCitadel$Pose;", true)
  | 4 => ("DollCitadel", "trial", "LDollCitadel$Doll;", true)
  | 5 => ("DollCitadel", "dollCount", "I", false)
  | 6 => ("DollCitadel", "poseCount", "I", false)
  | 7 => ("DollCitadel", "day", "I", false)
  | _ => ("DollCitadel", "moths", "I", false)
def tyX2 : Nat → FieldType := fun k => match k with
  | 0 => .array (.object "DollCitadel$Doll")
  | 1 => .array (.object "DollCitadel$Pose")
  | 2 => .array .int
  | 3 => .object "DollCitadel$Pose"
  | 4 => .object "DollCitadel$Doll"
  | 5 => .int
  | 6 => .int
  | 7 => .int
  | _ => .int
abbrev wsX20 : List Cond := u_ws RX2 TX2 9
theorem nmX2 : ∀ a, a < 9 → ∀ b, b < 9 → a ≠ b → (TX2 a).2.1 ≠ (TX2 b).2.1 := by decide +kernel
theorem tyX2_ok : ∀ k, k < 9 → parseFieldDescriptor (TX2 k).2.2.1 = some (tyX2 k) := by decide +kernel
abbrev cX2_init : ByteArray := prog_1_method_1_code
def yX2_init : MethodName := ⟨RX2, "<init>", "()V"⟩
abbrev cX2_make : ByteArray := prog_1_method_2_code
def yX2_make : MethodName := ⟨RX2, "make", "()I"⟩
abbrev cX2_pose : ByteArray := prog_1_method_3_code
def yX2_pose : MethodName := ⟨RX2, "pose", "(IIIIII)I"⟩
abbrev cX2_take : ByteArray := prog_1_method_4_code
def yX2_take : MethodName := ⟨RX2, "take", "(II)I"⟩
abbrev cX2_blink : ByteArray := prog_1_method_5_code
def yX2_blink : MethodName := ⟨RX2, "blink", "(II)Z"⟩
abbrev cX2_dress : ByteArray := prog_1_method_6_code
def yX2_dress : MethodName := ⟨RX2, "dress", "(III)I"⟩
abbrev cX2_bring : ByteArray := prog_1_method_7_code
def yX2_bring : MethodName := ⟨RX2, "bring", "(II)I"⟩
abbrev cX2_setMoths : ByteArray := prog_1_method_8_code
def yX2_setMoths : MethodName := ⟨RX2, "setMoths", "(I)I"⟩
abbrev cX2_mend : ByteArray := prog_1_method_9_code
def yX2_mend : MethodName := ⟨RX2, "mend", "(III)I"⟩
abbrev cX2_joint : ByteArray := prog_1_method_10_code
def yX2_joint : MethodName := ⟨RX2, "joint", "(III)I"⟩
abbrev cX2_doll : ByteArray := prog_1_method_11_code
def yX2_doll : MethodName := ⟨RX2, "doll", "(II)I"⟩
abbrev cX2_count : ByteArray := prog_1_method_12_code
def yX2_count : MethodName := ⟨RX2, "count", "(I)I"⟩
abbrev cX2_costs : ByteArray := prog_1_method_13_code
def yX2_costs : MethodName := ⟨RX2, "costs", "(II)I"⟩
abbrev cX2_often : ByteArray := prog_1_method_14_code
def yX2_often : MethodName := ⟨RX2, "often", "(II)I"⟩
abbrev cX2_needs : ByteArray := prog_1_method_15_code
def yX2_needs : MethodName := ⟨RX2, "needs", "(II)I"⟩
abbrev cX2_lacks : ByteArray := prog_1_method_16_code
def yX2_lacks : MethodName := ⟨RX2, "lacks", "(I)I"⟩
abbrev cX2_worst : ByteArray := prog_1_method_17_code
def yX2_worst : MethodName := ⟨RX2, "worst", "()I"⟩
abbrev cX2_foresee : ByteArray := prog_1_method_18_code
def yX2_foresee : MethodName := ⟨RX2, "foresee", "(II)I"⟩
abbrev cX2_pass : ByteArray := prog_1_method_19_code
def yX2_pass : MethodName := ⟨RX2, "pass", "(I)I"⟩
abbrev cX2_mean : ByteArray := prog_1_method_20_code
def yX2_mean : MethodName := ⟨RX2, "mean", "()D"⟩
abbrev cX2_digest : ByteArray := prog_1_method_21_code
def yX2_digest : MethodName := ⟨RX2, "digest", "()J"⟩
abbrev cX2_digestJointsInto : ByteArray := prog_1_method_22_code
def yX2_digestJointsInto : MethodName := ⟨RX2, "digestJointsInto", "(JI)J"⟩
abbrev cX2_isAngle : ByteArray := prog_1_method_23_code
def yX2_isAngle : MethodName := ⟨RX2, "isAngle", "(I)Z"⟩
abbrev cX2_knownDoll : ByteArray := prog_1_method_24_code
def yX2_knownDoll : MethodName := ⟨RX2, "knownDoll", "(I)LDollCitadel$Doll;"⟩
abbrev cX2_knownPose : ByteArray := prog_1_method_25_code
def yX2_knownPose : MethodName := ⟨RX2, "knownPose", "(I)LDollCitadel$Pose;"⟩
abbrev cX2_tallyOfAll : ByteArray := prog_1_method_26_code
def yX2_tallyOfAll : MethodName := ⟨RX2, "tallyOfAll", "(I)I"⟩
abbrev cX2_liveThrough : ByteArray := prog_1_method_27_code
def yX2_liveThrough : MethodName := ⟨RX2, "liveThrough", "(LDollCitadel$Doll;I)I"⟩
def RX3 : String := "DollCitadelModel"
def TX3 : u_T := fun k => match k with
  | 0 => ("DollCitadelModel", "thrown", "I", false)
  | 1 => ("DollCitadelModel", "dolls", "I", false)
  | 2 => ("DollCitadelModel", "poses", "I", false)
  | 3 => ("DollCitadelModel", "moths", "I", false)
  | 4 => ("DollCitadelModel", "limbs", "[I", true)
  | 5 => ("DollCitadelModel", "rooms", "[I", true)
  | 6 => ("DollCitadelModel", "told", "[I", true)
  | 7 => ("DollCitadelModel", "store", "[I", true)
  | _ => ("DollCitadelModel", "day", "[I", true)
def tyX3 : Nat → FieldType := fun k => match k with
  | 0 => .int
  | 1 => .int
  | 2 => .int
  | 3 => .int
  | 4 => .array .int
  | 5 => .array .int
  | 6 => .array .int
  | 7 => .array .int
  | _ => .array .int
abbrev wsX30 : List Cond := u_ws RX3 TX3 9
theorem nmX3 : ∀ a, a < 9 → ∀ b, b < 9 → a ≠ b → (TX3 a).2.1 ≠ (TX3 b).2.1 := by decide +kernel
theorem tyX3_ok : ∀ k, k < 9 → parseFieldDescriptor (TX3 k).2.2.1 = some (tyX3 k) := by decide +kernel
abbrev cX3_init : ByteArray := prog_5_method_1_code
def yX3_init : MethodName := ⟨RX3, "<init>", "()V"⟩
abbrev cX3_thrown : ByteArray := prog_5_method_2_code
def yX3_thrown : MethodName := ⟨RX3, "thrown", "()I"⟩
abbrev cX3_fail : ByteArray := prog_5_method_3_code
def yX3_fail : MethodName := ⟨RX3, "fail", "(I)I"⟩
abbrev cX3_isIn : ByteArray := prog_5_method_4_code
def yX3_isIn : MethodName := ⟨RX3, "isIn", "(III)Z"⟩
abbrev cX3_isDoll : ByteArray := prog_5_method_5_code
def yX3_isDoll : MethodName := ⟨RX3, "isDoll", "(I)Z"⟩
abbrev cX3_isPose : ByteArray := prog_5_method_6_code
def yX3_isPose : MethodName := ⟨RX3, "isPose", "(I)Z"⟩
abbrev cX3_at : ByteArray := prog_5_method_7_code
def yX3_at : MethodName := ⟨RX3, "at", "(III)I"⟩
abbrev cX3_li : ByteArray := prog_5_method_8_code
def yX3_li : MethodName := ⟨RX3, "li", "(III)I"⟩
abbrev cX3_ro : ByteArray := prog_5_method_9_code
def yX3_ro : MethodName := ⟨RX3, "ro", "(II)I"⟩
abbrev cX3_put : ByteArray := prog_5_method_10_code
def yX3_put : MethodName := ⟨RX3, "put", "(III)V"⟩
abbrev cX3_make : ByteArray := prog_5_method_11_code
def yX3_make : MethodName := ⟨RX3, "make", "()I"⟩
abbrev cX3_pose : ByteArray := prog_5_method_12_code
def yX3_pose : MethodName := ⟨RX3, "pose", "(IIIIII)I"⟩
abbrev cX3_isBroken : ByteArray := prog_5_method_13_code
def yX3_isBroken : MethodName := ⟨RX3, "isBroken", "(II)Z"⟩
abbrev cX3_turn : ByteArray := prog_5_method_14_code
def yX3_turn : MethodName := ⟨RX3, "turn", "(III)Z"⟩
abbrev cX3_can : ByteArray := prog_5_method_15_code
def yX3_can : MethodName := ⟨RX3, "can", "(II)Z"⟩
abbrev cX3_turnAll : ByteArray := prog_5_method_16_code
def yX3_turnAll : MethodName := ⟨RX3, "turnAll", "(II)I"⟩
abbrev cX3_take : ByteArray := prog_5_method_17_code
def yX3_take : MethodName := ⟨RX3, "take", "(II)I"⟩
abbrev cX3_blink : ByteArray := prog_5_method_18_code
def yX3_blink : MethodName := ⟨RX3, "blink", "(II)Z"⟩
abbrev cX3_dress : ByteArray := prog_5_method_19_code
def yX3_dress : MethodName := ⟨RX3, "dress", "(III)I"⟩
abbrev cX3_bring : ByteArray := prog_5_method_20_code
def yX3_bring : MethodName := ⟨RX3, "bring", "(II)I"⟩
abbrev cX3_setMoths : ByteArray := prog_5_method_21_code
def yX3_setMoths : MethodName := ⟨RX3, "setMoths", "(I)I"⟩
abbrev cX3_mend : ByteArray := prog_5_method_22_code
def yX3_mend : MethodName := ⟨RX3, "mend", "(III)I"⟩
abbrev cX3_jointTold : ByteArray := prog_5_method_23_code
def yX3_jointTold : MethodName := ⟨RX3, "jointTold", "(III)I"⟩
abbrev cX3_joint : ByteArray := prog_5_method_24_code
def yX3_joint : MethodName := ⟨RX3, "joint", "(III)I"⟩
abbrev cX3_doll : ByteArray := prog_5_method_25_code
def yX3_doll : MethodName := ⟨RX3, "doll", "(II)I"⟩
abbrev cX3_counted : ByteArray := prog_5_method_26_code
def yX3_counted : MethodName := ⟨RX3, "counted", "(I)I"⟩
abbrev cX3_count : ByteArray := prog_5_method_27_code
def yX3_count : MethodName := ⟨RX3, "count", "(I)I"⟩
abbrev cX3_kept : ByteArray := prog_5_method_28_code
def yX3_kept : MethodName := ⟨RX3, "kept", "()[[I"⟩
abbrev cX3_bringBack : ByteArray := prog_5_method_29_code
def yX3_bringBack : MethodName := ⟨RX3, "bringBack", "([[I)V"⟩
abbrev cX3_wearOf : ByteArray := prog_5_method_30_code
def yX3_wearOf : MethodName := ⟨RX3, "wearOf", "(I)I"⟩
abbrev cX3_costs : ByteArray := prog_5_method_31_code
def yX3_costs : MethodName := ⟨RX3, "costs", "(II)I"⟩
abbrev cX3_often : ByteArray := prog_5_method_32_code
def yX3_often : MethodName := ⟨RX3, "often", "(II)I"⟩
abbrev cX3_needed : ByteArray := prog_5_method_33_code
def yX3_needed : MethodName := ⟨RX3, "needed", "(II)I"⟩
abbrev cX3_needs : ByteArray := prog_5_method_34_code
def yX3_needs : MethodName := ⟨RX3, "needs", "(II)I"⟩
abbrev cX3_lacks : ByteArray := prog_5_method_35_code
def yX3_lacks : MethodName := ⟨RX3, "lacks", "(I)I"⟩
abbrev cX3_worst : ByteArray := prog_5_method_36_code
def yX3_worst : MethodName := ⟨RX3, "worst", "()I"⟩
abbrev cX3_dayOf : ByteArray := prog_5_method_37_code
def yX3_dayOf : MethodName := ⟨RX3, "dayOf", "(I)I"⟩
abbrev cX3_daysOn : ByteArray := prog_5_method_38_code
def yX3_daysOn : MethodName := ⟨RX3, "daysOn", "(I)I"⟩
abbrev cX3_foresee : ByteArray := prog_5_method_39_code
def yX3_foresee : MethodName := ⟨RX3, "foresee", "(II)I"⟩
abbrev cX3_pass : ByteArray := prog_5_method_40_code
def yX3_pass : MethodName := ⟨RX3, "pass", "(I)I"⟩
abbrev cX3_mean : ByteArray := prog_5_method_41_code
def yX3_mean : MethodName := ⟨RX3, "mean", "()D"⟩
abbrev cX3_digest : ByteArray := prog_5_method_42_code
def yX3_digest : MethodName := ⟨RX3, "digest", "()J"⟩
def RJx8e188 : String := "java/lang/Cloneable"
def TJx8e188 : u_T := fun k => match k with
  | _ => ("", "", "", false)
def tyJx8e188 : Nat → FieldType := fun k => match k with
  | _ => .int
abbrev wsJx8e1880 : List Cond := u_ws RJx8e188 TJx8e188 0
theorem nmJx8e188 : ∀ a, a < 0 → ∀ b, b < 0 → a ≠ b → (TJx8e188 a).2.1 ≠ (TJx8e188 b).2.1 := by decide +kernel
theorem tyJx8e188_ok : ∀ k, k < 0 → parseFieldDescriptor (TJx8e188 k).2.2.1 = some (tyJx8e188 k) := by decide +kernel
def RJ9 : String := "java/lang/Math"
def TJ9 : u_T := fun k => match k with
  | _ => ("", "", "", false)
def tyJ9 : Nat → FieldType := fun k => match k with
  | _ => .int
abbrev wsJ90 : List Cond := u_ws RJ9 TJ9 0
theorem nmJ9 : ∀ a, a < 0 → ∀ b, b < 0 → a ≠ b → (TJ9 a).2.1 ≠ (TJ9 b).2.1 := by decide +kernel
theorem tyJ9_ok : ∀ k, k < 0 → parseFieldDescriptor (TJ9 k).2.2.1 = some (tyJ9 k) := by decide +kernel
abbrev cJ9_abs_0f7a4 : ByteArray := prog_11_method_59_code
def yJ9_abs_0f7a4 : MethodName := ⟨RJ9, "abs", "(I)I"⟩
abbrev cJ9_max_7cf53 : ByteArray := prog_11_method_65_code
def yJ9_max_7cf53 : MethodName := ⟨RJ9, "max", "(II)I"⟩
abbrev cJ9_min_7cf53 : ByteArray := prog_11_method_69_code
def yJ9_min_7cf53 : MethodName := ⟨RJ9, "min", "(II)I"⟩
def RJ0 : String := "java/lang/String"
def TJ0 : u_T := fun k => match k with
  | _ => ("", "", "", false)
def tyJ0 : Nat → FieldType := fun k => match k with
  | _ => .int
abbrev wsJ00 : List Cond := u_ws RJ0 TJ0 0
theorem nmJ0 : ∀ a, a < 0 → ∀ b, b < 0 → a ≠ b → (TJ0 a).2.1 ≠ (TJ0 b).2.1 := by decide +kernel
theorem tyJ0_ok : ∀ k, k < 0 → parseFieldDescriptor (TJ0 k).2.2.1 = some (tyJ0 k) := by decide +kernel
def RJ10 : String := "java/lang/System"
def TJ10 : u_T := fun k => match k with
  | _ => ("", "", "", false)
def tyJ10 : Nat → FieldType := fun k => match k with
  | _ => .int
abbrev wsJ100 : List Cond := u_ws RJ10 TJ10 0
theorem nmJ10 : ∀ a, a < 0 → ∀ b, b < 0 → a ≠ b → (TJ10 a).2.1 ≠ (TJ10 b).2.1 := by decide +kernel
theorem tyJ10_ok : ∀ k, k < 0 → parseFieldDescriptor (TJ10 k).2.2.1 = some (tyJ10 k) := by decide +kernel
def RL : String := "DollCitadelLaw"
abbrev cL_make : ByteArray := method_3_code
def yL_make : MethodName := ⟨RL, "make", "(LDollCitadel;[J)I"⟩
abbrev cL_pose : ByteArray := method_4_code
def yL_pose : MethodName := ⟨RL, "pose", "(LDollCitadel;IIIIII[J)I"⟩
abbrev cL_take : ByteArray := method_5_code
def yL_take : MethodName := ⟨RL, "take", "(LDollCitadel;II[J)I"⟩
abbrev cL_blink : ByteArray := method_6_code
def yL_blink : MethodName := ⟨RL, "blink", "(LDollCitadel;II[J)I"⟩
abbrev cL_dress : ByteArray := method_7_code
def yL_dress : MethodName := ⟨RL, "dress", "(LDollCitadel;III[J)I"⟩
abbrev cL_bring : ByteArray := method_8_code
def yL_bring : MethodName := ⟨RL, "bring", "(LDollCitadel;II[J)I"⟩
abbrev cL_setMoths : ByteArray := method_9_code
def yL_setMoths : MethodName := ⟨RL, "setMoths", "(LDollCitadel;I[J)I"⟩
abbrev cL_mend : ByteArray := method_10_code
def yL_mend : MethodName := ⟨RL, "mend", "(LDollCitadel;III[J)I"⟩
abbrev cL_joint : ByteArray := method_11_code
def yL_joint : MethodName := ⟨RL, "joint", "(LDollCitadel;III[J)I"⟩
abbrev cL_doll : ByteArray := method_12_code
def yL_doll : MethodName := ⟨RL, "doll", "(LDollCitadel;II[J)I"⟩
abbrev cL_count : ByteArray := method_13_code
def yL_count : MethodName := ⟨RL, "count", "(LDollCitadel;I[J)I"⟩
abbrev cL_costs : ByteArray := method_14_code
def yL_costs : MethodName := ⟨RL, "costs", "(LDollCitadel;II[J)I"⟩
abbrev cL_often : ByteArray := method_15_code
def yL_often : MethodName := ⟨RL, "often", "(LDollCitadel;II[J)I"⟩
abbrev cL_needs : ByteArray := method_16_code
def yL_needs : MethodName := ⟨RL, "needs", "(LDollCitadel;II[J)I"⟩
abbrev cL_lacks : ByteArray := method_17_code
def yL_lacks : MethodName := ⟨RL, "lacks", "(LDollCitadel;I[J)I"⟩
abbrev cL_foresee : ByteArray := method_18_code
def yL_foresee : MethodName := ⟨RL, "foresee", "(LDollCitadel;II[J)I"⟩
abbrev cL_pass : ByteArray := method_19_code
def yL_pass : MethodName := ⟨RL, "pass", "(LDollCitadel;I[J)I"⟩
abbrev cL_law : ByteArray := code
def yL_law : MethodName := ⟨RL, "law", "([I)Z"⟩
def wsX0_init : List Cond := .code yX0_init cX0_init 2 none :: ([.methodLink RX0 3 objectInit, .instanceMethod objectInit, .code objectInit ⟨#[0xb1]⟩ 1 none, .arrayClass .int, .fieldLink RX0 9 "DollCitadel$Doll" "angles" "[I", .fieldLink RX0 15 "DollCitadel$Doll" "wears" "[I", .fieldLink RX0 18 "DollCitadel$Doll" "lacquers" "[I", .arrayClass .boolean, .fieldLink RX0 21 "DollCitadel$Doll" "open" "[Z", .fieldLink RX0 25 "DollCitadel$Doll" "dusts" "[I", .fieldLink RX0 28 "DollCitadel$Doll" "wigEaten" "I", .fieldLink RX0 32 "DollCitadel$Doll" "weight" "I", .fieldLink RX0 35 "DollCitadel$Doll" "pins" "I", .fieldLink RX0 38 "DollCitadel$Doll" "posesTaken" "I"] ++ wsX00)
def wsX0_becomeLike : List Cond := .code yX0_becomeLike cX0_becomeLike 3 none :: ([.fieldLink RX0 9 "DollCitadel$Doll" "angles" "[I", .fieldLink RX0 15 "DollCitadel$Doll" "wears" "[I", .fieldLink RX0 18 "DollCitadel$Doll" "lacquers" "[I", .fieldLink RX0 21 "DollCitadel$Doll" "open" "[Z", .fieldLink RX0 25 "DollCitadel$Doll" "dusts" "[I", .fieldLink RX0 28 "DollCitadel$Doll" "wigEaten" "I", .fieldLink RX0 32 "DollCitadel$Doll" "weight" "I", .fieldLink RX0 35 "DollCitadel$Doll" "pins" "I", .fieldLink RX0 38 "DollCitadel$Doll" "posesTaken" "I"] ++ wsX00)
def wsX0_canTurnTo : List Cond := .code yX0_canTurnTo cX0_canTurnTo 3 (some .boolean) :: ([.fieldLink RX0 15 "DollCitadel$Doll" "wears" "[I", .fieldLink RX0 9 "DollCitadel$Doll" "angles" "[I", .fieldLink RX0 41 "DollCitadel$Pose" "angles" "[I"] ++ wsX00 ++ wsX10)
def wsX0_wearBehindTurn : List Cond := .code yX0_wearBehindTurn cX0_wearBehindTurn 4 (some .int) :: ([.methodLink RX0 58 Lib.Math.min.name, .static Lib.Math.min.name, .initialized "java/lang/Math", .code Lib.Math.min.name Lib.Math.min.code 2 (some .int)])
def wsX0_turnTo : List Cond := .code yX0_turnTo cX0_turnTo 4 none :: ([.fieldLink RX0 41 "DollCitadel$Pose" "angles" "[I", .fieldLink RX0 9 "DollCitadel$Doll" "angles" "[I", .methodLink RX0 44 Lib.Math.abs.name, .static Lib.Math.abs.name, .initialized "java/lang/Math", .code Lib.Math.abs.name Lib.Math.abs.code 1 (some .int), .fieldLink RX0 15 "DollCitadel$Doll" "wears" "[I", .fieldLink RX0 18 "DollCitadel$Doll" "lacquers" "[I", .methodLink RX0 54 Lib.Math.max.name, .static Lib.Math.max.name, .code Lib.Math.max.name Lib.Math.max.code 2 (some .int), .methodLink RX0 50 yX0_wearBehindTurn, .static yX0_wearBehindTurn, .initialized RX0, .code yX0_wearBehindTurn cX0_wearBehindTurn 4 (some .int), .methodLink RX0 58 Lib.Math.min.name, .static Lib.Math.min.name, .code Lib.Math.min.name Lib.Math.min.code 2 (some .int)] ++ wsX10 ++ wsX00)
def wsX0_wearOfAllJoints : List Cond := .code yX0_wearOfAllJoints cX0_wearOfAllJoints 6 (some .int) :: ([.fieldLink RX0 15 "DollCitadel$Doll" "wears" "[I"] ++ wsX00)
def wsX0_jointsWornBy : List Cond := .code yX0_jointsWornBy cX0_jointsWornBy 7 (some .int) :: ([.fieldLink RX0 15 "DollCitadel$Doll" "wears" "[I"] ++ wsX00)
def wsX0_brokenJoints : List Cond := .code yX0_brokenJoints cX0_brokenJoints 1 (some .int) :: ([.methodLink RX0 61 yX0_jointsWornBy, .instanceMethod yX0_jointsWornBy, .selects RX0 yX0_jointsWornBy yX0_jointsWornBy, .initialized RX0, .code yX0_jointsWornBy cX0_jointsWornBy 7 (some .int), .fieldLink RX0 15 "DollCitadel$Doll" "wears" "[I"] ++ wsX00)
def wsX0_jointsWithoutLacquer : List Cond := .code yX0_jointsWithoutLacquer cX0_jointsWithoutLacquer 6 (some .int) :: ([.fieldLink RX0 18 "DollCitadel$Doll" "lacquers" "[I"] ++ wsX00)
def wsX0_eyesWithDust : List Cond := .code yX0_eyesWithDust cX0_eyesWithDust 7 (some .int) :: ([.fieldLink RX0 25 "DollCitadel$Doll" "dusts" "[I"] ++ wsX00)
def wsX0_wipeEyes : List Cond := .code yX0_wipeEyes cX0_wipeEyes 2 none :: ([.fieldLink RX0 25 "DollCitadel$Doll" "dusts" "[I"] ++ wsX00)
def wsX0_hasRoomForPin : List Cond := .code yX0_hasRoomForPin cX0_hasRoomForPin 1 (some .boolean) :: ([.fieldLink RX0 32 "DollCitadel$Doll" "weight" "I", .fieldLink RX0 35 "DollCitadel$Doll" "pins" "I"] ++ wsX00)
def wsX0_tally : List Cond := .code yX0_tally cX0_tally 2 (some .int) :: ([.fieldLink RX0 28 "DollCitadel$Doll" "wigEaten" "I", .fieldLink RX0 32 "DollCitadel$Doll" "weight" "I", .methodLink RX0 64 yX0_brokenJoints, .instanceMethod yX0_brokenJoints, .selects RX0 yX0_brokenJoints yX0_brokenJoints, .initialized RX0, .code yX0_brokenJoints cX0_brokenJoints 1 (some .int), .methodLink RX0 61 yX0_jointsWornBy, .instanceMethod yX0_jointsWornBy, .selects RX0 yX0_jointsWornBy yX0_jointsWornBy, .code yX0_jointsWornBy cX0_jointsWornBy 7 (some .int), .fieldLink RX0 15 "DollCitadel$Doll" "wears" "[I", .methodLink RX0 68 yX0_eyesWithDust, .instanceMethod yX0_eyesWithDust, .selects RX0 yX0_eyesWithDust yX0_eyesWithDust, .code yX0_eyesWithDust cX0_eyesWithDust 7 (some .int), .fieldLink RX0 25 "DollCitadel$Doll" "dusts" "[I"] ++ wsX00)
def wsX0_wants : List Cond := .code yX0_wants cX0_wants 2 (some .int) :: ([.fieldLink RX0 32 "DollCitadel$Doll" "weight" "I", .fieldLink RX0 35 "DollCitadel$Doll" "pins" "I", .fieldLink RX0 28 "DollCitadel$Doll" "wigEaten" "I", .methodLink RX0 61 yX0_jointsWornBy, .instanceMethod yX0_jointsWornBy, .selects RX0 yX0_jointsWornBy yX0_jointsWornBy, .initialized RX0, .code yX0_jointsWornBy cX0_jointsWornBy 7 (some .int), .fieldLink RX0 15 "DollCitadel$Doll" "wears" "[I", .methodLink RX0 71 yX0_jointsWithoutLacquer, .instanceMethod yX0_jointsWithoutLacquer, .selects RX0 yX0_jointsWithoutLacquer yX0_jointsWithoutLacquer, .code yX0_jointsWithoutLacquer cX0_jointsWithoutLacquer 6 (some .int), .fieldLink RX0 18 "DollCitadel$Doll" "lacquers" "[I", .methodLink RX0 68 yX0_eyesWithDust, .instanceMethod yX0_eyesWithDust, .selects RX0 yX0_eyesWithDust yX0_eyesWithDust, .code yX0_eyesWithDust cX0_eyesWithDust 7 (some .int), .fieldLink RX0 25 "DollCitadel$Doll" "dusts" "[I"] ++ wsX00)
def wsX0_wantsInAll : List Cond := .code yX0_wantsInAll cX0_wantsInAll 3 (some .int) :: ([.methodLink RX0 74 yX0_wants, .instanceMethod yX0_wants, .selects RX0 yX0_wants yX0_wants, .initialized RX0, .code yX0_wants cX0_wants 2 (some .int), .fieldLink RX0 32 "DollCitadel$Doll" "weight" "I", .fieldLink RX0 35 "DollCitadel$Doll" "pins" "I", .fieldLink RX0 28 "DollCitadel$Doll" "wigEaten" "I", .methodLink RX0 61 yX0_jointsWornBy, .instanceMethod yX0_jointsWornBy, .selects RX0 yX0_jointsWornBy yX0_jointsWornBy, .code yX0_jointsWornBy cX0_jointsWornBy 7 (some .int), .fieldLink RX0 15 "DollCitadel$Doll" "wears" "[I", .methodLink RX0 71 yX0_jointsWithoutLacquer, .instanceMethod yX0_jointsWithoutLacquer, .selects RX0 yX0_jointsWithoutLacquer yX0_jointsWithoutLacquer, .code yX0_jointsWithoutLacquer cX0_jointsWithoutLacquer 6 (some .int), .fieldLink RX0 18 "DollCitadel$Doll" "lacquers" "[I", .methodLink RX0 68 yX0_eyesWithDust, .instanceMethod yX0_eyesWithDust, .selects RX0 yX0_eyesWithDust yX0_eyesWithDust, .code yX0_eyesWithDust cX0_eyesWithDust 7 (some .int), .fieldLink RX0 25 "DollCitadel$Doll" "dusts" "[I"] ++ wsX00)
def wsX0_eatWig : List Cond := .code yX0_eatWig cX0_eatWig 2 none :: ([.fieldLink RX0 28 "DollCitadel$Doll" "wigEaten" "I"] ++ wsX00)
def wsX0_loosenDress : List Cond := .code yX0_loosenDress cX0_loosenDress 1 none :: ([.fieldLink RX0 32 "DollCitadel$Doll" "weight" "I", .fieldLink RX0 15 "DollCitadel$Doll" "wears" "[I", .fieldLink RX0 35 "DollCitadel$Doll" "pins" "I", .methodLink RX0 54 Lib.Math.max.name, .static Lib.Math.max.name, .initialized "java/lang/Math", .code Lib.Math.max.name Lib.Math.max.code 2 (some .int)] ++ wsX00)
def wsX0_dryLacquer : List Cond := .code yX0_dryLacquer cX0_dryLacquer 2 none :: ([.fieldLink RX0 18 "DollCitadel$Doll" "lacquers" "[I", .methodLink RX0 54 Lib.Math.max.name, .static Lib.Math.max.name, .initialized "java/lang/Math", .code Lib.Math.max.name Lib.Math.max.code 2 (some .int)] ++ wsX00)
def wsX0_gatherDust : List Cond := .code yX0_gatherDust cX0_gatherDust 2 none :: ([.fieldLink RX0 21 "DollCitadel$Doll" "open" "[Z", .fieldLink RX0 25 "DollCitadel$Doll" "dusts" "[I", .methodLink RX0 58 Lib.Math.min.name, .static Lib.Math.min.name, .initialized "java/lang/Math", .code Lib.Math.min.name Lib.Math.min.code 2 (some .int)] ++ wsX00)
def wsX0_liveOneDay_r1 : List Cond := [Cond.methodLink RX0 77 yX0_tally, Cond.instanceMethod yX0_tally, Cond.selects RX0 yX0_tally yX0_tally, Cond.initialized RX0, Cond.code yX0_tally cX0_tally 2 (some .int), Cond.fieldLink RX0 28 "DollCitadel$Doll" "wigEaten" "I", Cond.fieldLink RX0 32 "DollCitadel$Doll" "weight" "I", Cond.methodLink RX0 64 yX0_brokenJoints, Cond.instanceMethod yX0_brokenJoints, Cond.selects RX0 yX0_brokenJoints yX0_brokenJoints, Cond.code yX0_brokenJoints cX0_brokenJoints 1 (some .int), Cond.methodLink RX0 61 yX0_jointsWornBy, Cond.instanceMethod yX0_jointsWornBy, Cond.selects RX0 yX0_jointsWornBy yX0_jointsWornBy, Cond.code yX0_jointsWornBy cX0_jointsWornBy 7 (some .int), Cond.fieldLink RX0 15 "DollCitadel$Doll" "wears" "[I", Cond.methodLink RX0 68 yX0_eyesWithDust, Cond.instanceMethod yX0_eyesWithDust, Cond.selects RX0 yX0_eyesWithDust yX0_eyesWithDust, Cond.code yX0_eyesWithDust cX0_eyesWithDust 7 (some .int), Cond.fieldLink RX0 25 "DollCitadel$Doll" "dusts" "[I", Cond.methodLink RX0 80 yX0_eatWig, Cond.instanceMethod yX0_eatWig, Cond.selects RX0 yX0_eatWig yX0_eatWig]
def wsX0_liveOneDay_r2 : List Cond := [Cond.code yX0_eatWig cX0_eatWig 2 none, Cond.methodLink RX0 84 yX0_loosenDress, Cond.instanceMethod yX0_loosenDress, Cond.selects RX0 yX0_loosenDress yX0_loosenDress, Cond.code yX0_loosenDress cX0_loosenDress 1 none, Cond.fieldLink RX0 35 "DollCitadel$Doll" "pins" "I", Cond.methodLink RX0 54 Lib.Math.max.name, Cond.static Lib.Math.max.name, Cond.initialized "java/lang/Math", Cond.code Lib.Math.max.name Lib.Math.max.code 2 (some .int), Cond.methodLink RX0 87 yX0_dryLacquer, Cond.instanceMethod yX0_dryLacquer, Cond.selects RX0 yX0_dryLacquer yX0_dryLacquer, Cond.code yX0_dryLacquer cX0_dryLacquer 2 none, Cond.fieldLink RX0 18 "DollCitadel$Doll" "lacquers" "[I", Cond.methodLink RX0 90 yX0_gatherDust, Cond.instanceMethod yX0_gatherDust, Cond.selects RX0 yX0_gatherDust yX0_gatherDust, Cond.code yX0_gatherDust cX0_gatherDust 2 none, Cond.fieldLink RX0 21 "DollCitadel$Doll" "open" "[Z", Cond.methodLink RX0 58 Lib.Math.min.name, Cond.static Lib.Math.min.name, Cond.code Lib.Math.min.name Lib.Math.min.code 2 (some .int)]
def wsX0_liveOneDay : List Cond := .code yX0_liveOneDay cX0_liveOneDay 5 (some .int) :: ((wsX0_liveOneDay_r1 ++ wsX0_liveOneDay_r2) ++ wsX00)
def wsX1_init : List Cond := .code yX1_init cX1_init 1 none :: ([.methodLink RX1 3 objectInit, .instanceMethod objectInit, .code objectInit ⟨#[0xb1]⟩ 1 none, .arrayClass .int, .fieldLink RX1 9 "DollCitadel$Pose" "angles" "[I"] ++ wsX10)
def wsX1_digestInto : List Cond := .code yX1_digestInto cX1_digestInto 9 (some .long) :: ([.fieldLink RX1 9 "DollCitadel$Pose" "angles" "[I", .constantLong RX1 15 (31)] ++ wsX10)
def wsX2_init_r1 : List Cond := [Cond.methodLink RX2 1 objectInit, Cond.instanceMethod objectInit, Cond.code objectInit ⟨#[0xb1]⟩ 1 none, Cond.classLink RX2 9 RX0, Cond.fieldLink RX2 11 "DollCitadel" "dolls" "[LDollCitadel$Doll;", Cond.classLink RX2 15 RX1, Cond.fieldLink RX2 17 "DollCitadel" "poses" "[LDollCitadel$Pose;", Cond.arrayClass .int, Cond.fieldLink RX2 21 "DollCitadel" "store" "[I", Cond.instantiable RX1 1, Cond.initialized RX1, Cond.fieldLink RX2 26 "DollCitadel" "rest" "LDollCitadel$Pose;", Cond.instantiable RX0 9, Cond.initialized RX0, Cond.fieldLink RX2 31 "DollCitadel" "trial" "LDollCitadel$Doll;", Cond.fieldLink RX2 35 "DollCitadel" "dollCount" "I", Cond.fieldLink RX2 39 "DollCitadel" "poseCount" "I", Cond.fieldLink RX2 42 "DollCitadel" "day" "I", Cond.fieldLink RX2 45 "DollCitadel" "moths" "I", Cond.instanceMethod yX1_init, Cond.code yX1_init cX1_init 1 none, Cond.methodLink RX1 3 objectInit, Cond.fieldLink RX1 9 "DollCitadel$Pose" "angles" "[I", Cond.methodLink RX2 30 yX0_init]
def wsX2_init_r2 : List Cond := [Cond.instanceMethod yX0_init, Cond.code yX0_init cX0_init 2 none, Cond.methodLink RX0 3 objectInit, Cond.fieldLink RX0 9 "DollCitadel$Doll" "angles" "[I", Cond.fieldLink RX0 15 "DollCitadel$Doll" "wears" "[I", Cond.fieldLink RX0 18 "DollCitadel$Doll" "lacquers" "[I", Cond.arrayClass .boolean, Cond.fieldLink RX0 21 "DollCitadel$Doll" "open" "[Z", Cond.fieldLink RX0 25 "DollCitadel$Doll" "dusts" "[I", Cond.fieldLink RX0 28 "DollCitadel$Doll" "wigEaten" "I", Cond.fieldLink RX0 32 "DollCitadel$Doll" "weight" "I", Cond.fieldLink RX0 35 "DollCitadel$Doll" "pins" "I", Cond.fieldLink RX0 38 "DollCitadel$Doll" "posesTaken" "I"]
def wsX2_init : List Cond := .code yX2_init cX2_init 1 none :: ((wsX2_init_r1 ++ wsX2_init_r2) ++ wsX20 ++ wsX10 ++ wsX00)
def wsX2_make : List Cond := .code yX2_make cX2_make 2 (some .int) :: ([.classLink RX2 48 "java/lang/IllegalStateException", .initialized "java/lang/IllegalStateException", .fieldLink RX2 35 "DollCitadel" "dollCount" "I", .fieldLink RX2 11 "DollCitadel" "dolls" "[LDollCitadel$Doll;", .classLink RX2 9 RX0, .instantiable RX0 9, .initialized RX0, .methodLink RX2 30 yX0_init, .instanceMethod yX0_init, .code yX0_init cX0_init 2 none, .methodLink RX0 3 objectInit, .instanceMethod objectInit, .code objectInit ⟨#[0xb1]⟩ 1 none, .arrayClass .int, .fieldLink RX0 9 "DollCitadel$Doll" "angles" "[I", .fieldLink RX0 15 "DollCitadel$Doll" "wears" "[I", .fieldLink RX0 18 "DollCitadel$Doll" "lacquers" "[I", .arrayClass .boolean, .fieldLink RX0 21 "DollCitadel$Doll" "open" "[Z", .fieldLink RX0 25 "DollCitadel$Doll" "dusts" "[I", .fieldLink RX0 28 "DollCitadel$Doll" "wigEaten" "I", .fieldLink RX0 32 "DollCitadel$Doll" "weight" "I", .fieldLink RX0 35 "DollCitadel$Doll" "pins" "I", .fieldLink RX0 38 "DollCitadel$Doll" "posesTaken" "I"] ++ wsX20 ++ wsX00 ++ (vx_atS RX2 52 "java/lang/IllegalStateException" ["java/lang/RuntimeException", "java/lang/Exception"]).filter goodWord)
def wsX2_isAngle : List Cond := .code yX2_isAngle cX2_isAngle 1 (some .boolean) :: ([])
def wsX2_pose : List Cond := .code yX2_pose cX2_pose 9 (some .int) :: ([.classLink RX2 59 "java/lang/IllegalArgumentException", .initialized "java/lang/IllegalArgumentException", .classLink RX2 48 "java/lang/IllegalStateException", .initialized "java/lang/IllegalStateException", .fieldLink RX2 39 "DollCitadel" "poseCount" "I", .fieldLink RX2 17 "DollCitadel" "poses" "[LDollCitadel$Pose;", .classLink RX2 15 RX1, .instantiable RX1 1, .initialized RX1, .fieldLink RX2 66 "DollCitadel$Pose" "angles" "[I", .methodLink RX2 55 yX2_isAngle, .static yX2_isAngle, .initialized RX2, .code yX2_isAngle cX2_isAngle 1 (some .boolean), .instanceMethod yX1_init, .code yX1_init cX1_init 1 none, .methodLink RX1 3 objectInit, .instanceMethod objectInit, .code objectInit ⟨#[0xb1]⟩ 1 none, .arrayClass .int, .fieldLink RX1 9 "DollCitadel$Pose" "angles" "[I"] ++ wsX20 ++ wsX10 ++ (vx_atS RX2 63 "java/lang/IllegalArgumentException" ["java/lang/RuntimeException", "java/lang/Exception"]).filter goodWord ++ (vx_atS RX2 52 "java/lang/IllegalStateException" ["java/lang/RuntimeException", "java/lang/Exception"]).filter goodWord)
def wsX2_knownDoll : List Cond := .code yX2_knownDoll cX2_knownDoll 3 (some (.object "DollCitadel$Doll")) :: ([.classLink RX2 94 "java/lang/IndexOutOfBoundsException", .initialized "java/lang/IndexOutOfBoundsException", .fieldLink RX2 11 "DollCitadel" "dolls" "[LDollCitadel$Doll;"] ++ wsX20 ++ (vx_atS RX2 98 "java/lang/IndexOutOfBoundsException" ["java/lang/RuntimeException", "java/lang/Exception"]).filter goodWord)
def wsX2_knownPose : List Cond := .code yX2_knownPose cX2_knownPose 3 (some (.object "DollCitadel$Pose")) :: ([.classLink RX2 94 "java/lang/IndexOutOfBoundsException", .initialized "java/lang/IndexOutOfBoundsException", .fieldLink RX2 17 "DollCitadel" "poses" "[LDollCitadel$Pose;"] ++ wsX20 ++ (vx_atS RX2 98 "java/lang/IndexOutOfBoundsException" ["java/lang/RuntimeException", "java/lang/Exception"]).filter goodWord)
def wsX2_take_r1 : List Cond := [Cond.classLink RX2 48 "java/lang/IllegalStateException", Cond.initialized "java/lang/IllegalStateException", Cond.fieldLink RX2 91 "DollCitadel$Doll" "posesTaken" "I", Cond.methodLink RX2 69 yX2_knownDoll, Cond.instanceMethod yX2_knownDoll, Cond.selects RX2 yX2_knownDoll yX2_knownDoll, Cond.initialized RX2, Cond.code yX2_knownDoll cX2_knownDoll 3 (some (.object "DollCitadel$Doll")), Cond.classLink RX2 94 "java/lang/IndexOutOfBoundsException", Cond.initialized "java/lang/IndexOutOfBoundsException", Cond.fieldLink RX2 11 "DollCitadel" "dolls" "[LDollCitadel$Doll;", Cond.methodLink RX2 73 yX2_knownPose, Cond.instanceMethod yX2_knownPose, Cond.selects RX2 yX2_knownPose yX2_knownPose, Cond.code yX2_knownPose cX2_knownPose 3 (some (.object "DollCitadel$Pose")), Cond.fieldLink RX2 17 "DollCitadel" "poses" "[LDollCitadel$Pose;", Cond.methodLink RX2 77 yX0_canTurnTo, Cond.instanceMethod yX0_canTurnTo, Cond.selects RX0 yX0_canTurnTo yX0_canTurnTo, Cond.initialized RX0, Cond.code yX0_canTurnTo cX0_canTurnTo 3 (some .boolean), Cond.fieldLink RX0 15 "DollCitadel$Doll" "wears" "[I", Cond.fieldLink RX0 9 "DollCitadel$Doll" "angles" "[I", Cond.fieldLink RX0 41 "DollCitadel$Pose" "angles" "[I"]
def wsX2_take_r2 : List Cond := [Cond.methodLink RX2 83 yX0_brokenJoints, Cond.instanceMethod yX0_brokenJoints, Cond.selects RX0 yX0_brokenJoints yX0_brokenJoints, Cond.code yX0_brokenJoints cX0_brokenJoints 1 (some .int), Cond.methodLink RX0 61 yX0_jointsWornBy, Cond.instanceMethod yX0_jointsWornBy, Cond.selects RX0 yX0_jointsWornBy yX0_jointsWornBy, Cond.code yX0_jointsWornBy cX0_jointsWornBy 7 (some .int), Cond.methodLink RX2 87 yX0_turnTo, Cond.instanceMethod yX0_turnTo, Cond.selects RX0 yX0_turnTo yX0_turnTo, Cond.code yX0_turnTo cX0_turnTo 4 none, Cond.methodLink RX0 44 Lib.Math.abs.name, Cond.static Lib.Math.abs.name, Cond.initialized "java/lang/Math", Cond.code Lib.Math.abs.name Lib.Math.abs.code 1 (some .int), Cond.fieldLink RX0 18 "DollCitadel$Doll" "lacquers" "[I", Cond.methodLink RX0 54 Lib.Math.max.name, Cond.static Lib.Math.max.name, Cond.code Lib.Math.max.name Lib.Math.max.code 2 (some .int), Cond.methodLink RX0 50 yX0_wearBehindTurn, Cond.static yX0_wearBehindTurn, Cond.code yX0_wearBehindTurn cX0_wearBehindTurn 4 (some .int), Cond.methodLink RX0 58 Lib.Math.min.name]
def wsX2_take_r3 : List Cond := [Cond.static Lib.Math.min.name, Cond.code Lib.Math.min.name Lib.Math.min.code 2 (some .int)]
def wsX2_take : List Cond := .code yX2_take cX2_take 6 (some .int) :: ((wsX2_take_r1 ++ (wsX2_take_r2 ++ wsX2_take_r3)) ++ wsX00 ++ wsX20 ++ wsX10 ++ (vx_atS RX2 52 "java/lang/IllegalStateException" ["java/lang/RuntimeException", "java/lang/Exception"]).filter goodWord ++ (vx_atS RX2 98 "java/lang/IndexOutOfBoundsException" ["java/lang/RuntimeException", "java/lang/Exception"]).filter goodWord)
def wsX2_blink : List Cond := .code yX2_blink cX2_blink 4 (some .boolean) :: ([.classLink RX2 94 "java/lang/IndexOutOfBoundsException", .initialized "java/lang/IndexOutOfBoundsException", .classLink RX2 48 "java/lang/IllegalStateException", .initialized "java/lang/IllegalStateException", .fieldLink RX2 99 "DollCitadel$Doll" "dusts" "[I", .fieldLink RX2 104 "DollCitadel$Doll" "open" "[Z", .methodLink RX2 69 yX2_knownDoll, .instanceMethod yX2_knownDoll, .selects RX2 yX2_knownDoll yX2_knownDoll, .initialized RX2, .code yX2_knownDoll cX2_knownDoll 3 (some (.object "DollCitadel$Doll")), .fieldLink RX2 11 "DollCitadel" "dolls" "[LDollCitadel$Doll;"] ++ wsX00 ++ wsX20 ++ (vx_atS RX2 98 "java/lang/IndexOutOfBoundsException" ["java/lang/RuntimeException", "java/lang/Exception"]).filter goodWord ++ (vx_atS RX2 52 "java/lang/IllegalStateException" ["java/lang/RuntimeException", "java/lang/Exception"]).filter goodWord)
def wsX2_dress : List Cond := .code yX2_dress cX2_dress 6 (some .int) :: ([.classLink RX2 59 "java/lang/IllegalArgumentException", .initialized "java/lang/IllegalArgumentException", .classLink RX2 48 "java/lang/IllegalStateException", .initialized "java/lang/IllegalStateException", .fieldLink RX2 21 "DollCitadel" "store" "[I", .fieldLink RX2 112 "DollCitadel$Doll" "pins" "I", .fieldLink RX2 115 "DollCitadel$Doll" "weight" "I", .methodLink RX2 118 Lib.Math.min.name, .static Lib.Math.min.name, .initialized "java/lang/Math", .code Lib.Math.min.name Lib.Math.min.code 2 (some .int), .methodLink RX2 69 yX2_knownDoll, .instanceMethod yX2_knownDoll, .selects RX2 yX2_knownDoll yX2_knownDoll, .initialized RX2, .code yX2_knownDoll cX2_knownDoll 3 (some (.object "DollCitadel$Doll")), .classLink RX2 94 "java/lang/IndexOutOfBoundsException", .initialized "java/lang/IndexOutOfBoundsException", .fieldLink RX2 11 "DollCitadel" "dolls" "[LDollCitadel$Doll;"] ++ wsX20 ++ wsX00 ++ (vx_atS RX2 63 "java/lang/IllegalArgumentException" ["java/lang/RuntimeException", "java/lang/Exception"]).filter goodWord ++ (vx_atS RX2 52 "java/lang/IllegalStateException" ["java/lang/RuntimeException", "java/lang/Exception"]).filter goodWord ++ (vx_atS RX2 98 "java/lang/IndexOutOfBoundsException" ["java/lang/RuntimeException", "java/lang/Exception"]).filter goodWord)
def wsX2_bring : List Cond := .code yX2_bring cX2_bring 3 (some .int) :: ([.classLink RX2 59 "java/lang/IllegalArgumentException", .initialized "java/lang/IllegalArgumentException", .fieldLink RX2 21 "DollCitadel" "store" "[I", .methodLink RX2 118 Lib.Math.min.name, .static Lib.Math.min.name, .initialized "java/lang/Math", .code Lib.Math.min.name Lib.Math.min.code 2 (some .int)] ++ wsX20 ++ (vx_atS RX2 63 "java/lang/IllegalArgumentException" ["java/lang/RuntimeException", "java/lang/Exception"]).filter goodWord)
def wsX2_setMoths : List Cond := .code yX2_setMoths cX2_setMoths 3 (some .int) :: ([.classLink RX2 59 "java/lang/IllegalArgumentException", .initialized "java/lang/IllegalArgumentException", .fieldLink RX2 45 "DollCitadel" "moths" "I"] ++ wsX20 ++ (vx_atS RX2 63 "java/lang/IllegalArgumentException" ["java/lang/RuntimeException", "java/lang/Exception"]).filter goodWord)
def wsX2_mend_r1 : List Cond := [Cond.classLink RX2 94 "java/lang/IndexOutOfBoundsException", Cond.initialized "java/lang/IndexOutOfBoundsException", Cond.classLink RX2 59 "java/lang/IllegalArgumentException", Cond.initialized "java/lang/IllegalArgumentException", Cond.classLink RX2 48 "java/lang/IllegalStateException", Cond.initialized "java/lang/IllegalStateException", Cond.fieldLink RX2 21 "DollCitadel" "store" "[I", Cond.fieldLink RX2 138 "DollCitadel$Doll" "wears" "[I", Cond.fieldLink RX2 141 "DollCitadel$Doll" "lacquers" "[I", Cond.fieldLink RX2 112 "DollCitadel$Doll" "pins" "I", Cond.fieldLink RX2 147 "DollCitadel$Doll" "wigEaten" "I", Cond.methodLink RX2 69 yX2_knownDoll, Cond.instanceMethod yX2_knownDoll, Cond.selects RX2 yX2_knownDoll yX2_knownDoll, Cond.initialized RX2, Cond.code yX2_knownDoll cX2_knownDoll 3 (some (.object "DollCitadel$Doll")), Cond.fieldLink RX2 11 "DollCitadel" "dolls" "[LDollCitadel$Doll;", Cond.methodLink RX2 132 yX0_hasRoomForPin, Cond.instanceMethod yX0_hasRoomForPin, Cond.selects RX0 yX0_hasRoomForPin yX0_hasRoomForPin, Cond.initialized RX0, Cond.code yX0_hasRoomForPin cX0_hasRoomForPin 1 (some .boolean), Cond.fieldLink RX0 32 "DollCitadel$Doll" "weight" "I", Cond.fieldLink RX0 35 "DollCitadel$Doll" "pins" "I"]
def wsX2_mend_r2 : List Cond := [Cond.methodLink RX2 144 yX0_wipeEyes, Cond.instanceMethod yX0_wipeEyes, Cond.selects RX0 yX0_wipeEyes yX0_wipeEyes, Cond.code yX0_wipeEyes cX0_wipeEyes 2 none, Cond.fieldLink RX0 25 "DollCitadel$Doll" "dusts" "[I"]
def wsX2_mend : List Cond := .code yX2_mend cX2_mend 5 (some .int) :: ((wsX2_mend_r1 ++ wsX2_mend_r2) ++ wsX20 ++ wsX00 ++ (vx_atS RX2 98 "java/lang/IndexOutOfBoundsException" ["java/lang/RuntimeException", "java/lang/Exception"]).filter goodWord ++ (vx_atS RX2 63 "java/lang/IllegalArgumentException" ["java/lang/RuntimeException", "java/lang/Exception"]).filter goodWord ++ (vx_atS RX2 52 "java/lang/IllegalStateException" ["java/lang/RuntimeException", "java/lang/Exception"]).filter goodWord)
def wsX2_joint : List Cond := .code yX2_joint cX2_joint 5 (some .int) :: ([.classLink RX2 94 "java/lang/IndexOutOfBoundsException", .initialized "java/lang/IndexOutOfBoundsException", .fieldLink RX2 152 "DollCitadel$Doll" "angles" "[I", .fieldLink RX2 138 "DollCitadel$Doll" "wears" "[I", .fieldLink RX2 141 "DollCitadel$Doll" "lacquers" "[I", .methodLink RX2 69 yX2_knownDoll, .instanceMethod yX2_knownDoll, .selects RX2 yX2_knownDoll yX2_knownDoll, .initialized RX2, .code yX2_knownDoll cX2_knownDoll 3 (some (.object "DollCitadel$Doll")), .fieldLink RX2 11 "DollCitadel" "dolls" "[LDollCitadel$Doll;"] ++ wsX00 ++ wsX20 ++ (vx_atS RX2 98 "java/lang/IndexOutOfBoundsException" ["java/lang/RuntimeException", "java/lang/Exception"]).filter goodWord)
def wsX2_doll : List Cond := .code yX2_doll cX2_doll 4 (some .int) :: ([.classLink RX2 94 "java/lang/IndexOutOfBoundsException", .initialized "java/lang/IndexOutOfBoundsException", .fieldLink RX2 104 "DollCitadel$Doll" "open" "[Z", .fieldLink RX2 99 "DollCitadel$Doll" "dusts" "[I", .fieldLink RX2 147 "DollCitadel$Doll" "wigEaten" "I", .fieldLink RX2 115 "DollCitadel$Doll" "weight" "I", .fieldLink RX2 112 "DollCitadel$Doll" "pins" "I", .fieldLink RX2 91 "DollCitadel$Doll" "posesTaken" "I", .methodLink RX2 69 yX2_knownDoll, .instanceMethod yX2_knownDoll, .selects RX2 yX2_knownDoll yX2_knownDoll, .initialized RX2, .code yX2_knownDoll cX2_knownDoll 3 (some (.object "DollCitadel$Doll")), .fieldLink RX2 11 "DollCitadel" "dolls" "[LDollCitadel$Doll;"] ++ wsX00 ++ wsX20 ++ (vx_atS RX2 98 "java/lang/IndexOutOfBoundsException" ["java/lang/RuntimeException", "java/lang/Exception"]).filter goodWord)
def wsX2_tallyOfAll : List Cond := .code yX2_tallyOfAll cX2_tallyOfAll 7 (some .int) :: ([.fieldLink RX2 11 "DollCitadel" "dolls" "[LDollCitadel$Doll;", .methodLink RX2 185 yX0_tally, .instanceMethod yX0_tally, .selects RX0 yX0_tally yX0_tally, .initialized RX0, .code yX0_tally cX0_tally 2 (some .int), .fieldLink RX0 28 "DollCitadel$Doll" "wigEaten" "I", .fieldLink RX0 32 "DollCitadel$Doll" "weight" "I", .methodLink RX0 64 yX0_brokenJoints, .instanceMethod yX0_brokenJoints, .selects RX0 yX0_brokenJoints yX0_brokenJoints, .code yX0_brokenJoints cX0_brokenJoints 1 (some .int), .methodLink RX0 61 yX0_jointsWornBy, .instanceMethod yX0_jointsWornBy, .selects RX0 yX0_jointsWornBy yX0_jointsWornBy, .code yX0_jointsWornBy cX0_jointsWornBy 7 (some .int), .fieldLink RX0 15 "DollCitadel$Doll" "wears" "[I", .methodLink RX0 68 yX0_eyesWithDust, .instanceMethod yX0_eyesWithDust, .selects RX0 yX0_eyesWithDust yX0_eyesWithDust, .code yX0_eyesWithDust cX0_eyesWithDust 7 (some .int), .fieldLink RX0 25 "DollCitadel$Doll" "dusts" "[I"] ++ wsX20 ++ wsX00)
def wsX2_count_r1 : List Cond := [Cond.classLink RX2 94 "java/lang/IndexOutOfBoundsException", Cond.initialized "java/lang/IndexOutOfBoundsException", Cond.fieldLink RX2 21 "DollCitadel" "store" "[I", Cond.fieldLink RX2 42 "DollCitadel" "day" "I", Cond.fieldLink RX2 35 "DollCitadel" "dollCount" "I", Cond.fieldLink RX2 39 "DollCitadel" "poseCount" "I", Cond.fieldLink RX2 45 "DollCitadel" "moths" "I", Cond.methodLink RX2 157 yX2_tallyOfAll, Cond.instanceMethod yX2_tallyOfAll, Cond.selects RX2 yX2_tallyOfAll yX2_tallyOfAll, Cond.initialized RX2, Cond.code yX2_tallyOfAll cX2_tallyOfAll 7 (some .int), Cond.fieldLink RX2 11 "DollCitadel" "dolls" "[LDollCitadel$Doll;", Cond.methodLink RX2 185 yX0_tally, Cond.instanceMethod yX0_tally, Cond.selects RX0 yX0_tally yX0_tally, Cond.initialized RX0, Cond.code yX0_tally cX0_tally 2 (some .int), Cond.fieldLink RX0 28 "DollCitadel$Doll" "wigEaten" "I", Cond.fieldLink RX0 32 "DollCitadel$Doll" "weight" "I", Cond.methodLink RX0 64 yX0_brokenJoints, Cond.instanceMethod yX0_brokenJoints, Cond.selects RX0 yX0_brokenJoints yX0_brokenJoints, Cond.code yX0_brokenJoints cX0_brokenJoints 1 (some .int)]
def wsX2_count_r2 : List Cond := [Cond.methodLink RX0 61 yX0_jointsWornBy, Cond.instanceMethod yX0_jointsWornBy, Cond.selects RX0 yX0_jointsWornBy yX0_jointsWornBy, Cond.code yX0_jointsWornBy cX0_jointsWornBy 7 (some .int), Cond.fieldLink RX0 15 "DollCitadel$Doll" "wears" "[I", Cond.methodLink RX0 68 yX0_eyesWithDust, Cond.instanceMethod yX0_eyesWithDust, Cond.selects RX0 yX0_eyesWithDust yX0_eyesWithDust, Cond.code yX0_eyesWithDust cX0_eyesWithDust 7 (some .int), Cond.fieldLink RX0 25 "DollCitadel$Doll" "dusts" "[I"]
def wsX2_count : List Cond := .code yX2_count cX2_count 2 (some .int) :: ((wsX2_count_r1 ++ wsX2_count_r2) ++ wsX20 ++ wsX00 ++ (vx_atS RX2 98 "java/lang/IndexOutOfBoundsException" ["java/lang/RuntimeException", "java/lang/Exception"]).filter goodWord)
def wsX2_costs_r1 : List Cond := [Cond.fieldLink RX2 31 "DollCitadel" "trial" "LDollCitadel$Doll;", Cond.methodLink RX2 69 yX2_knownDoll, Cond.instanceMethod yX2_knownDoll, Cond.selects RX2 yX2_knownDoll yX2_knownDoll, Cond.initialized RX2, Cond.code yX2_knownDoll cX2_knownDoll 3 (some (.object "DollCitadel$Doll")), Cond.classLink RX2 94 "java/lang/IndexOutOfBoundsException", Cond.initialized "java/lang/IndexOutOfBoundsException", Cond.fieldLink RX2 11 "DollCitadel" "dolls" "[LDollCitadel$Doll;", Cond.methodLink RX2 73 yX2_knownPose, Cond.instanceMethod yX2_knownPose, Cond.selects RX2 yX2_knownPose yX2_knownPose, Cond.code yX2_knownPose cX2_knownPose 3 (some (.object "DollCitadel$Pose")), Cond.fieldLink RX2 17 "DollCitadel" "poses" "[LDollCitadel$Pose;", Cond.methodLink RX2 77 yX0_canTurnTo, Cond.instanceMethod yX0_canTurnTo, Cond.selects RX0 yX0_canTurnTo yX0_canTurnTo, Cond.initialized RX0, Cond.code yX0_canTurnTo cX0_canTurnTo 3 (some .boolean), Cond.fieldLink RX0 15 "DollCitadel$Doll" "wears" "[I", Cond.fieldLink RX0 9 "DollCitadel$Doll" "angles" "[I", Cond.fieldLink RX0 41 "DollCitadel$Pose" "angles" "[I", Cond.methodLink RX2 161 yX0_becomeLike, Cond.instanceMethod yX0_becomeLike]
def wsX2_costs_r2 : List Cond := [Cond.selects RX0 yX0_becomeLike yX0_becomeLike, Cond.code yX0_becomeLike cX0_becomeLike 3 none, Cond.fieldLink RX0 18 "DollCitadel$Doll" "lacquers" "[I", Cond.fieldLink RX0 21 "DollCitadel$Doll" "open" "[Z", Cond.fieldLink RX0 25 "DollCitadel$Doll" "dusts" "[I", Cond.fieldLink RX0 28 "DollCitadel$Doll" "wigEaten" "I", Cond.fieldLink RX0 32 "DollCitadel$Doll" "weight" "I", Cond.fieldLink RX0 35 "DollCitadel$Doll" "pins" "I", Cond.fieldLink RX0 38 "DollCitadel$Doll" "posesTaken" "I", Cond.methodLink RX2 87 yX0_turnTo, Cond.instanceMethod yX0_turnTo, Cond.selects RX0 yX0_turnTo yX0_turnTo, Cond.code yX0_turnTo cX0_turnTo 4 none, Cond.methodLink RX0 44 Lib.Math.abs.name, Cond.static Lib.Math.abs.name, Cond.initialized "java/lang/Math", Cond.code Lib.Math.abs.name Lib.Math.abs.code 1 (some .int), Cond.methodLink RX0 54 Lib.Math.max.name, Cond.static Lib.Math.max.name, Cond.code Lib.Math.max.name Lib.Math.max.code 2 (some .int), Cond.methodLink RX0 50 yX0_wearBehindTurn, Cond.static yX0_wearBehindTurn, Cond.code yX0_wearBehindTurn cX0_wearBehindTurn 4 (some .int), Cond.methodLink RX0 58 Lib.Math.min.name]
def wsX2_costs_r3 : List Cond := [Cond.static Lib.Math.min.name, Cond.code Lib.Math.min.name Lib.Math.min.code 2 (some .int), Cond.methodLink RX2 165 yX0_wearOfAllJoints, Cond.instanceMethod yX0_wearOfAllJoints, Cond.selects RX0 yX0_wearOfAllJoints yX0_wearOfAllJoints, Cond.code yX0_wearOfAllJoints cX0_wearOfAllJoints 6 (some .int)]
def wsX2_costs : List Cond := .code yX2_costs cX2_costs 5 (some .int) :: ((wsX2_costs_r1 ++ (wsX2_costs_r2 ++ wsX2_costs_r3)) ++ wsX20 ++ wsX00 ++ wsX10 ++ (vx_atS RX2 98 "java/lang/IndexOutOfBoundsException" ["java/lang/RuntimeException", "java/lang/Exception"]).filter goodWord)
def wsX2_often_r1 : List Cond := [Cond.fieldLink RX2 31 "DollCitadel" "trial" "LDollCitadel$Doll;", Cond.fieldLink RX2 26 "DollCitadel" "rest" "LDollCitadel$Pose;", Cond.methodLink RX2 69 yX2_knownDoll, Cond.instanceMethod yX2_knownDoll, Cond.selects RX2 yX2_knownDoll yX2_knownDoll, Cond.initialized RX2, Cond.code yX2_knownDoll cX2_knownDoll 3 (some (.object "DollCitadel$Doll")), Cond.classLink RX2 94 "java/lang/IndexOutOfBoundsException", Cond.initialized "java/lang/IndexOutOfBoundsException", Cond.fieldLink RX2 11 "DollCitadel" "dolls" "[LDollCitadel$Doll;", Cond.methodLink RX2 73 yX2_knownPose, Cond.instanceMethod yX2_knownPose, Cond.selects RX2 yX2_knownPose yX2_knownPose, Cond.code yX2_knownPose cX2_knownPose 3 (some (.object "DollCitadel$Pose")), Cond.fieldLink RX2 17 "DollCitadel" "poses" "[LDollCitadel$Pose;", Cond.methodLink RX2 161 yX0_becomeLike, Cond.instanceMethod yX0_becomeLike, Cond.selects RX0 yX0_becomeLike yX0_becomeLike, Cond.initialized RX0, Cond.code yX0_becomeLike cX0_becomeLike 3 none, Cond.fieldLink RX0 9 "DollCitadel$Doll" "angles" "[I", Cond.fieldLink RX0 15 "DollCitadel$Doll" "wears" "[I", Cond.fieldLink RX0 18 "DollCitadel$Doll" "lacquers" "[I", Cond.fieldLink RX0 21 "DollCitadel$Doll" "open" "[Z"]
def wsX2_often_r2 : List Cond := [Cond.fieldLink RX0 25 "DollCitadel$Doll" "dusts" "[I", Cond.fieldLink RX0 28 "DollCitadel$Doll" "wigEaten" "I", Cond.fieldLink RX0 32 "DollCitadel$Doll" "weight" "I", Cond.fieldLink RX0 35 "DollCitadel$Doll" "pins" "I", Cond.fieldLink RX0 38 "DollCitadel$Doll" "posesTaken" "I", Cond.methodLink RX2 77 yX0_canTurnTo, Cond.instanceMethod yX0_canTurnTo, Cond.selects RX0 yX0_canTurnTo yX0_canTurnTo, Cond.code yX0_canTurnTo cX0_canTurnTo 3 (some .boolean), Cond.fieldLink RX0 41 "DollCitadel$Pose" "angles" "[I", Cond.methodLink RX2 87 yX0_turnTo, Cond.instanceMethod yX0_turnTo, Cond.selects RX0 yX0_turnTo yX0_turnTo, Cond.code yX0_turnTo cX0_turnTo 4 none, Cond.methodLink RX0 44 Lib.Math.abs.name, Cond.static Lib.Math.abs.name, Cond.initialized "java/lang/Math", Cond.code Lib.Math.abs.name Lib.Math.abs.code 1 (some .int), Cond.methodLink RX0 54 Lib.Math.max.name, Cond.static Lib.Math.max.name, Cond.code Lib.Math.max.name Lib.Math.max.code 2 (some .int), Cond.methodLink RX0 50 yX0_wearBehindTurn, Cond.static yX0_wearBehindTurn, Cond.code yX0_wearBehindTurn cX0_wearBehindTurn 4 (some .int)]
def wsX2_often_r3 : List Cond := [Cond.methodLink RX0 58 Lib.Math.min.name, Cond.static Lib.Math.min.name, Cond.code Lib.Math.min.name Lib.Math.min.code 2 (some .int)]
def wsX2_often : List Cond := .code yX2_often cX2_often 6 (some .int) :: ((wsX2_often_r1 ++ (wsX2_often_r2 ++ wsX2_often_r3)) ++ wsX20 ++ wsX00 ++ wsX10 ++ (vx_atS RX2 98 "java/lang/IndexOutOfBoundsException" ["java/lang/RuntimeException", "java/lang/Exception"]).filter goodWord)
def wsX2_needs_r1 : List Cond := [Cond.classLink RX2 59 "java/lang/IllegalArgumentException", Cond.initialized "java/lang/IllegalArgumentException", Cond.methodLink RX2 69 yX2_knownDoll, Cond.instanceMethod yX2_knownDoll, Cond.selects RX2 yX2_knownDoll yX2_knownDoll, Cond.initialized RX2, Cond.code yX2_knownDoll cX2_knownDoll 3 (some (.object "DollCitadel$Doll")), Cond.classLink RX2 94 "java/lang/IndexOutOfBoundsException", Cond.initialized "java/lang/IndexOutOfBoundsException", Cond.fieldLink RX2 11 "DollCitadel" "dolls" "[LDollCitadel$Doll;", Cond.methodLink RX2 168 yX0_wants, Cond.instanceMethod yX0_wants, Cond.selects RX0 yX0_wants yX0_wants, Cond.initialized RX0, Cond.code yX0_wants cX0_wants 2 (some .int), Cond.fieldLink RX0 32 "DollCitadel$Doll" "weight" "I", Cond.fieldLink RX0 35 "DollCitadel$Doll" "pins" "I", Cond.fieldLink RX0 28 "DollCitadel$Doll" "wigEaten" "I", Cond.methodLink RX0 61 yX0_jointsWornBy, Cond.instanceMethod yX0_jointsWornBy, Cond.selects RX0 yX0_jointsWornBy yX0_jointsWornBy, Cond.code yX0_jointsWornBy cX0_jointsWornBy 7 (some .int), Cond.fieldLink RX0 15 "DollCitadel$Doll" "wears" "[I", Cond.methodLink RX0 71 yX0_jointsWithoutLacquer]
def wsX2_needs_r2 : List Cond := [Cond.instanceMethod yX0_jointsWithoutLacquer, Cond.selects RX0 yX0_jointsWithoutLacquer yX0_jointsWithoutLacquer, Cond.code yX0_jointsWithoutLacquer cX0_jointsWithoutLacquer 6 (some .int), Cond.fieldLink RX0 18 "DollCitadel$Doll" "lacquers" "[I", Cond.methodLink RX0 68 yX0_eyesWithDust, Cond.instanceMethod yX0_eyesWithDust, Cond.selects RX0 yX0_eyesWithDust yX0_eyesWithDust, Cond.code yX0_eyesWithDust cX0_eyesWithDust 7 (some .int), Cond.fieldLink RX0 25 "DollCitadel$Doll" "dusts" "[I"]
def wsX2_needs : List Cond := .code yX2_needs cX2_needs 4 (some .int) :: ((wsX2_needs_r1 ++ wsX2_needs_r2) ++ wsX20 ++ wsX00 ++ (vx_atS RX2 63 "java/lang/IllegalArgumentException" ["java/lang/RuntimeException", "java/lang/Exception"]).filter goodWord ++ (vx_atS RX2 98 "java/lang/IndexOutOfBoundsException" ["java/lang/RuntimeException", "java/lang/Exception"]).filter goodWord)
def wsX2_lacks_r1 : List Cond := [Cond.classLink RX2 59 "java/lang/IllegalArgumentException", Cond.initialized "java/lang/IllegalArgumentException", Cond.fieldLink RX2 11 "DollCitadel" "dolls" "[LDollCitadel$Doll;", Cond.fieldLink RX2 21 "DollCitadel" "store" "[I", Cond.methodLink RX2 171 Lib.Math.max.name, Cond.static Lib.Math.max.name, Cond.initialized "java/lang/Math", Cond.code Lib.Math.max.name Lib.Math.max.code 2 (some .int), Cond.methodLink RX2 168 yX0_wants, Cond.instanceMethod yX0_wants, Cond.selects RX0 yX0_wants yX0_wants, Cond.initialized RX0, Cond.code yX0_wants cX0_wants 2 (some .int), Cond.fieldLink RX0 32 "DollCitadel$Doll" "weight" "I", Cond.fieldLink RX0 35 "DollCitadel$Doll" "pins" "I", Cond.fieldLink RX0 28 "DollCitadel$Doll" "wigEaten" "I", Cond.methodLink RX0 61 yX0_jointsWornBy, Cond.instanceMethod yX0_jointsWornBy, Cond.selects RX0 yX0_jointsWornBy yX0_jointsWornBy, Cond.code yX0_jointsWornBy cX0_jointsWornBy 7 (some .int), Cond.fieldLink RX0 15 "DollCitadel$Doll" "wears" "[I", Cond.methodLink RX0 71 yX0_jointsWithoutLacquer, Cond.instanceMethod yX0_jointsWithoutLacquer, Cond.selects RX0 yX0_jointsWithoutLacquer yX0_jointsWithoutLacquer]
def wsX2_lacks_r2 : List Cond := [Cond.code yX0_jointsWithoutLacquer cX0_jointsWithoutLacquer 6 (some .int), Cond.fieldLink RX0 18 "DollCitadel$Doll" "lacquers" "[I", Cond.methodLink RX0 68 yX0_eyesWithDust, Cond.instanceMethod yX0_eyesWithDust, Cond.selects RX0 yX0_eyesWithDust yX0_eyesWithDust, Cond.code yX0_eyesWithDust cX0_eyesWithDust 7 (some .int), Cond.fieldLink RX0 25 "DollCitadel$Doll" "dusts" "[I"]
def wsX2_lacks : List Cond := .code yX2_lacks cX2_lacks 7 (some .int) :: ((wsX2_lacks_r1 ++ wsX2_lacks_r2) ++ wsX20 ++ wsX00 ++ (vx_atS RX2 63 "java/lang/IllegalArgumentException" ["java/lang/RuntimeException", "java/lang/Exception"]).filter goodWord)
def wsX2_worst_r1 : List Cond := [Cond.fieldLink RX2 11 "DollCitadel" "dolls" "[LDollCitadel$Doll;", Cond.methodLink RX2 174 yX0_wantsInAll, Cond.instanceMethod yX0_wantsInAll, Cond.selects RX0 yX0_wantsInAll yX0_wantsInAll, Cond.initialized RX0, Cond.code yX0_wantsInAll cX0_wantsInAll 3 (some .int), Cond.methodLink RX0 74 yX0_wants, Cond.instanceMethod yX0_wants, Cond.selects RX0 yX0_wants yX0_wants, Cond.code yX0_wants cX0_wants 2 (some .int), Cond.fieldLink RX0 32 "DollCitadel$Doll" "weight" "I", Cond.fieldLink RX0 35 "DollCitadel$Doll" "pins" "I", Cond.fieldLink RX0 28 "DollCitadel$Doll" "wigEaten" "I", Cond.methodLink RX0 61 yX0_jointsWornBy, Cond.instanceMethod yX0_jointsWornBy, Cond.selects RX0 yX0_jointsWornBy yX0_jointsWornBy, Cond.code yX0_jointsWornBy cX0_jointsWornBy 7 (some .int), Cond.fieldLink RX0 15 "DollCitadel$Doll" "wears" "[I", Cond.methodLink RX0 71 yX0_jointsWithoutLacquer, Cond.instanceMethod yX0_jointsWithoutLacquer, Cond.selects RX0 yX0_jointsWithoutLacquer yX0_jointsWithoutLacquer, Cond.code yX0_jointsWithoutLacquer cX0_jointsWithoutLacquer 6 (some .int), Cond.fieldLink RX0 18 "DollCitadel$Doll" "lacquers" "[I", Cond.methodLink RX0 68 yX0_eyesWithDust]
def wsX2_worst_r2 : List Cond := [Cond.instanceMethod yX0_eyesWithDust, Cond.selects RX0 yX0_eyesWithDust yX0_eyesWithDust, Cond.code yX0_eyesWithDust cX0_eyesWithDust 7 (some .int), Cond.fieldLink RX0 25 "DollCitadel$Doll" "dusts" "[I"]
def wsX2_worst : List Cond := .code yX2_worst cX2_worst 6 (some .int) :: ((wsX2_worst_r1 ++ wsX2_worst_r2) ++ wsX20 ++ wsX00)
def wsX2_liveThrough_r1 : List Cond := [Cond.fieldLink RX2 42 "DollCitadel" "day" "I", Cond.fieldLink RX2 45 "DollCitadel" "moths" "I", Cond.methodLink RX2 214 yX0_liveOneDay, Cond.instanceMethod yX0_liveOneDay, Cond.selects RX0 yX0_liveOneDay yX0_liveOneDay, Cond.initialized RX0, Cond.code yX0_liveOneDay cX0_liveOneDay 5 (some .int), Cond.methodLink RX0 77 yX0_tally, Cond.instanceMethod yX0_tally, Cond.selects RX0 yX0_tally yX0_tally, Cond.code yX0_tally cX0_tally 2 (some .int), Cond.fieldLink RX0 28 "DollCitadel$Doll" "wigEaten" "I", Cond.fieldLink RX0 32 "DollCitadel$Doll" "weight" "I", Cond.methodLink RX0 64 yX0_brokenJoints, Cond.instanceMethod yX0_brokenJoints, Cond.selects RX0 yX0_brokenJoints yX0_brokenJoints, Cond.code yX0_brokenJoints cX0_brokenJoints 1 (some .int), Cond.methodLink RX0 61 yX0_jointsWornBy, Cond.instanceMethod yX0_jointsWornBy, Cond.selects RX0 yX0_jointsWornBy yX0_jointsWornBy, Cond.code yX0_jointsWornBy cX0_jointsWornBy 7 (some .int), Cond.fieldLink RX0 15 "DollCitadel$Doll" "wears" "[I", Cond.methodLink RX0 68 yX0_eyesWithDust, Cond.instanceMethod yX0_eyesWithDust]
def wsX2_liveThrough_r2 : List Cond := [Cond.selects RX0 yX0_eyesWithDust yX0_eyesWithDust, Cond.code yX0_eyesWithDust cX0_eyesWithDust 7 (some .int), Cond.fieldLink RX0 25 "DollCitadel$Doll" "dusts" "[I", Cond.methodLink RX0 80 yX0_eatWig, Cond.instanceMethod yX0_eatWig, Cond.selects RX0 yX0_eatWig yX0_eatWig, Cond.code yX0_eatWig cX0_eatWig 2 none, Cond.methodLink RX0 84 yX0_loosenDress, Cond.instanceMethod yX0_loosenDress, Cond.selects RX0 yX0_loosenDress yX0_loosenDress, Cond.code yX0_loosenDress cX0_loosenDress 1 none, Cond.fieldLink RX0 35 "DollCitadel$Doll" "pins" "I", Cond.methodLink RX0 54 Lib.Math.max.name, Cond.static Lib.Math.max.name, Cond.initialized "java/lang/Math", Cond.code Lib.Math.max.name Lib.Math.max.code 2 (some .int), Cond.methodLink RX0 87 yX0_dryLacquer, Cond.instanceMethod yX0_dryLacquer, Cond.selects RX0 yX0_dryLacquer yX0_dryLacquer, Cond.code yX0_dryLacquer cX0_dryLacquer 2 none, Cond.fieldLink RX0 18 "DollCitadel$Doll" "lacquers" "[I", Cond.methodLink RX0 90 yX0_gatherDust, Cond.instanceMethod yX0_gatherDust, Cond.selects RX0 yX0_gatherDust yX0_gatherDust]
def wsX2_liveThrough_r3 : List Cond := [Cond.code yX0_gatherDust cX0_gatherDust 2 none, Cond.fieldLink RX0 21 "DollCitadel$Doll" "open" "[Z", Cond.methodLink RX0 58 Lib.Math.min.name, Cond.static Lib.Math.min.name, Cond.code Lib.Math.min.name Lib.Math.min.code 2 (some .int)]
def wsX2_liveThrough : List Cond := .code yX2_liveThrough cX2_liveThrough 5 (some .int) :: ((wsX2_liveThrough_r1 ++ (wsX2_liveThrough_r2 ++ wsX2_liveThrough_r3)) ++ wsX20 ++ wsX00)
def wsX2_foresee_r1 : List Cond := [Cond.classLink RX2 59 "java/lang/IllegalArgumentException", Cond.initialized "java/lang/IllegalArgumentException", Cond.classLink RX2 94 "java/lang/IndexOutOfBoundsException", Cond.initialized "java/lang/IndexOutOfBoundsException", Cond.fieldLink RX2 11 "DollCitadel" "dolls" "[LDollCitadel$Doll;", Cond.fieldLink RX2 31 "DollCitadel" "trial" "LDollCitadel$Doll;", Cond.methodLink RX2 161 yX0_becomeLike, Cond.instanceMethod yX0_becomeLike, Cond.selects RX0 yX0_becomeLike yX0_becomeLike, Cond.initialized RX0, Cond.code yX0_becomeLike cX0_becomeLike 3 none, Cond.fieldLink RX0 9 "DollCitadel$Doll" "angles" "[I", Cond.fieldLink RX0 15 "DollCitadel$Doll" "wears" "[I", Cond.fieldLink RX0 18 "DollCitadel$Doll" "lacquers" "[I", Cond.fieldLink RX0 21 "DollCitadel$Doll" "open" "[Z", Cond.fieldLink RX0 25 "DollCitadel$Doll" "dusts" "[I", Cond.fieldLink RX0 28 "DollCitadel$Doll" "wigEaten" "I", Cond.fieldLink RX0 32 "DollCitadel$Doll" "weight" "I", Cond.fieldLink RX0 35 "DollCitadel$Doll" "pins" "I", Cond.fieldLink RX0 38 "DollCitadel$Doll" "posesTaken" "I", Cond.methodLink RX2 181 yX2_liveThrough, Cond.instanceMethod yX2_liveThrough, Cond.selects RX2 yX2_liveThrough yX2_liveThrough, Cond.initialized RX2]
def wsX2_foresee_r2 : List Cond := [Cond.code yX2_liveThrough cX2_liveThrough 5 (some .int), Cond.fieldLink RX2 42 "DollCitadel" "day" "I", Cond.fieldLink RX2 45 "DollCitadel" "moths" "I", Cond.methodLink RX2 214 yX0_liveOneDay, Cond.instanceMethod yX0_liveOneDay, Cond.selects RX0 yX0_liveOneDay yX0_liveOneDay, Cond.code yX0_liveOneDay cX0_liveOneDay 5 (some .int), Cond.methodLink RX0 77 yX0_tally, Cond.instanceMethod yX0_tally, Cond.selects RX0 yX0_tally yX0_tally, Cond.code yX0_tally cX0_tally 2 (some .int), Cond.methodLink RX0 64 yX0_brokenJoints, Cond.instanceMethod yX0_brokenJoints, Cond.selects RX0 yX0_brokenJoints yX0_brokenJoints, Cond.code yX0_brokenJoints cX0_brokenJoints 1 (some .int), Cond.methodLink RX0 61 yX0_jointsWornBy, Cond.instanceMethod yX0_jointsWornBy, Cond.selects RX0 yX0_jointsWornBy yX0_jointsWornBy, Cond.code yX0_jointsWornBy cX0_jointsWornBy 7 (some .int), Cond.methodLink RX0 68 yX0_eyesWithDust, Cond.instanceMethod yX0_eyesWithDust, Cond.selects RX0 yX0_eyesWithDust yX0_eyesWithDust, Cond.code yX0_eyesWithDust cX0_eyesWithDust 7 (some .int), Cond.methodLink RX0 80 yX0_eatWig]
def wsX2_foresee_r3 : List Cond := [Cond.instanceMethod yX0_eatWig, Cond.selects RX0 yX0_eatWig yX0_eatWig, Cond.code yX0_eatWig cX0_eatWig 2 none, Cond.methodLink RX0 84 yX0_loosenDress, Cond.instanceMethod yX0_loosenDress, Cond.selects RX0 yX0_loosenDress yX0_loosenDress, Cond.code yX0_loosenDress cX0_loosenDress 1 none, Cond.methodLink RX0 54 Lib.Math.max.name, Cond.static Lib.Math.max.name, Cond.initialized "java/lang/Math", Cond.code Lib.Math.max.name Lib.Math.max.code 2 (some .int), Cond.methodLink RX0 87 yX0_dryLacquer, Cond.instanceMethod yX0_dryLacquer, Cond.selects RX0 yX0_dryLacquer yX0_dryLacquer, Cond.code yX0_dryLacquer cX0_dryLacquer 2 none, Cond.methodLink RX0 90 yX0_gatherDust, Cond.instanceMethod yX0_gatherDust, Cond.selects RX0 yX0_gatherDust yX0_gatherDust, Cond.code yX0_gatherDust cX0_gatherDust 2 none, Cond.methodLink RX0 58 Lib.Math.min.name, Cond.static Lib.Math.min.name, Cond.code Lib.Math.min.name Lib.Math.min.code 2 (some .int), Cond.methodLink RX2 185 yX0_tally]
def wsX2_foresee : List Cond := .code yX2_foresee cX2_foresee 8 (some .int) :: ((wsX2_foresee_r1 ++ (wsX2_foresee_r2 ++ wsX2_foresee_r3)) ++ wsX20 ++ wsX00 ++ (vx_atS RX2 63 "java/lang/IllegalArgumentException" ["java/lang/RuntimeException", "java/lang/Exception"]).filter goodWord ++ (vx_atS RX2 98 "java/lang/IndexOutOfBoundsException" ["java/lang/RuntimeException", "java/lang/Exception"]).filter goodWord)
def wsX2_pass_r1 : List Cond := [Cond.classLink RX2 59 "java/lang/IllegalArgumentException", Cond.initialized "java/lang/IllegalArgumentException", Cond.fieldLink RX2 11 "DollCitadel" "dolls" "[LDollCitadel$Doll;", Cond.fieldLink RX2 42 "DollCitadel" "day" "I", Cond.methodLink RX2 181 yX2_liveThrough, Cond.instanceMethod yX2_liveThrough, Cond.selects RX2 yX2_liveThrough yX2_liveThrough, Cond.initialized RX2, Cond.code yX2_liveThrough cX2_liveThrough 5 (some .int), Cond.fieldLink RX2 45 "DollCitadel" "moths" "I", Cond.methodLink RX2 214 yX0_liveOneDay, Cond.instanceMethod yX0_liveOneDay, Cond.selects RX0 yX0_liveOneDay yX0_liveOneDay, Cond.initialized RX0, Cond.code yX0_liveOneDay cX0_liveOneDay 5 (some .int), Cond.methodLink RX0 77 yX0_tally, Cond.instanceMethod yX0_tally, Cond.selects RX0 yX0_tally yX0_tally, Cond.code yX0_tally cX0_tally 2 (some .int), Cond.fieldLink RX0 28 "DollCitadel$Doll" "wigEaten" "I", Cond.fieldLink RX0 32 "DollCitadel$Doll" "weight" "I", Cond.methodLink RX0 64 yX0_brokenJoints, Cond.instanceMethod yX0_brokenJoints, Cond.selects RX0 yX0_brokenJoints yX0_brokenJoints]
def wsX2_pass_r2 : List Cond := [Cond.code yX0_brokenJoints cX0_brokenJoints 1 (some .int), Cond.methodLink RX0 61 yX0_jointsWornBy, Cond.instanceMethod yX0_jointsWornBy, Cond.selects RX0 yX0_jointsWornBy yX0_jointsWornBy, Cond.code yX0_jointsWornBy cX0_jointsWornBy 7 (some .int), Cond.fieldLink RX0 15 "DollCitadel$Doll" "wears" "[I", Cond.methodLink RX0 68 yX0_eyesWithDust, Cond.instanceMethod yX0_eyesWithDust, Cond.selects RX0 yX0_eyesWithDust yX0_eyesWithDust, Cond.code yX0_eyesWithDust cX0_eyesWithDust 7 (some .int), Cond.fieldLink RX0 25 "DollCitadel$Doll" "dusts" "[I", Cond.methodLink RX0 80 yX0_eatWig, Cond.instanceMethod yX0_eatWig, Cond.selects RX0 yX0_eatWig yX0_eatWig, Cond.code yX0_eatWig cX0_eatWig 2 none, Cond.methodLink RX0 84 yX0_loosenDress, Cond.instanceMethod yX0_loosenDress, Cond.selects RX0 yX0_loosenDress yX0_loosenDress, Cond.code yX0_loosenDress cX0_loosenDress 1 none, Cond.fieldLink RX0 35 "DollCitadel$Doll" "pins" "I", Cond.methodLink RX0 54 Lib.Math.max.name, Cond.static Lib.Math.max.name, Cond.initialized "java/lang/Math", Cond.code Lib.Math.max.name Lib.Math.max.code 2 (some .int)]
def wsX2_pass_r3 : List Cond := [Cond.methodLink RX0 87 yX0_dryLacquer, Cond.instanceMethod yX0_dryLacquer, Cond.selects RX0 yX0_dryLacquer yX0_dryLacquer, Cond.code yX0_dryLacquer cX0_dryLacquer 2 none, Cond.fieldLink RX0 18 "DollCitadel$Doll" "lacquers" "[I", Cond.methodLink RX0 90 yX0_gatherDust, Cond.instanceMethod yX0_gatherDust, Cond.selects RX0 yX0_gatherDust yX0_gatherDust, Cond.code yX0_gatherDust cX0_gatherDust 2 none, Cond.fieldLink RX0 21 "DollCitadel$Doll" "open" "[Z", Cond.methodLink RX0 58 Lib.Math.min.name, Cond.static Lib.Math.min.name, Cond.code Lib.Math.min.name Lib.Math.min.code 2 (some .int)]
def wsX2_pass : List Cond := .code yX2_pass cX2_pass 7 (some .int) :: ((wsX2_pass_r1 ++ (wsX2_pass_r2 ++ wsX2_pass_r3)) ++ wsX20 ++ wsX00 ++ (vx_atS RX2 63 "java/lang/IllegalArgumentException" ["java/lang/RuntimeException", "java/lang/Exception"]).filter goodWord)
def wsX2_mean : List Cond := .code yX2_mean cX2_mean 6 (some .double) :: ([.fieldLink RX2 35 "DollCitadel" "dollCount" "I", .fieldLink RX2 11 "DollCitadel" "dolls" "[LDollCitadel$Doll;", .methodLink RX2 165 yX0_wearOfAllJoints, .instanceMethod yX0_wearOfAllJoints, .selects RX0 yX0_wearOfAllJoints yX0_wearOfAllJoints, .initialized RX0, .code yX0_wearOfAllJoints cX0_wearOfAllJoints 6 (some .int), .fieldLink RX0 15 "DollCitadel$Doll" "wears" "[I"] ++ wsX20 ++ wsX00)
def wsX2_digestJointsInto : List Cond := .code yX2_digestJointsInto cX2_digestJointsInto 8 (some .long) :: ([.constantLong RX2 190 (31), .methodLink RX2 206 yX2_joint, .instanceMethod yX2_joint, .selects RX2 yX2_joint yX2_joint, .initialized RX2, .code yX2_joint cX2_joint 5 (some .int), .classLink RX2 94 "java/lang/IndexOutOfBoundsException", .initialized "java/lang/IndexOutOfBoundsException", .fieldLink RX2 152 "DollCitadel$Doll" "angles" "[I", .fieldLink RX2 138 "DollCitadel$Doll" "wears" "[I", .fieldLink RX2 141 "DollCitadel$Doll" "lacquers" "[I", .methodLink RX2 69 yX2_knownDoll, .instanceMethod yX2_knownDoll, .selects RX2 yX2_knownDoll yX2_knownDoll, .code yX2_knownDoll cX2_knownDoll 3 (some (.object "DollCitadel$Doll")), .fieldLink RX2 11 "DollCitadel" "dolls" "[LDollCitadel$Doll;"] ++ wsX00 ++ wsX20 ++ (vx_atS RX2 98 "java/lang/IndexOutOfBoundsException" ["java/lang/RuntimeException", "java/lang/Exception"]).filter goodWord)
def wsX2_digest_r1 : List Cond := [Cond.constantLong RX2 188 (1063), Cond.constantLong RX2 190 (31), Cond.fieldLink RX2 17 "DollCitadel" "poses" "[LDollCitadel$Pose;", Cond.fieldLink RX2 35 "DollCitadel" "dollCount" "I", Cond.methodLink RX2 192 yX2_count, Cond.instanceMethod yX2_count, Cond.selects RX2 yX2_count yX2_count, Cond.initialized RX2, Cond.code yX2_count cX2_count 2 (some .int), Cond.classLink RX2 94 "java/lang/IndexOutOfBoundsException", Cond.initialized "java/lang/IndexOutOfBoundsException", Cond.fieldLink RX2 21 "DollCitadel" "store" "[I", Cond.fieldLink RX2 42 "DollCitadel" "day" "I", Cond.fieldLink RX2 39 "DollCitadel" "poseCount" "I", Cond.fieldLink RX2 45 "DollCitadel" "moths" "I", Cond.methodLink RX2 157 yX2_tallyOfAll, Cond.instanceMethod yX2_tallyOfAll, Cond.selects RX2 yX2_tallyOfAll yX2_tallyOfAll, Cond.code yX2_tallyOfAll cX2_tallyOfAll 7 (some .int), Cond.fieldLink RX2 11 "DollCitadel" "dolls" "[LDollCitadel$Doll;", Cond.methodLink RX2 185 yX0_tally, Cond.instanceMethod yX0_tally, Cond.selects RX0 yX0_tally yX0_tally, Cond.initialized RX0]
def wsX2_digest_r2 : List Cond := [Cond.code yX0_tally cX0_tally 2 (some .int), Cond.fieldLink RX0 28 "DollCitadel$Doll" "wigEaten" "I", Cond.fieldLink RX0 32 "DollCitadel$Doll" "weight" "I", Cond.methodLink RX0 64 yX0_brokenJoints, Cond.instanceMethod yX0_brokenJoints, Cond.selects RX0 yX0_brokenJoints yX0_brokenJoints, Cond.code yX0_brokenJoints cX0_brokenJoints 1 (some .int), Cond.methodLink RX0 61 yX0_jointsWornBy, Cond.instanceMethod yX0_jointsWornBy, Cond.selects RX0 yX0_jointsWornBy yX0_jointsWornBy, Cond.code yX0_jointsWornBy cX0_jointsWornBy 7 (some .int), Cond.fieldLink RX0 15 "DollCitadel$Doll" "wears" "[I", Cond.methodLink RX0 68 yX0_eyesWithDust, Cond.instanceMethod yX0_eyesWithDust, Cond.selects RX0 yX0_eyesWithDust yX0_eyesWithDust, Cond.code yX0_eyesWithDust cX0_eyesWithDust 7 (some .int), Cond.fieldLink RX0 25 "DollCitadel$Doll" "dusts" "[I", Cond.methodLink RX2 195 yX1_digestInto, Cond.instanceMethod yX1_digestInto, Cond.selects RX1 yX1_digestInto yX1_digestInto, Cond.initialized RX1, Cond.code yX1_digestInto cX1_digestInto 9 (some .long), Cond.fieldLink RX1 9 "DollCitadel$Pose" "angles" "[I", Cond.constantLong RX1 15 (31)]
def wsX2_digest_r3 : List Cond := [Cond.methodLink RX2 199 yX2_doll, Cond.instanceMethod yX2_doll, Cond.selects RX2 yX2_doll yX2_doll, Cond.code yX2_doll cX2_doll 4 (some .int), Cond.fieldLink RX2 104 "DollCitadel$Doll" "open" "[Z", Cond.fieldLink RX2 99 "DollCitadel$Doll" "dusts" "[I", Cond.fieldLink RX2 147 "DollCitadel$Doll" "wigEaten" "I", Cond.fieldLink RX2 115 "DollCitadel$Doll" "weight" "I", Cond.fieldLink RX2 112 "DollCitadel$Doll" "pins" "I", Cond.fieldLink RX2 91 "DollCitadel$Doll" "posesTaken" "I", Cond.methodLink RX2 69 yX2_knownDoll, Cond.instanceMethod yX2_knownDoll, Cond.selects RX2 yX2_knownDoll yX2_knownDoll, Cond.code yX2_knownDoll cX2_knownDoll 3 (some (.object "DollCitadel$Doll")), Cond.methodLink RX2 202 yX2_digestJointsInto, Cond.instanceMethod yX2_digestJointsInto, Cond.selects RX2 yX2_digestJointsInto yX2_digestJointsInto, Cond.code yX2_digestJointsInto cX2_digestJointsInto 8 (some .long), Cond.methodLink RX2 206 yX2_joint, Cond.instanceMethod yX2_joint, Cond.selects RX2 yX2_joint yX2_joint, Cond.code yX2_joint cX2_joint 5 (some .int), Cond.fieldLink RX2 152 "DollCitadel$Doll" "angles" "[I", Cond.fieldLink RX2 138 "DollCitadel$Doll" "wears" "[I"]
def wsX2_digest_r4 : List Cond := [Cond.fieldLink RX2 141 "DollCitadel$Doll" "lacquers" "[I"]
def wsX2_digest : List Cond := .code yX2_digest cX2_digest 7 (some .long) :: ((wsX2_digest_r1 ++ (wsX2_digest_r2 ++ (wsX2_digest_r3 ++ wsX2_digest_r4))) ++ wsX20 ++ wsX00 ++ wsX10 ++ (vx_atS RX2 98 "java/lang/IndexOutOfBoundsException" ["java/lang/RuntimeException", "java/lang/Exception"]).filter goodWord)
def wsX3_init : List Cond := .code yX3_init cX3_init 1 none :: ([.methodLink RX3 1 objectInit, .instanceMethod objectInit, .code objectInit ⟨#[0xb1]⟩ 1 none, .fieldLink RX3 7 "DollCitadelModel" "moths" "I", .arrayClass .int, .fieldLink RX3 13 "DollCitadelModel" "limbs" "[I", .fieldLink RX3 17 "DollCitadelModel" "rooms" "[I", .fieldLink RX3 20 "DollCitadelModel" "told" "[I", .fieldLink RX3 23 "DollCitadelModel" "store" "[I", .fieldLink RX3 26 "DollCitadelModel" "day" "[I"] ++ wsX30)
def wsX3_thrown : List Cond := .code yX3_thrown cX3_thrown 1 (some .int) :: ([.fieldLink RX3 29 "DollCitadelModel" "thrown" "I"] ++ wsX30)
def wsX3_fail : List Cond := .code yX3_fail cX3_fail 2 (some .int) :: ([.fieldLink RX3 29 "DollCitadelModel" "thrown" "I"] ++ wsX30)
def wsX3_isIn : List Cond := .code yX3_isIn cX3_isIn 3 (some .boolean) :: ([])
def wsX3_isDoll : List Cond := .code yX3_isDoll cX3_isDoll 2 (some .boolean) :: ([.fieldLink RX3 32 "DollCitadelModel" "dolls" "I", .methodLink RX3 35 yX3_isIn, .static yX3_isIn, .initialized RX3, .code yX3_isIn cX3_isIn 3 (some .boolean)] ++ wsX30)
def wsX3_isPose : List Cond := .code yX3_isPose cX3_isPose 2 (some .boolean) :: ([.fieldLink RX3 39 "DollCitadelModel" "poses" "I", .methodLink RX3 35 yX3_isIn, .static yX3_isIn, .initialized RX3, .code yX3_isIn cX3_isIn 3 (some .boolean)] ++ wsX30)
def wsX3_at : List Cond := .code yX3_at cX3_at 3 (some .int) :: ([])
def wsX3_li : List Cond := .code yX3_li cX3_li 4 (some .int) :: ([.fieldLink RX3 13 "DollCitadelModel" "limbs" "[I", .methodLink RX3 42 yX3_at, .static yX3_at, .initialized RX3, .code yX3_at cX3_at 3 (some .int)] ++ wsX30)
def wsX3_ro : List Cond := .code yX3_ro cX3_ro 3 (some .int) :: ([.fieldLink RX3 17 "DollCitadelModel" "rooms" "[I"] ++ wsX30)
def wsX3_put : List Cond := .code yX3_put cX3_put 4 none :: ([.fieldLink RX3 17 "DollCitadelModel" "rooms" "[I"] ++ wsX30)
def wsX3_make : List Cond := .code yX3_make cX3_make 2 (some .int) :: ([.fieldLink RX3 29 "DollCitadelModel" "thrown" "I", .fieldLink RX3 32 "DollCitadelModel" "dolls" "I", .fieldLink RX3 13 "DollCitadelModel" "limbs" "[I", .arrayClass .int, .fieldLink RX3 17 "DollCitadelModel" "rooms" "[I", .methodLink RX3 50 arraycopyName, .native arraycopyName, .static arraycopyName, .initialized "java/lang/System", .methodLink RX3 46 yX3_fail, .instanceMethod yX3_fail, .selects RX3 yX3_fail yX3_fail, .initialized RX3, .code yX3_fail cX3_fail 2 (some .int), .methodLink RX3 42 yX3_at, .static yX3_at, .code yX3_at cX3_at 3 (some .int)] ++ wsX30)
def wsX3_pose : List Cond := .code yX3_pose cX3_pose 12 (some .int) :: ([.fieldLink RX3 29 "DollCitadelModel" "thrown" "I", .arrayClass .int, .fieldLink RX3 39 "DollCitadelModel" "poses" "I", .fieldLink RX3 20 "DollCitadelModel" "told" "[I", .methodLink RX3 50 arraycopyName, .native arraycopyName, .static arraycopyName, .initialized "java/lang/System", .methodLink RX3 35 yX3_isIn, .static yX3_isIn, .initialized RX3, .code yX3_isIn cX3_isIn 3 (some .boolean), .methodLink RX3 46 yX3_fail, .instanceMethod yX3_fail, .selects RX3 yX3_fail yX3_fail, .code yX3_fail cX3_fail 2 (some .int)] ++ wsX30)
def wsX3_isBroken : List Cond := .code yX3_isBroken cX3_isBroken 3 (some .boolean) :: ([.methodLink RX3 56 yX3_li, .instanceMethod yX3_li, .selects RX3 yX3_li yX3_li, .initialized RX3, .code yX3_li cX3_li 4 (some .int), .fieldLink RX3 13 "DollCitadelModel" "limbs" "[I", .methodLink RX3 42 yX3_at, .static yX3_at, .code yX3_at cX3_at 3 (some .int)] ++ wsX30)
def wsX3_turn : List Cond := .code yX3_turn cX3_turn 6 (some .boolean) :: ([.methodLink RX3 59 Lib.Math.abs.name, .static Lib.Math.abs.name, .initialized "java/lang/Math", .code Lib.Math.abs.name Lib.Math.abs.code 1 (some .int), .fieldLink RX3 13 "DollCitadelModel" "limbs" "[I", .methodLink RX3 64 Lib.Math.min.name, .static Lib.Math.min.name, .code Lib.Math.min.name Lib.Math.min.code 2 (some .int), .methodLink RX3 56 yX3_li, .instanceMethod yX3_li, .selects RX3 yX3_li yX3_li, .initialized RX3, .code yX3_li cX3_li 4 (some .int), .methodLink RX3 42 yX3_at, .static yX3_at, .code yX3_at cX3_at 3 (some .int), .methodLink RX3 68 yX3_isBroken, .instanceMethod yX3_isBroken, .selects RX3 yX3_isBroken yX3_isBroken, .code yX3_isBroken cX3_isBroken 3 (some .boolean)] ++ wsX30)
def wsX3_can : List Cond := .code yX3_can cX3_can 4 (some .boolean) :: ([.fieldLink RX3 20 "DollCitadelModel" "told" "[I", .methodLink RX3 68 yX3_isBroken, .instanceMethod yX3_isBroken, .selects RX3 yX3_isBroken yX3_isBroken, .initialized RX3, .code yX3_isBroken cX3_isBroken 3 (some .boolean), .methodLink RX3 56 yX3_li, .instanceMethod yX3_li, .selects RX3 yX3_li yX3_li, .code yX3_li cX3_li 4 (some .int), .fieldLink RX3 13 "DollCitadelModel" "limbs" "[I", .methodLink RX3 42 yX3_at, .static yX3_at, .code yX3_at cX3_at 3 (some .int)] ++ wsX30)
def wsX3_turnAll_r1 : List Cond := [Cond.fieldLink RX3 20 "DollCitadelModel" "told" "[I", Cond.methodLink RX3 72 yX3_turn, Cond.instanceMethod yX3_turn, Cond.selects RX3 yX3_turn yX3_turn, Cond.initialized RX3, Cond.code yX3_turn cX3_turn 6 (some .boolean), Cond.methodLink RX3 59 Lib.Math.abs.name, Cond.static Lib.Math.abs.name, Cond.initialized "java/lang/Math", Cond.code Lib.Math.abs.name Lib.Math.abs.code 1 (some .int), Cond.fieldLink RX3 13 "DollCitadelModel" "limbs" "[I", Cond.methodLink RX3 64 Lib.Math.min.name, Cond.static Lib.Math.min.name, Cond.code Lib.Math.min.name Lib.Math.min.code 2 (some .int), Cond.methodLink RX3 56 yX3_li, Cond.instanceMethod yX3_li, Cond.selects RX3 yX3_li yX3_li, Cond.code yX3_li cX3_li 4 (some .int), Cond.methodLink RX3 42 yX3_at, Cond.static yX3_at, Cond.code yX3_at cX3_at 3 (some .int), Cond.methodLink RX3 68 yX3_isBroken, Cond.instanceMethod yX3_isBroken, Cond.selects RX3 yX3_isBroken yX3_isBroken]
def wsX3_turnAll_r2 : List Cond := [Cond.code yX3_isBroken cX3_isBroken 3 (some .boolean)]
def wsX3_turnAll : List Cond := .code yX3_turnAll cX3_turnAll 5 (some .int) :: ((wsX3_turnAll_r1 ++ wsX3_turnAll_r2) ++ wsX30)
def wsX3_take_r1 : List Cond := [Cond.fieldLink RX3 29 "DollCitadelModel" "thrown" "I", Cond.methodLink RX3 75 yX3_isDoll, Cond.instanceMethod yX3_isDoll, Cond.selects RX3 yX3_isDoll yX3_isDoll, Cond.initialized RX3, Cond.code yX3_isDoll cX3_isDoll 2 (some .boolean), Cond.fieldLink RX3 32 "DollCitadelModel" "dolls" "I", Cond.methodLink RX3 35 yX3_isIn, Cond.static yX3_isIn, Cond.code yX3_isIn cX3_isIn 3 (some .boolean), Cond.methodLink RX3 79 yX3_isPose, Cond.instanceMethod yX3_isPose, Cond.selects RX3 yX3_isPose yX3_isPose, Cond.code yX3_isPose cX3_isPose 2 (some .boolean), Cond.fieldLink RX3 39 "DollCitadelModel" "poses" "I", Cond.methodLink RX3 46 yX3_fail, Cond.instanceMethod yX3_fail, Cond.selects RX3 yX3_fail yX3_fail, Cond.code yX3_fail cX3_fail 2 (some .int), Cond.methodLink RX3 82 yX3_can, Cond.instanceMethod yX3_can, Cond.selects RX3 yX3_can yX3_can, Cond.code yX3_can cX3_can 4 (some .boolean), Cond.fieldLink RX3 20 "DollCitadelModel" "told" "[I"]
def wsX3_take_r2 : List Cond := [Cond.methodLink RX3 68 yX3_isBroken, Cond.instanceMethod yX3_isBroken, Cond.selects RX3 yX3_isBroken yX3_isBroken, Cond.code yX3_isBroken cX3_isBroken 3 (some .boolean), Cond.methodLink RX3 56 yX3_li, Cond.instanceMethod yX3_li, Cond.selects RX3 yX3_li yX3_li, Cond.code yX3_li cX3_li 4 (some .int), Cond.fieldLink RX3 13 "DollCitadelModel" "limbs" "[I", Cond.methodLink RX3 42 yX3_at, Cond.static yX3_at, Cond.code yX3_at cX3_at 3 (some .int), Cond.methodLink RX3 85 yX3_ro, Cond.instanceMethod yX3_ro, Cond.selects RX3 yX3_ro yX3_ro, Cond.code yX3_ro cX3_ro 3 (some .int), Cond.fieldLink RX3 17 "DollCitadelModel" "rooms" "[I", Cond.methodLink RX3 88 yX3_put, Cond.instanceMethod yX3_put, Cond.selects RX3 yX3_put yX3_put, Cond.code yX3_put cX3_put 4 none, Cond.methodLink RX3 92 yX3_turnAll, Cond.instanceMethod yX3_turnAll, Cond.selects RX3 yX3_turnAll yX3_turnAll]
def wsX3_take_r3 : List Cond := [Cond.code yX3_turnAll cX3_turnAll 5 (some .int), Cond.methodLink RX3 72 yX3_turn, Cond.instanceMethod yX3_turn, Cond.selects RX3 yX3_turn yX3_turn, Cond.code yX3_turn cX3_turn 6 (some .boolean), Cond.methodLink RX3 59 Lib.Math.abs.name, Cond.static Lib.Math.abs.name, Cond.initialized "java/lang/Math", Cond.code Lib.Math.abs.name Lib.Math.abs.code 1 (some .int), Cond.methodLink RX3 64 Lib.Math.min.name, Cond.static Lib.Math.min.name, Cond.code Lib.Math.min.name Lib.Math.min.code 2 (some .int)]
def wsX3_take : List Cond := .code yX3_take cX3_take 3 (some .int) :: ((wsX3_take_r1 ++ (wsX3_take_r2 ++ wsX3_take_r3)) ++ wsX30)
def wsX3_blink : List Cond := .code yX3_blink cX3_blink 3 (some .boolean) :: ([.fieldLink RX3 29 "DollCitadelModel" "thrown" "I", .methodLink RX3 75 yX3_isDoll, .instanceMethod yX3_isDoll, .selects RX3 yX3_isDoll yX3_isDoll, .initialized RX3, .code yX3_isDoll cX3_isDoll 2 (some .boolean), .fieldLink RX3 32 "DollCitadelModel" "dolls" "I", .methodLink RX3 35 yX3_isIn, .static yX3_isIn, .code yX3_isIn cX3_isIn 3 (some .boolean), .methodLink RX3 85 yX3_ro, .instanceMethod yX3_ro, .selects RX3 yX3_ro yX3_ro, .code yX3_ro cX3_ro 3 (some .int), .fieldLink RX3 17 "DollCitadelModel" "rooms" "[I", .methodLink RX3 88 yX3_put, .instanceMethod yX3_put, .selects RX3 yX3_put yX3_put, .code yX3_put cX3_put 4 none] ++ wsX30)
def wsX3_dress_r1 : List Cond := [Cond.fieldLink RX3 29 "DollCitadelModel" "thrown" "I", Cond.fieldLink RX3 23 "DollCitadelModel" "store" "[I", Cond.methodLink RX3 64 Lib.Math.min.name, Cond.static Lib.Math.min.name, Cond.initialized "java/lang/Math", Cond.code Lib.Math.min.name Lib.Math.min.code 2 (some .int), Cond.methodLink RX3 75 yX3_isDoll, Cond.instanceMethod yX3_isDoll, Cond.selects RX3 yX3_isDoll yX3_isDoll, Cond.initialized RX3, Cond.code yX3_isDoll cX3_isDoll 2 (some .boolean), Cond.fieldLink RX3 32 "DollCitadelModel" "dolls" "I", Cond.methodLink RX3 35 yX3_isIn, Cond.static yX3_isIn, Cond.code yX3_isIn cX3_isIn 3 (some .boolean), Cond.methodLink RX3 46 yX3_fail, Cond.instanceMethod yX3_fail, Cond.selects RX3 yX3_fail yX3_fail, Cond.code yX3_fail cX3_fail 2 (some .int), Cond.methodLink RX3 85 yX3_ro, Cond.instanceMethod yX3_ro, Cond.selects RX3 yX3_ro yX3_ro, Cond.code yX3_ro cX3_ro 3 (some .int), Cond.fieldLink RX3 17 "DollCitadelModel" "rooms" "[I"]
def wsX3_dress_r2 : List Cond := [Cond.methodLink RX3 88 yX3_put, Cond.instanceMethod yX3_put, Cond.selects RX3 yX3_put yX3_put, Cond.code yX3_put cX3_put 4 none]
def wsX3_dress : List Cond := .code yX3_dress cX3_dress 4 (some .int) :: ((wsX3_dress_r1 ++ wsX3_dress_r2) ++ wsX30)
def wsX3_bring : List Cond := .code yX3_bring cX3_bring 3 (some .int) :: ([.fieldLink RX3 29 "DollCitadelModel" "thrown" "I", .fieldLink RX3 23 "DollCitadelModel" "store" "[I", .methodLink RX3 64 Lib.Math.min.name, .static Lib.Math.min.name, .initialized "java/lang/Math", .code Lib.Math.min.name Lib.Math.min.code 2 (some .int), .methodLink RX3 35 yX3_isIn, .static yX3_isIn, .initialized RX3, .code yX3_isIn cX3_isIn 3 (some .boolean), .methodLink RX3 46 yX3_fail, .instanceMethod yX3_fail, .selects RX3 yX3_fail yX3_fail, .code yX3_fail cX3_fail 2 (some .int)] ++ wsX30)
def wsX3_setMoths : List Cond := .code yX3_setMoths cX3_setMoths 3 (some .int) :: ([.fieldLink RX3 29 "DollCitadelModel" "thrown" "I", .fieldLink RX3 7 "DollCitadelModel" "moths" "I", .methodLink RX3 35 yX3_isIn, .static yX3_isIn, .initialized RX3, .code yX3_isIn cX3_isIn 3 (some .boolean), .methodLink RX3 46 yX3_fail, .instanceMethod yX3_fail, .selects RX3 yX3_fail yX3_fail, .code yX3_fail cX3_fail 2 (some .int)] ++ wsX30)
def wsX3_mend_r1 : List Cond := [Cond.fieldLink RX3 29 "DollCitadelModel" "thrown" "I", Cond.fieldLink RX3 23 "DollCitadelModel" "store" "[I", Cond.fieldLink RX3 13 "DollCitadelModel" "limbs" "[I", Cond.methodLink RX3 75 yX3_isDoll, Cond.instanceMethod yX3_isDoll, Cond.selects RX3 yX3_isDoll yX3_isDoll, Cond.initialized RX3, Cond.code yX3_isDoll cX3_isDoll 2 (some .boolean), Cond.fieldLink RX3 32 "DollCitadelModel" "dolls" "I", Cond.methodLink RX3 35 yX3_isIn, Cond.static yX3_isIn, Cond.code yX3_isIn cX3_isIn 3 (some .boolean), Cond.methodLink RX3 46 yX3_fail, Cond.instanceMethod yX3_fail, Cond.selects RX3 yX3_fail yX3_fail, Cond.code yX3_fail cX3_fail 2 (some .int), Cond.methodLink RX3 85 yX3_ro, Cond.instanceMethod yX3_ro, Cond.selects RX3 yX3_ro yX3_ro, Cond.code yX3_ro cX3_ro 3 (some .int), Cond.fieldLink RX3 17 "DollCitadelModel" "rooms" "[I", Cond.methodLink RX3 42 yX3_at, Cond.static yX3_at, Cond.code yX3_at cX3_at 3 (some .int)]
def wsX3_mend_r2 : List Cond := [Cond.methodLink RX3 88 yX3_put, Cond.instanceMethod yX3_put, Cond.selects RX3 yX3_put yX3_put, Cond.code yX3_put cX3_put 4 none]
def wsX3_mend : List Cond := .code yX3_mend cX3_mend 4 (some .int) :: ((wsX3_mend_r1 ++ wsX3_mend_r2) ++ wsX30)
def wsX3_jointTold : List Cond := .code yX3_jointTold cX3_jointTold 4 (some .int) :: ([.methodLink RX3 56 yX3_li, .instanceMethod yX3_li, .selects RX3 yX3_li yX3_li, .initialized RX3, .code yX3_li cX3_li 4 (some .int), .fieldLink RX3 13 "DollCitadelModel" "limbs" "[I", .methodLink RX3 42 yX3_at, .static yX3_at, .code yX3_at cX3_at 3 (some .int), .methodLink RX3 68 yX3_isBroken, .instanceMethod yX3_isBroken, .selects RX3 yX3_isBroken yX3_isBroken, .code yX3_isBroken cX3_isBroken 3 (some .boolean)] ++ wsX30)
def wsX3_joint_r1 : List Cond := [Cond.fieldLink RX3 29 "DollCitadelModel" "thrown" "I", Cond.methodLink RX3 75 yX3_isDoll, Cond.instanceMethod yX3_isDoll, Cond.selects RX3 yX3_isDoll yX3_isDoll, Cond.initialized RX3, Cond.code yX3_isDoll cX3_isDoll 2 (some .boolean), Cond.fieldLink RX3 32 "DollCitadelModel" "dolls" "I", Cond.methodLink RX3 35 yX3_isIn, Cond.static yX3_isIn, Cond.code yX3_isIn cX3_isIn 3 (some .boolean), Cond.methodLink RX3 95 yX3_jointTold, Cond.instanceMethod yX3_jointTold, Cond.selects RX3 yX3_jointTold yX3_jointTold, Cond.code yX3_jointTold cX3_jointTold 4 (some .int), Cond.methodLink RX3 56 yX3_li, Cond.instanceMethod yX3_li, Cond.selects RX3 yX3_li yX3_li, Cond.code yX3_li cX3_li 4 (some .int), Cond.fieldLink RX3 13 "DollCitadelModel" "limbs" "[I", Cond.methodLink RX3 42 yX3_at, Cond.static yX3_at, Cond.code yX3_at cX3_at 3 (some .int), Cond.methodLink RX3 68 yX3_isBroken, Cond.instanceMethod yX3_isBroken]
def wsX3_joint_r2 : List Cond := [Cond.selects RX3 yX3_isBroken yX3_isBroken, Cond.code yX3_isBroken cX3_isBroken 3 (some .boolean), Cond.methodLink RX3 46 yX3_fail, Cond.instanceMethod yX3_fail, Cond.selects RX3 yX3_fail yX3_fail, Cond.code yX3_fail cX3_fail 2 (some .int)]
def wsX3_joint : List Cond := .code yX3_joint cX3_joint 4 (some .int) :: ((wsX3_joint_r1 ++ wsX3_joint_r2) ++ wsX30)
def wsX3_doll : List Cond := .code yX3_doll cX3_doll 3 (some .int) :: ([.fieldLink RX3 29 "DollCitadelModel" "thrown" "I", .methodLink RX3 75 yX3_isDoll, .instanceMethod yX3_isDoll, .selects RX3 yX3_isDoll yX3_isDoll, .initialized RX3, .code yX3_isDoll cX3_isDoll 2 (some .boolean), .fieldLink RX3 32 "DollCitadelModel" "dolls" "I", .methodLink RX3 35 yX3_isIn, .static yX3_isIn, .code yX3_isIn cX3_isIn 3 (some .boolean), .methodLink RX3 85 yX3_ro, .instanceMethod yX3_ro, .selects RX3 yX3_ro yX3_ro, .code yX3_ro cX3_ro 3 (some .int), .fieldLink RX3 17 "DollCitadelModel" "rooms" "[I", .methodLink RX3 46 yX3_fail, .instanceMethod yX3_fail, .selects RX3 yX3_fail yX3_fail, .code yX3_fail cX3_fail 2 (some .int)] ++ wsX30)
def wsX3_counted_r1 : List Cond := [Cond.fieldLink RX3 23 "DollCitadelModel" "store" "[I", Cond.fieldLink RX3 26 "DollCitadelModel" "day" "[I", Cond.fieldLink RX3 32 "DollCitadelModel" "dolls" "I", Cond.fieldLink RX3 39 "DollCitadelModel" "poses" "I", Cond.fieldLink RX3 7 "DollCitadelModel" "moths" "I", Cond.methodLink RX3 95 yX3_jointTold, Cond.instanceMethod yX3_jointTold, Cond.selects RX3 yX3_jointTold yX3_jointTold, Cond.initialized RX3, Cond.code yX3_jointTold cX3_jointTold 4 (some .int), Cond.methodLink RX3 56 yX3_li, Cond.instanceMethod yX3_li, Cond.selects RX3 yX3_li yX3_li, Cond.code yX3_li cX3_li 4 (some .int), Cond.fieldLink RX3 13 "DollCitadelModel" "limbs" "[I", Cond.methodLink RX3 42 yX3_at, Cond.static yX3_at, Cond.code yX3_at cX3_at 3 (some .int), Cond.methodLink RX3 68 yX3_isBroken, Cond.instanceMethod yX3_isBroken, Cond.selects RX3 yX3_isBroken yX3_isBroken, Cond.code yX3_isBroken cX3_isBroken 3 (some .boolean), Cond.methodLink RX3 85 yX3_ro, Cond.instanceMethod yX3_ro]
def wsX3_counted_r2 : List Cond := [Cond.selects RX3 yX3_ro yX3_ro, Cond.code yX3_ro cX3_ro 3 (some .int), Cond.fieldLink RX3 17 "DollCitadelModel" "rooms" "[I"]
def wsX3_counted : List Cond := .code yX3_counted cX3_counted 5 (some .int) :: ((wsX3_counted_r1 ++ wsX3_counted_r2) ++ wsX30)
def wsX3_count_r1 : List Cond := [Cond.fieldLink RX3 29 "DollCitadelModel" "thrown" "I", Cond.methodLink RX3 35 yX3_isIn, Cond.static yX3_isIn, Cond.initialized RX3, Cond.code yX3_isIn cX3_isIn 3 (some .boolean), Cond.methodLink RX3 98 yX3_counted, Cond.instanceMethod yX3_counted, Cond.selects RX3 yX3_counted yX3_counted, Cond.code yX3_counted cX3_counted 5 (some .int), Cond.fieldLink RX3 23 "DollCitadelModel" "store" "[I", Cond.fieldLink RX3 26 "DollCitadelModel" "day" "[I", Cond.fieldLink RX3 32 "DollCitadelModel" "dolls" "I", Cond.fieldLink RX3 39 "DollCitadelModel" "poses" "I", Cond.fieldLink RX3 7 "DollCitadelModel" "moths" "I", Cond.methodLink RX3 95 yX3_jointTold, Cond.instanceMethod yX3_jointTold, Cond.selects RX3 yX3_jointTold yX3_jointTold, Cond.code yX3_jointTold cX3_jointTold 4 (some .int), Cond.methodLink RX3 56 yX3_li, Cond.instanceMethod yX3_li, Cond.selects RX3 yX3_li yX3_li, Cond.code yX3_li cX3_li 4 (some .int), Cond.fieldLink RX3 13 "DollCitadelModel" "limbs" "[I", Cond.methodLink RX3 42 yX3_at]
def wsX3_count_r2 : List Cond := [Cond.static yX3_at, Cond.code yX3_at cX3_at 3 (some .int), Cond.methodLink RX3 68 yX3_isBroken, Cond.instanceMethod yX3_isBroken, Cond.selects RX3 yX3_isBroken yX3_isBroken, Cond.code yX3_isBroken cX3_isBroken 3 (some .boolean), Cond.methodLink RX3 85 yX3_ro, Cond.instanceMethod yX3_ro, Cond.selects RX3 yX3_ro yX3_ro, Cond.code yX3_ro cX3_ro 3 (some .int), Cond.fieldLink RX3 17 "DollCitadelModel" "rooms" "[I", Cond.methodLink RX3 46 yX3_fail, Cond.instanceMethod yX3_fail, Cond.selects RX3 yX3_fail yX3_fail, Cond.code yX3_fail cX3_fail 2 (some .int)]
def wsX3_count : List Cond := .code yX3_count cX3_count 2 (some .int) :: ((wsX3_count_r1 ++ wsX3_count_r2) ++ wsX30)
def wsX3_kept : List Cond := .code yX3_kept cX3_kept 1 (some (.array (.array .int))) :: ([.classLink RX3 101 "[I", .fieldLink RX3 13 "DollCitadelModel" "limbs" "[I", .methodLink RX3 102 ⟨"[I", "clone", "()Ljava/lang/Object;"⟩, .sameMethod "[I" "java/lang/Object" "clone" "()Ljava/lang/Object;", .native ⟨"java/lang/Object", "clone", "()Ljava/lang/Object;"⟩, .instanceMethod ⟨"java/lang/Object", "clone", "()Ljava/lang/Object;"⟩, .selects "[I" ⟨"[I", "clone", "()Ljava/lang/Object;"⟩ ⟨"java/lang/Object", "clone", "()Ljava/lang/Object;"⟩, .fieldLink RX3 17 "DollCitadelModel" "rooms" "[I", .fieldLink RX3 26 "DollCitadelModel" "day" "[I"] ++ wsX30)
def wsX3_bringBack : List Cond := .code yX3_bringBack cX3_bringBack 2 none :: ([.fieldLink RX3 13 "DollCitadelModel" "limbs" "[I", .methodLink RX3 50 arraycopyName, .native arraycopyName, .static arraycopyName, .initialized "java/lang/System", .fieldLink RX3 17 "DollCitadelModel" "rooms" "[I", .fieldLink RX3 26 "DollCitadelModel" "day" "[I"] ++ wsX30)
def wsX3_wearOf : List Cond := .code yX3_wearOf cX3_wearOf 4 (some .int) :: ([.methodLink RX3 56 yX3_li, .instanceMethod yX3_li, .selects RX3 yX3_li yX3_li, .initialized RX3, .code yX3_li cX3_li 4 (some .int), .fieldLink RX3 13 "DollCitadelModel" "limbs" "[I", .methodLink RX3 42 yX3_at, .static yX3_at, .code yX3_at cX3_at 3 (some .int)] ++ wsX30)
def wsX3_costs_r1 : List Cond := [Cond.fieldLink RX3 29 "DollCitadelModel" "thrown" "I", Cond.methodLink RX3 75 yX3_isDoll, Cond.instanceMethod yX3_isDoll, Cond.selects RX3 yX3_isDoll yX3_isDoll, Cond.initialized RX3, Cond.code yX3_isDoll cX3_isDoll 2 (some .boolean), Cond.fieldLink RX3 32 "DollCitadelModel" "dolls" "I", Cond.methodLink RX3 35 yX3_isIn, Cond.static yX3_isIn, Cond.code yX3_isIn cX3_isIn 3 (some .boolean), Cond.methodLink RX3 79 yX3_isPose, Cond.instanceMethod yX3_isPose, Cond.selects RX3 yX3_isPose yX3_isPose, Cond.code yX3_isPose cX3_isPose 2 (some .boolean), Cond.fieldLink RX3 39 "DollCitadelModel" "poses" "I", Cond.methodLink RX3 46 yX3_fail, Cond.instanceMethod yX3_fail, Cond.selects RX3 yX3_fail yX3_fail, Cond.code yX3_fail cX3_fail 2 (some .int), Cond.methodLink RX3 82 yX3_can, Cond.instanceMethod yX3_can, Cond.selects RX3 yX3_can yX3_can, Cond.code yX3_can cX3_can 4 (some .boolean), Cond.fieldLink RX3 20 "DollCitadelModel" "told" "[I"]
def wsX3_costs_r2 : List Cond := [Cond.methodLink RX3 68 yX3_isBroken, Cond.instanceMethod yX3_isBroken, Cond.selects RX3 yX3_isBroken yX3_isBroken, Cond.code yX3_isBroken cX3_isBroken 3 (some .boolean), Cond.methodLink RX3 56 yX3_li, Cond.instanceMethod yX3_li, Cond.selects RX3 yX3_li yX3_li, Cond.code yX3_li cX3_li 4 (some .int), Cond.fieldLink RX3 13 "DollCitadelModel" "limbs" "[I", Cond.methodLink RX3 42 yX3_at, Cond.static yX3_at, Cond.code yX3_at cX3_at 3 (some .int), Cond.methodLink RX3 106 yX3_kept, Cond.instanceMethod yX3_kept, Cond.selects RX3 yX3_kept yX3_kept, Cond.code yX3_kept cX3_kept 1 (some (.array (.array .int))), Cond.classLink RX3 101 "[I", Cond.methodLink RX3 102 ⟨"[I", "clone", "()Ljava/lang/Object;"⟩, Cond.sameMethod "[I" "java/lang/Object" "clone" "()Ljava/lang/Object;", Cond.native ⟨"java/lang/Object", "clone", "()Ljava/lang/Object;"⟩, Cond.instanceMethod ⟨"java/lang/Object", "clone", "()Ljava/lang/Object;"⟩, Cond.selects "[I" ⟨"[I", "clone", "()Ljava/lang/Object;"⟩ ⟨"java/lang/Object", "clone", "()Ljava/lang/Object;"⟩, Cond.fieldLink RX3 17 "DollCitadelModel" "rooms" "[I", Cond.fieldLink RX3 26 "DollCitadelModel" "day" "[I"]
def wsX3_costs_r3 : List Cond := [Cond.methodLink RX3 110 yX3_wearOf, Cond.instanceMethod yX3_wearOf, Cond.selects RX3 yX3_wearOf yX3_wearOf, Cond.code yX3_wearOf cX3_wearOf 4 (some .int), Cond.methodLink RX3 92 yX3_turnAll, Cond.instanceMethod yX3_turnAll, Cond.selects RX3 yX3_turnAll yX3_turnAll, Cond.code yX3_turnAll cX3_turnAll 5 (some .int), Cond.methodLink RX3 72 yX3_turn, Cond.instanceMethod yX3_turn, Cond.selects RX3 yX3_turn yX3_turn, Cond.code yX3_turn cX3_turn 6 (some .boolean), Cond.methodLink RX3 59 Lib.Math.abs.name, Cond.static Lib.Math.abs.name, Cond.initialized "java/lang/Math", Cond.code Lib.Math.abs.name Lib.Math.abs.code 1 (some .int), Cond.methodLink RX3 64 Lib.Math.min.name, Cond.static Lib.Math.min.name, Cond.code Lib.Math.min.name Lib.Math.min.code 2 (some .int), Cond.methodLink RX3 113 yX3_bringBack, Cond.instanceMethod yX3_bringBack, Cond.selects RX3 yX3_bringBack yX3_bringBack, Cond.code yX3_bringBack cX3_bringBack 2 none, Cond.methodLink RX3 50 arraycopyName]
def wsX3_costs_r4 : List Cond := [Cond.native arraycopyName, Cond.static arraycopyName, Cond.initialized "java/lang/System"]
def wsX3_costs : List Cond := .code yX3_costs cX3_costs 6 (some .int) :: ((wsX3_costs_r1 ++ (wsX3_costs_r2 ++ (wsX3_costs_r3 ++ wsX3_costs_r4))) ++ wsX30)
def wsX3_often_r1 : List Cond := [Cond.fieldLink RX3 29 "DollCitadelModel" "thrown" "I", Cond.methodLink RX3 75 yX3_isDoll, Cond.instanceMethod yX3_isDoll, Cond.selects RX3 yX3_isDoll yX3_isDoll, Cond.initialized RX3, Cond.code yX3_isDoll cX3_isDoll 2 (some .boolean), Cond.fieldLink RX3 32 "DollCitadelModel" "dolls" "I", Cond.methodLink RX3 35 yX3_isIn, Cond.static yX3_isIn, Cond.code yX3_isIn cX3_isIn 3 (some .boolean), Cond.methodLink RX3 79 yX3_isPose, Cond.instanceMethod yX3_isPose, Cond.selects RX3 yX3_isPose yX3_isPose, Cond.code yX3_isPose cX3_isPose 2 (some .boolean), Cond.fieldLink RX3 39 "DollCitadelModel" "poses" "I", Cond.methodLink RX3 46 yX3_fail, Cond.instanceMethod yX3_fail, Cond.selects RX3 yX3_fail yX3_fail, Cond.code yX3_fail cX3_fail 2 (some .int), Cond.methodLink RX3 106 yX3_kept, Cond.instanceMethod yX3_kept, Cond.selects RX3 yX3_kept yX3_kept, Cond.code yX3_kept cX3_kept 1 (some (.array (.array .int))), Cond.classLink RX3 101 "[I"]
def wsX3_often_r2 : List Cond := [Cond.fieldLink RX3 13 "DollCitadelModel" "limbs" "[I", Cond.methodLink RX3 102 ⟨"[I", "clone", "()Ljava/lang/Object;"⟩, Cond.sameMethod "[I" "java/lang/Object" "clone" "()Ljava/lang/Object;", Cond.native ⟨"java/lang/Object", "clone", "()Ljava/lang/Object;"⟩, Cond.instanceMethod ⟨"java/lang/Object", "clone", "()Ljava/lang/Object;"⟩, Cond.selects "[I" ⟨"[I", "clone", "()Ljava/lang/Object;"⟩ ⟨"java/lang/Object", "clone", "()Ljava/lang/Object;"⟩, Cond.fieldLink RX3 17 "DollCitadelModel" "rooms" "[I", Cond.fieldLink RX3 26 "DollCitadelModel" "day" "[I", Cond.methodLink RX3 82 yX3_can, Cond.instanceMethod yX3_can, Cond.selects RX3 yX3_can yX3_can, Cond.code yX3_can cX3_can 4 (some .boolean), Cond.fieldLink RX3 20 "DollCitadelModel" "told" "[I", Cond.methodLink RX3 68 yX3_isBroken, Cond.instanceMethod yX3_isBroken, Cond.selects RX3 yX3_isBroken yX3_isBroken, Cond.code yX3_isBroken cX3_isBroken 3 (some .boolean), Cond.methodLink RX3 56 yX3_li, Cond.instanceMethod yX3_li, Cond.selects RX3 yX3_li yX3_li, Cond.code yX3_li cX3_li 4 (some .int), Cond.methodLink RX3 42 yX3_at, Cond.static yX3_at, Cond.code yX3_at cX3_at 3 (some .int)]
def wsX3_often_r3 : List Cond := [Cond.methodLink RX3 92 yX3_turnAll, Cond.instanceMethod yX3_turnAll, Cond.selects RX3 yX3_turnAll yX3_turnAll, Cond.code yX3_turnAll cX3_turnAll 5 (some .int), Cond.methodLink RX3 72 yX3_turn, Cond.instanceMethod yX3_turn, Cond.selects RX3 yX3_turn yX3_turn, Cond.code yX3_turn cX3_turn 6 (some .boolean), Cond.methodLink RX3 59 Lib.Math.abs.name, Cond.static Lib.Math.abs.name, Cond.initialized "java/lang/Math", Cond.code Lib.Math.abs.name Lib.Math.abs.code 1 (some .int), Cond.methodLink RX3 64 Lib.Math.min.name, Cond.static Lib.Math.min.name, Cond.code Lib.Math.min.name Lib.Math.min.code 2 (some .int), Cond.methodLink RX3 113 yX3_bringBack, Cond.instanceMethod yX3_bringBack, Cond.selects RX3 yX3_bringBack yX3_bringBack, Cond.code yX3_bringBack cX3_bringBack 2 none, Cond.methodLink RX3 50 arraycopyName, Cond.native arraycopyName, Cond.static arraycopyName, Cond.initialized "java/lang/System"]
def wsX3_often : List Cond := .code yX3_often cX3_often 6 (some .int) :: ((wsX3_often_r1 ++ (wsX3_often_r2 ++ wsX3_often_r3)) ++ wsX30)
def wsX3_needed : List Cond := .code yX3_needed cX3_needed 5 (some .int) :: ([.methodLink RX3 56 yX3_li, .instanceMethod yX3_li, .selects RX3 yX3_li yX3_li, .initialized RX3, .code yX3_li cX3_li 4 (some .int), .fieldLink RX3 13 "DollCitadelModel" "limbs" "[I", .methodLink RX3 42 yX3_at, .static yX3_at, .code yX3_at cX3_at 3 (some .int), .methodLink RX3 85 yX3_ro, .instanceMethod yX3_ro, .selects RX3 yX3_ro yX3_ro, .code yX3_ro cX3_ro 3 (some .int), .fieldLink RX3 17 "DollCitadelModel" "rooms" "[I"] ++ wsX30)
def wsX3_needs_r1 : List Cond := [Cond.fieldLink RX3 29 "DollCitadelModel" "thrown" "I", Cond.methodLink RX3 75 yX3_isDoll, Cond.instanceMethod yX3_isDoll, Cond.selects RX3 yX3_isDoll yX3_isDoll, Cond.initialized RX3, Cond.code yX3_isDoll cX3_isDoll 2 (some .boolean), Cond.fieldLink RX3 32 "DollCitadelModel" "dolls" "I", Cond.methodLink RX3 35 yX3_isIn, Cond.static yX3_isIn, Cond.code yX3_isIn cX3_isIn 3 (some .boolean), Cond.methodLink RX3 46 yX3_fail, Cond.instanceMethod yX3_fail, Cond.selects RX3 yX3_fail yX3_fail, Cond.code yX3_fail cX3_fail 2 (some .int), Cond.methodLink RX3 117 yX3_needed, Cond.instanceMethod yX3_needed, Cond.selects RX3 yX3_needed yX3_needed, Cond.code yX3_needed cX3_needed 5 (some .int), Cond.methodLink RX3 56 yX3_li, Cond.instanceMethod yX3_li, Cond.selects RX3 yX3_li yX3_li, Cond.code yX3_li cX3_li 4 (some .int), Cond.fieldLink RX3 13 "DollCitadelModel" "limbs" "[I", Cond.methodLink RX3 42 yX3_at]
def wsX3_needs_r2 : List Cond := [Cond.static yX3_at, Cond.code yX3_at cX3_at 3 (some .int), Cond.methodLink RX3 85 yX3_ro, Cond.instanceMethod yX3_ro, Cond.selects RX3 yX3_ro yX3_ro, Cond.code yX3_ro cX3_ro 3 (some .int), Cond.fieldLink RX3 17 "DollCitadelModel" "rooms" "[I"]
def wsX3_needs : List Cond := .code yX3_needs cX3_needs 3 (some .int) :: ((wsX3_needs_r1 ++ wsX3_needs_r2) ++ wsX30)
def wsX3_lacks_r1 : List Cond := [Cond.fieldLink RX3 29 "DollCitadelModel" "thrown" "I", Cond.fieldLink RX3 32 "DollCitadelModel" "dolls" "I", Cond.fieldLink RX3 23 "DollCitadelModel" "store" "[I", Cond.methodLink RX3 120 Lib.Math.max.name, Cond.static Lib.Math.max.name, Cond.initialized "java/lang/Math", Cond.code Lib.Math.max.name Lib.Math.max.code 2 (some .int), Cond.methodLink RX3 35 yX3_isIn, Cond.static yX3_isIn, Cond.initialized RX3, Cond.code yX3_isIn cX3_isIn 3 (some .boolean), Cond.methodLink RX3 46 yX3_fail, Cond.instanceMethod yX3_fail, Cond.selects RX3 yX3_fail yX3_fail, Cond.code yX3_fail cX3_fail 2 (some .int), Cond.methodLink RX3 117 yX3_needed, Cond.instanceMethod yX3_needed, Cond.selects RX3 yX3_needed yX3_needed, Cond.code yX3_needed cX3_needed 5 (some .int), Cond.methodLink RX3 56 yX3_li, Cond.instanceMethod yX3_li, Cond.selects RX3 yX3_li yX3_li, Cond.code yX3_li cX3_li 4 (some .int), Cond.fieldLink RX3 13 "DollCitadelModel" "limbs" "[I"]
def wsX3_lacks_r2 : List Cond := [Cond.methodLink RX3 42 yX3_at, Cond.static yX3_at, Cond.code yX3_at cX3_at 3 (some .int), Cond.methodLink RX3 85 yX3_ro, Cond.instanceMethod yX3_ro, Cond.selects RX3 yX3_ro yX3_ro, Cond.code yX3_ro cX3_ro 3 (some .int), Cond.fieldLink RX3 17 "DollCitadelModel" "rooms" "[I"]
def wsX3_lacks : List Cond := .code yX3_lacks cX3_lacks 4 (some .int) :: ((wsX3_lacks_r1 ++ wsX3_lacks_r2) ++ wsX30)
def wsX3_worst : List Cond := .code yX3_worst cX3_worst 6 (some .int) :: ([.fieldLink RX3 29 "DollCitadelModel" "thrown" "I", .fieldLink RX3 32 "DollCitadelModel" "dolls" "I", .methodLink RX3 117 yX3_needed, .instanceMethod yX3_needed, .selects RX3 yX3_needed yX3_needed, .initialized RX3, .code yX3_needed cX3_needed 5 (some .int), .methodLink RX3 56 yX3_li, .instanceMethod yX3_li, .selects RX3 yX3_li yX3_li, .code yX3_li cX3_li 4 (some .int), .fieldLink RX3 13 "DollCitadelModel" "limbs" "[I", .methodLink RX3 42 yX3_at, .static yX3_at, .code yX3_at cX3_at 3 (some .int), .methodLink RX3 85 yX3_ro, .instanceMethod yX3_ro, .selects RX3 yX3_ro yX3_ro, .code yX3_ro cX3_ro 3 (some .int), .fieldLink RX3 17 "DollCitadelModel" "rooms" "[I"] ++ wsX30)
def wsX3_dayOf_r1 : List Cond := [Cond.fieldLink RX3 7 "DollCitadelModel" "moths" "I", Cond.methodLink RX3 120 Lib.Math.max.name, Cond.static Lib.Math.max.name, Cond.initialized "java/lang/Math", Cond.code Lib.Math.max.name Lib.Math.max.code 2 (some .int), Cond.fieldLink RX3 26 "DollCitadelModel" "day" "[I", Cond.fieldLink RX3 13 "DollCitadelModel" "limbs" "[I", Cond.methodLink RX3 64 Lib.Math.min.name, Cond.static Lib.Math.min.name, Cond.code Lib.Math.min.name Lib.Math.min.code 2 (some .int), Cond.methodLink RX3 85 yX3_ro, Cond.instanceMethod yX3_ro, Cond.selects RX3 yX3_ro yX3_ro, Cond.initialized RX3, Cond.code yX3_ro cX3_ro 3 (some .int), Cond.fieldLink RX3 17 "DollCitadelModel" "rooms" "[I", Cond.methodLink RX3 88 yX3_put, Cond.instanceMethod yX3_put, Cond.selects RX3 yX3_put yX3_put, Cond.code yX3_put cX3_put 4 none, Cond.methodLink RX3 56 yX3_li, Cond.instanceMethod yX3_li, Cond.selects RX3 yX3_li yX3_li, Cond.code yX3_li cX3_li 4 (some .int)]
def wsX3_dayOf_r2 : List Cond := [Cond.methodLink RX3 42 yX3_at, Cond.static yX3_at, Cond.code yX3_at cX3_at 3 (some .int)]
def wsX3_dayOf : List Cond := .code yX3_dayOf cX3_dayOf 4 (some .int) :: ((wsX3_dayOf_r1 ++ wsX3_dayOf_r2) ++ wsX30)
def wsX3_daysOn_r1 : List Cond := [Cond.fieldLink RX3 32 "DollCitadelModel" "dolls" "I", Cond.fieldLink RX3 26 "DollCitadelModel" "day" "[I", Cond.methodLink RX3 123 yX3_dayOf, Cond.instanceMethod yX3_dayOf, Cond.selects RX3 yX3_dayOf yX3_dayOf, Cond.initialized RX3, Cond.code yX3_dayOf cX3_dayOf 4 (some .int), Cond.fieldLink RX3 7 "DollCitadelModel" "moths" "I", Cond.methodLink RX3 120 Lib.Math.max.name, Cond.static Lib.Math.max.name, Cond.initialized "java/lang/Math", Cond.code Lib.Math.max.name Lib.Math.max.code 2 (some .int), Cond.fieldLink RX3 13 "DollCitadelModel" "limbs" "[I", Cond.methodLink RX3 64 Lib.Math.min.name, Cond.static Lib.Math.min.name, Cond.code Lib.Math.min.name Lib.Math.min.code 2 (some .int), Cond.methodLink RX3 85 yX3_ro, Cond.instanceMethod yX3_ro, Cond.selects RX3 yX3_ro yX3_ro, Cond.code yX3_ro cX3_ro 3 (some .int), Cond.fieldLink RX3 17 "DollCitadelModel" "rooms" "[I", Cond.methodLink RX3 88 yX3_put, Cond.instanceMethod yX3_put, Cond.selects RX3 yX3_put yX3_put]
def wsX3_daysOn_r2 : List Cond := [Cond.code yX3_put cX3_put 4 none, Cond.methodLink RX3 56 yX3_li, Cond.instanceMethod yX3_li, Cond.selects RX3 yX3_li yX3_li, Cond.code yX3_li cX3_li 4 (some .int), Cond.methodLink RX3 42 yX3_at, Cond.static yX3_at, Cond.code yX3_at cX3_at 3 (some .int)]
def wsX3_daysOn : List Cond := .code yX3_daysOn cX3_daysOn 5 (some .int) :: ((wsX3_daysOn_r1 ++ wsX3_daysOn_r2) ++ wsX30)
def wsX3_foresee_r1 : List Cond := [Cond.fieldLink RX3 29 "DollCitadelModel" "thrown" "I", Cond.methodLink RX3 35 yX3_isIn, Cond.static yX3_isIn, Cond.initialized RX3, Cond.code yX3_isIn cX3_isIn 3 (some .boolean), Cond.methodLink RX3 46 yX3_fail, Cond.instanceMethod yX3_fail, Cond.selects RX3 yX3_fail yX3_fail, Cond.code yX3_fail cX3_fail 2 (some .int), Cond.methodLink RX3 106 yX3_kept, Cond.instanceMethod yX3_kept, Cond.selects RX3 yX3_kept yX3_kept, Cond.code yX3_kept cX3_kept 1 (some (.array (.array .int))), Cond.classLink RX3 101 "[I", Cond.fieldLink RX3 13 "DollCitadelModel" "limbs" "[I", Cond.methodLink RX3 102 ⟨"[I", "clone", "()Ljava/lang/Object;"⟩, Cond.sameMethod "[I" "java/lang/Object" "clone" "()Ljava/lang/Object;", Cond.native ⟨"java/lang/Object", "clone", "()Ljava/lang/Object;"⟩, Cond.instanceMethod ⟨"java/lang/Object", "clone", "()Ljava/lang/Object;"⟩, Cond.selects "[I" ⟨"[I", "clone", "()Ljava/lang/Object;"⟩ ⟨"java/lang/Object", "clone", "()Ljava/lang/Object;"⟩, Cond.fieldLink RX3 17 "DollCitadelModel" "rooms" "[I", Cond.fieldLink RX3 26 "DollCitadelModel" "day" "[I", Cond.methodLink RX3 126 yX3_daysOn, Cond.instanceMethod yX3_daysOn]
def wsX3_foresee_r2 : List Cond := [Cond.selects RX3 yX3_daysOn yX3_daysOn, Cond.code yX3_daysOn cX3_daysOn 5 (some .int), Cond.fieldLink RX3 32 "DollCitadelModel" "dolls" "I", Cond.methodLink RX3 123 yX3_dayOf, Cond.instanceMethod yX3_dayOf, Cond.selects RX3 yX3_dayOf yX3_dayOf, Cond.code yX3_dayOf cX3_dayOf 4 (some .int), Cond.fieldLink RX3 7 "DollCitadelModel" "moths" "I", Cond.methodLink RX3 120 Lib.Math.max.name, Cond.static Lib.Math.max.name, Cond.initialized "java/lang/Math", Cond.code Lib.Math.max.name Lib.Math.max.code 2 (some .int), Cond.methodLink RX3 64 Lib.Math.min.name, Cond.static Lib.Math.min.name, Cond.code Lib.Math.min.name Lib.Math.min.code 2 (some .int), Cond.methodLink RX3 85 yX3_ro, Cond.instanceMethod yX3_ro, Cond.selects RX3 yX3_ro yX3_ro, Cond.code yX3_ro cX3_ro 3 (some .int), Cond.methodLink RX3 88 yX3_put, Cond.instanceMethod yX3_put, Cond.selects RX3 yX3_put yX3_put, Cond.code yX3_put cX3_put 4 none, Cond.methodLink RX3 56 yX3_li]
def wsX3_foresee_r3 : List Cond := [Cond.instanceMethod yX3_li, Cond.selects RX3 yX3_li yX3_li, Cond.code yX3_li cX3_li 4 (some .int), Cond.methodLink RX3 42 yX3_at, Cond.static yX3_at, Cond.code yX3_at cX3_at 3 (some .int), Cond.methodLink RX3 98 yX3_counted, Cond.instanceMethod yX3_counted, Cond.selects RX3 yX3_counted yX3_counted, Cond.code yX3_counted cX3_counted 5 (some .int), Cond.fieldLink RX3 23 "DollCitadelModel" "store" "[I", Cond.fieldLink RX3 39 "DollCitadelModel" "poses" "I", Cond.methodLink RX3 95 yX3_jointTold, Cond.instanceMethod yX3_jointTold, Cond.selects RX3 yX3_jointTold yX3_jointTold, Cond.code yX3_jointTold cX3_jointTold 4 (some .int), Cond.methodLink RX3 68 yX3_isBroken, Cond.instanceMethod yX3_isBroken, Cond.selects RX3 yX3_isBroken yX3_isBroken, Cond.code yX3_isBroken cX3_isBroken 3 (some .boolean), Cond.methodLink RX3 113 yX3_bringBack, Cond.instanceMethod yX3_bringBack, Cond.selects RX3 yX3_bringBack yX3_bringBack, Cond.code yX3_bringBack cX3_bringBack 2 none]
def wsX3_foresee_r4 : List Cond := [Cond.methodLink RX3 50 arraycopyName, Cond.native arraycopyName, Cond.static arraycopyName, Cond.initialized "java/lang/System"]
def wsX3_foresee : List Cond := .code yX3_foresee cX3_foresee 5 (some .int) :: ((wsX3_foresee_r1 ++ (wsX3_foresee_r2 ++ (wsX3_foresee_r3 ++ wsX3_foresee_r4))) ++ wsX30)
def wsX3_pass_r1 : List Cond := [Cond.fieldLink RX3 29 "DollCitadelModel" "thrown" "I", Cond.methodLink RX3 35 yX3_isIn, Cond.static yX3_isIn, Cond.initialized RX3, Cond.code yX3_isIn cX3_isIn 3 (some .boolean), Cond.methodLink RX3 126 yX3_daysOn, Cond.instanceMethod yX3_daysOn, Cond.selects RX3 yX3_daysOn yX3_daysOn, Cond.code yX3_daysOn cX3_daysOn 5 (some .int), Cond.fieldLink RX3 32 "DollCitadelModel" "dolls" "I", Cond.fieldLink RX3 26 "DollCitadelModel" "day" "[I", Cond.methodLink RX3 123 yX3_dayOf, Cond.instanceMethod yX3_dayOf, Cond.selects RX3 yX3_dayOf yX3_dayOf, Cond.code yX3_dayOf cX3_dayOf 4 (some .int), Cond.fieldLink RX3 7 "DollCitadelModel" "moths" "I", Cond.methodLink RX3 120 Lib.Math.max.name, Cond.static Lib.Math.max.name, Cond.initialized "java/lang/Math", Cond.code Lib.Math.max.name Lib.Math.max.code 2 (some .int), Cond.fieldLink RX3 13 "DollCitadelModel" "limbs" "[I", Cond.methodLink RX3 64 Lib.Math.min.name, Cond.static Lib.Math.min.name, Cond.code Lib.Math.min.name Lib.Math.min.code 2 (some .int)]
def wsX3_pass_r2 : List Cond := [Cond.methodLink RX3 85 yX3_ro, Cond.instanceMethod yX3_ro, Cond.selects RX3 yX3_ro yX3_ro, Cond.code yX3_ro cX3_ro 3 (some .int), Cond.fieldLink RX3 17 "DollCitadelModel" "rooms" "[I", Cond.methodLink RX3 88 yX3_put, Cond.instanceMethod yX3_put, Cond.selects RX3 yX3_put yX3_put, Cond.code yX3_put cX3_put 4 none, Cond.methodLink RX3 56 yX3_li, Cond.instanceMethod yX3_li, Cond.selects RX3 yX3_li yX3_li, Cond.code yX3_li cX3_li 4 (some .int), Cond.methodLink RX3 42 yX3_at, Cond.static yX3_at, Cond.code yX3_at cX3_at 3 (some .int), Cond.methodLink RX3 46 yX3_fail, Cond.instanceMethod yX3_fail, Cond.selects RX3 yX3_fail yX3_fail, Cond.code yX3_fail cX3_fail 2 (some .int)]
def wsX3_pass : List Cond := .code yX3_pass cX3_pass 2 (some .int) :: ((wsX3_pass_r1 ++ wsX3_pass_r2) ++ wsX30)
def wsX3_mean : List Cond := .code yX3_mean cX3_mean 3 (some .double) :: ([.fieldLink RX3 29 "DollCitadelModel" "thrown" "I", .fieldLink RX3 32 "DollCitadelModel" "dolls" "I", .methodLink RX3 110 yX3_wearOf, .instanceMethod yX3_wearOf, .selects RX3 yX3_wearOf yX3_wearOf, .initialized RX3, .code yX3_wearOf cX3_wearOf 4 (some .int), .methodLink RX3 56 yX3_li, .instanceMethod yX3_li, .selects RX3 yX3_li yX3_li, .code yX3_li cX3_li 4 (some .int), .fieldLink RX3 13 "DollCitadelModel" "limbs" "[I", .methodLink RX3 42 yX3_at, .static yX3_at, .code yX3_at cX3_at 3 (some .int)] ++ wsX30)
def wsX3_digest_r1 : List Cond := [Cond.fieldLink RX3 29 "DollCitadelModel" "thrown" "I", Cond.constantLong RX3 129 (1063), Cond.constantLong RX3 131 (31), Cond.fieldLink RX3 39 "DollCitadelModel" "poses" "I", Cond.fieldLink RX3 20 "DollCitadelModel" "told" "[I", Cond.fieldLink RX3 32 "DollCitadelModel" "dolls" "I", Cond.methodLink RX3 98 yX3_counted, Cond.instanceMethod yX3_counted, Cond.selects RX3 yX3_counted yX3_counted, Cond.initialized RX3, Cond.code yX3_counted cX3_counted 5 (some .int), Cond.fieldLink RX3 23 "DollCitadelModel" "store" "[I", Cond.fieldLink RX3 26 "DollCitadelModel" "day" "[I", Cond.fieldLink RX3 7 "DollCitadelModel" "moths" "I", Cond.methodLink RX3 95 yX3_jointTold, Cond.instanceMethod yX3_jointTold, Cond.selects RX3 yX3_jointTold yX3_jointTold, Cond.code yX3_jointTold cX3_jointTold 4 (some .int), Cond.methodLink RX3 56 yX3_li, Cond.instanceMethod yX3_li, Cond.selects RX3 yX3_li yX3_li, Cond.code yX3_li cX3_li 4 (some .int), Cond.fieldLink RX3 13 "DollCitadelModel" "limbs" "[I", Cond.methodLink RX3 42 yX3_at]
def wsX3_digest_r2 : List Cond := [Cond.static yX3_at, Cond.code yX3_at cX3_at 3 (some .int), Cond.methodLink RX3 68 yX3_isBroken, Cond.instanceMethod yX3_isBroken, Cond.selects RX3 yX3_isBroken yX3_isBroken, Cond.code yX3_isBroken cX3_isBroken 3 (some .boolean), Cond.methodLink RX3 85 yX3_ro, Cond.instanceMethod yX3_ro, Cond.selects RX3 yX3_ro yX3_ro, Cond.code yX3_ro cX3_ro 3 (some .int), Cond.fieldLink RX3 17 "DollCitadelModel" "rooms" "[I"]
def wsX3_digest : List Cond := .code yX3_digest cX3_digest 6 (some .long) :: ((wsX3_digest_r1 ++ wsX3_digest_r2) ++ wsX30)
def wsJ9_abs_0f7a4 : List Cond := .code yJ9_abs_0f7a4 cJ9_abs_0f7a4 1 (some .int) :: ([])
def wsJ9_max_7cf53 : List Cond := .code yJ9_max_7cf53 cJ9_max_7cf53 2 (some .int) :: ([])
def wsJ9_min_7cf53 : List Cond := .code yJ9_min_7cf53 cJ9_min_7cf53 2 (some .int) :: ([])
def wsL_make_r1 : List Cond := [Cond.classLink RL 13 "java/lang/IllegalStateException", Cond.methodLink RL 7 yX2_make, Cond.instanceMethod yX2_make, Cond.selects RX2 yX2_make yX2_make, Cond.initialized RX2, Cond.code yX2_make cX2_make 2 (some .int), Cond.classLink RX2 48 "java/lang/IllegalStateException", Cond.initialized "java/lang/IllegalStateException", Cond.fieldLink RX2 35 "DollCitadel" "dollCount" "I", Cond.fieldLink RX2 11 "DollCitadel" "dolls" "[LDollCitadel$Doll;", Cond.classLink RX2 9 RX0, Cond.instantiable RX0 9, Cond.initialized RX0, Cond.methodLink RX2 30 yX0_init, Cond.instanceMethod yX0_init, Cond.code yX0_init cX0_init 2 none, Cond.methodLink RX0 3 objectInit, Cond.instanceMethod objectInit, Cond.code objectInit ⟨#[0xb1]⟩ 1 none, Cond.arrayClass .int, Cond.fieldLink RX0 9 "DollCitadel$Doll" "angles" "[I", Cond.fieldLink RX0 15 "DollCitadel$Doll" "wears" "[I", Cond.fieldLink RX0 18 "DollCitadel$Doll" "lacquers" "[I", Cond.arrayClass .boolean]
def wsL_make_r2 : List Cond := [Cond.fieldLink RX0 21 "DollCitadel$Doll" "open" "[Z", Cond.fieldLink RX0 25 "DollCitadel$Doll" "dusts" "[I", Cond.fieldLink RX0 28 "DollCitadel$Doll" "wigEaten" "I", Cond.fieldLink RX0 32 "DollCitadel$Doll" "weight" "I", Cond.fieldLink RX0 35 "DollCitadel$Doll" "pins" "I", Cond.fieldLink RX0 38 "DollCitadel$Doll" "posesTaken" "I"]
def wsL_make : List Cond := .codeWith yL_make cL_make 3 (some .int) [(0, 8, 11, 13)] :: ((wsL_make_r1 ++ wsL_make_r2) ++ wsX20 ++ wsX00 ++ (vx_atS RX2 52 "java/lang/IllegalStateException" ["java/lang/RuntimeException", "java/lang/Exception"]).filter goodWord)
def wsL_pose_r1 : List Cond := [Cond.classLink RL 19 "java/lang/IllegalArgumentException", Cond.classLink RL 13 "java/lang/IllegalStateException", Cond.methodLink RL 15 yX2_pose, Cond.instanceMethod yX2_pose, Cond.selects RX2 yX2_pose yX2_pose, Cond.initialized RX2, Cond.code yX2_pose cX2_pose 9 (some .int), Cond.classLink RX2 59 "java/lang/IllegalArgumentException", Cond.initialized "java/lang/IllegalArgumentException", Cond.classLink RX2 48 "java/lang/IllegalStateException", Cond.initialized "java/lang/IllegalStateException", Cond.fieldLink RX2 39 "DollCitadel" "poseCount" "I", Cond.fieldLink RX2 17 "DollCitadel" "poses" "[LDollCitadel$Pose;", Cond.classLink RX2 15 RX1, Cond.instantiable RX1 1, Cond.initialized RX1, Cond.fieldLink RX2 66 "DollCitadel$Pose" "angles" "[I", Cond.methodLink RX2 55 yX2_isAngle, Cond.static yX2_isAngle, Cond.code yX2_isAngle cX2_isAngle 1 (some .boolean), Cond.instanceMethod yX1_init, Cond.code yX1_init cX1_init 1 none, Cond.methodLink RX1 3 objectInit, Cond.instanceMethod objectInit]
def wsL_pose_r2 : List Cond := [Cond.code objectInit ⟨#[0xb1]⟩ 1 none, Cond.arrayClass .int, Cond.fieldLink RX1 9 "DollCitadel$Pose" "angles" "[I"]
def wsL_pose : List Cond := .codeWith yL_pose cL_pose 9 (some .int) [(0, 18, 21, 19), (0, 18, 25, 13)] :: ((wsL_pose_r1 ++ wsL_pose_r2) ++ wsX20 ++ wsX10 ++ (vx_atS RX2 63 "java/lang/IllegalArgumentException" ["java/lang/RuntimeException", "java/lang/Exception"]).filter goodWord ++ (vx_atS RX2 52 "java/lang/IllegalStateException" ["java/lang/RuntimeException", "java/lang/Exception"]).filter goodWord)
def wsL_take_r1 : List Cond := [Cond.classLink RL 25 "java/lang/IndexOutOfBoundsException", Cond.classLink RL 13 "java/lang/IllegalStateException", Cond.methodLink RL 21 yX2_take, Cond.instanceMethod yX2_take, Cond.selects RX2 yX2_take yX2_take, Cond.initialized RX2, Cond.code yX2_take cX2_take 6 (some .int), Cond.classLink RX2 48 "java/lang/IllegalStateException", Cond.initialized "java/lang/IllegalStateException", Cond.fieldLink RX2 91 "DollCitadel$Doll" "posesTaken" "I", Cond.methodLink RX2 69 yX2_knownDoll, Cond.instanceMethod yX2_knownDoll, Cond.selects RX2 yX2_knownDoll yX2_knownDoll, Cond.code yX2_knownDoll cX2_knownDoll 3 (some (.object "DollCitadel$Doll")), Cond.classLink RX2 94 "java/lang/IndexOutOfBoundsException", Cond.initialized "java/lang/IndexOutOfBoundsException", Cond.fieldLink RX2 11 "DollCitadel" "dolls" "[LDollCitadel$Doll;", Cond.methodLink RX2 73 yX2_knownPose, Cond.instanceMethod yX2_knownPose, Cond.selects RX2 yX2_knownPose yX2_knownPose, Cond.code yX2_knownPose cX2_knownPose 3 (some (.object "DollCitadel$Pose")), Cond.fieldLink RX2 17 "DollCitadel" "poses" "[LDollCitadel$Pose;", Cond.methodLink RX2 77 yX0_canTurnTo, Cond.instanceMethod yX0_canTurnTo]
def wsL_take_r2 : List Cond := [Cond.selects RX0 yX0_canTurnTo yX0_canTurnTo, Cond.initialized RX0, Cond.code yX0_canTurnTo cX0_canTurnTo 3 (some .boolean), Cond.fieldLink RX0 15 "DollCitadel$Doll" "wears" "[I", Cond.fieldLink RX0 9 "DollCitadel$Doll" "angles" "[I", Cond.fieldLink RX0 41 "DollCitadel$Pose" "angles" "[I", Cond.methodLink RX2 83 yX0_brokenJoints, Cond.instanceMethod yX0_brokenJoints, Cond.selects RX0 yX0_brokenJoints yX0_brokenJoints, Cond.code yX0_brokenJoints cX0_brokenJoints 1 (some .int), Cond.methodLink RX0 61 yX0_jointsWornBy, Cond.instanceMethod yX0_jointsWornBy, Cond.selects RX0 yX0_jointsWornBy yX0_jointsWornBy, Cond.code yX0_jointsWornBy cX0_jointsWornBy 7 (some .int), Cond.methodLink RX2 87 yX0_turnTo, Cond.instanceMethod yX0_turnTo, Cond.selects RX0 yX0_turnTo yX0_turnTo, Cond.code yX0_turnTo cX0_turnTo 4 none, Cond.methodLink RX0 44 Lib.Math.abs.name, Cond.static Lib.Math.abs.name, Cond.initialized "java/lang/Math", Cond.code Lib.Math.abs.name Lib.Math.abs.code 1 (some .int), Cond.fieldLink RX0 18 "DollCitadel$Doll" "lacquers" "[I", Cond.methodLink RX0 54 Lib.Math.max.name]
def wsL_take_r3 : List Cond := [Cond.static Lib.Math.max.name, Cond.code Lib.Math.max.name Lib.Math.max.code 2 (some .int), Cond.methodLink RX0 50 yX0_wearBehindTurn, Cond.static yX0_wearBehindTurn, Cond.code yX0_wearBehindTurn cX0_wearBehindTurn 4 (some .int), Cond.methodLink RX0 58 Lib.Math.min.name, Cond.static Lib.Math.min.name, Cond.code Lib.Math.min.name Lib.Math.min.code 2 (some .int)]
def wsL_take : List Cond := .codeWith yL_take cL_take 5 (some .int) [(0, 10, 13, 25), (0, 10, 17, 13)] :: ((wsL_take_r1 ++ (wsL_take_r2 ++ wsL_take_r3)) ++ wsX00 ++ wsX20 ++ wsX10 ++ (vx_atS RX2 52 "java/lang/IllegalStateException" ["java/lang/RuntimeException", "java/lang/Exception"]).filter goodWord ++ (vx_atS RX2 98 "java/lang/IndexOutOfBoundsException" ["java/lang/RuntimeException", "java/lang/Exception"]).filter goodWord)
def wsL_blink : List Cond := .codeWith yL_blink cL_blink 5 (some .int) [(0, 17, 20, 25), (0, 17, 24, 13)] :: ([.classLink RL 25 "java/lang/IndexOutOfBoundsException", .classLink RL 13 "java/lang/IllegalStateException", .methodLink RL 27 yX2_blink, .instanceMethod yX2_blink, .selects RX2 yX2_blink yX2_blink, .initialized RX2, .code yX2_blink cX2_blink 4 (some .boolean), .classLink RX2 94 "java/lang/IndexOutOfBoundsException", .initialized "java/lang/IndexOutOfBoundsException", .classLink RX2 48 "java/lang/IllegalStateException", .initialized "java/lang/IllegalStateException", .fieldLink RX2 99 "DollCitadel$Doll" "dusts" "[I", .fieldLink RX2 104 "DollCitadel$Doll" "open" "[Z", .methodLink RX2 69 yX2_knownDoll, .instanceMethod yX2_knownDoll, .selects RX2 yX2_knownDoll yX2_knownDoll, .code yX2_knownDoll cX2_knownDoll 3 (some (.object "DollCitadel$Doll")), .fieldLink RX2 11 "DollCitadel" "dolls" "[LDollCitadel$Doll;"] ++ wsX00 ++ wsX20 ++ (vx_atS RX2 98 "java/lang/IndexOutOfBoundsException" ["java/lang/RuntimeException", "java/lang/Exception"]).filter goodWord ++ (vx_atS RX2 52 "java/lang/IllegalStateException" ["java/lang/RuntimeException", "java/lang/Exception"]).filter goodWord)
def wsL_dress_r1 : List Cond := [Cond.classLink RL 25 "java/lang/IndexOutOfBoundsException", Cond.classLink RL 19 "java/lang/IllegalArgumentException", Cond.classLink RL 13 "java/lang/IllegalStateException", Cond.methodLink RL 31 yX2_dress, Cond.instanceMethod yX2_dress, Cond.selects RX2 yX2_dress yX2_dress, Cond.initialized RX2, Cond.code yX2_dress cX2_dress 6 (some .int), Cond.classLink RX2 59 "java/lang/IllegalArgumentException", Cond.initialized "java/lang/IllegalArgumentException", Cond.classLink RX2 48 "java/lang/IllegalStateException", Cond.initialized "java/lang/IllegalStateException", Cond.fieldLink RX2 21 "DollCitadel" "store" "[I", Cond.fieldLink RX2 112 "DollCitadel$Doll" "pins" "I", Cond.fieldLink RX2 115 "DollCitadel$Doll" "weight" "I", Cond.methodLink RX2 118 Lib.Math.min.name, Cond.static Lib.Math.min.name, Cond.initialized "java/lang/Math", Cond.code Lib.Math.min.name Lib.Math.min.code 2 (some .int), Cond.methodLink RX2 69 yX2_knownDoll, Cond.instanceMethod yX2_knownDoll, Cond.selects RX2 yX2_knownDoll yX2_knownDoll, Cond.code yX2_knownDoll cX2_knownDoll 3 (some (.object "DollCitadel$Doll")), Cond.classLink RX2 94 "java/lang/IndexOutOfBoundsException"]
def wsL_dress_r2 : List Cond := [Cond.initialized "java/lang/IndexOutOfBoundsException", Cond.fieldLink RX2 11 "DollCitadel" "dolls" "[LDollCitadel$Doll;"]
def wsL_dress : List Cond := .codeWith yL_dress cL_dress 6 (some .int) [(0, 12, 15, 25), (0, 12, 19, 19), (0, 12, 23, 13)] :: ((wsL_dress_r1 ++ wsL_dress_r2) ++ wsX20 ++ wsX00 ++ (vx_atS RX2 63 "java/lang/IllegalArgumentException" ["java/lang/RuntimeException", "java/lang/Exception"]).filter goodWord ++ (vx_atS RX2 52 "java/lang/IllegalStateException" ["java/lang/RuntimeException", "java/lang/Exception"]).filter goodWord ++ (vx_atS RX2 98 "java/lang/IndexOutOfBoundsException" ["java/lang/RuntimeException", "java/lang/Exception"]).filter goodWord)
def wsL_bring : List Cond := .codeWith yL_bring cL_bring 5 (some .int) [(0, 10, 13, 19)] :: ([.classLink RL 19 "java/lang/IllegalArgumentException", .methodLink RL 35 yX2_bring, .instanceMethod yX2_bring, .selects RX2 yX2_bring yX2_bring, .initialized RX2, .code yX2_bring cX2_bring 3 (some .int), .classLink RX2 59 "java/lang/IllegalArgumentException", .initialized "java/lang/IllegalArgumentException", .fieldLink RX2 21 "DollCitadel" "store" "[I", .methodLink RX2 118 Lib.Math.min.name, .static Lib.Math.min.name, .initialized "java/lang/Math", .code Lib.Math.min.name Lib.Math.min.code 2 (some .int)] ++ wsX20 ++ (vx_atS RX2 63 "java/lang/IllegalArgumentException" ["java/lang/RuntimeException", "java/lang/Exception"]).filter goodWord)
def wsL_setMoths : List Cond := .codeWith yL_setMoths cL_setMoths 4 (some .int) [(0, 9, 12, 19)] :: ([.classLink RL 19 "java/lang/IllegalArgumentException", .methodLink RL 38 yX2_setMoths, .instanceMethod yX2_setMoths, .selects RX2 yX2_setMoths yX2_setMoths, .initialized RX2, .code yX2_setMoths cX2_setMoths 3 (some .int), .classLink RX2 59 "java/lang/IllegalArgumentException", .initialized "java/lang/IllegalArgumentException", .fieldLink RX2 45 "DollCitadel" "moths" "I"] ++ wsX20 ++ (vx_atS RX2 63 "java/lang/IllegalArgumentException" ["java/lang/RuntimeException", "java/lang/Exception"]).filter goodWord)
def wsL_mend_r1 : List Cond := [Cond.classLink RL 25 "java/lang/IndexOutOfBoundsException", Cond.classLink RL 19 "java/lang/IllegalArgumentException", Cond.classLink RL 13 "java/lang/IllegalStateException", Cond.methodLink RL 42 yX2_mend, Cond.instanceMethod yX2_mend, Cond.selects RX2 yX2_mend yX2_mend, Cond.initialized RX2, Cond.code yX2_mend cX2_mend 5 (some .int), Cond.classLink RX2 94 "java/lang/IndexOutOfBoundsException", Cond.initialized "java/lang/IndexOutOfBoundsException", Cond.classLink RX2 59 "java/lang/IllegalArgumentException", Cond.initialized "java/lang/IllegalArgumentException", Cond.classLink RX2 48 "java/lang/IllegalStateException", Cond.initialized "java/lang/IllegalStateException", Cond.fieldLink RX2 21 "DollCitadel" "store" "[I", Cond.fieldLink RX2 138 "DollCitadel$Doll" "wears" "[I", Cond.fieldLink RX2 141 "DollCitadel$Doll" "lacquers" "[I", Cond.fieldLink RX2 112 "DollCitadel$Doll" "pins" "I", Cond.fieldLink RX2 147 "DollCitadel$Doll" "wigEaten" "I", Cond.methodLink RX2 69 yX2_knownDoll, Cond.instanceMethod yX2_knownDoll, Cond.selects RX2 yX2_knownDoll yX2_knownDoll, Cond.code yX2_knownDoll cX2_knownDoll 3 (some (.object "DollCitadel$Doll")), Cond.fieldLink RX2 11 "DollCitadel" "dolls" "[LDollCitadel$Doll;"]
def wsL_mend_r2 : List Cond := [Cond.methodLink RX2 132 yX0_hasRoomForPin, Cond.instanceMethod yX0_hasRoomForPin, Cond.selects RX0 yX0_hasRoomForPin yX0_hasRoomForPin, Cond.initialized RX0, Cond.code yX0_hasRoomForPin cX0_hasRoomForPin 1 (some .boolean), Cond.fieldLink RX0 32 "DollCitadel$Doll" "weight" "I", Cond.fieldLink RX0 35 "DollCitadel$Doll" "pins" "I", Cond.methodLink RX2 144 yX0_wipeEyes, Cond.instanceMethod yX0_wipeEyes, Cond.selects RX0 yX0_wipeEyes yX0_wipeEyes, Cond.code yX0_wipeEyes cX0_wipeEyes 2 none, Cond.fieldLink RX0 25 "DollCitadel$Doll" "dusts" "[I"]
def wsL_mend : List Cond := .codeWith yL_mend cL_mend 6 (some .int) [(0, 12, 15, 25), (0, 12, 19, 19), (0, 12, 23, 13)] :: ((wsL_mend_r1 ++ wsL_mend_r2) ++ wsX20 ++ wsX00 ++ (vx_atS RX2 98 "java/lang/IndexOutOfBoundsException" ["java/lang/RuntimeException", "java/lang/Exception"]).filter goodWord ++ (vx_atS RX2 63 "java/lang/IllegalArgumentException" ["java/lang/RuntimeException", "java/lang/Exception"]).filter goodWord ++ (vx_atS RX2 52 "java/lang/IllegalStateException" ["java/lang/RuntimeException", "java/lang/Exception"]).filter goodWord)
def wsL_joint : List Cond := .codeWith yL_joint cL_joint 6 (some .int) [(0, 12, 15, 25)] :: ([.classLink RL 25 "java/lang/IndexOutOfBoundsException", .methodLink RL 45 yX2_joint, .instanceMethod yX2_joint, .selects RX2 yX2_joint yX2_joint, .initialized RX2, .code yX2_joint cX2_joint 5 (some .int), .classLink RX2 94 "java/lang/IndexOutOfBoundsException", .initialized "java/lang/IndexOutOfBoundsException", .fieldLink RX2 152 "DollCitadel$Doll" "angles" "[I", .fieldLink RX2 138 "DollCitadel$Doll" "wears" "[I", .fieldLink RX2 141 "DollCitadel$Doll" "lacquers" "[I", .methodLink RX2 69 yX2_knownDoll, .instanceMethod yX2_knownDoll, .selects RX2 yX2_knownDoll yX2_knownDoll, .code yX2_knownDoll cX2_knownDoll 3 (some (.object "DollCitadel$Doll")), .fieldLink RX2 11 "DollCitadel" "dolls" "[LDollCitadel$Doll;"] ++ wsX00 ++ wsX20 ++ (vx_atS RX2 98 "java/lang/IndexOutOfBoundsException" ["java/lang/RuntimeException", "java/lang/Exception"]).filter goodWord)
def wsL_doll : List Cond := .codeWith yL_doll cL_doll 5 (some .int) [(0, 10, 13, 25)] :: ([.classLink RL 25 "java/lang/IndexOutOfBoundsException", .methodLink RL 48 yX2_doll, .instanceMethod yX2_doll, .selects RX2 yX2_doll yX2_doll, .initialized RX2, .code yX2_doll cX2_doll 4 (some .int), .classLink RX2 94 "java/lang/IndexOutOfBoundsException", .initialized "java/lang/IndexOutOfBoundsException", .fieldLink RX2 104 "DollCitadel$Doll" "open" "[Z", .fieldLink RX2 99 "DollCitadel$Doll" "dusts" "[I", .fieldLink RX2 147 "DollCitadel$Doll" "wigEaten" "I", .fieldLink RX2 115 "DollCitadel$Doll" "weight" "I", .fieldLink RX2 112 "DollCitadel$Doll" "pins" "I", .fieldLink RX2 91 "DollCitadel$Doll" "posesTaken" "I", .methodLink RX2 69 yX2_knownDoll, .instanceMethod yX2_knownDoll, .selects RX2 yX2_knownDoll yX2_knownDoll, .code yX2_knownDoll cX2_knownDoll 3 (some (.object "DollCitadel$Doll")), .fieldLink RX2 11 "DollCitadel" "dolls" "[LDollCitadel$Doll;"] ++ wsX00 ++ wsX20 ++ (vx_atS RX2 98 "java/lang/IndexOutOfBoundsException" ["java/lang/RuntimeException", "java/lang/Exception"]).filter goodWord)
def wsL_count_r1 : List Cond := [Cond.classLink RL 25 "java/lang/IndexOutOfBoundsException", Cond.methodLink RL 51 yX2_count, Cond.instanceMethod yX2_count, Cond.selects RX2 yX2_count yX2_count, Cond.initialized RX2, Cond.code yX2_count cX2_count 2 (some .int), Cond.classLink RX2 94 "java/lang/IndexOutOfBoundsException", Cond.initialized "java/lang/IndexOutOfBoundsException", Cond.fieldLink RX2 21 "DollCitadel" "store" "[I", Cond.fieldLink RX2 42 "DollCitadel" "day" "I", Cond.fieldLink RX2 35 "DollCitadel" "dollCount" "I", Cond.fieldLink RX2 39 "DollCitadel" "poseCount" "I", Cond.fieldLink RX2 45 "DollCitadel" "moths" "I", Cond.methodLink RX2 157 yX2_tallyOfAll, Cond.instanceMethod yX2_tallyOfAll, Cond.selects RX2 yX2_tallyOfAll yX2_tallyOfAll, Cond.code yX2_tallyOfAll cX2_tallyOfAll 7 (some .int), Cond.fieldLink RX2 11 "DollCitadel" "dolls" "[LDollCitadel$Doll;", Cond.methodLink RX2 185 yX0_tally, Cond.instanceMethod yX0_tally, Cond.selects RX0 yX0_tally yX0_tally, Cond.initialized RX0, Cond.code yX0_tally cX0_tally 2 (some .int), Cond.fieldLink RX0 28 "DollCitadel$Doll" "wigEaten" "I"]
def wsL_count_r2 : List Cond := [Cond.fieldLink RX0 32 "DollCitadel$Doll" "weight" "I", Cond.methodLink RX0 64 yX0_brokenJoints, Cond.instanceMethod yX0_brokenJoints, Cond.selects RX0 yX0_brokenJoints yX0_brokenJoints, Cond.code yX0_brokenJoints cX0_brokenJoints 1 (some .int), Cond.methodLink RX0 61 yX0_jointsWornBy, Cond.instanceMethod yX0_jointsWornBy, Cond.selects RX0 yX0_jointsWornBy yX0_jointsWornBy, Cond.code yX0_jointsWornBy cX0_jointsWornBy 7 (some .int), Cond.fieldLink RX0 15 "DollCitadel$Doll" "wears" "[I", Cond.methodLink RX0 68 yX0_eyesWithDust, Cond.instanceMethod yX0_eyesWithDust, Cond.selects RX0 yX0_eyesWithDust yX0_eyesWithDust, Cond.code yX0_eyesWithDust cX0_eyesWithDust 7 (some .int), Cond.fieldLink RX0 25 "DollCitadel$Doll" "dusts" "[I"]
def wsL_count : List Cond := .codeWith yL_count cL_count 4 (some .int) [(0, 9, 12, 25)] :: ((wsL_count_r1 ++ wsL_count_r2) ++ wsX20 ++ wsX00 ++ (vx_atS RX2 98 "java/lang/IndexOutOfBoundsException" ["java/lang/RuntimeException", "java/lang/Exception"]).filter goodWord)
def wsL_costs_r1 : List Cond := [Cond.classLink RL 25 "java/lang/IndexOutOfBoundsException", Cond.methodLink RL 54 yX2_costs, Cond.instanceMethod yX2_costs, Cond.selects RX2 yX2_costs yX2_costs, Cond.initialized RX2, Cond.code yX2_costs cX2_costs 5 (some .int), Cond.fieldLink RX2 31 "DollCitadel" "trial" "LDollCitadel$Doll;", Cond.methodLink RX2 69 yX2_knownDoll, Cond.instanceMethod yX2_knownDoll, Cond.selects RX2 yX2_knownDoll yX2_knownDoll, Cond.code yX2_knownDoll cX2_knownDoll 3 (some (.object "DollCitadel$Doll")), Cond.classLink RX2 94 "java/lang/IndexOutOfBoundsException", Cond.initialized "java/lang/IndexOutOfBoundsException", Cond.fieldLink RX2 11 "DollCitadel" "dolls" "[LDollCitadel$Doll;", Cond.methodLink RX2 73 yX2_knownPose, Cond.instanceMethod yX2_knownPose, Cond.selects RX2 yX2_knownPose yX2_knownPose, Cond.code yX2_knownPose cX2_knownPose 3 (some (.object "DollCitadel$Pose")), Cond.fieldLink RX2 17 "DollCitadel" "poses" "[LDollCitadel$Pose;", Cond.methodLink RX2 77 yX0_canTurnTo, Cond.instanceMethod yX0_canTurnTo, Cond.selects RX0 yX0_canTurnTo yX0_canTurnTo, Cond.initialized RX0, Cond.code yX0_canTurnTo cX0_canTurnTo 3 (some .boolean)]
def wsL_costs_r2 : List Cond := [Cond.fieldLink RX0 15 "DollCitadel$Doll" "wears" "[I", Cond.fieldLink RX0 9 "DollCitadel$Doll" "angles" "[I", Cond.fieldLink RX0 41 "DollCitadel$Pose" "angles" "[I", Cond.methodLink RX2 161 yX0_becomeLike, Cond.instanceMethod yX0_becomeLike, Cond.selects RX0 yX0_becomeLike yX0_becomeLike, Cond.code yX0_becomeLike cX0_becomeLike 3 none, Cond.fieldLink RX0 18 "DollCitadel$Doll" "lacquers" "[I", Cond.fieldLink RX0 21 "DollCitadel$Doll" "open" "[Z", Cond.fieldLink RX0 25 "DollCitadel$Doll" "dusts" "[I", Cond.fieldLink RX0 28 "DollCitadel$Doll" "wigEaten" "I", Cond.fieldLink RX0 32 "DollCitadel$Doll" "weight" "I", Cond.fieldLink RX0 35 "DollCitadel$Doll" "pins" "I", Cond.fieldLink RX0 38 "DollCitadel$Doll" "posesTaken" "I", Cond.methodLink RX2 87 yX0_turnTo, Cond.instanceMethod yX0_turnTo, Cond.selects RX0 yX0_turnTo yX0_turnTo, Cond.code yX0_turnTo cX0_turnTo 4 none, Cond.methodLink RX0 44 Lib.Math.abs.name, Cond.static Lib.Math.abs.name, Cond.initialized "java/lang/Math", Cond.code Lib.Math.abs.name Lib.Math.abs.code 1 (some .int), Cond.methodLink RX0 54 Lib.Math.max.name, Cond.static Lib.Math.max.name]
def wsL_costs_r3 : List Cond := [Cond.code Lib.Math.max.name Lib.Math.max.code 2 (some .int), Cond.methodLink RX0 50 yX0_wearBehindTurn, Cond.static yX0_wearBehindTurn, Cond.code yX0_wearBehindTurn cX0_wearBehindTurn 4 (some .int), Cond.methodLink RX0 58 Lib.Math.min.name, Cond.static Lib.Math.min.name, Cond.code Lib.Math.min.name Lib.Math.min.code 2 (some .int), Cond.methodLink RX2 165 yX0_wearOfAllJoints, Cond.instanceMethod yX0_wearOfAllJoints, Cond.selects RX0 yX0_wearOfAllJoints yX0_wearOfAllJoints, Cond.code yX0_wearOfAllJoints cX0_wearOfAllJoints 6 (some .int)]
def wsL_costs : List Cond := .codeWith yL_costs cL_costs 5 (some .int) [(0, 10, 13, 25)] :: ((wsL_costs_r1 ++ (wsL_costs_r2 ++ wsL_costs_r3)) ++ wsX20 ++ wsX00 ++ wsX10 ++ (vx_atS RX2 98 "java/lang/IndexOutOfBoundsException" ["java/lang/RuntimeException", "java/lang/Exception"]).filter goodWord)
def wsL_often_r1 : List Cond := [Cond.classLink RL 25 "java/lang/IndexOutOfBoundsException", Cond.methodLink RL 57 yX2_often, Cond.instanceMethod yX2_often, Cond.selects RX2 yX2_often yX2_often, Cond.initialized RX2, Cond.code yX2_often cX2_often 6 (some .int), Cond.fieldLink RX2 31 "DollCitadel" "trial" "LDollCitadel$Doll;", Cond.fieldLink RX2 26 "DollCitadel" "rest" "LDollCitadel$Pose;", Cond.methodLink RX2 69 yX2_knownDoll, Cond.instanceMethod yX2_knownDoll, Cond.selects RX2 yX2_knownDoll yX2_knownDoll, Cond.code yX2_knownDoll cX2_knownDoll 3 (some (.object "DollCitadel$Doll")), Cond.classLink RX2 94 "java/lang/IndexOutOfBoundsException", Cond.initialized "java/lang/IndexOutOfBoundsException", Cond.fieldLink RX2 11 "DollCitadel" "dolls" "[LDollCitadel$Doll;", Cond.methodLink RX2 73 yX2_knownPose, Cond.instanceMethod yX2_knownPose, Cond.selects RX2 yX2_knownPose yX2_knownPose, Cond.code yX2_knownPose cX2_knownPose 3 (some (.object "DollCitadel$Pose")), Cond.fieldLink RX2 17 "DollCitadel" "poses" "[LDollCitadel$Pose;", Cond.methodLink RX2 161 yX0_becomeLike, Cond.instanceMethod yX0_becomeLike, Cond.selects RX0 yX0_becomeLike yX0_becomeLike, Cond.initialized RX0]
def wsL_often_r2 : List Cond := [Cond.code yX0_becomeLike cX0_becomeLike 3 none, Cond.fieldLink RX0 9 "DollCitadel$Doll" "angles" "[I", Cond.fieldLink RX0 15 "DollCitadel$Doll" "wears" "[I", Cond.fieldLink RX0 18 "DollCitadel$Doll" "lacquers" "[I", Cond.fieldLink RX0 21 "DollCitadel$Doll" "open" "[Z", Cond.fieldLink RX0 25 "DollCitadel$Doll" "dusts" "[I", Cond.fieldLink RX0 28 "DollCitadel$Doll" "wigEaten" "I", Cond.fieldLink RX0 32 "DollCitadel$Doll" "weight" "I", Cond.fieldLink RX0 35 "DollCitadel$Doll" "pins" "I", Cond.fieldLink RX0 38 "DollCitadel$Doll" "posesTaken" "I", Cond.methodLink RX2 77 yX0_canTurnTo, Cond.instanceMethod yX0_canTurnTo, Cond.selects RX0 yX0_canTurnTo yX0_canTurnTo, Cond.code yX0_canTurnTo cX0_canTurnTo 3 (some .boolean), Cond.fieldLink RX0 41 "DollCitadel$Pose" "angles" "[I", Cond.methodLink RX2 87 yX0_turnTo, Cond.instanceMethod yX0_turnTo, Cond.selects RX0 yX0_turnTo yX0_turnTo, Cond.code yX0_turnTo cX0_turnTo 4 none, Cond.methodLink RX0 44 Lib.Math.abs.name, Cond.static Lib.Math.abs.name, Cond.initialized "java/lang/Math", Cond.code Lib.Math.abs.name Lib.Math.abs.code 1 (some .int), Cond.methodLink RX0 54 Lib.Math.max.name]
def wsL_often_r3 : List Cond := [Cond.static Lib.Math.max.name, Cond.code Lib.Math.max.name Lib.Math.max.code 2 (some .int), Cond.methodLink RX0 50 yX0_wearBehindTurn, Cond.static yX0_wearBehindTurn, Cond.code yX0_wearBehindTurn cX0_wearBehindTurn 4 (some .int), Cond.methodLink RX0 58 Lib.Math.min.name, Cond.static Lib.Math.min.name, Cond.code Lib.Math.min.name Lib.Math.min.code 2 (some .int)]
def wsL_often : List Cond := .codeWith yL_often cL_often 5 (some .int) [(0, 10, 13, 25)] :: ((wsL_often_r1 ++ (wsL_often_r2 ++ wsL_often_r3)) ++ wsX20 ++ wsX00 ++ wsX10 ++ (vx_atS RX2 98 "java/lang/IndexOutOfBoundsException" ["java/lang/RuntimeException", "java/lang/Exception"]).filter goodWord)
def wsL_needs_r1 : List Cond := [Cond.classLink RL 25 "java/lang/IndexOutOfBoundsException", Cond.classLink RL 19 "java/lang/IllegalArgumentException", Cond.methodLink RL 60 yX2_needs, Cond.instanceMethod yX2_needs, Cond.selects RX2 yX2_needs yX2_needs, Cond.initialized RX2, Cond.code yX2_needs cX2_needs 4 (some .int), Cond.classLink RX2 59 "java/lang/IllegalArgumentException", Cond.initialized "java/lang/IllegalArgumentException", Cond.methodLink RX2 69 yX2_knownDoll, Cond.instanceMethod yX2_knownDoll, Cond.selects RX2 yX2_knownDoll yX2_knownDoll, Cond.code yX2_knownDoll cX2_knownDoll 3 (some (.object "DollCitadel$Doll")), Cond.classLink RX2 94 "java/lang/IndexOutOfBoundsException", Cond.initialized "java/lang/IndexOutOfBoundsException", Cond.fieldLink RX2 11 "DollCitadel" "dolls" "[LDollCitadel$Doll;", Cond.methodLink RX2 168 yX0_wants, Cond.instanceMethod yX0_wants, Cond.selects RX0 yX0_wants yX0_wants, Cond.initialized RX0, Cond.code yX0_wants cX0_wants 2 (some .int), Cond.fieldLink RX0 32 "DollCitadel$Doll" "weight" "I", Cond.fieldLink RX0 35 "DollCitadel$Doll" "pins" "I", Cond.fieldLink RX0 28 "DollCitadel$Doll" "wigEaten" "I"]
def wsL_needs_r2 : List Cond := [Cond.methodLink RX0 61 yX0_jointsWornBy, Cond.instanceMethod yX0_jointsWornBy, Cond.selects RX0 yX0_jointsWornBy yX0_jointsWornBy, Cond.code yX0_jointsWornBy cX0_jointsWornBy 7 (some .int), Cond.fieldLink RX0 15 "DollCitadel$Doll" "wears" "[I", Cond.methodLink RX0 71 yX0_jointsWithoutLacquer, Cond.instanceMethod yX0_jointsWithoutLacquer, Cond.selects RX0 yX0_jointsWithoutLacquer yX0_jointsWithoutLacquer, Cond.code yX0_jointsWithoutLacquer cX0_jointsWithoutLacquer 6 (some .int), Cond.fieldLink RX0 18 "DollCitadel$Doll" "lacquers" "[I", Cond.methodLink RX0 68 yX0_eyesWithDust, Cond.instanceMethod yX0_eyesWithDust, Cond.selects RX0 yX0_eyesWithDust yX0_eyesWithDust, Cond.code yX0_eyesWithDust cX0_eyesWithDust 7 (some .int), Cond.fieldLink RX0 25 "DollCitadel$Doll" "dusts" "[I"]
def wsL_needs : List Cond := .codeWith yL_needs cL_needs 5 (some .int) [(0, 10, 13, 25), (0, 10, 17, 19)] :: ((wsL_needs_r1 ++ wsL_needs_r2) ++ wsX20 ++ wsX00 ++ (vx_atS RX2 63 "java/lang/IllegalArgumentException" ["java/lang/RuntimeException", "java/lang/Exception"]).filter goodWord ++ (vx_atS RX2 98 "java/lang/IndexOutOfBoundsException" ["java/lang/RuntimeException", "java/lang/Exception"]).filter goodWord)
def wsL_lacks_r1 : List Cond := [Cond.classLink RL 19 "java/lang/IllegalArgumentException", Cond.methodLink RL 63 yX2_lacks, Cond.instanceMethod yX2_lacks, Cond.selects RX2 yX2_lacks yX2_lacks, Cond.initialized RX2, Cond.code yX2_lacks cX2_lacks 7 (some .int), Cond.classLink RX2 59 "java/lang/IllegalArgumentException", Cond.initialized "java/lang/IllegalArgumentException", Cond.fieldLink RX2 11 "DollCitadel" "dolls" "[LDollCitadel$Doll;", Cond.fieldLink RX2 21 "DollCitadel" "store" "[I", Cond.methodLink RX2 171 Lib.Math.max.name, Cond.static Lib.Math.max.name, Cond.initialized "java/lang/Math", Cond.code Lib.Math.max.name Lib.Math.max.code 2 (some .int), Cond.methodLink RX2 168 yX0_wants, Cond.instanceMethod yX0_wants, Cond.selects RX0 yX0_wants yX0_wants, Cond.initialized RX0, Cond.code yX0_wants cX0_wants 2 (some .int), Cond.fieldLink RX0 32 "DollCitadel$Doll" "weight" "I", Cond.fieldLink RX0 35 "DollCitadel$Doll" "pins" "I", Cond.fieldLink RX0 28 "DollCitadel$Doll" "wigEaten" "I", Cond.methodLink RX0 61 yX0_jointsWornBy, Cond.instanceMethod yX0_jointsWornBy]
def wsL_lacks_r2 : List Cond := [Cond.selects RX0 yX0_jointsWornBy yX0_jointsWornBy, Cond.code yX0_jointsWornBy cX0_jointsWornBy 7 (some .int), Cond.fieldLink RX0 15 "DollCitadel$Doll" "wears" "[I", Cond.methodLink RX0 71 yX0_jointsWithoutLacquer, Cond.instanceMethod yX0_jointsWithoutLacquer, Cond.selects RX0 yX0_jointsWithoutLacquer yX0_jointsWithoutLacquer, Cond.code yX0_jointsWithoutLacquer cX0_jointsWithoutLacquer 6 (some .int), Cond.fieldLink RX0 18 "DollCitadel$Doll" "lacquers" "[I", Cond.methodLink RX0 68 yX0_eyesWithDust, Cond.instanceMethod yX0_eyesWithDust, Cond.selects RX0 yX0_eyesWithDust yX0_eyesWithDust, Cond.code yX0_eyesWithDust cX0_eyesWithDust 7 (some .int), Cond.fieldLink RX0 25 "DollCitadel$Doll" "dusts" "[I"]
def wsL_lacks : List Cond := .codeWith yL_lacks cL_lacks 4 (some .int) [(0, 9, 12, 19)] :: ((wsL_lacks_r1 ++ wsL_lacks_r2) ++ wsX20 ++ wsX00 ++ (vx_atS RX2 63 "java/lang/IllegalArgumentException" ["java/lang/RuntimeException", "java/lang/Exception"]).filter goodWord)
def wsL_foresee_r1 : List Cond := [Cond.classLink RL 19 "java/lang/IllegalArgumentException", Cond.classLink RL 25 "java/lang/IndexOutOfBoundsException", Cond.methodLink RL 66 yX2_foresee, Cond.instanceMethod yX2_foresee, Cond.selects RX2 yX2_foresee yX2_foresee, Cond.initialized RX2, Cond.code yX2_foresee cX2_foresee 8 (some .int), Cond.classLink RX2 59 "java/lang/IllegalArgumentException", Cond.initialized "java/lang/IllegalArgumentException", Cond.classLink RX2 94 "java/lang/IndexOutOfBoundsException", Cond.initialized "java/lang/IndexOutOfBoundsException", Cond.fieldLink RX2 11 "DollCitadel" "dolls" "[LDollCitadel$Doll;", Cond.fieldLink RX2 31 "DollCitadel" "trial" "LDollCitadel$Doll;", Cond.methodLink RX2 161 yX0_becomeLike, Cond.instanceMethod yX0_becomeLike, Cond.selects RX0 yX0_becomeLike yX0_becomeLike, Cond.initialized RX0, Cond.code yX0_becomeLike cX0_becomeLike 3 none, Cond.fieldLink RX0 9 "DollCitadel$Doll" "angles" "[I", Cond.fieldLink RX0 15 "DollCitadel$Doll" "wears" "[I", Cond.fieldLink RX0 18 "DollCitadel$Doll" "lacquers" "[I", Cond.fieldLink RX0 21 "DollCitadel$Doll" "open" "[Z", Cond.fieldLink RX0 25 "DollCitadel$Doll" "dusts" "[I", Cond.fieldLink RX0 28 "DollCitadel$Doll" "wigEaten" "I"]
def wsL_foresee_r2 : List Cond := [Cond.fieldLink RX0 32 "DollCitadel$Doll" "weight" "I", Cond.fieldLink RX0 35 "DollCitadel$Doll" "pins" "I", Cond.fieldLink RX0 38 "DollCitadel$Doll" "posesTaken" "I", Cond.methodLink RX2 181 yX2_liveThrough, Cond.instanceMethod yX2_liveThrough, Cond.selects RX2 yX2_liveThrough yX2_liveThrough, Cond.code yX2_liveThrough cX2_liveThrough 5 (some .int), Cond.fieldLink RX2 42 "DollCitadel" "day" "I", Cond.fieldLink RX2 45 "DollCitadel" "moths" "I", Cond.methodLink RX2 214 yX0_liveOneDay, Cond.instanceMethod yX0_liveOneDay, Cond.selects RX0 yX0_liveOneDay yX0_liveOneDay, Cond.code yX0_liveOneDay cX0_liveOneDay 5 (some .int), Cond.methodLink RX0 77 yX0_tally, Cond.instanceMethod yX0_tally, Cond.selects RX0 yX0_tally yX0_tally, Cond.code yX0_tally cX0_tally 2 (some .int), Cond.methodLink RX0 64 yX0_brokenJoints, Cond.instanceMethod yX0_brokenJoints, Cond.selects RX0 yX0_brokenJoints yX0_brokenJoints, Cond.code yX0_brokenJoints cX0_brokenJoints 1 (some .int), Cond.methodLink RX0 61 yX0_jointsWornBy, Cond.instanceMethod yX0_jointsWornBy, Cond.selects RX0 yX0_jointsWornBy yX0_jointsWornBy]
def wsL_foresee_r3 : List Cond := [Cond.code yX0_jointsWornBy cX0_jointsWornBy 7 (some .int), Cond.methodLink RX0 68 yX0_eyesWithDust, Cond.instanceMethod yX0_eyesWithDust, Cond.selects RX0 yX0_eyesWithDust yX0_eyesWithDust, Cond.code yX0_eyesWithDust cX0_eyesWithDust 7 (some .int), Cond.methodLink RX0 80 yX0_eatWig, Cond.instanceMethod yX0_eatWig, Cond.selects RX0 yX0_eatWig yX0_eatWig, Cond.code yX0_eatWig cX0_eatWig 2 none, Cond.methodLink RX0 84 yX0_loosenDress, Cond.instanceMethod yX0_loosenDress, Cond.selects RX0 yX0_loosenDress yX0_loosenDress, Cond.code yX0_loosenDress cX0_loosenDress 1 none, Cond.methodLink RX0 54 Lib.Math.max.name, Cond.static Lib.Math.max.name, Cond.initialized "java/lang/Math", Cond.code Lib.Math.max.name Lib.Math.max.code 2 (some .int), Cond.methodLink RX0 87 yX0_dryLacquer, Cond.instanceMethod yX0_dryLacquer, Cond.selects RX0 yX0_dryLacquer yX0_dryLacquer, Cond.code yX0_dryLacquer cX0_dryLacquer 2 none, Cond.methodLink RX0 90 yX0_gatherDust, Cond.instanceMethod yX0_gatherDust, Cond.selects RX0 yX0_gatherDust yX0_gatherDust]
def wsL_foresee_r4 : List Cond := [Cond.code yX0_gatherDust cX0_gatherDust 2 none, Cond.methodLink RX0 58 Lib.Math.min.name, Cond.static Lib.Math.min.name, Cond.code Lib.Math.min.name Lib.Math.min.code 2 (some .int), Cond.methodLink RX2 185 yX0_tally]
def wsL_foresee : List Cond := .codeWith yL_foresee cL_foresee 5 (some .int) [(0, 10, 13, 19), (0, 10, 17, 25)] :: ((wsL_foresee_r1 ++ (wsL_foresee_r2 ++ (wsL_foresee_r3 ++ wsL_foresee_r4))) ++ wsX20 ++ wsX00 ++ (vx_atS RX2 63 "java/lang/IllegalArgumentException" ["java/lang/RuntimeException", "java/lang/Exception"]).filter goodWord ++ (vx_atS RX2 98 "java/lang/IndexOutOfBoundsException" ["java/lang/RuntimeException", "java/lang/Exception"]).filter goodWord)
def wsL_pass_r1 : List Cond := [Cond.classLink RL 19 "java/lang/IllegalArgumentException", Cond.methodLink RL 69 yX2_pass, Cond.instanceMethod yX2_pass, Cond.selects RX2 yX2_pass yX2_pass, Cond.initialized RX2, Cond.code yX2_pass cX2_pass 7 (some .int), Cond.classLink RX2 59 "java/lang/IllegalArgumentException", Cond.initialized "java/lang/IllegalArgumentException", Cond.fieldLink RX2 11 "DollCitadel" "dolls" "[LDollCitadel$Doll;", Cond.fieldLink RX2 42 "DollCitadel" "day" "I", Cond.methodLink RX2 181 yX2_liveThrough, Cond.instanceMethod yX2_liveThrough, Cond.selects RX2 yX2_liveThrough yX2_liveThrough, Cond.code yX2_liveThrough cX2_liveThrough 5 (some .int), Cond.fieldLink RX2 45 "DollCitadel" "moths" "I", Cond.methodLink RX2 214 yX0_liveOneDay, Cond.instanceMethod yX0_liveOneDay, Cond.selects RX0 yX0_liveOneDay yX0_liveOneDay, Cond.initialized RX0, Cond.code yX0_liveOneDay cX0_liveOneDay 5 (some .int), Cond.methodLink RX0 77 yX0_tally, Cond.instanceMethod yX0_tally, Cond.selects RX0 yX0_tally yX0_tally, Cond.code yX0_tally cX0_tally 2 (some .int)]
def wsL_pass_r2 : List Cond := [Cond.fieldLink RX0 28 "DollCitadel$Doll" "wigEaten" "I", Cond.fieldLink RX0 32 "DollCitadel$Doll" "weight" "I", Cond.methodLink RX0 64 yX0_brokenJoints, Cond.instanceMethod yX0_brokenJoints, Cond.selects RX0 yX0_brokenJoints yX0_brokenJoints, Cond.code yX0_brokenJoints cX0_brokenJoints 1 (some .int), Cond.methodLink RX0 61 yX0_jointsWornBy, Cond.instanceMethod yX0_jointsWornBy, Cond.selects RX0 yX0_jointsWornBy yX0_jointsWornBy, Cond.code yX0_jointsWornBy cX0_jointsWornBy 7 (some .int), Cond.fieldLink RX0 15 "DollCitadel$Doll" "wears" "[I", Cond.methodLink RX0 68 yX0_eyesWithDust, Cond.instanceMethod yX0_eyesWithDust, Cond.selects RX0 yX0_eyesWithDust yX0_eyesWithDust, Cond.code yX0_eyesWithDust cX0_eyesWithDust 7 (some .int), Cond.fieldLink RX0 25 "DollCitadel$Doll" "dusts" "[I", Cond.methodLink RX0 80 yX0_eatWig, Cond.instanceMethod yX0_eatWig, Cond.selects RX0 yX0_eatWig yX0_eatWig, Cond.code yX0_eatWig cX0_eatWig 2 none, Cond.methodLink RX0 84 yX0_loosenDress, Cond.instanceMethod yX0_loosenDress, Cond.selects RX0 yX0_loosenDress yX0_loosenDress, Cond.code yX0_loosenDress cX0_loosenDress 1 none]
def wsL_pass_r3 : List Cond := [Cond.fieldLink RX0 35 "DollCitadel$Doll" "pins" "I", Cond.methodLink RX0 54 Lib.Math.max.name, Cond.static Lib.Math.max.name, Cond.initialized "java/lang/Math", Cond.code Lib.Math.max.name Lib.Math.max.code 2 (some .int), Cond.methodLink RX0 87 yX0_dryLacquer, Cond.instanceMethod yX0_dryLacquer, Cond.selects RX0 yX0_dryLacquer yX0_dryLacquer, Cond.code yX0_dryLacquer cX0_dryLacquer 2 none, Cond.fieldLink RX0 18 "DollCitadel$Doll" "lacquers" "[I", Cond.methodLink RX0 90 yX0_gatherDust, Cond.instanceMethod yX0_gatherDust, Cond.selects RX0 yX0_gatherDust yX0_gatherDust, Cond.code yX0_gatherDust cX0_gatherDust 2 none, Cond.fieldLink RX0 21 "DollCitadel$Doll" "open" "[Z", Cond.methodLink RX0 58 Lib.Math.min.name, Cond.static Lib.Math.min.name, Cond.code Lib.Math.min.name Lib.Math.min.code 2 (some .int)]
def wsL_pass : List Cond := .codeWith yL_pass cL_pass 4 (some .int) [(0, 9, 12, 19)] :: ((wsL_pass_r1 ++ (wsL_pass_r2 ++ wsL_pass_r3)) ++ wsX20 ++ wsX00 ++ (vx_atS RX2 63 "java/lang/IllegalArgumentException" ["java/lang/RuntimeException", "java/lang/Exception"]).filter goodWord)
def wsL_law0_r1 : List Cond := [Cond.classLink RL 8 RX2, Cond.instantiable RX2 9, Cond.initialized RX2, Cond.classLink RL 73 RX3, Cond.instantiable RX3 9, Cond.initialized RX3, Cond.arrayClass .long, Cond.methodLink RL 72 yX2_init, Cond.instanceMethod yX2_init, Cond.code yX2_init cX2_init 1 none, Cond.methodLink RX2 1 objectInit, Cond.instanceMethod objectInit, Cond.code objectInit ⟨#[0xb1]⟩ 1 none, Cond.classLink RX2 9 RX0, Cond.fieldLink RX2 11 "DollCitadel" "dolls" "[LDollCitadel$Doll;", Cond.classLink RX2 15 RX1, Cond.fieldLink RX2 17 "DollCitadel" "poses" "[LDollCitadel$Pose;", Cond.arrayClass .int, Cond.fieldLink RX2 21 "DollCitadel" "store" "[I", Cond.instantiable RX1 1, Cond.initialized RX1, Cond.fieldLink RX2 26 "DollCitadel" "rest" "LDollCitadel$Pose;", Cond.instantiable RX0 9, Cond.initialized RX0]
def wsL_law0_r2 : List Cond := [Cond.fieldLink RX2 31 "DollCitadel" "trial" "LDollCitadel$Doll;", Cond.fieldLink RX2 35 "DollCitadel" "dollCount" "I", Cond.fieldLink RX2 39 "DollCitadel" "poseCount" "I", Cond.fieldLink RX2 42 "DollCitadel" "day" "I", Cond.fieldLink RX2 45 "DollCitadel" "moths" "I", Cond.instanceMethod yX1_init, Cond.code yX1_init cX1_init 1 none, Cond.methodLink RX1 3 objectInit, Cond.fieldLink RX1 9 "DollCitadel$Pose" "angles" "[I", Cond.methodLink RX2 30 yX0_init, Cond.instanceMethod yX0_init, Cond.code yX0_init cX0_init 2 none, Cond.methodLink RX0 3 objectInit, Cond.fieldLink RX0 9 "DollCitadel$Doll" "angles" "[I", Cond.fieldLink RX0 15 "DollCitadel$Doll" "wears" "[I", Cond.fieldLink RX0 18 "DollCitadel$Doll" "lacquers" "[I", Cond.arrayClass .boolean, Cond.fieldLink RX0 21 "DollCitadel$Doll" "open" "[Z", Cond.fieldLink RX0 25 "DollCitadel$Doll" "dusts" "[I", Cond.fieldLink RX0 28 "DollCitadel$Doll" "wigEaten" "I", Cond.fieldLink RX0 32 "DollCitadel$Doll" "weight" "I", Cond.fieldLink RX0 35 "DollCitadel$Doll" "pins" "I", Cond.fieldLink RX0 38 "DollCitadel$Doll" "posesTaken" "I", Cond.methodLink RL 75 yX3_init]
def wsL_law0_r3 : List Cond := [Cond.instanceMethod yX3_init, Cond.code yX3_init cX3_init 1 none, Cond.methodLink RX3 1 objectInit, Cond.fieldLink RX3 7 "DollCitadelModel" "moths" "I", Cond.fieldLink RX3 13 "DollCitadelModel" "limbs" "[I", Cond.fieldLink RX3 17 "DollCitadelModel" "rooms" "[I", Cond.fieldLink RX3 20 "DollCitadelModel" "told" "[I", Cond.fieldLink RX3 23 "DollCitadelModel" "store" "[I", Cond.fieldLink RX3 26 "DollCitadelModel" "day" "[I", Cond.methodLink RL 76 yL_make, Cond.static yL_make, Cond.initialized RL, Cond.codeWith yL_make cL_make 3 (some .int) [(0, 8, 11, 13)], Cond.classLink RL 13 "java/lang/IllegalStateException", Cond.methodLink RL 7 yX2_make, Cond.instanceMethod yX2_make, Cond.selects RX2 yX2_make yX2_make, Cond.code yX2_make cX2_make 2 (some .int), Cond.classLink RX2 48 "java/lang/IllegalStateException", Cond.initialized "java/lang/IllegalStateException", Cond.methodLink RL 81 yX3_make, Cond.instanceMethod yX3_make, Cond.selects RX3 yX3_make yX3_make, Cond.code yX3_make cX3_make 2 (some .int)]
def wsL_law0_r4 : List Cond := [Cond.fieldLink RX3 29 "DollCitadelModel" "thrown" "I", Cond.fieldLink RX3 32 "DollCitadelModel" "dolls" "I", Cond.methodLink RX3 50 arraycopyName, Cond.native arraycopyName, Cond.static arraycopyName, Cond.initialized "java/lang/System", Cond.methodLink RX3 46 yX3_fail, Cond.instanceMethod yX3_fail, Cond.selects RX3 yX3_fail yX3_fail, Cond.code yX3_fail cX3_fail 2 (some .int), Cond.methodLink RX3 42 yX3_at, Cond.static yX3_at, Cond.code yX3_at cX3_at 3 (some .int), Cond.methodLink RL 82 yX3_thrown, Cond.instanceMethod yX3_thrown, Cond.selects RX3 yX3_thrown yX3_thrown, Cond.code yX3_thrown cX3_thrown 1 (some .int), Cond.methodLink RL 85 yL_pose, Cond.static yL_pose, Cond.codeWith yL_pose cL_pose 9 (some .int) [(0, 18, 21, 19), (0, 18, 25, 13)], Cond.classLink RL 19 "java/lang/IllegalArgumentException", Cond.methodLink RL 15 yX2_pose, Cond.instanceMethod yX2_pose, Cond.selects RX2 yX2_pose yX2_pose]
def wsL_law0_r5 : List Cond := [Cond.code yX2_pose cX2_pose 9 (some .int), Cond.classLink RX2 59 "java/lang/IllegalArgumentException", Cond.initialized "java/lang/IllegalArgumentException", Cond.fieldLink RX2 66 "DollCitadel$Pose" "angles" "[I", Cond.methodLink RX2 55 yX2_isAngle, Cond.static yX2_isAngle, Cond.code yX2_isAngle cX2_isAngle 1 (some .boolean), Cond.methodLink RL 88 yX3_pose, Cond.instanceMethod yX3_pose, Cond.selects RX3 yX3_pose yX3_pose, Cond.code yX3_pose cX3_pose 12 (some .int), Cond.fieldLink RX3 39 "DollCitadelModel" "poses" "I", Cond.methodLink RX3 35 yX3_isIn, Cond.static yX3_isIn, Cond.code yX3_isIn cX3_isIn 3 (some .boolean), Cond.methodLink RL 89 yL_take, Cond.static yL_take, Cond.codeWith yL_take cL_take 5 (some .int) [(0, 10, 13, 25), (0, 10, 17, 13)], Cond.classLink RL 25 "java/lang/IndexOutOfBoundsException", Cond.methodLink RL 21 yX2_take, Cond.instanceMethod yX2_take, Cond.selects RX2 yX2_take yX2_take, Cond.code yX2_take cX2_take 6 (some .int), Cond.fieldLink RX2 91 "DollCitadel$Doll" "posesTaken" "I"]
def wsL_law0_r6 : List Cond := [Cond.methodLink RX2 69 yX2_knownDoll, Cond.instanceMethod yX2_knownDoll, Cond.selects RX2 yX2_knownDoll yX2_knownDoll, Cond.code yX2_knownDoll cX2_knownDoll 3 (some (.object "DollCitadel$Doll")), Cond.classLink RX2 94 "java/lang/IndexOutOfBoundsException", Cond.initialized "java/lang/IndexOutOfBoundsException", Cond.methodLink RX2 73 yX2_knownPose, Cond.instanceMethod yX2_knownPose, Cond.selects RX2 yX2_knownPose yX2_knownPose, Cond.code yX2_knownPose cX2_knownPose 3 (some (.object "DollCitadel$Pose")), Cond.methodLink RX2 77 yX0_canTurnTo, Cond.instanceMethod yX0_canTurnTo, Cond.selects RX0 yX0_canTurnTo yX0_canTurnTo, Cond.code yX0_canTurnTo cX0_canTurnTo 3 (some .boolean), Cond.fieldLink RX0 41 "DollCitadel$Pose" "angles" "[I", Cond.methodLink RX2 83 yX0_brokenJoints, Cond.instanceMethod yX0_brokenJoints, Cond.selects RX0 yX0_brokenJoints yX0_brokenJoints, Cond.code yX0_brokenJoints cX0_brokenJoints 1 (some .int), Cond.methodLink RX0 61 yX0_jointsWornBy, Cond.instanceMethod yX0_jointsWornBy, Cond.selects RX0 yX0_jointsWornBy yX0_jointsWornBy, Cond.code yX0_jointsWornBy cX0_jointsWornBy 7 (some .int), Cond.methodLink RX2 87 yX0_turnTo]
def wsL_law0_r7 : List Cond := [Cond.instanceMethod yX0_turnTo, Cond.selects RX0 yX0_turnTo yX0_turnTo, Cond.code yX0_turnTo cX0_turnTo 4 none, Cond.methodLink RX0 44 Lib.Math.abs.name, Cond.static Lib.Math.abs.name, Cond.initialized "java/lang/Math", Cond.code Lib.Math.abs.name Lib.Math.abs.code 1 (some .int), Cond.methodLink RX0 54 Lib.Math.max.name, Cond.static Lib.Math.max.name, Cond.code Lib.Math.max.name Lib.Math.max.code 2 (some .int), Cond.methodLink RX0 50 yX0_wearBehindTurn, Cond.static yX0_wearBehindTurn, Cond.code yX0_wearBehindTurn cX0_wearBehindTurn 4 (some .int), Cond.methodLink RX0 58 Lib.Math.min.name, Cond.static Lib.Math.min.name, Cond.code Lib.Math.min.name Lib.Math.min.code 2 (some .int), Cond.methodLink RL 92 yX3_take, Cond.instanceMethod yX3_take, Cond.selects RX3 yX3_take yX3_take, Cond.code yX3_take cX3_take 3 (some .int), Cond.methodLink RX3 75 yX3_isDoll, Cond.instanceMethod yX3_isDoll, Cond.selects RX3 yX3_isDoll yX3_isDoll, Cond.code yX3_isDoll cX3_isDoll 2 (some .boolean)]
def wsL_law0_r8 : List Cond := [Cond.methodLink RX3 79 yX3_isPose, Cond.instanceMethod yX3_isPose, Cond.selects RX3 yX3_isPose yX3_isPose, Cond.code yX3_isPose cX3_isPose 2 (some .boolean), Cond.methodLink RX3 82 yX3_can, Cond.instanceMethod yX3_can, Cond.selects RX3 yX3_can yX3_can, Cond.code yX3_can cX3_can 4 (some .boolean), Cond.methodLink RX3 68 yX3_isBroken, Cond.instanceMethod yX3_isBroken, Cond.selects RX3 yX3_isBroken yX3_isBroken, Cond.code yX3_isBroken cX3_isBroken 3 (some .boolean), Cond.methodLink RX3 56 yX3_li, Cond.instanceMethod yX3_li, Cond.selects RX3 yX3_li yX3_li, Cond.code yX3_li cX3_li 4 (some .int), Cond.methodLink RX3 85 yX3_ro, Cond.instanceMethod yX3_ro, Cond.selects RX3 yX3_ro yX3_ro, Cond.code yX3_ro cX3_ro 3 (some .int), Cond.methodLink RX3 88 yX3_put, Cond.instanceMethod yX3_put, Cond.selects RX3 yX3_put yX3_put, Cond.code yX3_put cX3_put 4 none]
def wsL_law0_r9 : List Cond := [Cond.methodLink RX3 92 yX3_turnAll, Cond.instanceMethod yX3_turnAll, Cond.selects RX3 yX3_turnAll yX3_turnAll, Cond.code yX3_turnAll cX3_turnAll 5 (some .int), Cond.methodLink RX3 72 yX3_turn, Cond.instanceMethod yX3_turn, Cond.selects RX3 yX3_turn yX3_turn, Cond.code yX3_turn cX3_turn 6 (some .boolean), Cond.methodLink RX3 59 Lib.Math.abs.name, Cond.methodLink RX3 64 Lib.Math.min.name, Cond.methodLink RL 93 yL_blink, Cond.static yL_blink, Cond.codeWith yL_blink cL_blink 5 (some .int) [(0, 17, 20, 25), (0, 17, 24, 13)], Cond.methodLink RL 27 yX2_blink, Cond.instanceMethod yX2_blink, Cond.selects RX2 yX2_blink yX2_blink, Cond.code yX2_blink cX2_blink 4 (some .boolean), Cond.fieldLink RX2 99 "DollCitadel$Doll" "dusts" "[I", Cond.fieldLink RX2 104 "DollCitadel$Doll" "open" "[Z", Cond.methodLink RL 95 yX3_blink, Cond.instanceMethod yX3_blink, Cond.selects RX3 yX3_blink yX3_blink, Cond.code yX3_blink cX3_blink 3 (some .boolean), Cond.methodLink RL 96 yL_dress]
def wsL_law0_r10 : List Cond := [Cond.static yL_dress, Cond.codeWith yL_dress cL_dress 6 (some .int) [(0, 12, 15, 25), (0, 12, 19, 19), (0, 12, 23, 13)], Cond.methodLink RL 31 yX2_dress, Cond.instanceMethod yX2_dress, Cond.selects RX2 yX2_dress yX2_dress, Cond.code yX2_dress cX2_dress 6 (some .int), Cond.fieldLink RX2 112 "DollCitadel$Doll" "pins" "I", Cond.fieldLink RX2 115 "DollCitadel$Doll" "weight" "I", Cond.methodLink RX2 118 Lib.Math.min.name, Cond.methodLink RL 99 yX3_dress, Cond.instanceMethod yX3_dress, Cond.selects RX3 yX3_dress yX3_dress, Cond.code yX3_dress cX3_dress 4 (some .int), Cond.methodLink RL 100 yL_bring, Cond.static yL_bring, Cond.codeWith yL_bring cL_bring 5 (some .int) [(0, 10, 13, 19)], Cond.methodLink RL 35 yX2_bring, Cond.instanceMethod yX2_bring, Cond.selects RX2 yX2_bring yX2_bring, Cond.code yX2_bring cX2_bring 3 (some .int), Cond.methodLink RL 102 yX3_bring, Cond.instanceMethod yX3_bring, Cond.selects RX3 yX3_bring yX3_bring, Cond.code yX3_bring cX3_bring 3 (some .int)]
def wsL_law0_r11 : List Cond := [Cond.methodLink RL 103 yL_setMoths, Cond.static yL_setMoths, Cond.codeWith yL_setMoths cL_setMoths 4 (some .int) [(0, 9, 12, 19)], Cond.methodLink RL 38 yX2_setMoths, Cond.instanceMethod yX2_setMoths, Cond.selects RX2 yX2_setMoths yX2_setMoths, Cond.code yX2_setMoths cX2_setMoths 3 (some .int), Cond.methodLink RL 106 yX3_setMoths, Cond.instanceMethod yX3_setMoths, Cond.selects RX3 yX3_setMoths yX3_setMoths, Cond.code yX3_setMoths cX3_setMoths 3 (some .int), Cond.methodLink RL 107 yL_mend, Cond.static yL_mend, Cond.codeWith yL_mend cL_mend 6 (some .int) [(0, 12, 15, 25), (0, 12, 19, 19), (0, 12, 23, 13)], Cond.methodLink RL 42 yX2_mend, Cond.instanceMethod yX2_mend, Cond.selects RX2 yX2_mend yX2_mend, Cond.code yX2_mend cX2_mend 5 (some .int), Cond.fieldLink RX2 138 "DollCitadel$Doll" "wears" "[I", Cond.fieldLink RX2 141 "DollCitadel$Doll" "lacquers" "[I", Cond.fieldLink RX2 147 "DollCitadel$Doll" "wigEaten" "I", Cond.methodLink RX2 132 yX0_hasRoomForPin, Cond.instanceMethod yX0_hasRoomForPin, Cond.selects RX0 yX0_hasRoomForPin yX0_hasRoomForPin]
def wsL_law0_r12 : List Cond := [Cond.code yX0_hasRoomForPin cX0_hasRoomForPin 1 (some .boolean), Cond.methodLink RX2 144 yX0_wipeEyes, Cond.instanceMethod yX0_wipeEyes, Cond.selects RX0 yX0_wipeEyes yX0_wipeEyes, Cond.code yX0_wipeEyes cX0_wipeEyes 2 none, Cond.methodLink RL 109 yX3_mend, Cond.instanceMethod yX3_mend, Cond.selects RX3 yX3_mend yX3_mend, Cond.code yX3_mend cX3_mend 4 (some .int), Cond.methodLink RL 110 yL_joint, Cond.static yL_joint, Cond.codeWith yL_joint cL_joint 6 (some .int) [(0, 12, 15, 25)], Cond.methodLink RL 45 yX2_joint, Cond.instanceMethod yX2_joint, Cond.selects RX2 yX2_joint yX2_joint, Cond.code yX2_joint cX2_joint 5 (some .int), Cond.fieldLink RX2 152 "DollCitadel$Doll" "angles" "[I", Cond.methodLink RL 112 yX3_joint, Cond.instanceMethod yX3_joint, Cond.selects RX3 yX3_joint yX3_joint, Cond.code yX3_joint cX3_joint 4 (some .int), Cond.methodLink RX3 95 yX3_jointTold, Cond.instanceMethod yX3_jointTold, Cond.selects RX3 yX3_jointTold yX3_jointTold]
def wsL_law0_r13 : List Cond := [Cond.code yX3_jointTold cX3_jointTold 4 (some .int), Cond.methodLink RL 113 yL_doll, Cond.static yL_doll, Cond.codeWith yL_doll cL_doll 5 (some .int) [(0, 10, 13, 25)], Cond.methodLink RL 48 yX2_doll, Cond.instanceMethod yX2_doll, Cond.selects RX2 yX2_doll yX2_doll, Cond.code yX2_doll cX2_doll 4 (some .int), Cond.methodLink RL 115 yX3_doll, Cond.instanceMethod yX3_doll, Cond.selects RX3 yX3_doll yX3_doll, Cond.code yX3_doll cX3_doll 3 (some .int), Cond.methodLink RL 116 yL_count, Cond.static yL_count, Cond.codeWith yL_count cL_count 4 (some .int) [(0, 9, 12, 25)], Cond.methodLink RL 51 yX2_count, Cond.instanceMethod yX2_count, Cond.selects RX2 yX2_count yX2_count, Cond.code yX2_count cX2_count 2 (some .int), Cond.methodLink RX2 157 yX2_tallyOfAll, Cond.instanceMethod yX2_tallyOfAll, Cond.selects RX2 yX2_tallyOfAll yX2_tallyOfAll, Cond.code yX2_tallyOfAll cX2_tallyOfAll 7 (some .int), Cond.methodLink RX2 185 yX0_tally]
def wsL_law0_r14 : List Cond := [Cond.instanceMethod yX0_tally, Cond.selects RX0 yX0_tally yX0_tally, Cond.code yX0_tally cX0_tally 2 (some .int), Cond.methodLink RX0 64 yX0_brokenJoints, Cond.methodLink RX0 68 yX0_eyesWithDust, Cond.instanceMethod yX0_eyesWithDust, Cond.selects RX0 yX0_eyesWithDust yX0_eyesWithDust, Cond.code yX0_eyesWithDust cX0_eyesWithDust 7 (some .int), Cond.methodLink RL 118 yX3_count, Cond.instanceMethod yX3_count, Cond.selects RX3 yX3_count yX3_count, Cond.code yX3_count cX3_count 2 (some .int), Cond.methodLink RX3 98 yX3_counted, Cond.instanceMethod yX3_counted, Cond.selects RX3 yX3_counted yX3_counted, Cond.code yX3_counted cX3_counted 5 (some .int), Cond.methodLink RL 119 yL_costs, Cond.static yL_costs, Cond.codeWith yL_costs cL_costs 5 (some .int) [(0, 10, 13, 25)], Cond.methodLink RL 54 yX2_costs, Cond.instanceMethod yX2_costs, Cond.selects RX2 yX2_costs yX2_costs, Cond.code yX2_costs cX2_costs 5 (some .int), Cond.methodLink RX2 161 yX0_becomeLike]
def wsL_law0_r15 : List Cond := [Cond.instanceMethod yX0_becomeLike, Cond.selects RX0 yX0_becomeLike yX0_becomeLike, Cond.code yX0_becomeLike cX0_becomeLike 3 none, Cond.methodLink RX2 165 yX0_wearOfAllJoints, Cond.instanceMethod yX0_wearOfAllJoints, Cond.selects RX0 yX0_wearOfAllJoints yX0_wearOfAllJoints, Cond.code yX0_wearOfAllJoints cX0_wearOfAllJoints 6 (some .int), Cond.methodLink RL 121 yX3_costs, Cond.instanceMethod yX3_costs, Cond.selects RX3 yX3_costs yX3_costs, Cond.code yX3_costs cX3_costs 6 (some .int), Cond.methodLink RX3 106 yX3_kept, Cond.instanceMethod yX3_kept, Cond.selects RX3 yX3_kept yX3_kept, Cond.code yX3_kept cX3_kept 1 (some (.array (.array .int))), Cond.classLink RX3 101 "[I", Cond.methodLink RX3 102 ⟨"[I", "clone", "()Ljava/lang/Object;"⟩, Cond.sameMethod "[I" "java/lang/Object" "clone" "()Ljava/lang/Object;", Cond.native ⟨"java/lang/Object", "clone", "()Ljava/lang/Object;"⟩, Cond.instanceMethod ⟨"java/lang/Object", "clone", "()Ljava/lang/Object;"⟩, Cond.selects "[I" ⟨"[I", "clone", "()Ljava/lang/Object;"⟩ ⟨"java/lang/Object", "clone", "()Ljava/lang/Object;"⟩, Cond.methodLink RX3 110 yX3_wearOf, Cond.instanceMethod yX3_wearOf, Cond.selects RX3 yX3_wearOf yX3_wearOf]
def wsL_law0_r16 : List Cond := [Cond.code yX3_wearOf cX3_wearOf 4 (some .int), Cond.methodLink RX3 113 yX3_bringBack, Cond.instanceMethod yX3_bringBack, Cond.selects RX3 yX3_bringBack yX3_bringBack, Cond.code yX3_bringBack cX3_bringBack 2 none, Cond.methodLink RL 122 yL_often, Cond.static yL_often, Cond.codeWith yL_often cL_often 5 (some .int) [(0, 10, 13, 25)], Cond.methodLink RL 57 yX2_often, Cond.instanceMethod yX2_often, Cond.selects RX2 yX2_often yX2_often, Cond.code yX2_often cX2_often 6 (some .int), Cond.methodLink RL 124 yX3_often, Cond.instanceMethod yX3_often, Cond.selects RX3 yX3_often yX3_often, Cond.code yX3_often cX3_often 6 (some .int), Cond.methodLink RL 125 yL_needs, Cond.static yL_needs, Cond.codeWith yL_needs cL_needs 5 (some .int) [(0, 10, 13, 25), (0, 10, 17, 19)], Cond.methodLink RL 60 yX2_needs, Cond.instanceMethod yX2_needs, Cond.selects RX2 yX2_needs yX2_needs, Cond.code yX2_needs cX2_needs 4 (some .int), Cond.methodLink RX2 168 yX0_wants]
def wsL_law0_r17 : List Cond := [Cond.instanceMethod yX0_wants, Cond.selects RX0 yX0_wants yX0_wants, Cond.code yX0_wants cX0_wants 2 (some .int), Cond.methodLink RX0 71 yX0_jointsWithoutLacquer, Cond.instanceMethod yX0_jointsWithoutLacquer, Cond.selects RX0 yX0_jointsWithoutLacquer yX0_jointsWithoutLacquer, Cond.code yX0_jointsWithoutLacquer cX0_jointsWithoutLacquer 6 (some .int), Cond.methodLink RL 127 yX3_needs, Cond.instanceMethod yX3_needs, Cond.selects RX3 yX3_needs yX3_needs, Cond.code yX3_needs cX3_needs 3 (some .int), Cond.methodLink RX3 117 yX3_needed, Cond.instanceMethod yX3_needed, Cond.selects RX3 yX3_needed yX3_needed, Cond.code yX3_needed cX3_needed 5 (some .int), Cond.methodLink RL 128 yL_lacks, Cond.static yL_lacks, Cond.codeWith yL_lacks cL_lacks 4 (some .int) [(0, 9, 12, 19)], Cond.methodLink RL 63 yX2_lacks, Cond.instanceMethod yX2_lacks, Cond.selects RX2 yX2_lacks yX2_lacks, Cond.code yX2_lacks cX2_lacks 7 (some .int), Cond.methodLink RX2 171 Lib.Math.max.name, Cond.methodLink RL 130 yX3_lacks]
def wsL_law0_r18 : List Cond := [Cond.instanceMethod yX3_lacks, Cond.selects RX3 yX3_lacks yX3_lacks, Cond.code yX3_lacks cX3_lacks 4 (some .int), Cond.methodLink RX3 120 Lib.Math.max.name, Cond.methodLink RL 131 yX2_worst, Cond.instanceMethod yX2_worst, Cond.selects RX2 yX2_worst yX2_worst, Cond.code yX2_worst cX2_worst 6 (some .int), Cond.methodLink RX2 174 yX0_wantsInAll, Cond.instanceMethod yX0_wantsInAll, Cond.selects RX0 yX0_wantsInAll yX0_wantsInAll, Cond.code yX0_wantsInAll cX0_wantsInAll 3 (some .int), Cond.methodLink RX0 74 yX0_wants, Cond.methodLink RL 134 yX3_worst, Cond.instanceMethod yX3_worst, Cond.selects RX3 yX3_worst yX3_worst, Cond.code yX3_worst cX3_worst 6 (some .int), Cond.methodLink RL 135 yL_foresee, Cond.static yL_foresee, Cond.codeWith yL_foresee cL_foresee 5 (some .int) [(0, 10, 13, 19), (0, 10, 17, 25)], Cond.methodLink RL 66 yX2_foresee, Cond.instanceMethod yX2_foresee, Cond.selects RX2 yX2_foresee yX2_foresee, Cond.code yX2_foresee cX2_foresee 8 (some .int)]
def wsL_law0_r19 : List Cond := [Cond.methodLink RX2 181 yX2_liveThrough, Cond.instanceMethod yX2_liveThrough, Cond.selects RX2 yX2_liveThrough yX2_liveThrough, Cond.code yX2_liveThrough cX2_liveThrough 5 (some .int), Cond.methodLink RX2 214 yX0_liveOneDay, Cond.instanceMethod yX0_liveOneDay, Cond.selects RX0 yX0_liveOneDay yX0_liveOneDay, Cond.code yX0_liveOneDay cX0_liveOneDay 5 (some .int), Cond.methodLink RX0 77 yX0_tally, Cond.methodLink RX0 80 yX0_eatWig, Cond.instanceMethod yX0_eatWig, Cond.selects RX0 yX0_eatWig yX0_eatWig, Cond.code yX0_eatWig cX0_eatWig 2 none, Cond.methodLink RX0 84 yX0_loosenDress, Cond.instanceMethod yX0_loosenDress, Cond.selects RX0 yX0_loosenDress yX0_loosenDress, Cond.code yX0_loosenDress cX0_loosenDress 1 none, Cond.methodLink RX0 87 yX0_dryLacquer, Cond.instanceMethod yX0_dryLacquer, Cond.selects RX0 yX0_dryLacquer yX0_dryLacquer, Cond.code yX0_dryLacquer cX0_dryLacquer 2 none, Cond.methodLink RX0 90 yX0_gatherDust, Cond.instanceMethod yX0_gatherDust, Cond.selects RX0 yX0_gatherDust yX0_gatherDust]
def wsL_law0_r20 : List Cond := [Cond.code yX0_gatherDust cX0_gatherDust 2 none, Cond.methodLink RL 137 yX3_foresee, Cond.instanceMethod yX3_foresee, Cond.selects RX3 yX3_foresee yX3_foresee, Cond.code yX3_foresee cX3_foresee 5 (some .int), Cond.methodLink RX3 126 yX3_daysOn, Cond.instanceMethod yX3_daysOn, Cond.selects RX3 yX3_daysOn yX3_daysOn, Cond.code yX3_daysOn cX3_daysOn 5 (some .int), Cond.methodLink RX3 123 yX3_dayOf, Cond.instanceMethod yX3_dayOf, Cond.selects RX3 yX3_dayOf yX3_dayOf, Cond.code yX3_dayOf cX3_dayOf 4 (some .int), Cond.methodLink RL 138 yL_pass, Cond.static yL_pass, Cond.codeWith yL_pass cL_pass 4 (some .int) [(0, 9, 12, 19)], Cond.methodLink RL 69 yX2_pass, Cond.instanceMethod yX2_pass, Cond.selects RX2 yX2_pass yX2_pass, Cond.code yX2_pass cX2_pass 7 (some .int), Cond.methodLink RL 140 yX3_pass, Cond.instanceMethod yX3_pass, Cond.selects RX3 yX3_pass yX3_pass, Cond.code yX3_pass cX3_pass 2 (some .int)]
def wsL_law0_r21 : List Cond := [Cond.methodLink RL 141 yX2_mean, Cond.instanceMethod yX2_mean, Cond.selects RX2 yX2_mean yX2_mean, Cond.code yX2_mean cX2_mean 6 (some .double), Cond.methodLink RL 145 yX3_mean, Cond.instanceMethod yX3_mean, Cond.selects RX3 yX3_mean yX3_mean, Cond.code yX3_mean cX3_mean 3 (some .double), Cond.methodLink RL 146 yX2_digest, Cond.instanceMethod yX2_digest, Cond.selects RX2 yX2_digest yX2_digest, Cond.code yX2_digest cX2_digest 7 (some .long), Cond.constantLong RX2 188 (1063), Cond.constantLong RX2 190 (31), Cond.methodLink RX2 192 yX2_count, Cond.methodLink RX2 195 yX1_digestInto, Cond.instanceMethod yX1_digestInto, Cond.selects RX1 yX1_digestInto yX1_digestInto, Cond.code yX1_digestInto cX1_digestInto 9 (some .long), Cond.constantLong RX1 15 (31), Cond.methodLink RX2 199 yX2_doll, Cond.methodLink RX2 202 yX2_digestJointsInto, Cond.instanceMethod yX2_digestJointsInto, Cond.selects RX2 yX2_digestJointsInto yX2_digestJointsInto]
def wsL_law0_r22 : List Cond := [Cond.code yX2_digestJointsInto cX2_digestJointsInto 8 (some .long), Cond.methodLink RX2 206 yX2_joint, Cond.methodLink RL 150 yX3_digest, Cond.instanceMethod yX3_digest, Cond.selects RX3 yX3_digest yX3_digest, Cond.code yX3_digest cX3_digest 6 (some .long), Cond.constantLong RX3 129 (1063), Cond.constantLong RX3 131 (31)]
def wsL_law0 : List Cond := (wsL_law0_r1 ++ (wsL_law0_r2 ++ (wsL_law0_r3 ++ (wsL_law0_r4 ++ (wsL_law0_r5 ++ (wsL_law0_r6 ++ (wsL_law0_r7 ++ (wsL_law0_r8 ++ (wsL_law0_r9 ++ (wsL_law0_r10 ++ (wsL_law0_r11 ++ (wsL_law0_r12 ++ (wsL_law0_r13 ++ (wsL_law0_r14 ++ (wsL_law0_r15 ++ (wsL_law0_r16 ++ (wsL_law0_r17 ++ (wsL_law0_r18 ++ (wsL_law0_r19 ++ (wsL_law0_r20 ++ (wsL_law0_r21 ++ wsL_law0_r22))))))))))))))))))))) ++ wsX20 ++ wsX30 ++ wsX10 ++ wsX00 ++ ([] : List Cond)
def wsL_law : List Cond := wsL_law0 ++ (vx_atS RX2 52 "java/lang/IllegalStateException" ["java/lang/RuntimeException", "java/lang/Exception"]).filter goodWord ++ (vx_atS RX2 63 "java/lang/IllegalArgumentException" ["java/lang/RuntimeException", "java/lang/Exception"]).filter goodWord ++ (vx_atS RX2 98 "java/lang/IndexOutOfBoundsException" ["java/lang/RuntimeException", "java/lang/Exception"]).filter goodWord
abbrev vwCl : List vw_C := [(RX0, TX0, 9), (RX1, TX1, 1), (RX2, TX2, 9), (RX3, TX3, 9)]
end
section
theorem dX0_init_0 : decode cX0_init 0 = .ok (.aload_n 0, 1) := by decide +kernel
theorem dX0_init_1 : decode cX0_init 1 = .ok (.invokespecial 3, 3) := by decide +kernel
theorem dX0_init_4 : decode cX0_init 4 = .ok (.aload_n 0, 1) := by decide +kernel
theorem dX0_init_5 : decode cX0_init 5 = .ok (.bipush 6, 2) := by decide +kernel
theorem dX0_init_7 : decode cX0_init 7 = .ok (.newarray .int, 2) := by decide +kernel
theorem dX0_init_9 : decode cX0_init 9 = .ok (.putfield 9, 3) := by decide +kernel
theorem dX0_init_12 : decode cX0_init 12 = .ok (.aload_n 0, 1) := by decide +kernel
theorem dX0_init_13 : decode cX0_init 13 = .ok (.bipush 6, 2) := by decide +kernel
theorem dX0_init_15 : decode cX0_init 15 = .ok (.newarray .int, 2) := by decide +kernel
theorem dX0_init_17 : decode cX0_init 17 = .ok (.putfield 15, 3) := by decide +kernel
theorem dX0_init_20 : decode cX0_init 20 = .ok (.aload_n 0, 1) := by decide +kernel
theorem dX0_init_21 : decode cX0_init 21 = .ok (.bipush 6, 2) := by decide +kernel
theorem dX0_init_23 : decode cX0_init 23 = .ok (.newarray .int, 2) := by decide +kernel
theorem dX0_init_25 : decode cX0_init 25 = .ok (.putfield 18, 3) := by decide +kernel
theorem dX0_init_28 : decode cX0_init 28 = .ok (.aload_n 0, 1) := by decide +kernel
theorem dX0_init_29 : decode cX0_init 29 = .ok (.iconst 2, 1) := by decide +kernel
theorem dX0_init_30 : decode cX0_init 30 = .ok (.newarray .boolean, 2) := by decide +kernel
theorem dX0_init_32 : decode cX0_init 32 = .ok (.putfield 21, 3) := by decide +kernel
theorem dX0_init_35 : decode cX0_init 35 = .ok (.aload_n 0, 1) := by decide +kernel
theorem dX0_init_36 : decode cX0_init 36 = .ok (.iconst 2, 1) := by decide +kernel
theorem dX0_init_37 : decode cX0_init 37 = .ok (.newarray .int, 2) := by decide +kernel
theorem dX0_init_39 : decode cX0_init 39 = .ok (.putfield 25, 3) := by decide +kernel
theorem dX0_init_42 : decode cX0_init 42 = .ok (.aload_n 0, 1) := by decide +kernel
theorem dX0_init_43 : decode cX0_init 43 = .ok (.iconst 0, 1) := by decide +kernel
theorem dX0_init_44 : decode cX0_init 44 = .ok (.putfield 28, 3) := by decide +kernel
theorem dX0_init_47 : decode cX0_init 47 = .ok (.aload_n 0, 1) := by decide +kernel
theorem dX0_init_48 : decode cX0_init 48 = .ok (.iconst 0, 1) := by decide +kernel
theorem dX0_init_49 : decode cX0_init 49 = .ok (.putfield 32, 3) := by decide +kernel
theorem dX0_init_52 : decode cX0_init 52 = .ok (.aload_n 0, 1) := by decide +kernel
theorem dX0_init_53 : decode cX0_init 53 = .ok (.iconst 0, 1) := by decide +kernel
theorem dX0_init_54 : decode cX0_init 54 = .ok (.putfield 35, 3) := by decide +kernel
theorem dX0_init_57 : decode cX0_init 57 = .ok (.aload_n 0, 1) := by decide +kernel
theorem dX0_init_58 : decode cX0_init 58 = .ok (.iconst 0, 1) := by decide +kernel
theorem dX0_init_59 : decode cX0_init 59 = .ok (.putfield 38, 3) := by decide +kernel
theorem dX0_init_62 : decode cX0_init 62 = .ok (.iconst 0, 1) := by decide +kernel
theorem dX0_init_63 : decode cX0_init 63 = .ok (.istore_n 1, 1) := by decide +kernel
theorem dX0_init_64 : decode cX0_init 64 = .ok (.iload_n 1, 1) := by decide +kernel
theorem dX0_init_65 : decode cX0_init 65 = .ok (.iconst 2, 1) := by decide +kernel
theorem dX0_init_66 : decode cX0_init 66 = .ok (.if_icmp .ge 16, 3) := by decide +kernel
theorem dX0_init_69 : decode cX0_init 69 = .ok (.aload_n 0, 1) := by decide +kernel
theorem dX0_init_70 : decode cX0_init 70 = .ok (.getfield 21, 3) := by decide +kernel
theorem dX0_init_73 : decode cX0_init 73 = .ok (.iload_n 1, 1) := by decide +kernel
theorem dX0_init_74 : decode cX0_init 74 = .ok (.iconst 1, 1) := by decide +kernel
theorem dX0_init_75 : decode cX0_init 75 = .ok (.bastore, 1) := by decide +kernel
theorem dX0_init_76 : decode cX0_init 76 = .ok (.iinc 1 1, 3) := by decide +kernel
theorem dX0_init_79 : decode cX0_init 79 = .ok (.goto (-15), 3) := by decide +kernel
theorem dX0_init_82 : decode cX0_init 82 = .ok (.return_, 1) := by decide +kernel
theorem dX0_becomeLike_0 : decode cX0_becomeLike 0 = .ok (.iconst 0, 1) := by decide +kernel
theorem dX0_becomeLike_1 : decode cX0_becomeLike 1 = .ok (.istore_n 2, 1) := by decide +kernel
theorem dX0_becomeLike_2 : decode cX0_becomeLike 2 = .ok (.iload_n 2, 1) := by decide +kernel
theorem dX0_becomeLike_3 : decode cX0_becomeLike 3 = .ok (.bipush 6, 2) := by decide +kernel
theorem dX0_becomeLike_5 : decode cX0_becomeLike 5 = .ok (.if_icmp .ge 45, 3) := by decide +kernel
theorem dX0_becomeLike_8 : decode cX0_becomeLike 8 = .ok (.aload_n 0, 1) := by decide +kernel
theorem dX0_becomeLike_9 : decode cX0_becomeLike 9 = .ok (.getfield 9, 3) := by decide +kernel
theorem dX0_becomeLike_12 : decode cX0_becomeLike 12 = .ok (.iload_n 2, 1) := by decide +kernel
theorem dX0_becomeLike_13 : decode cX0_becomeLike 13 = .ok (.aload_n 1, 1) := by decide +kernel
theorem dX0_becomeLike_14 : decode cX0_becomeLike 14 = .ok (.getfield 9, 3) := by decide +kernel
theorem dX0_becomeLike_17 : decode cX0_becomeLike 17 = .ok (.iload_n 2, 1) := by decide +kernel
theorem dX0_becomeLike_18 : decode cX0_becomeLike 18 = .ok (.iaload, 1) := by decide +kernel
theorem dX0_becomeLike_19 : decode cX0_becomeLike 19 = .ok (.iastore, 1) := by decide +kernel
theorem dX0_becomeLike_20 : decode cX0_becomeLike 20 = .ok (.aload_n 0, 1) := by decide +kernel
theorem dX0_becomeLike_21 : decode cX0_becomeLike 21 = .ok (.getfield 15, 3) := by decide +kernel
theorem dX0_becomeLike_24 : decode cX0_becomeLike 24 = .ok (.iload_n 2, 1) := by decide +kernel
theorem dX0_becomeLike_25 : decode cX0_becomeLike 25 = .ok (.aload_n 1, 1) := by decide +kernel
theorem dX0_becomeLike_26 : decode cX0_becomeLike 26 = .ok (.getfield 15, 3) := by decide +kernel
theorem dX0_becomeLike_29 : decode cX0_becomeLike 29 = .ok (.iload_n 2, 1) := by decide +kernel
theorem dX0_becomeLike_30 : decode cX0_becomeLike 30 = .ok (.iaload, 1) := by decide +kernel
theorem dX0_becomeLike_31 : decode cX0_becomeLike 31 = .ok (.iastore, 1) := by decide +kernel
theorem dX0_becomeLike_32 : decode cX0_becomeLike 32 = .ok (.aload_n 0, 1) := by decide +kernel
theorem dX0_becomeLike_33 : decode cX0_becomeLike 33 = .ok (.getfield 18, 3) := by decide +kernel
theorem dX0_becomeLike_36 : decode cX0_becomeLike 36 = .ok (.iload_n 2, 1) := by decide +kernel
theorem dX0_becomeLike_37 : decode cX0_becomeLike 37 = .ok (.aload_n 1, 1) := by decide +kernel
theorem dX0_becomeLike_38 : decode cX0_becomeLike 38 = .ok (.getfield 18, 3) := by decide +kernel
theorem dX0_becomeLike_41 : decode cX0_becomeLike 41 = .ok (.iload_n 2, 1) := by decide +kernel
theorem dX0_becomeLike_42 : decode cX0_becomeLike 42 = .ok (.iaload, 1) := by decide +kernel
theorem dX0_becomeLike_43 : decode cX0_becomeLike 43 = .ok (.iastore, 1) := by decide +kernel
theorem dX0_becomeLike_44 : decode cX0_becomeLike 44 = .ok (.iinc 2 1, 3) := by decide +kernel
theorem dX0_becomeLike_47 : decode cX0_becomeLike 47 = .ok (.goto (-45), 3) := by decide +kernel
theorem dX0_becomeLike_50 : decode cX0_becomeLike 50 = .ok (.iconst 0, 1) := by decide +kernel
theorem dX0_becomeLike_51 : decode cX0_becomeLike 51 = .ok (.istore_n 2, 1) := by decide +kernel
theorem dX0_becomeLike_52 : decode cX0_becomeLike 52 = .ok (.iload_n 2, 1) := by decide +kernel
theorem dX0_becomeLike_53 : decode cX0_becomeLike 53 = .ok (.iconst 2, 1) := by decide +kernel
theorem dX0_becomeLike_54 : decode cX0_becomeLike 54 = .ok (.if_icmp .ge 33, 3) := by decide +kernel
theorem dX0_becomeLike_57 : decode cX0_becomeLike 57 = .ok (.aload_n 0, 1) := by decide +kernel
theorem dX0_becomeLike_58 : decode cX0_becomeLike 58 = .ok (.getfield 21, 3) := by decide +kernel
theorem dX0_becomeLike_61 : decode cX0_becomeLike 61 = .ok (.iload_n 2, 1) := by decide +kernel
theorem dX0_becomeLike_62 : decode cX0_becomeLike 62 = .ok (.aload_n 1, 1) := by decide +kernel
theorem dX0_becomeLike_63 : decode cX0_becomeLike 63 = .ok (.getfield 21, 3) := by decide +kernel
theorem dX0_becomeLike_66 : decode cX0_becomeLike 66 = .ok (.iload_n 2, 1) := by decide +kernel
theorem dX0_becomeLike_67 : decode cX0_becomeLike 67 = .ok (.baload, 1) := by decide +kernel
theorem dX0_becomeLike_68 : decode cX0_becomeLike 68 = .ok (.bastore, 1) := by decide +kernel
theorem dX0_becomeLike_69 : decode cX0_becomeLike 69 = .ok (.aload_n 0, 1) := by decide +kernel
theorem dX0_becomeLike_70 : decode cX0_becomeLike 70 = .ok (.getfield 25, 3) := by decide +kernel
theorem dX0_becomeLike_73 : decode cX0_becomeLike 73 = .ok (.iload_n 2, 1) := by decide +kernel
theorem dX0_becomeLike_74 : decode cX0_becomeLike 74 = .ok (.aload_n 1, 1) := by decide +kernel
theorem dX0_becomeLike_75 : decode cX0_becomeLike 75 = .ok (.getfield 25, 3) := by decide +kernel
theorem dX0_becomeLike_78 : decode cX0_becomeLike 78 = .ok (.iload_n 2, 1) := by decide +kernel
theorem dX0_becomeLike_79 : decode cX0_becomeLike 79 = .ok (.iaload, 1) := by decide +kernel
theorem dX0_becomeLike_80 : decode cX0_becomeLike 80 = .ok (.iastore, 1) := by decide +kernel
theorem dX0_becomeLike_81 : decode cX0_becomeLike 81 = .ok (.iinc 2 1, 3) := by decide +kernel
theorem dX0_becomeLike_84 : decode cX0_becomeLike 84 = .ok (.goto (-32), 3) := by decide +kernel
theorem dX0_becomeLike_87 : decode cX0_becomeLike 87 = .ok (.aload_n 0, 1) := by decide +kernel
theorem dX0_becomeLike_88 : decode cX0_becomeLike 88 = .ok (.aload_n 1, 1) := by decide +kernel
theorem dX0_becomeLike_89 : decode cX0_becomeLike 89 = .ok (.getfield 28, 3) := by decide +kernel
theorem dX0_becomeLike_92 : decode cX0_becomeLike 92 = .ok (.putfield 28, 3) := by decide +kernel
theorem dX0_becomeLike_95 : decode cX0_becomeLike 95 = .ok (.aload_n 0, 1) := by decide +kernel
theorem dX0_becomeLike_96 : decode cX0_becomeLike 96 = .ok (.aload_n 1, 1) := by decide +kernel
theorem dX0_becomeLike_97 : decode cX0_becomeLike 97 = .ok (.getfield 32, 3) := by decide +kernel
theorem dX0_becomeLike_100 : decode cX0_becomeLike 100 = .ok (.putfield 32, 3) := by decide +kernel
theorem dX0_becomeLike_103 : decode cX0_becomeLike 103 = .ok (.aload_n 0, 1) := by decide +kernel
theorem dX0_becomeLike_104 : decode cX0_becomeLike 104 = .ok (.aload_n 1, 1) := by decide +kernel
theorem dX0_becomeLike_105 : decode cX0_becomeLike 105 = .ok (.getfield 35, 3) := by decide +kernel
theorem dX0_becomeLike_108 : decode cX0_becomeLike 108 = .ok (.putfield 35, 3) := by decide +kernel
theorem dX0_becomeLike_111 : decode cX0_becomeLike 111 = .ok (.aload_n 0, 1) := by decide +kernel
theorem dX0_becomeLike_112 : decode cX0_becomeLike 112 = .ok (.aload_n 1, 1) := by decide +kernel
theorem dX0_becomeLike_113 : decode cX0_becomeLike 113 = .ok (.getfield 38, 3) := by decide +kernel
theorem dX0_becomeLike_116 : decode cX0_becomeLike 116 = .ok (.putfield 38, 3) := by decide +kernel
theorem dX0_becomeLike_119 : decode cX0_becomeLike 119 = .ok (.return_, 1) := by decide +kernel
theorem dX0_canTurnTo_0 : decode cX0_canTurnTo 0 = .ok (.iconst 0, 1) := by decide +kernel
theorem dX0_canTurnTo_1 : decode cX0_canTurnTo 1 = .ok (.istore_n 2, 1) := by decide +kernel
theorem dX0_canTurnTo_2 : decode cX0_canTurnTo 2 = .ok (.iload_n 2, 1) := by decide +kernel
theorem dX0_canTurnTo_3 : decode cX0_canTurnTo 3 = .ok (.bipush 6, 2) := by decide +kernel
theorem dX0_canTurnTo_5 : decode cX0_canTurnTo 5 = .ok (.if_icmp .ge 37, 3) := by decide +kernel
theorem dX0_canTurnTo_8 : decode cX0_canTurnTo 8 = .ok (.aload_n 0, 1) := by decide +kernel
theorem dX0_canTurnTo_9 : decode cX0_canTurnTo 9 = .ok (.getfield 15, 3) := by decide +kernel
theorem dX0_canTurnTo_12 : decode cX0_canTurnTo 12 = .ok (.iload_n 2, 1) := by decide +kernel
theorem dX0_canTurnTo_13 : decode cX0_canTurnTo 13 = .ok (.iaload, 1) := by decide +kernel
theorem dX0_canTurnTo_14 : decode cX0_canTurnTo 14 = .ok (.bipush 100, 2) := by decide +kernel
theorem dX0_canTurnTo_16 : decode cX0_canTurnTo 16 = .ok (.if_icmp .lt 20, 3) := by decide +kernel
theorem dX0_canTurnTo_19 : decode cX0_canTurnTo 19 = .ok (.aload_n 0, 1) := by decide +kernel
theorem dX0_canTurnTo_20 : decode cX0_canTurnTo 20 = .ok (.getfield 9, 3) := by decide +kernel
theorem dX0_canTurnTo_23 : decode cX0_canTurnTo 23 = .ok (.iload_n 2, 1) := by decide +kernel
theorem dX0_canTurnTo_24 : decode cX0_canTurnTo 24 = .ok (.iaload, 1) := by decide +kernel
theorem dX0_canTurnTo_25 : decode cX0_canTurnTo 25 = .ok (.aload_n 1, 1) := by decide +kernel
theorem dX0_canTurnTo_26 : decode cX0_canTurnTo 26 = .ok (.getfield 41, 3) := by decide +kernel
theorem dX0_canTurnTo_29 : decode cX0_canTurnTo 29 = .ok (.iload_n 2, 1) := by decide +kernel
theorem dX0_canTurnTo_30 : decode cX0_canTurnTo 30 = .ok (.iaload, 1) := by decide +kernel
theorem dX0_canTurnTo_31 : decode cX0_canTurnTo 31 = .ok (.if_icmp .eq 5, 3) := by decide +kernel
theorem dX0_canTurnTo_34 : decode cX0_canTurnTo 34 = .ok (.iconst 0, 1) := by decide +kernel
theorem dX0_canTurnTo_35 : decode cX0_canTurnTo 35 = .ok (.ireturn, 1) := by decide +kernel
theorem dX0_canTurnTo_36 : decode cX0_canTurnTo 36 = .ok (.iinc 2 1, 3) := by decide +kernel
theorem dX0_canTurnTo_39 : decode cX0_canTurnTo 39 = .ok (.goto (-37), 3) := by decide +kernel
theorem dX0_canTurnTo_42 : decode cX0_canTurnTo 42 = .ok (.iconst 1, 1) := by decide +kernel
theorem dX0_canTurnTo_43 : decode cX0_canTurnTo 43 = .ok (.ireturn, 1) := by decide +kernel
set_option maxRecDepth 20000 in
theorem ggX0_turnTo_X0_wearBehindTurn : GoodIn wsX0_turnTo wsX0_wearBehindTurn := goodIn_r _ [15, 16, 17, 5, 18] (by decide +kernel) (by decide +kernel)
set_option maxRecDepth 20000 in
theorem gX0_turnTo_X0_wearBehindTurn : GoodIn wsX0_turnTo (va_wsS RX0 50 yX0_wearBehindTurn wsX0_wearBehindTurn) := goodIn_app (goodIn_of _ (by decide +kernel)) ggX0_turnTo_X0_wearBehindTurn
theorem dX0_turnTo_0 : decode cX0_turnTo 0 = .ok (.iconst 0, 1) := by decide +kernel
theorem dX0_turnTo_1 : decode cX0_turnTo 1 = .ok (.istore_n 2, 1) := by decide +kernel
theorem dX0_turnTo_2 : decode cX0_turnTo 2 = .ok (.iload_n 2, 1) := by decide +kernel
theorem dX0_turnTo_3 : decode cX0_turnTo 3 = .ok (.bipush 6, 2) := by decide +kernel
theorem dX0_turnTo_5 : decode cX0_turnTo 5 = .ok (.if_icmp .ge 93, 3) := by decide +kernel
theorem dX0_turnTo_8 : decode cX0_turnTo 8 = .ok (.aload_n 1, 1) := by decide +kernel
theorem dX0_turnTo_9 : decode cX0_turnTo 9 = .ok (.getfield 41, 3) := by decide +kernel
theorem dX0_turnTo_12 : decode cX0_turnTo 12 = .ok (.iload_n 2, 1) := by decide +kernel
theorem dX0_turnTo_13 : decode cX0_turnTo 13 = .ok (.iaload, 1) := by decide +kernel
theorem dX0_turnTo_14 : decode cX0_turnTo 14 = .ok (.aload_n 0, 1) := by decide +kernel
theorem dX0_turnTo_15 : decode cX0_turnTo 15 = .ok (.getfield 9, 3) := by decide +kernel
theorem dX0_turnTo_18 : decode cX0_turnTo 18 = .ok (.iload_n 2, 1) := by decide +kernel
theorem dX0_turnTo_19 : decode cX0_turnTo 19 = .ok (.iaload, 1) := by decide +kernel
theorem dX0_turnTo_20 : decode cX0_turnTo 20 = .ok (.isub, 1) := by decide +kernel
theorem dX0_turnTo_21 : decode cX0_turnTo 21 = .ok (.invokestatic 44, 3) := by decide +kernel
theorem dX0_turnTo_24 : decode cX0_turnTo 24 = .ok (.istore_n 3, 1) := by decide +kernel
theorem dX0_turnTo_25 : decode cX0_turnTo 25 = .ok (.iload_n 3, 1) := by decide +kernel
theorem dX0_turnTo_26 : decode cX0_turnTo 26 = .ok (.ifCond .le 66, 3) := by decide +kernel
theorem dX0_turnTo_29 : decode cX0_turnTo 29 = .ok (.aload_n 0, 1) := by decide +kernel
theorem dX0_turnTo_30 : decode cX0_turnTo 30 = .ok (.getfield 15, 3) := by decide +kernel
theorem dX0_turnTo_33 : decode cX0_turnTo 33 = .ok (.iload_n 2, 1) := by decide +kernel
theorem dX0_turnTo_34 : decode cX0_turnTo 34 = .ok (.iaload, 1) := by decide +kernel
theorem dX0_turnTo_35 : decode cX0_turnTo 35 = .ok (.bipush 100, 2) := by decide +kernel
theorem dX0_turnTo_37 : decode cX0_turnTo 37 = .ok (.if_icmp .ge 55, 3) := by decide +kernel
theorem dX0_turnTo_40 : decode cX0_turnTo 40 = .ok (.aload_n 0, 1) := by decide +kernel
theorem dX0_turnTo_41 : decode cX0_turnTo 41 = .ok (.getfield 15, 3) := by decide +kernel
theorem dX0_turnTo_44 : decode cX0_turnTo 44 = .ok (.iload_n 2, 1) := by decide +kernel
theorem dX0_turnTo_45 : decode cX0_turnTo 45 = .ok (.aload_n 0, 1) := by decide +kernel
theorem dX0_turnTo_46 : decode cX0_turnTo 46 = .ok (.getfield 15, 3) := by decide +kernel
theorem dX0_turnTo_49 : decode cX0_turnTo 49 = .ok (.iload_n 2, 1) := by decide +kernel
theorem dX0_turnTo_50 : decode cX0_turnTo 50 = .ok (.iaload, 1) := by decide +kernel
theorem dX0_turnTo_51 : decode cX0_turnTo 51 = .ok (.aload_n 0, 1) := by decide +kernel
theorem dX0_turnTo_52 : decode cX0_turnTo 52 = .ok (.getfield 18, 3) := by decide +kernel
theorem dX0_turnTo_55 : decode cX0_turnTo 55 = .ok (.iload_n 2, 1) := by decide +kernel
theorem dX0_turnTo_56 : decode cX0_turnTo 56 = .ok (.iaload, 1) := by decide +kernel
theorem dX0_turnTo_57 : decode cX0_turnTo 57 = .ok (.iload_n 3, 1) := by decide +kernel
theorem dX0_turnTo_58 : decode cX0_turnTo 58 = .ok (.invokestatic 50, 3) := by decide +kernel
theorem dX0_turnTo_61 : decode cX0_turnTo 61 = .ok (.iastore, 1) := by decide +kernel
theorem dX0_turnTo_62 : decode cX0_turnTo 62 = .ok (.aload_n 0, 1) := by decide +kernel
theorem dX0_turnTo_63 : decode cX0_turnTo 63 = .ok (.getfield 18, 3) := by decide +kernel
theorem dX0_turnTo_66 : decode cX0_turnTo 66 = .ok (.iload_n 2, 1) := by decide +kernel
theorem dX0_turnTo_67 : decode cX0_turnTo 67 = .ok (.iconst 0, 1) := by decide +kernel
theorem dX0_turnTo_68 : decode cX0_turnTo 68 = .ok (.aload_n 0, 1) := by decide +kernel
theorem dX0_turnTo_69 : decode cX0_turnTo 69 = .ok (.getfield 18, 3) := by decide +kernel
theorem dX0_turnTo_72 : decode cX0_turnTo 72 = .ok (.iload_n 2, 1) := by decide +kernel
theorem dX0_turnTo_73 : decode cX0_turnTo 73 = .ok (.iaload, 1) := by decide +kernel
theorem dX0_turnTo_74 : decode cX0_turnTo 74 = .ok (.iconst 1, 1) := by decide +kernel
theorem dX0_turnTo_75 : decode cX0_turnTo 75 = .ok (.isub, 1) := by decide +kernel
theorem dX0_turnTo_76 : decode cX0_turnTo 76 = .ok (.invokestatic 54, 3) := by decide +kernel
theorem dX0_turnTo_79 : decode cX0_turnTo 79 = .ok (.iastore, 1) := by decide +kernel
theorem dX0_turnTo_80 : decode cX0_turnTo 80 = .ok (.aload_n 0, 1) := by decide +kernel
theorem dX0_turnTo_81 : decode cX0_turnTo 81 = .ok (.getfield 9, 3) := by decide +kernel
theorem dX0_turnTo_84 : decode cX0_turnTo 84 = .ok (.iload_n 2, 1) := by decide +kernel
theorem dX0_turnTo_85 : decode cX0_turnTo 85 = .ok (.aload_n 1, 1) := by decide +kernel
theorem dX0_turnTo_86 : decode cX0_turnTo 86 = .ok (.getfield 41, 3) := by decide +kernel
theorem dX0_turnTo_89 : decode cX0_turnTo 89 = .ok (.iload_n 2, 1) := by decide +kernel
theorem dX0_turnTo_90 : decode cX0_turnTo 90 = .ok (.iaload, 1) := by decide +kernel
theorem dX0_turnTo_91 : decode cX0_turnTo 91 = .ok (.iastore, 1) := by decide +kernel
theorem dX0_turnTo_92 : decode cX0_turnTo 92 = .ok (.iinc 2 1, 3) := by decide +kernel
theorem dX0_turnTo_95 : decode cX0_turnTo 95 = .ok (.goto (-93), 3) := by decide +kernel
theorem dX0_turnTo_98 : decode cX0_turnTo 98 = .ok (.return_, 1) := by decide +kernel
theorem dX0_wearBehindTurn_0 : decode cX0_wearBehindTurn 0 = .ok (.iload_n 1, 1) := by decide +kernel
theorem dX0_wearBehindTurn_1 : decode cX0_wearBehindTurn 1 = .ok (.ifCond .le 10, 3) := by decide +kernel
theorem dX0_wearBehindTurn_4 : decode cX0_wearBehindTurn 4 = .ok (.iload_n 2, 1) := by decide +kernel
theorem dX0_wearBehindTurn_5 : decode cX0_wearBehindTurn 5 = .ok (.bipush 20, 2) := by decide +kernel
theorem dX0_wearBehindTurn_7 : decode cX0_wearBehindTurn 7 = .ok (.idiv, 1) := by decide +kernel
theorem dX0_wearBehindTurn_8 : decode cX0_wearBehindTurn 8 = .ok (.goto 9, 3) := by decide +kernel
theorem dX0_wearBehindTurn_11 : decode cX0_wearBehindTurn 11 = .ok (.iload_n 2, 1) := by decide +kernel
theorem dX0_wearBehindTurn_12 : decode cX0_wearBehindTurn 12 = .ok (.bipush 10, 2) := by decide +kernel
theorem dX0_wearBehindTurn_14 : decode cX0_wearBehindTurn 14 = .ok (.idiv, 1) := by decide +kernel
theorem dX0_wearBehindTurn_15 : decode cX0_wearBehindTurn 15 = .ok (.iconst 1, 1) := by decide +kernel
theorem dX0_wearBehindTurn_16 : decode cX0_wearBehindTurn 16 = .ok (.iadd, 1) := by decide +kernel
theorem dX0_wearBehindTurn_17 : decode cX0_wearBehindTurn 17 = .ok (.istore_n 3, 1) := by decide +kernel
theorem dX0_wearBehindTurn_18 : decode cX0_wearBehindTurn 18 = .ok (.bipush 100, 2) := by decide +kernel
theorem dX0_wearBehindTurn_20 : decode cX0_wearBehindTurn 20 = .ok (.iload_n 0, 1) := by decide +kernel
theorem dX0_wearBehindTurn_21 : decode cX0_wearBehindTurn 21 = .ok (.iload_n 3, 1) := by decide +kernel
theorem dX0_wearBehindTurn_22 : decode cX0_wearBehindTurn 22 = .ok (.iadd, 1) := by decide +kernel
theorem dX0_wearBehindTurn_23 : decode cX0_wearBehindTurn 23 = .ok (.invokestatic 58, 3) := by decide +kernel
theorem dX0_wearBehindTurn_26 : decode cX0_wearBehindTurn 26 = .ok (.ireturn, 1) := by decide +kernel
theorem dX0_wearOfAllJoints_0 : decode cX0_wearOfAllJoints 0 = .ok (.iconst 0, 1) := by decide +kernel
theorem dX0_wearOfAllJoints_1 : decode cX0_wearOfAllJoints 1 = .ok (.istore_n 1, 1) := by decide +kernel
theorem dX0_wearOfAllJoints_2 : decode cX0_wearOfAllJoints 2 = .ok (.aload_n 0, 1) := by decide +kernel
theorem dX0_wearOfAllJoints_3 : decode cX0_wearOfAllJoints 3 = .ok (.getfield 15, 3) := by decide +kernel
theorem dX0_wearOfAllJoints_6 : decode cX0_wearOfAllJoints 6 = .ok (.astore_n 2, 1) := by decide +kernel
theorem dX0_wearOfAllJoints_7 : decode cX0_wearOfAllJoints 7 = .ok (.aload_n 2, 1) := by decide +kernel
theorem dX0_wearOfAllJoints_8 : decode cX0_wearOfAllJoints 8 = .ok (.arraylength, 1) := by decide +kernel
theorem dX0_wearOfAllJoints_9 : decode cX0_wearOfAllJoints 9 = .ok (.istore_n 3, 1) := by decide +kernel
theorem dX0_wearOfAllJoints_10 : decode cX0_wearOfAllJoints 10 = .ok (.iconst 0, 1) := by decide +kernel
theorem dX0_wearOfAllJoints_11 : decode cX0_wearOfAllJoints 11 = .ok (.istore 4, 2) := by decide +kernel
theorem dX0_wearOfAllJoints_13 : decode cX0_wearOfAllJoints 13 = .ok (.iload 4, 2) := by decide +kernel
theorem dX0_wearOfAllJoints_15 : decode cX0_wearOfAllJoints 15 = .ok (.iload_n 3, 1) := by decide +kernel
theorem dX0_wearOfAllJoints_16 : decode cX0_wearOfAllJoints 16 = .ok (.if_icmp .ge 20, 3) := by decide +kernel
theorem dX0_wearOfAllJoints_19 : decode cX0_wearOfAllJoints 19 = .ok (.aload_n 2, 1) := by decide +kernel
theorem dX0_wearOfAllJoints_20 : decode cX0_wearOfAllJoints 20 = .ok (.iload 4, 2) := by decide +kernel
theorem dX0_wearOfAllJoints_22 : decode cX0_wearOfAllJoints 22 = .ok (.iaload, 1) := by decide +kernel
theorem dX0_wearOfAllJoints_23 : decode cX0_wearOfAllJoints 23 = .ok (.istore 5, 2) := by decide +kernel
theorem dX0_wearOfAllJoints_25 : decode cX0_wearOfAllJoints 25 = .ok (.iload_n 1, 1) := by decide +kernel
theorem dX0_wearOfAllJoints_26 : decode cX0_wearOfAllJoints 26 = .ok (.iload 5, 2) := by decide +kernel
theorem dX0_wearOfAllJoints_28 : decode cX0_wearOfAllJoints 28 = .ok (.iadd, 1) := by decide +kernel
theorem dX0_wearOfAllJoints_29 : decode cX0_wearOfAllJoints 29 = .ok (.istore_n 1, 1) := by decide +kernel
theorem dX0_wearOfAllJoints_30 : decode cX0_wearOfAllJoints 30 = .ok (.iinc 4 1, 3) := by decide +kernel
theorem dX0_wearOfAllJoints_33 : decode cX0_wearOfAllJoints 33 = .ok (.goto (-20), 3) := by decide +kernel
theorem dX0_wearOfAllJoints_36 : decode cX0_wearOfAllJoints 36 = .ok (.iload_n 1, 1) := by decide +kernel
theorem dX0_wearOfAllJoints_37 : decode cX0_wearOfAllJoints 37 = .ok (.ireturn, 1) := by decide +kernel
set_option maxRecDepth 20000 in
theorem ggX0_brokenJoints_X0_jointsWornBy : GoodIn wsX0_brokenJoints wsX0_jointsWornBy := goodIn_r _ [5, 6, 7, 8, 9, 10, 11, 12, 13, 14, 15] (by decide +kernel) (by decide +kernel)
set_option maxRecDepth 20000 in
theorem gX0_brokenJoints_X0_jointsWornBy : GoodIn wsX0_brokenJoints (wsV RX0 61 RX0 yX0_jointsWornBy wsX0_jointsWornBy) := goodIn_app (goodIn_of _ (by decide +kernel)) ggX0_brokenJoints_X0_jointsWornBy
theorem dX0_brokenJoints_0 : decode cX0_brokenJoints 0 = .ok (.aload_n 0, 1) := by decide +kernel
theorem dX0_brokenJoints_1 : decode cX0_brokenJoints 1 = .ok (.bipush 100, 2) := by decide +kernel
theorem dX0_brokenJoints_3 : decode cX0_brokenJoints 3 = .ok (.invokevirtual 61, 3) := by decide +kernel
theorem dX0_brokenJoints_6 : decode cX0_brokenJoints 6 = .ok (.ireturn, 1) := by decide +kernel
theorem dX0_jointsWornBy_0 : decode cX0_jointsWornBy 0 = .ok (.iconst 0, 1) := by decide +kernel
theorem dX0_jointsWornBy_1 : decode cX0_jointsWornBy 1 = .ok (.istore_n 2, 1) := by decide +kernel
theorem dX0_jointsWornBy_2 : decode cX0_jointsWornBy 2 = .ok (.aload_n 0, 1) := by decide +kernel
theorem dX0_jointsWornBy_3 : decode cX0_jointsWornBy 3 = .ok (.getfield 15, 3) := by decide +kernel
theorem dX0_jointsWornBy_6 : decode cX0_jointsWornBy 6 = .ok (.astore_n 3, 1) := by decide +kernel
theorem dX0_jointsWornBy_7 : decode cX0_jointsWornBy 7 = .ok (.aload_n 3, 1) := by decide +kernel
theorem dX0_jointsWornBy_8 : decode cX0_jointsWornBy 8 = .ok (.arraylength, 1) := by decide +kernel
theorem dX0_jointsWornBy_9 : decode cX0_jointsWornBy 9 = .ok (.istore 4, 2) := by decide +kernel
theorem dX0_jointsWornBy_11 : decode cX0_jointsWornBy 11 = .ok (.iconst 0, 1) := by decide +kernel
theorem dX0_jointsWornBy_12 : decode cX0_jointsWornBy 12 = .ok (.istore 5, 2) := by decide +kernel
theorem dX0_jointsWornBy_14 : decode cX0_jointsWornBy 14 = .ok (.iload 5, 2) := by decide +kernel
theorem dX0_jointsWornBy_16 : decode cX0_jointsWornBy 16 = .ok (.iload 4, 2) := by decide +kernel
theorem dX0_jointsWornBy_18 : decode cX0_jointsWornBy 18 = .ok (.if_icmp .ge 24, 3) := by decide +kernel
theorem dX0_jointsWornBy_21 : decode cX0_jointsWornBy 21 = .ok (.aload_n 3, 1) := by decide +kernel
theorem dX0_jointsWornBy_22 : decode cX0_jointsWornBy 22 = .ok (.iload 5, 2) := by decide +kernel
theorem dX0_jointsWornBy_24 : decode cX0_jointsWornBy 24 = .ok (.iaload, 1) := by decide +kernel
theorem dX0_jointsWornBy_25 : decode cX0_jointsWornBy 25 = .ok (.istore 6, 2) := by decide +kernel
theorem dX0_jointsWornBy_27 : decode cX0_jointsWornBy 27 = .ok (.iload 6, 2) := by decide +kernel
theorem dX0_jointsWornBy_29 : decode cX0_jointsWornBy 29 = .ok (.iload_n 1, 1) := by decide +kernel
theorem dX0_jointsWornBy_30 : decode cX0_jointsWornBy 30 = .ok (.if_icmp .lt 6, 3) := by decide +kernel
theorem dX0_jointsWornBy_33 : decode cX0_jointsWornBy 33 = .ok (.iinc 2 1, 3) := by decide +kernel
theorem dX0_jointsWornBy_36 : decode cX0_jointsWornBy 36 = .ok (.iinc 5 1, 3) := by decide +kernel
theorem dX0_jointsWornBy_39 : decode cX0_jointsWornBy 39 = .ok (.goto (-25), 3) := by decide +kernel
theorem dX0_jointsWornBy_42 : decode cX0_jointsWornBy 42 = .ok (.iload_n 2, 1) := by decide +kernel
theorem dX0_jointsWornBy_43 : decode cX0_jointsWornBy 43 = .ok (.ireturn, 1) := by decide +kernel
theorem dX0_jointsWithoutLacquer_0 : decode cX0_jointsWithoutLacquer 0 = .ok (.iconst 0, 1) := by decide +kernel
theorem dX0_jointsWithoutLacquer_1 : decode cX0_jointsWithoutLacquer 1 = .ok (.istore_n 1, 1) := by decide +kernel
theorem dX0_jointsWithoutLacquer_2 : decode cX0_jointsWithoutLacquer 2 = .ok (.aload_n 0, 1) := by decide +kernel
theorem dX0_jointsWithoutLacquer_3 : decode cX0_jointsWithoutLacquer 3 = .ok (.getfield 18, 3) := by decide +kernel
theorem dX0_jointsWithoutLacquer_6 : decode cX0_jointsWithoutLacquer 6 = .ok (.astore_n 2, 1) := by decide +kernel
theorem dX0_jointsWithoutLacquer_7 : decode cX0_jointsWithoutLacquer 7 = .ok (.aload_n 2, 1) := by decide +kernel
theorem dX0_jointsWithoutLacquer_8 : decode cX0_jointsWithoutLacquer 8 = .ok (.arraylength, 1) := by decide +kernel
theorem dX0_jointsWithoutLacquer_9 : decode cX0_jointsWithoutLacquer 9 = .ok (.istore_n 3, 1) := by decide +kernel
theorem dX0_jointsWithoutLacquer_10 : decode cX0_jointsWithoutLacquer 10 = .ok (.iconst 0, 1) := by decide +kernel
theorem dX0_jointsWithoutLacquer_11 : decode cX0_jointsWithoutLacquer 11 = .ok (.istore 4, 2) := by decide +kernel
theorem dX0_jointsWithoutLacquer_13 : decode cX0_jointsWithoutLacquer 13 = .ok (.iload 4, 2) := by decide +kernel
theorem dX0_jointsWithoutLacquer_15 : decode cX0_jointsWithoutLacquer 15 = .ok (.iload_n 3, 1) := by decide +kernel
theorem dX0_jointsWithoutLacquer_16 : decode cX0_jointsWithoutLacquer 16 = .ok (.if_icmp .ge 23, 3) := by decide +kernel
theorem dX0_jointsWithoutLacquer_19 : decode cX0_jointsWithoutLacquer 19 = .ok (.aload_n 2, 1) := by decide +kernel
theorem dX0_jointsWithoutLacquer_20 : decode cX0_jointsWithoutLacquer 20 = .ok (.iload 4, 2) := by decide +kernel
theorem dX0_jointsWithoutLacquer_22 : decode cX0_jointsWithoutLacquer 22 = .ok (.iaload, 1) := by decide +kernel
theorem dX0_jointsWithoutLacquer_23 : decode cX0_jointsWithoutLacquer 23 = .ok (.istore 5, 2) := by decide +kernel
theorem dX0_jointsWithoutLacquer_25 : decode cX0_jointsWithoutLacquer 25 = .ok (.iload 5, 2) := by decide +kernel
theorem dX0_jointsWithoutLacquer_27 : decode cX0_jointsWithoutLacquer 27 = .ok (.ifCond .ne 6, 3) := by decide +kernel
theorem dX0_jointsWithoutLacquer_30 : decode cX0_jointsWithoutLacquer 30 = .ok (.iinc 1 1, 3) := by decide +kernel
theorem dX0_jointsWithoutLacquer_33 : decode cX0_jointsWithoutLacquer 33 = .ok (.iinc 4 1, 3) := by decide +kernel
theorem dX0_jointsWithoutLacquer_36 : decode cX0_jointsWithoutLacquer 36 = .ok (.goto (-23), 3) := by decide +kernel
theorem dX0_jointsWithoutLacquer_39 : decode cX0_jointsWithoutLacquer 39 = .ok (.iload_n 1, 1) := by decide +kernel
theorem dX0_jointsWithoutLacquer_40 : decode cX0_jointsWithoutLacquer 40 = .ok (.ireturn, 1) := by decide +kernel
theorem dX0_eyesWithDust_0 : decode cX0_eyesWithDust 0 = .ok (.iconst 0, 1) := by decide +kernel
theorem dX0_eyesWithDust_1 : decode cX0_eyesWithDust 1 = .ok (.istore_n 2, 1) := by decide +kernel
theorem dX0_eyesWithDust_2 : decode cX0_eyesWithDust 2 = .ok (.aload_n 0, 1) := by decide +kernel
theorem dX0_eyesWithDust_3 : decode cX0_eyesWithDust 3 = .ok (.getfield 25, 3) := by decide +kernel
theorem dX0_eyesWithDust_6 : decode cX0_eyesWithDust 6 = .ok (.astore_n 3, 1) := by decide +kernel
theorem dX0_eyesWithDust_7 : decode cX0_eyesWithDust 7 = .ok (.aload_n 3, 1) := by decide +kernel
theorem dX0_eyesWithDust_8 : decode cX0_eyesWithDust 8 = .ok (.arraylength, 1) := by decide +kernel
theorem dX0_eyesWithDust_9 : decode cX0_eyesWithDust 9 = .ok (.istore 4, 2) := by decide +kernel
theorem dX0_eyesWithDust_11 : decode cX0_eyesWithDust 11 = .ok (.iconst 0, 1) := by decide +kernel
theorem dX0_eyesWithDust_12 : decode cX0_eyesWithDust 12 = .ok (.istore 5, 2) := by decide +kernel
theorem dX0_eyesWithDust_14 : decode cX0_eyesWithDust 14 = .ok (.iload 5, 2) := by decide +kernel
theorem dX0_eyesWithDust_16 : decode cX0_eyesWithDust 16 = .ok (.iload 4, 2) := by decide +kernel
theorem dX0_eyesWithDust_18 : decode cX0_eyesWithDust 18 = .ok (.if_icmp .ge 24, 3) := by decide +kernel
theorem dX0_eyesWithDust_21 : decode cX0_eyesWithDust 21 = .ok (.aload_n 3, 1) := by decide +kernel
theorem dX0_eyesWithDust_22 : decode cX0_eyesWithDust 22 = .ok (.iload 5, 2) := by decide +kernel
theorem dX0_eyesWithDust_24 : decode cX0_eyesWithDust 24 = .ok (.iaload, 1) := by decide +kernel
theorem dX0_eyesWithDust_25 : decode cX0_eyesWithDust 25 = .ok (.istore 6, 2) := by decide +kernel
theorem dX0_eyesWithDust_27 : decode cX0_eyesWithDust 27 = .ok (.iload 6, 2) := by decide +kernel
theorem dX0_eyesWithDust_29 : decode cX0_eyesWithDust 29 = .ok (.iload_n 1, 1) := by decide +kernel
theorem dX0_eyesWithDust_30 : decode cX0_eyesWithDust 30 = .ok (.if_icmp .lt 6, 3) := by decide +kernel
theorem dX0_eyesWithDust_33 : decode cX0_eyesWithDust 33 = .ok (.iinc 2 1, 3) := by decide +kernel
theorem dX0_eyesWithDust_36 : decode cX0_eyesWithDust 36 = .ok (.iinc 5 1, 3) := by decide +kernel
theorem dX0_eyesWithDust_39 : decode cX0_eyesWithDust 39 = .ok (.goto (-25), 3) := by decide +kernel
theorem dX0_eyesWithDust_42 : decode cX0_eyesWithDust 42 = .ok (.iload_n 2, 1) := by decide +kernel
theorem dX0_eyesWithDust_43 : decode cX0_eyesWithDust 43 = .ok (.ireturn, 1) := by decide +kernel
theorem dX0_wipeEyes_0 : decode cX0_wipeEyes 0 = .ok (.iconst 0, 1) := by decide +kernel
theorem dX0_wipeEyes_1 : decode cX0_wipeEyes 1 = .ok (.istore_n 1, 1) := by decide +kernel
theorem dX0_wipeEyes_2 : decode cX0_wipeEyes 2 = .ok (.iload_n 1, 1) := by decide +kernel
theorem dX0_wipeEyes_3 : decode cX0_wipeEyes 3 = .ok (.iconst 2, 1) := by decide +kernel
theorem dX0_wipeEyes_4 : decode cX0_wipeEyes 4 = .ok (.if_icmp .ge 16, 3) := by decide +kernel
theorem dX0_wipeEyes_7 : decode cX0_wipeEyes 7 = .ok (.aload_n 0, 1) := by decide +kernel
theorem dX0_wipeEyes_8 : decode cX0_wipeEyes 8 = .ok (.getfield 25, 3) := by decide +kernel
theorem dX0_wipeEyes_11 : decode cX0_wipeEyes 11 = .ok (.iload_n 1, 1) := by decide +kernel
theorem dX0_wipeEyes_12 : decode cX0_wipeEyes 12 = .ok (.iconst 0, 1) := by decide +kernel
theorem dX0_wipeEyes_13 : decode cX0_wipeEyes 13 = .ok (.iastore, 1) := by decide +kernel
theorem dX0_wipeEyes_14 : decode cX0_wipeEyes 14 = .ok (.iinc 1 1, 3) := by decide +kernel
theorem dX0_wipeEyes_17 : decode cX0_wipeEyes 17 = .ok (.goto (-15), 3) := by decide +kernel
theorem dX0_wipeEyes_20 : decode cX0_wipeEyes 20 = .ok (.return_, 1) := by decide +kernel
theorem dX0_hasRoomForPin_0 : decode cX0_hasRoomForPin 0 = .ok (.aload_n 0, 1) := by decide +kernel
theorem dX0_hasRoomForPin_1 : decode cX0_hasRoomForPin 1 = .ok (.getfield 32, 3) := by decide +kernel
theorem dX0_hasRoomForPin_4 : decode cX0_hasRoomForPin 4 = .ok (.ifCond .eq 16, 3) := by decide +kernel
theorem dX0_hasRoomForPin_7 : decode cX0_hasRoomForPin 7 = .ok (.aload_n 0, 1) := by decide +kernel
theorem dX0_hasRoomForPin_8 : decode cX0_hasRoomForPin 8 = .ok (.getfield 35, 3) := by decide +kernel
theorem dX0_hasRoomForPin_11 : decode cX0_hasRoomForPin 11 = .ok (.bipush 12, 2) := by decide +kernel
theorem dX0_hasRoomForPin_13 : decode cX0_hasRoomForPin 13 = .ok (.if_icmp .ge 7, 3) := by decide +kernel
theorem dX0_hasRoomForPin_16 : decode cX0_hasRoomForPin 16 = .ok (.iconst 1, 1) := by decide +kernel
theorem dX0_hasRoomForPin_17 : decode cX0_hasRoomForPin 17 = .ok (.goto 4, 3) := by decide +kernel
theorem dX0_hasRoomForPin_20 : decode cX0_hasRoomForPin 20 = .ok (.iconst 0, 1) := by decide +kernel
theorem dX0_hasRoomForPin_21 : decode cX0_hasRoomForPin 21 = .ok (.ireturn, 1) := by decide +kernel
set_option maxRecDepth 20000 in
theorem ggX0_tally_X0_brokenJoints : GoodIn wsX0_tally wsX0_brokenJoints := goodIn_r _ [7, 8, 9, 10, 6, 11, 12, 18, 19, 20, 21, 22, 23, 24, 25, 26] (by decide +kernel) (by decide +kernel)
set_option maxRecDepth 20000 in
theorem gX0_tally_X0_brokenJoints : GoodIn wsX0_tally (wsV RX0 64 RX0 yX0_brokenJoints wsX0_brokenJoints) := goodIn_app (goodIn_of _ (by decide +kernel)) ggX0_tally_X0_brokenJoints
set_option maxRecDepth 20000 in
theorem ggX0_tally_X0_eyesWithDust : GoodIn wsX0_tally wsX0_eyesWithDust := goodIn_r _ [16, 17, 18, 19, 20, 21, 22, 23, 24, 25, 26] (by decide +kernel) (by decide +kernel)
set_option maxRecDepth 20000 in
theorem gX0_tally_X0_eyesWithDust : GoodIn wsX0_tally (wsV RX0 68 RX0 yX0_eyesWithDust wsX0_eyesWithDust) := goodIn_app (goodIn_of _ (by decide +kernel)) ggX0_tally_X0_eyesWithDust
theorem dX0_tally_0 : decode cX0_tally 0 = .ok (.iload_n 1, 1) := by decide +kernel
theorem dX0_tally_1 : decode cX0_tally 1 = .ok (.tableswitch 59 4 6 #[27, 32, 46], 27) := by decide +kernel
theorem dX0_tally_28 : decode cX0_tally 28 = .ok (.aload_n 0, 1) := by decide +kernel
theorem dX0_tally_29 : decode cX0_tally 29 = .ok (.invokevirtual 64, 3) := by decide +kernel
theorem dX0_tally_32 : decode cX0_tally 32 = .ok (.ireturn, 1) := by decide +kernel
theorem dX0_tally_33 : decode cX0_tally 33 = .ok (.aload_n 0, 1) := by decide +kernel
theorem dX0_tally_34 : decode cX0_tally 34 = .ok (.getfield 28, 3) := by decide +kernel
theorem dX0_tally_37 : decode cX0_tally 37 = .ok (.iconst (-1), 1) := by decide +kernel
theorem dX0_tally_38 : decode cX0_tally 38 = .ok (.if_icmp .ne 7, 3) := by decide +kernel
theorem dX0_tally_41 : decode cX0_tally 41 = .ok (.iconst 0, 1) := by decide +kernel
theorem dX0_tally_42 : decode cX0_tally 42 = .ok (.goto 4, 3) := by decide +kernel
theorem dX0_tally_45 : decode cX0_tally 45 = .ok (.iconst 1, 1) := by decide +kernel
theorem dX0_tally_46 : decode cX0_tally 46 = .ok (.ireturn, 1) := by decide +kernel
theorem dX0_tally_47 : decode cX0_tally 47 = .ok (.aload_n 0, 1) := by decide +kernel
theorem dX0_tally_48 : decode cX0_tally 48 = .ok (.getfield 32, 3) := by decide +kernel
theorem dX0_tally_51 : decode cX0_tally 51 = .ok (.ifCond .ne 7, 3) := by decide +kernel
theorem dX0_tally_54 : decode cX0_tally 54 = .ok (.iconst 0, 1) := by decide +kernel
theorem dX0_tally_55 : decode cX0_tally 55 = .ok (.goto 4, 3) := by decide +kernel
theorem dX0_tally_58 : decode cX0_tally 58 = .ok (.iconst 1, 1) := by decide +kernel
theorem dX0_tally_59 : decode cX0_tally 59 = .ok (.ireturn, 1) := by decide +kernel
theorem dX0_tally_60 : decode cX0_tally 60 = .ok (.aload_n 0, 1) := by decide +kernel
theorem dX0_tally_61 : decode cX0_tally 61 = .ok (.bipush 9, 2) := by decide +kernel
theorem dX0_tally_63 : decode cX0_tally 63 = .ok (.invokevirtual 68, 3) := by decide +kernel
theorem dX0_tally_66 : decode cX0_tally 66 = .ok (.ireturn, 1) := by decide +kernel
set_option maxRecDepth 20000 in
theorem ggX0_wants_X0_jointsWornBy : GoodIn wsX0_wants wsX0_jointsWornBy := goodIn_r _ [8, 9, 20, 21, 22, 23, 24, 25, 26, 27, 28] (by decide +kernel) (by decide +kernel)
set_option maxRecDepth 20000 in
theorem gX0_wants_X0_jointsWornBy : GoodIn wsX0_wants (wsV RX0 61 RX0 yX0_jointsWornBy wsX0_jointsWornBy) := goodIn_app (goodIn_of _ (by decide +kernel)) ggX0_wants_X0_jointsWornBy
set_option maxRecDepth 20000 in
theorem ggX0_wants_X0_jointsWithoutLacquer : GoodIn wsX0_wants wsX0_jointsWithoutLacquer := goodIn_r _ [13, 14, 20, 21, 22, 23, 24, 25, 26, 27, 28] (by decide +kernel) (by decide +kernel)
set_option maxRecDepth 20000 in
theorem gX0_wants_X0_jointsWithoutLacquer : GoodIn wsX0_wants (wsV RX0 71 RX0 yX0_jointsWithoutLacquer wsX0_jointsWithoutLacquer) := goodIn_app (goodIn_of _ (by decide +kernel)) ggX0_wants_X0_jointsWithoutLacquer
set_option maxRecDepth 20000 in
theorem ggX0_wants_X0_eyesWithDust : GoodIn wsX0_wants wsX0_eyesWithDust := goodIn_r _ [18, 19, 20, 21, 22, 23, 24, 25, 26, 27, 28] (by decide +kernel) (by decide +kernel)
set_option maxRecDepth 20000 in
theorem gX0_wants_X0_eyesWithDust : GoodIn wsX0_wants (wsV RX0 68 RX0 yX0_eyesWithDust wsX0_eyesWithDust) := goodIn_app (goodIn_of _ (by decide +kernel)) ggX0_wants_X0_eyesWithDust
theorem dX0_wants_0 : decode cX0_wants 0 = .ok (.iload_n 1, 1) := by decide +kernel
theorem dX0_wants_1 : decode cX0_wants 1 = .ok (.tableswitch 76 0 3 #[31, 38, 43, 62], 31) := by decide +kernel
theorem dX0_wants_32 : decode cX0_wants 32 = .ok (.aload_n 0, 1) := by decide +kernel
theorem dX0_wants_33 : decode cX0_wants 33 = .ok (.bipush 50, 2) := by decide +kernel
theorem dX0_wants_35 : decode cX0_wants 35 = .ok (.invokevirtual 61, 3) := by decide +kernel
theorem dX0_wants_38 : decode cX0_wants 38 = .ok (.ireturn, 1) := by decide +kernel
theorem dX0_wants_39 : decode cX0_wants 39 = .ok (.aload_n 0, 1) := by decide +kernel
theorem dX0_wants_40 : decode cX0_wants 40 = .ok (.invokevirtual 71, 3) := by decide +kernel
theorem dX0_wants_43 : decode cX0_wants 43 = .ok (.ireturn, 1) := by decide +kernel
theorem dX0_wants_44 : decode cX0_wants 44 = .ok (.aload_n 0, 1) := by decide +kernel
theorem dX0_wants_45 : decode cX0_wants 45 = .ok (.getfield 32, 3) := by decide +kernel
theorem dX0_wants_48 : decode cX0_wants 48 = .ok (.ifCond .ne 7, 3) := by decide +kernel
theorem dX0_wants_51 : decode cX0_wants 51 = .ok (.iconst 0, 1) := by decide +kernel
theorem dX0_wants_52 : decode cX0_wants 52 = .ok (.goto 10, 3) := by decide +kernel
theorem dX0_wants_55 : decode cX0_wants 55 = .ok (.bipush 12, 2) := by decide +kernel
theorem dX0_wants_57 : decode cX0_wants 57 = .ok (.aload_n 0, 1) := by decide +kernel
theorem dX0_wants_58 : decode cX0_wants 58 = .ok (.getfield 35, 3) := by decide +kernel
theorem dX0_wants_61 : decode cX0_wants 61 = .ok (.isub, 1) := by decide +kernel
theorem dX0_wants_62 : decode cX0_wants 62 = .ok (.ireturn, 1) := by decide +kernel
theorem dX0_wants_63 : decode cX0_wants 63 = .ok (.aload_n 0, 1) := by decide +kernel
theorem dX0_wants_64 : decode cX0_wants 64 = .ok (.iconst 5, 1) := by decide +kernel
theorem dX0_wants_65 : decode cX0_wants 65 = .ok (.invokevirtual 68, 3) := by decide +kernel
theorem dX0_wants_68 : decode cX0_wants 68 = .ok (.ifCond .le 7, 3) := by decide +kernel
theorem dX0_wants_71 : decode cX0_wants 71 = .ok (.iconst 1, 1) := by decide +kernel
theorem dX0_wants_72 : decode cX0_wants 72 = .ok (.goto 4, 3) := by decide +kernel
theorem dX0_wants_75 : decode cX0_wants 75 = .ok (.iconst 0, 1) := by decide +kernel
theorem dX0_wants_76 : decode cX0_wants 76 = .ok (.ireturn, 1) := by decide +kernel
theorem dX0_wants_77 : decode cX0_wants 77 = .ok (.aload_n 0, 1) := by decide +kernel
theorem dX0_wants_78 : decode cX0_wants 78 = .ok (.getfield 28, 3) := by decide +kernel
theorem dX0_wants_81 : decode cX0_wants 81 = .ok (.iconst (-1), 1) := by decide +kernel
theorem dX0_wants_82 : decode cX0_wants 82 = .ok (.if_icmp .eq 11, 3) := by decide +kernel
theorem dX0_wants_85 : decode cX0_wants 85 = .ok (.aload_n 0, 1) := by decide +kernel
theorem dX0_wants_86 : decode cX0_wants 86 = .ok (.getfield 28, 3) := by decide +kernel
theorem dX0_wants_89 : decode cX0_wants 89 = .ok (.iconst 5, 1) := by decide +kernel
theorem dX0_wants_90 : decode cX0_wants 90 = .ok (.if_icmp .lt 7, 3) := by decide +kernel
theorem dX0_wants_93 : decode cX0_wants 93 = .ok (.iconst 1, 1) := by decide +kernel
theorem dX0_wants_94 : decode cX0_wants 94 = .ok (.goto 4, 3) := by decide +kernel
theorem dX0_wants_97 : decode cX0_wants 97 = .ok (.iconst 0, 1) := by decide +kernel
theorem dX0_wants_98 : decode cX0_wants 98 = .ok (.ireturn, 1) := by decide +kernel
set_option maxRecDepth 20000 in
theorem ggX0_wantsInAll_X0_wants : GoodIn wsX0_wantsInAll wsX0_wants := goodIn_r _ [5, 6, 7, 8, 9, 10, 11, 4, 12, 13, 14, 15, 16, 17, 18, 19, 20, 21, 22, 23, 24, 25, 26, 27, 28, 29, 30, 31, 32] (by decide +kernel) (by decide +kernel)
set_option maxRecDepth 20000 in
theorem gX0_wantsInAll_X0_wants : GoodIn wsX0_wantsInAll (wsV RX0 74 RX0 yX0_wants wsX0_wants) := goodIn_app (goodIn_of _ (by decide +kernel)) ggX0_wantsInAll_X0_wants
theorem dX0_wantsInAll_0 : decode cX0_wantsInAll 0 = .ok (.iconst 0, 1) := by decide +kernel
theorem dX0_wantsInAll_1 : decode cX0_wantsInAll 1 = .ok (.istore_n 1, 1) := by decide +kernel
theorem dX0_wantsInAll_2 : decode cX0_wantsInAll 2 = .ok (.iconst 0, 1) := by decide +kernel
theorem dX0_wantsInAll_3 : decode cX0_wantsInAll 3 = .ok (.istore_n 2, 1) := by decide +kernel
theorem dX0_wantsInAll_4 : decode cX0_wantsInAll 4 = .ok (.iload_n 2, 1) := by decide +kernel
theorem dX0_wantsInAll_5 : decode cX0_wantsInAll 5 = .ok (.iconst 5, 1) := by decide +kernel
theorem dX0_wantsInAll_6 : decode cX0_wantsInAll 6 = .ok (.if_icmp .ge 17, 3) := by decide +kernel
theorem dX0_wantsInAll_9 : decode cX0_wantsInAll 9 = .ok (.iload_n 1, 1) := by decide +kernel
theorem dX0_wantsInAll_10 : decode cX0_wantsInAll 10 = .ok (.aload_n 0, 1) := by decide +kernel
theorem dX0_wantsInAll_11 : decode cX0_wantsInAll 11 = .ok (.iload_n 2, 1) := by decide +kernel
theorem dX0_wantsInAll_12 : decode cX0_wantsInAll 12 = .ok (.invokevirtual 74, 3) := by decide +kernel
theorem dX0_wantsInAll_15 : decode cX0_wantsInAll 15 = .ok (.iadd, 1) := by decide +kernel
theorem dX0_wantsInAll_16 : decode cX0_wantsInAll 16 = .ok (.istore_n 1, 1) := by decide +kernel
theorem dX0_wantsInAll_17 : decode cX0_wantsInAll 17 = .ok (.iinc 2 1, 3) := by decide +kernel
theorem dX0_wantsInAll_20 : decode cX0_wantsInAll 20 = .ok (.goto (-16), 3) := by decide +kernel
theorem dX0_wantsInAll_23 : decode cX0_wantsInAll 23 = .ok (.iload_n 1, 1) := by decide +kernel
theorem dX0_wantsInAll_24 : decode cX0_wantsInAll 24 = .ok (.ireturn, 1) := by decide +kernel
set_option maxRecDepth 20000 in
theorem ggX0_liveOneDay_X0_tally : GoodIn wsX0_liveOneDay wsX0_tally := goodIn_r _ [5, 6, 7, 8, 9, 10, 4, 11, 12, 13, 14, 15, 16, 17, 18, 19, 20, 21, 48, 49, 50, 51, 52, 53, 54, 55, 56] (by decide +kernel) (by decide +kernel)
set_option maxRecDepth 20000 in
theorem gX0_liveOneDay_X0_tally : GoodIn wsX0_liveOneDay (wsV RX0 77 RX0 yX0_tally wsX0_tally) := goodIn_app (goodIn_of _ (by decide +kernel)) ggX0_liveOneDay_X0_tally
set_option maxRecDepth 20000 in
theorem ggX0_liveOneDay_X0_eatWig : GoodIn wsX0_liveOneDay wsX0_eatWig := goodIn_r _ [25, 6, 48, 49, 50, 51, 52, 53, 54, 55, 56] (by decide +kernel) (by decide +kernel)
set_option maxRecDepth 20000 in
theorem gX0_liveOneDay_X0_eatWig : GoodIn wsX0_liveOneDay (wsV RX0 80 RX0 yX0_eatWig wsX0_eatWig) := goodIn_app (goodIn_of _ (by decide +kernel)) ggX0_liveOneDay_X0_eatWig
set_option maxRecDepth 20000 in
theorem ggX0_liveOneDay_X0_loosenDress : GoodIn wsX0_liveOneDay wsX0_loosenDress := goodIn_r _ [29, 7, 16, 30, 31, 32, 33, 34, 48, 49, 50, 51, 52, 53, 54, 55, 56] (by decide +kernel) (by decide +kernel)
set_option maxRecDepth 20000 in
theorem gX0_liveOneDay_X0_loosenDress : GoodIn wsX0_liveOneDay (wsV RX0 84 RX0 yX0_loosenDress wsX0_loosenDress) := goodIn_app (goodIn_of _ (by decide +kernel)) ggX0_liveOneDay_X0_loosenDress
set_option maxRecDepth 20000 in
theorem ggX0_liveOneDay_X0_dryLacquer : GoodIn wsX0_liveOneDay wsX0_dryLacquer := goodIn_r _ [38, 39, 31, 32, 33, 34, 48, 49, 50, 51, 52, 53, 54, 55, 56] (by decide +kernel) (by decide +kernel)
set_option maxRecDepth 20000 in
theorem gX0_liveOneDay_X0_dryLacquer : GoodIn wsX0_liveOneDay (wsV RX0 87 RX0 yX0_dryLacquer wsX0_dryLacquer) := goodIn_app (goodIn_of _ (by decide +kernel)) ggX0_liveOneDay_X0_dryLacquer
set_option maxRecDepth 20000 in
theorem ggX0_liveOneDay_X0_gatherDust : GoodIn wsX0_liveOneDay wsX0_gatherDust := goodIn_r _ [43, 44, 21, 45, 46, 33, 47, 48, 49, 50, 51, 52, 53, 54, 55, 56] (by decide +kernel) (by decide +kernel)
set_option maxRecDepth 20000 in
theorem gX0_liveOneDay_X0_gatherDust : GoodIn wsX0_liveOneDay (wsV RX0 90 RX0 yX0_gatherDust wsX0_gatherDust) := goodIn_app (goodIn_of _ (by decide +kernel)) ggX0_liveOneDay_X0_gatherDust
theorem dX0_liveOneDay_0 : decode cX0_liveOneDay 0 = .ok (.aload_n 0, 1) := by decide +kernel
theorem dX0_liveOneDay_1 : decode cX0_liveOneDay 1 = .ok (.iconst 5, 1) := by decide +kernel
theorem dX0_liveOneDay_2 : decode cX0_liveOneDay 2 = .ok (.invokevirtual 77, 3) := by decide +kernel
theorem dX0_liveOneDay_5 : decode cX0_liveOneDay 5 = .ok (.istore_n 3, 1) := by decide +kernel
theorem dX0_liveOneDay_6 : decode cX0_liveOneDay 6 = .ok (.aload_n 0, 1) := by decide +kernel
theorem dX0_liveOneDay_7 : decode cX0_liveOneDay 7 = .ok (.bipush 6, 2) := by decide +kernel
theorem dX0_liveOneDay_9 : decode cX0_liveOneDay 9 = .ok (.invokevirtual 77, 3) := by decide +kernel
theorem dX0_liveOneDay_12 : decode cX0_liveOneDay 12 = .ok (.istore 4, 2) := by decide +kernel
theorem dX0_liveOneDay_14 : decode cX0_liveOneDay 14 = .ok (.aload_n 0, 1) := by decide +kernel
theorem dX0_liveOneDay_15 : decode cX0_liveOneDay 15 = .ok (.iload_n 2, 1) := by decide +kernel
theorem dX0_liveOneDay_16 : decode cX0_liveOneDay 16 = .ok (.invokevirtual 80, 3) := by decide +kernel
theorem dX0_liveOneDay_19 : decode cX0_liveOneDay 19 = .ok (.aload_n 0, 1) := by decide +kernel
theorem dX0_liveOneDay_20 : decode cX0_liveOneDay 20 = .ok (.invokevirtual 84, 3) := by decide +kernel
theorem dX0_liveOneDay_23 : decode cX0_liveOneDay 23 = .ok (.iload_n 1, 1) := by decide +kernel
theorem dX0_liveOneDay_24 : decode cX0_liveOneDay 24 = .ok (.iconst 3, 1) := by decide +kernel
theorem dX0_liveOneDay_25 : decode cX0_liveOneDay 25 = .ok (.irem, 1) := by decide +kernel
theorem dX0_liveOneDay_26 : decode cX0_liveOneDay 26 = .ok (.ifCond .ne 7, 3) := by decide +kernel
theorem dX0_liveOneDay_29 : decode cX0_liveOneDay 29 = .ok (.aload_n 0, 1) := by decide +kernel
theorem dX0_liveOneDay_30 : decode cX0_liveOneDay 30 = .ok (.invokevirtual 87, 3) := by decide +kernel
theorem dX0_liveOneDay_33 : decode cX0_liveOneDay 33 = .ok (.aload_n 0, 1) := by decide +kernel
theorem dX0_liveOneDay_34 : decode cX0_liveOneDay 34 = .ok (.invokevirtual 90, 3) := by decide +kernel
theorem dX0_liveOneDay_37 : decode cX0_liveOneDay 37 = .ok (.iload_n 3, 1) := by decide +kernel
theorem dX0_liveOneDay_38 : decode cX0_liveOneDay 38 = .ok (.aload_n 0, 1) := by decide +kernel
theorem dX0_liveOneDay_39 : decode cX0_liveOneDay 39 = .ok (.iconst 5, 1) := by decide +kernel
theorem dX0_liveOneDay_40 : decode cX0_liveOneDay 40 = .ok (.invokevirtual 77, 3) := by decide +kernel
theorem dX0_liveOneDay_43 : decode cX0_liveOneDay 43 = .ok (.isub, 1) := by decide +kernel
theorem dX0_liveOneDay_44 : decode cX0_liveOneDay 44 = .ok (.iload 4, 2) := by decide +kernel
theorem dX0_liveOneDay_46 : decode cX0_liveOneDay 46 = .ok (.iadd, 1) := by decide +kernel
theorem dX0_liveOneDay_47 : decode cX0_liveOneDay 47 = .ok (.aload_n 0, 1) := by decide +kernel
theorem dX0_liveOneDay_48 : decode cX0_liveOneDay 48 = .ok (.bipush 6, 2) := by decide +kernel
theorem dX0_liveOneDay_50 : decode cX0_liveOneDay 50 = .ok (.invokevirtual 77, 3) := by decide +kernel
theorem dX0_liveOneDay_53 : decode cX0_liveOneDay 53 = .ok (.isub, 1) := by decide +kernel
theorem dX0_liveOneDay_54 : decode cX0_liveOneDay 54 = .ok (.ireturn, 1) := by decide +kernel
theorem dX0_eatWig_0 : decode cX0_eatWig 0 = .ok (.aload_n 0, 1) := by decide +kernel
theorem dX0_eatWig_1 : decode cX0_eatWig 1 = .ok (.getfield 28, 3) := by decide +kernel
theorem dX0_eatWig_4 : decode cX0_eatWig 4 = .ok (.iconst (-1), 1) := by decide +kernel
theorem dX0_eatWig_5 : decode cX0_eatWig 5 = .ok (.if_icmp .ne 4, 3) := by decide +kernel
theorem dX0_eatWig_8 : decode cX0_eatWig 8 = .ok (.return_, 1) := by decide +kernel
theorem dX0_eatWig_9 : decode cX0_eatWig 9 = .ok (.aload_n 0, 1) := by decide +kernel
theorem dX0_eatWig_10 : decode cX0_eatWig 10 = .ok (.dup, 1) := by decide +kernel
theorem dX0_eatWig_11 : decode cX0_eatWig 11 = .ok (.getfield 28, 3) := by decide +kernel
theorem dX0_eatWig_14 : decode cX0_eatWig 14 = .ok (.iload_n 1, 1) := by decide +kernel
theorem dX0_eatWig_15 : decode cX0_eatWig 15 = .ok (.iadd, 1) := by decide +kernel
theorem dX0_eatWig_16 : decode cX0_eatWig 16 = .ok (.putfield 28, 3) := by decide +kernel
theorem dX0_eatWig_19 : decode cX0_eatWig 19 = .ok (.aload_n 0, 1) := by decide +kernel
theorem dX0_eatWig_20 : decode cX0_eatWig 20 = .ok (.getfield 28, 3) := by decide +kernel
theorem dX0_eatWig_23 : decode cX0_eatWig 23 = .ok (.bipush 10, 2) := by decide +kernel
theorem dX0_eatWig_25 : decode cX0_eatWig 25 = .ok (.if_icmp .lt 8, 3) := by decide +kernel
theorem dX0_eatWig_28 : decode cX0_eatWig 28 = .ok (.aload_n 0, 1) := by decide +kernel
theorem dX0_eatWig_29 : decode cX0_eatWig 29 = .ok (.iconst (-1), 1) := by decide +kernel
theorem dX0_eatWig_30 : decode cX0_eatWig 30 = .ok (.putfield 28, 3) := by decide +kernel
theorem dX0_eatWig_33 : decode cX0_eatWig 33 = .ok (.return_, 1) := by decide +kernel
theorem dX0_loosenDress_0 : decode cX0_loosenDress 0 = .ok (.aload_n 0, 1) := by decide +kernel
theorem dX0_loosenDress_1 : decode cX0_loosenDress 1 = .ok (.getfield 32, 3) := by decide +kernel
theorem dX0_loosenDress_4 : decode cX0_loosenDress 4 = .ok (.ifCond .eq 14, 3) := by decide +kernel
theorem dX0_loosenDress_7 : decode cX0_loosenDress 7 = .ok (.aload_n 0, 1) := by decide +kernel
theorem dX0_loosenDress_8 : decode cX0_loosenDress 8 = .ok (.getfield 15, 3) := by decide +kernel
theorem dX0_loosenDress_11 : decode cX0_loosenDress 11 = .ok (.iconst 5, 1) := by decide +kernel
theorem dX0_loosenDress_12 : decode cX0_loosenDress 12 = .ok (.iaload, 1) := by decide +kernel
theorem dX0_loosenDress_13 : decode cX0_loosenDress 13 = .ok (.bipush 50, 2) := by decide +kernel
theorem dX0_loosenDress_15 : decode cX0_loosenDress 15 = .ok (.if_icmp .ge 4, 3) := by decide +kernel
theorem dX0_loosenDress_18 : decode cX0_loosenDress 18 = .ok (.return_, 1) := by decide +kernel
theorem dX0_loosenDress_19 : decode cX0_loosenDress 19 = .ok (.aload_n 0, 1) := by decide +kernel
theorem dX0_loosenDress_20 : decode cX0_loosenDress 20 = .ok (.iconst 0, 1) := by decide +kernel
theorem dX0_loosenDress_21 : decode cX0_loosenDress 21 = .ok (.aload_n 0, 1) := by decide +kernel
theorem dX0_loosenDress_22 : decode cX0_loosenDress 22 = .ok (.getfield 35, 3) := by decide +kernel
theorem dX0_loosenDress_25 : decode cX0_loosenDress 25 = .ok (.iconst 1, 1) := by decide +kernel
theorem dX0_loosenDress_26 : decode cX0_loosenDress 26 = .ok (.isub, 1) := by decide +kernel
theorem dX0_loosenDress_27 : decode cX0_loosenDress 27 = .ok (.invokestatic 54, 3) := by decide +kernel
theorem dX0_loosenDress_30 : decode cX0_loosenDress 30 = .ok (.putfield 35, 3) := by decide +kernel
theorem dX0_loosenDress_33 : decode cX0_loosenDress 33 = .ok (.aload_n 0, 1) := by decide +kernel
theorem dX0_loosenDress_34 : decode cX0_loosenDress 34 = .ok (.getfield 35, 3) := by decide +kernel
theorem dX0_loosenDress_37 : decode cX0_loosenDress 37 = .ok (.aload_n 0, 1) := by decide +kernel
theorem dX0_loosenDress_38 : decode cX0_loosenDress 38 = .ok (.getfield 32, 3) := by decide +kernel
theorem dX0_loosenDress_41 : decode cX0_loosenDress 41 = .ok (.if_icmp .ge 13, 3) := by decide +kernel
theorem dX0_loosenDress_44 : decode cX0_loosenDress 44 = .ok (.aload_n 0, 1) := by decide +kernel
theorem dX0_loosenDress_45 : decode cX0_loosenDress 45 = .ok (.iconst 0, 1) := by decide +kernel
theorem dX0_loosenDress_46 : decode cX0_loosenDress 46 = .ok (.putfield 32, 3) := by decide +kernel
theorem dX0_loosenDress_49 : decode cX0_loosenDress 49 = .ok (.aload_n 0, 1) := by decide +kernel
theorem dX0_loosenDress_50 : decode cX0_loosenDress 50 = .ok (.iconst 0, 1) := by decide +kernel
theorem dX0_loosenDress_51 : decode cX0_loosenDress 51 = .ok (.putfield 35, 3) := by decide +kernel
theorem dX0_loosenDress_54 : decode cX0_loosenDress 54 = .ok (.return_, 1) := by decide +kernel
theorem dX0_dryLacquer_0 : decode cX0_dryLacquer 0 = .ok (.iconst 0, 1) := by decide +kernel
theorem dX0_dryLacquer_1 : decode cX0_dryLacquer 1 = .ok (.istore_n 1, 1) := by decide +kernel
theorem dX0_dryLacquer_2 : decode cX0_dryLacquer 2 = .ok (.iload_n 1, 1) := by decide +kernel
theorem dX0_dryLacquer_3 : decode cX0_dryLacquer 3 = .ok (.bipush 6, 2) := by decide +kernel
theorem dX0_dryLacquer_5 : decode cX0_dryLacquer 5 = .ok (.if_icmp .ge 27, 3) := by decide +kernel
theorem dX0_dryLacquer_8 : decode cX0_dryLacquer 8 = .ok (.aload_n 0, 1) := by decide +kernel
theorem dX0_dryLacquer_9 : decode cX0_dryLacquer 9 = .ok (.getfield 18, 3) := by decide +kernel
theorem dX0_dryLacquer_12 : decode cX0_dryLacquer 12 = .ok (.iload_n 1, 1) := by decide +kernel
theorem dX0_dryLacquer_13 : decode cX0_dryLacquer 13 = .ok (.iconst 0, 1) := by decide +kernel
theorem dX0_dryLacquer_14 : decode cX0_dryLacquer 14 = .ok (.aload_n 0, 1) := by decide +kernel
theorem dX0_dryLacquer_15 : decode cX0_dryLacquer 15 = .ok (.getfield 18, 3) := by decide +kernel
theorem dX0_dryLacquer_18 : decode cX0_dryLacquer 18 = .ok (.iload_n 1, 1) := by decide +kernel
theorem dX0_dryLacquer_19 : decode cX0_dryLacquer 19 = .ok (.iaload, 1) := by decide +kernel
theorem dX0_dryLacquer_20 : decode cX0_dryLacquer 20 = .ok (.iconst 1, 1) := by decide +kernel
theorem dX0_dryLacquer_21 : decode cX0_dryLacquer 21 = .ok (.isub, 1) := by decide +kernel
theorem dX0_dryLacquer_22 : decode cX0_dryLacquer 22 = .ok (.invokestatic 54, 3) := by decide +kernel
theorem dX0_dryLacquer_25 : decode cX0_dryLacquer 25 = .ok (.iastore, 1) := by decide +kernel
theorem dX0_dryLacquer_26 : decode cX0_dryLacquer 26 = .ok (.iinc 1 1, 3) := by decide +kernel
theorem dX0_dryLacquer_29 : decode cX0_dryLacquer 29 = .ok (.goto (-27), 3) := by decide +kernel
theorem dX0_dryLacquer_32 : decode cX0_dryLacquer 32 = .ok (.return_, 1) := by decide +kernel
theorem dX0_gatherDust_0 : decode cX0_gatherDust 0 = .ok (.iconst 0, 1) := by decide +kernel
theorem dX0_gatherDust_1 : decode cX0_gatherDust 1 = .ok (.istore_n 1, 1) := by decide +kernel
theorem dX0_gatherDust_2 : decode cX0_gatherDust 2 = .ok (.iload_n 1, 1) := by decide +kernel
theorem dX0_gatherDust_3 : decode cX0_gatherDust 3 = .ok (.iconst 2, 1) := by decide +kernel
theorem dX0_gatherDust_4 : decode cX0_gatherDust 4 = .ok (.if_icmp .ge 37, 3) := by decide +kernel
theorem dX0_gatherDust_7 : decode cX0_gatherDust 7 = .ok (.aload_n 0, 1) := by decide +kernel
theorem dX0_gatherDust_8 : decode cX0_gatherDust 8 = .ok (.getfield 21, 3) := by decide +kernel
theorem dX0_gatherDust_11 : decode cX0_gatherDust 11 = .ok (.iload_n 1, 1) := by decide +kernel
theorem dX0_gatherDust_12 : decode cX0_gatherDust 12 = .ok (.baload, 1) := by decide +kernel
theorem dX0_gatherDust_13 : decode cX0_gatherDust 13 = .ok (.ifCond .eq 22, 3) := by decide +kernel
theorem dX0_gatherDust_16 : decode cX0_gatherDust 16 = .ok (.aload_n 0, 1) := by decide +kernel
theorem dX0_gatherDust_17 : decode cX0_gatherDust 17 = .ok (.getfield 25, 3) := by decide +kernel
theorem dX0_gatherDust_20 : decode cX0_gatherDust 20 = .ok (.iload_n 1, 1) := by decide +kernel
theorem dX0_gatherDust_21 : decode cX0_gatherDust 21 = .ok (.bipush 9, 2) := by decide +kernel
theorem dX0_gatherDust_23 : decode cX0_gatherDust 23 = .ok (.aload_n 0, 1) := by decide +kernel
theorem dX0_gatherDust_24 : decode cX0_gatherDust 24 = .ok (.getfield 25, 3) := by decide +kernel
theorem dX0_gatherDust_27 : decode cX0_gatherDust 27 = .ok (.iload_n 1, 1) := by decide +kernel
theorem dX0_gatherDust_28 : decode cX0_gatherDust 28 = .ok (.iaload, 1) := by decide +kernel
theorem dX0_gatherDust_29 : decode cX0_gatherDust 29 = .ok (.iconst 1, 1) := by decide +kernel
theorem dX0_gatherDust_30 : decode cX0_gatherDust 30 = .ok (.iadd, 1) := by decide +kernel
theorem dX0_gatherDust_31 : decode cX0_gatherDust 31 = .ok (.invokestatic 58, 3) := by decide +kernel
theorem dX0_gatherDust_34 : decode cX0_gatherDust 34 = .ok (.iastore, 1) := by decide +kernel
theorem dX0_gatherDust_35 : decode cX0_gatherDust 35 = .ok (.iinc 1 1, 3) := by decide +kernel
theorem dX0_gatherDust_38 : decode cX0_gatherDust 38 = .ok (.goto (-36), 3) := by decide +kernel
theorem dX0_gatherDust_41 : decode cX0_gatherDust 41 = .ok (.return_, 1) := by decide +kernel
theorem dX1_init_0 : decode cX1_init 0 = .ok (.aload_n 0, 1) := by decide +kernel
theorem dX1_init_1 : decode cX1_init 1 = .ok (.invokespecial 3, 3) := by decide +kernel
theorem dX1_init_4 : decode cX1_init 4 = .ok (.aload_n 0, 1) := by decide +kernel
theorem dX1_init_5 : decode cX1_init 5 = .ok (.bipush 6, 2) := by decide +kernel
theorem dX1_init_7 : decode cX1_init 7 = .ok (.newarray .int, 2) := by decide +kernel
theorem dX1_init_9 : decode cX1_init 9 = .ok (.putfield 9, 3) := by decide +kernel
theorem dX1_init_12 : decode cX1_init 12 = .ok (.return_, 1) := by decide +kernel
theorem dX1_digestInto_0 : decode cX1_digestInto 0 = .ok (.lload_n 1, 1) := by decide +kernel
theorem dX1_digestInto_1 : decode cX1_digestInto 1 = .ok (.lstore_n 3, 1) := by decide +kernel
theorem dX1_digestInto_2 : decode cX1_digestInto 2 = .ok (.aload_n 0, 1) := by decide +kernel
theorem dX1_digestInto_3 : decode cX1_digestInto 3 = .ok (.getfield 9, 3) := by decide +kernel
theorem dX1_digestInto_6 : decode cX1_digestInto 6 = .ok (.astore 5, 2) := by decide +kernel
theorem dX1_digestInto_8 : decode cX1_digestInto 8 = .ok (.aload 5, 2) := by decide +kernel
theorem dX1_digestInto_10 : decode cX1_digestInto 10 = .ok (.arraylength, 1) := by decide +kernel
theorem dX1_digestInto_11 : decode cX1_digestInto 11 = .ok (.istore 6, 2) := by decide +kernel
theorem dX1_digestInto_13 : decode cX1_digestInto 13 = .ok (.iconst 0, 1) := by decide +kernel
theorem dX1_digestInto_14 : decode cX1_digestInto 14 = .ok (.istore 7, 2) := by decide +kernel
theorem dX1_digestInto_16 : decode cX1_digestInto 16 = .ok (.iload 7, 2) := by decide +kernel
theorem dX1_digestInto_18 : decode cX1_digestInto 18 = .ok (.iload 6, 2) := by decide +kernel
theorem dX1_digestInto_20 : decode cX1_digestInto 20 = .ok (.if_icmp .ge 26, 3) := by decide +kernel
theorem dX1_digestInto_23 : decode cX1_digestInto 23 = .ok (.aload 5, 2) := by decide +kernel
theorem dX1_digestInto_25 : decode cX1_digestInto 25 = .ok (.iload 7, 2) := by decide +kernel
theorem dX1_digestInto_27 : decode cX1_digestInto 27 = .ok (.iaload, 1) := by decide +kernel
theorem dX1_digestInto_28 : decode cX1_digestInto 28 = .ok (.istore 8, 2) := by decide +kernel
theorem dX1_digestInto_30 : decode cX1_digestInto 30 = .ok (.lload_n 3, 1) := by decide +kernel
theorem dX1_digestInto_31 : decode cX1_digestInto 31 = .ok (.ldc2_w 15, 3) := by decide +kernel
theorem dX1_digestInto_34 : decode cX1_digestInto 34 = .ok (.lmul, 1) := by decide +kernel
theorem dX1_digestInto_35 : decode cX1_digestInto 35 = .ok (.iload 8, 2) := by decide +kernel
theorem dX1_digestInto_37 : decode cX1_digestInto 37 = .ok (.i2l, 1) := by decide +kernel
theorem dX1_digestInto_38 : decode cX1_digestInto 38 = .ok (.ladd, 1) := by decide +kernel
theorem dX1_digestInto_39 : decode cX1_digestInto 39 = .ok (.lstore_n 3, 1) := by decide +kernel
theorem dX1_digestInto_40 : decode cX1_digestInto 40 = .ok (.iinc 7 1, 3) := by decide +kernel
theorem dX1_digestInto_43 : decode cX1_digestInto 43 = .ok (.goto (-27), 3) := by decide +kernel
theorem dX1_digestInto_46 : decode cX1_digestInto 46 = .ok (.lload_n 3, 1) := by decide +kernel
theorem dX1_digestInto_47 : decode cX1_digestInto 47 = .ok (.lreturn, 1) := by decide +kernel
set_option maxRecDepth 20000 in
theorem ggX2_init_X1_init : GoodIn wsX2_init wsX1_init := goodIn_r _ [21, 22, 2, 3, 8, 23, 47] (by decide +kernel) (by decide +kernel)
set_option maxRecDepth 20000 in
theorem gX2_init_X1_init_n25 : GoodIn wsX2_init (wsX1_init) := ggX2_init_X1_init
set_option maxRecDepth 20000 in
theorem ggX2_init_X0_init : GoodIn wsX2_init wsX0_init := goodIn_r _ [26, 27, 2, 3, 8, 28, 29, 30, 31, 32, 33, 34, 35, 36, 37, 48, 49, 50, 51, 52, 53, 54, 55, 56] (by decide +kernel) (by decide +kernel)
set_option maxRecDepth 20000 in
theorem gX2_init_X0_init : GoodIn wsX2_init (wsX0_init) := ggX2_init_X0_init
theorem dX2_init_0 : decode cX2_init 0 = .ok (.aload_n 0, 1) := by decide +kernel
theorem dX2_init_1 : decode cX2_init 1 = .ok (.invokespecial 1, 3) := by decide +kernel
theorem dX2_init_4 : decode cX2_init 4 = .ok (.aload_n 0, 1) := by decide +kernel
theorem dX2_init_5 : decode cX2_init 5 = .ok (.bipush 8, 2) := by decide +kernel
theorem dX2_init_7 : decode cX2_init 7 = .ok (.anewarray 9, 3) := by decide +kernel
theorem dX2_init_10 : decode cX2_init 10 = .ok (.putfield 11, 3) := by decide +kernel
theorem dX2_init_13 : decode cX2_init 13 = .ok (.aload_n 0, 1) := by decide +kernel
theorem dX2_init_14 : decode cX2_init 14 = .ok (.bipush 8, 2) := by decide +kernel
theorem dX2_init_16 : decode cX2_init 16 = .ok (.anewarray 15, 3) := by decide +kernel
theorem dX2_init_19 : decode cX2_init 19 = .ok (.putfield 17, 3) := by decide +kernel
theorem dX2_init_22 : decode cX2_init 22 = .ok (.aload_n 0, 1) := by decide +kernel
theorem dX2_init_23 : decode cX2_init 23 = .ok (.iconst 5, 1) := by decide +kernel
theorem dX2_init_24 : decode cX2_init 24 = .ok (.newarray .int, 2) := by decide +kernel
theorem dX2_init_26 : decode cX2_init 26 = .ok (.putfield 21, 3) := by decide +kernel
theorem dX2_init_29 : decode cX2_init 29 = .ok (.aload_n 0, 1) := by decide +kernel
theorem dX2_init_30 : decode cX2_init 30 = .ok (.new 15, 3) := by decide +kernel
theorem dX2_init_33 : decode cX2_init 33 = .ok (.dup, 1) := by decide +kernel
theorem dX2_init_34 : decode cX2_init 34 = .ok (.invokespecial 25, 3) := by decide +kernel
theorem dX2_init_37 : decode cX2_init 37 = .ok (.putfield 26, 3) := by decide +kernel
theorem dX2_init_40 : decode cX2_init 40 = .ok (.aload_n 0, 1) := by decide +kernel
theorem dX2_init_41 : decode cX2_init 41 = .ok (.new 9, 3) := by decide +kernel
theorem dX2_init_44 : decode cX2_init 44 = .ok (.dup, 1) := by decide +kernel
theorem dX2_init_45 : decode cX2_init 45 = .ok (.invokespecial 30, 3) := by decide +kernel
theorem dX2_init_48 : decode cX2_init 48 = .ok (.putfield 31, 3) := by decide +kernel
theorem dX2_init_51 : decode cX2_init 51 = .ok (.aload_n 0, 1) := by decide +kernel
theorem dX2_init_52 : decode cX2_init 52 = .ok (.iconst 0, 1) := by decide +kernel
theorem dX2_init_53 : decode cX2_init 53 = .ok (.putfield 35, 3) := by decide +kernel
theorem dX2_init_56 : decode cX2_init 56 = .ok (.aload_n 0, 1) := by decide +kernel
theorem dX2_init_57 : decode cX2_init 57 = .ok (.iconst 0, 1) := by decide +kernel
theorem dX2_init_58 : decode cX2_init 58 = .ok (.putfield 39, 3) := by decide +kernel
theorem dX2_init_61 : decode cX2_init 61 = .ok (.aload_n 0, 1) := by decide +kernel
theorem dX2_init_62 : decode cX2_init 62 = .ok (.iconst 0, 1) := by decide +kernel
theorem dX2_init_63 : decode cX2_init 63 = .ok (.putfield 42, 3) := by decide +kernel
theorem dX2_init_66 : decode cX2_init 66 = .ok (.aload_n 0, 1) := by decide +kernel
theorem dX2_init_67 : decode cX2_init 67 = .ok (.iconst 1, 1) := by decide +kernel
theorem dX2_init_68 : decode cX2_init 68 = .ok (.putfield 45, 3) := by decide +kernel
theorem dX2_init_71 : decode cX2_init 71 = .ok (.return_, 1) := by decide +kernel
set_option maxRecDepth 20000 in
theorem ggX2_make_X0_init : GoodIn wsX2_make wsX0_init := goodIn_r _ [10, 11, 12, 13, 14, 15, 16, 17, 18, 19, 20, 21, 22, 23, 24, 34, 35, 36, 37, 38, 39, 40, 41, 42] (by decide +kernel) (by decide +kernel)
set_option maxRecDepth 20000 in
theorem gX2_make_X0_init : GoodIn wsX2_make (wsX0_init) := ggX2_make_X0_init
theorem dX2_make_0 : decode cX2_make 0 = .ok (.aload_n 0, 1) := by decide +kernel
theorem dX2_make_1 : decode cX2_make 1 = .ok (.getfield 35, 3) := by decide +kernel
theorem dX2_make_4 : decode cX2_make 4 = .ok (.aload_n 0, 1) := by decide +kernel
theorem dX2_make_5 : decode cX2_make 5 = .ok (.getfield 11, 3) := by decide +kernel
theorem dX2_make_8 : decode cX2_make 8 = .ok (.arraylength, 1) := by decide +kernel
theorem dX2_make_9 : decode cX2_make 9 = .ok (.if_icmp .lt 13, 3) := by decide +kernel
theorem dX2_make_12 : decode cX2_make 12 = .ok (.new 48, 3) := by decide +kernel
theorem dX2_make_15 : decode cX2_make 15 = .ok (.dup, 1) := by decide +kernel
theorem dX2_make_16 : decode cX2_make 16 = .ok (.ldc 50, 2) := by decide +kernel
theorem dX2_make_18 : decode cX2_make 18 = .ok (.invokespecial 52, 3) := by decide +kernel
theorem dX2_make_21 : decode cX2_make 21 = .ok (.athrow, 1) := by decide +kernel
theorem dX2_make_22 : decode cX2_make 22 = .ok (.aload_n 0, 1) := by decide +kernel
theorem dX2_make_23 : decode cX2_make 23 = .ok (.getfield 35, 3) := by decide +kernel
theorem dX2_make_26 : decode cX2_make 26 = .ok (.istore_n 1, 1) := by decide +kernel
theorem dX2_make_27 : decode cX2_make 27 = .ok (.aload_n 0, 1) := by decide +kernel
theorem dX2_make_28 : decode cX2_make 28 = .ok (.getfield 11, 3) := by decide +kernel
theorem dX2_make_31 : decode cX2_make 31 = .ok (.iload_n 1, 1) := by decide +kernel
theorem dX2_make_32 : decode cX2_make 32 = .ok (.new 9, 3) := by decide +kernel
theorem dX2_make_35 : decode cX2_make 35 = .ok (.dup, 1) := by decide +kernel
theorem dX2_make_36 : decode cX2_make 36 = .ok (.invokespecial 30, 3) := by decide +kernel
theorem dX2_make_39 : decode cX2_make 39 = .ok (.aastore, 1) := by decide +kernel
theorem dX2_make_40 : decode cX2_make 40 = .ok (.aload_n 0, 1) := by decide +kernel
theorem dX2_make_41 : decode cX2_make 41 = .ok (.dup, 1) := by decide +kernel
theorem dX2_make_42 : decode cX2_make 42 = .ok (.getfield 35, 3) := by decide +kernel
theorem dX2_make_45 : decode cX2_make 45 = .ok (.iconst 1, 1) := by decide +kernel
theorem dX2_make_46 : decode cX2_make 46 = .ok (.iadd, 1) := by decide +kernel
theorem dX2_make_47 : decode cX2_make 47 = .ok (.putfield 35, 3) := by decide +kernel
theorem dX2_make_50 : decode cX2_make 50 = .ok (.iload_n 1, 1) := by decide +kernel
theorem dX2_make_51 : decode cX2_make 51 = .ok (.ireturn, 1) := by decide +kernel
set_option maxRecDepth 20000 in
theorem ggX2_pose_X2_isAngle : GoodIn wsX2_pose wsX2_isAngle := goodIn_r _ [14] (by decide +kernel) (by decide +kernel)
set_option maxRecDepth 20000 in
theorem gX2_pose_X2_isAngle : GoodIn wsX2_pose (va_wsS RX2 55 yX2_isAngle wsX2_isAngle) := goodIn_app (goodIn_of _ (by decide +kernel)) ggX2_pose_X2_isAngle
set_option maxRecDepth 20000 in
theorem ggX2_pose_X1_init : GoodIn wsX2_pose wsX1_init := goodIn_r _ [16, 17, 18, 19, 20, 21, 31] (by decide +kernel) (by decide +kernel)
set_option maxRecDepth 20000 in
theorem gX2_pose_X1_init_n25 : GoodIn wsX2_pose (wsX1_init) := ggX2_pose_X1_init
theorem dX2_pose_0 : decode cX2_pose 0 = .ok (.iload_n 1, 1) := by decide +kernel
theorem dX2_pose_1 : decode cX2_pose 1 = .ok (.invokestatic 55, 3) := by decide +kernel
theorem dX2_pose_4 : decode cX2_pose 4 = .ok (.ifCond .eq 41, 3) := by decide +kernel
theorem dX2_pose_7 : decode cX2_pose 7 = .ok (.iload_n 2, 1) := by decide +kernel
theorem dX2_pose_8 : decode cX2_pose 8 = .ok (.invokestatic 55, 3) := by decide +kernel
theorem dX2_pose_11 : decode cX2_pose 11 = .ok (.ifCond .eq 34, 3) := by decide +kernel
theorem dX2_pose_14 : decode cX2_pose 14 = .ok (.iload_n 3, 1) := by decide +kernel
theorem dX2_pose_15 : decode cX2_pose 15 = .ok (.invokestatic 55, 3) := by decide +kernel
theorem dX2_pose_18 : decode cX2_pose 18 = .ok (.ifCond .eq 27, 3) := by decide +kernel
theorem dX2_pose_21 : decode cX2_pose 21 = .ok (.iload 4, 2) := by decide +kernel
theorem dX2_pose_23 : decode cX2_pose 23 = .ok (.invokestatic 55, 3) := by decide +kernel
theorem dX2_pose_26 : decode cX2_pose 26 = .ok (.ifCond .eq 19, 3) := by decide +kernel
theorem dX2_pose_29 : decode cX2_pose 29 = .ok (.iload 5, 2) := by decide +kernel
theorem dX2_pose_31 : decode cX2_pose 31 = .ok (.invokestatic 55, 3) := by decide +kernel
theorem dX2_pose_34 : decode cX2_pose 34 = .ok (.ifCond .eq 11, 3) := by decide +kernel
theorem dX2_pose_37 : decode cX2_pose 37 = .ok (.iload 6, 2) := by decide +kernel
theorem dX2_pose_39 : decode cX2_pose 39 = .ok (.invokestatic 55, 3) := by decide +kernel
theorem dX2_pose_42 : decode cX2_pose 42 = .ok (.ifCond .ne 13, 3) := by decide +kernel
theorem dX2_pose_45 : decode cX2_pose 45 = .ok (.new 59, 3) := by decide +kernel
theorem dX2_pose_48 : decode cX2_pose 48 = .ok (.dup, 1) := by decide +kernel
theorem dX2_pose_49 : decode cX2_pose 49 = .ok (.ldc 61, 2) := by decide +kernel
theorem dX2_pose_51 : decode cX2_pose 51 = .ok (.invokespecial 63, 3) := by decide +kernel
theorem dX2_pose_54 : decode cX2_pose 54 = .ok (.athrow, 1) := by decide +kernel
theorem dX2_pose_55 : decode cX2_pose 55 = .ok (.aload_n 0, 1) := by decide +kernel
theorem dX2_pose_56 : decode cX2_pose 56 = .ok (.getfield 39, 3) := by decide +kernel
theorem dX2_pose_59 : decode cX2_pose 59 = .ok (.aload_n 0, 1) := by decide +kernel
theorem dX2_pose_60 : decode cX2_pose 60 = .ok (.getfield 17, 3) := by decide +kernel
theorem dX2_pose_63 : decode cX2_pose 63 = .ok (.arraylength, 1) := by decide +kernel
theorem dX2_pose_64 : decode cX2_pose 64 = .ok (.if_icmp .lt 13, 3) := by decide +kernel
theorem dX2_pose_67 : decode cX2_pose 67 = .ok (.new 48, 3) := by decide +kernel
theorem dX2_pose_70 : decode cX2_pose 70 = .ok (.dup, 1) := by decide +kernel
theorem dX2_pose_71 : decode cX2_pose 71 = .ok (.ldc 64, 2) := by decide +kernel
theorem dX2_pose_73 : decode cX2_pose 73 = .ok (.invokespecial 52, 3) := by decide +kernel
theorem dX2_pose_76 : decode cX2_pose 76 = .ok (.athrow, 1) := by decide +kernel
theorem dX2_pose_77 : decode cX2_pose 77 = .ok (.aload_n 0, 1) := by decide +kernel
theorem dX2_pose_78 : decode cX2_pose 78 = .ok (.getfield 39, 3) := by decide +kernel
theorem dX2_pose_81 : decode cX2_pose 81 = .ok (.istore 7, 2) := by decide +kernel
theorem dX2_pose_83 : decode cX2_pose 83 = .ok (.new 15, 3) := by decide +kernel
theorem dX2_pose_86 : decode cX2_pose 86 = .ok (.dup, 1) := by decide +kernel
theorem dX2_pose_87 : decode cX2_pose 87 = .ok (.invokespecial 25, 3) := by decide +kernel
theorem dX2_pose_90 : decode cX2_pose 90 = .ok (.astore 8, 2) := by decide +kernel
theorem dX2_pose_92 : decode cX2_pose 92 = .ok (.aload 8, 2) := by decide +kernel
theorem dX2_pose_94 : decode cX2_pose 94 = .ok (.getfield 66, 3) := by decide +kernel
theorem dX2_pose_97 : decode cX2_pose 97 = .ok (.iconst 0, 1) := by decide +kernel
theorem dX2_pose_98 : decode cX2_pose 98 = .ok (.iload_n 1, 1) := by decide +kernel
theorem dX2_pose_99 : decode cX2_pose 99 = .ok (.iastore, 1) := by decide +kernel
theorem dX2_pose_100 : decode cX2_pose 100 = .ok (.aload 8, 2) := by decide +kernel
theorem dX2_pose_102 : decode cX2_pose 102 = .ok (.getfield 66, 3) := by decide +kernel
theorem dX2_pose_105 : decode cX2_pose 105 = .ok (.iconst 1, 1) := by decide +kernel
theorem dX2_pose_106 : decode cX2_pose 106 = .ok (.iload_n 2, 1) := by decide +kernel
theorem dX2_pose_107 : decode cX2_pose 107 = .ok (.iastore, 1) := by decide +kernel
theorem dX2_pose_108 : decode cX2_pose 108 = .ok (.aload 8, 2) := by decide +kernel
theorem dX2_pose_110 : decode cX2_pose 110 = .ok (.getfield 66, 3) := by decide +kernel
theorem dX2_pose_113 : decode cX2_pose 113 = .ok (.iconst 2, 1) := by decide +kernel
theorem dX2_pose_114 : decode cX2_pose 114 = .ok (.iload_n 3, 1) := by decide +kernel
theorem dX2_pose_115 : decode cX2_pose 115 = .ok (.iastore, 1) := by decide +kernel
theorem dX2_pose_116 : decode cX2_pose 116 = .ok (.aload 8, 2) := by decide +kernel
theorem dX2_pose_118 : decode cX2_pose 118 = .ok (.getfield 66, 3) := by decide +kernel
theorem dX2_pose_121 : decode cX2_pose 121 = .ok (.iconst 3, 1) := by decide +kernel
theorem dX2_pose_122 : decode cX2_pose 122 = .ok (.iload 4, 2) := by decide +kernel
theorem dX2_pose_124 : decode cX2_pose 124 = .ok (.iastore, 1) := by decide +kernel
theorem dX2_pose_125 : decode cX2_pose 125 = .ok (.aload 8, 2) := by decide +kernel
theorem dX2_pose_127 : decode cX2_pose 127 = .ok (.getfield 66, 3) := by decide +kernel
theorem dX2_pose_130 : decode cX2_pose 130 = .ok (.iconst 4, 1) := by decide +kernel
theorem dX2_pose_131 : decode cX2_pose 131 = .ok (.iload 5, 2) := by decide +kernel
theorem dX2_pose_133 : decode cX2_pose 133 = .ok (.iastore, 1) := by decide +kernel
theorem dX2_pose_134 : decode cX2_pose 134 = .ok (.aload 8, 2) := by decide +kernel
theorem dX2_pose_136 : decode cX2_pose 136 = .ok (.getfield 66, 3) := by decide +kernel
theorem dX2_pose_139 : decode cX2_pose 139 = .ok (.iconst 5, 1) := by decide +kernel
theorem dX2_pose_140 : decode cX2_pose 140 = .ok (.iload 6, 2) := by decide +kernel
theorem dX2_pose_142 : decode cX2_pose 142 = .ok (.iastore, 1) := by decide +kernel
theorem dX2_pose_143 : decode cX2_pose 143 = .ok (.aload_n 0, 1) := by decide +kernel
theorem dX2_pose_144 : decode cX2_pose 144 = .ok (.getfield 17, 3) := by decide +kernel
theorem dX2_pose_147 : decode cX2_pose 147 = .ok (.iload 7, 2) := by decide +kernel
theorem dX2_pose_149 : decode cX2_pose 149 = .ok (.aload 8, 2) := by decide +kernel
theorem dX2_pose_151 : decode cX2_pose 151 = .ok (.aastore, 1) := by decide +kernel
theorem dX2_pose_152 : decode cX2_pose 152 = .ok (.aload_n 0, 1) := by decide +kernel
theorem dX2_pose_153 : decode cX2_pose 153 = .ok (.dup, 1) := by decide +kernel
theorem dX2_pose_154 : decode cX2_pose 154 = .ok (.getfield 39, 3) := by decide +kernel
theorem dX2_pose_157 : decode cX2_pose 157 = .ok (.iconst 1, 1) := by decide +kernel
theorem dX2_pose_158 : decode cX2_pose 158 = .ok (.iadd, 1) := by decide +kernel
theorem dX2_pose_159 : decode cX2_pose 159 = .ok (.putfield 39, 3) := by decide +kernel
theorem dX2_pose_162 : decode cX2_pose 162 = .ok (.iload 7, 2) := by decide +kernel
theorem dX2_pose_164 : decode cX2_pose 164 = .ok (.ireturn, 1) := by decide +kernel
set_option maxRecDepth 20000 in
theorem ggX2_take_X2_knownDoll : GoodIn wsX2_take wsX2_knownDoll := goodIn_ca (goodIn_r _ [8, 9, 10, 11, 60, 61, 62, 63, 64, 65, 66, 67, 68] (by decide +kernel) (by decide +kernel)) (goodIn_sub (fun _ h => List.mem_cons_of_mem _ (List.mem_append_right _ h)) (by decide +kernel))
set_option maxRecDepth 20000 in
theorem gX2_take_X2_knownDoll : GoodIn wsX2_take (wsV RX2 69 RX2 yX2_knownDoll wsX2_knownDoll) := goodIn_app (goodIn_of _ (by decide +kernel)) ggX2_take_X2_knownDoll
set_option maxRecDepth 20000 in
theorem ggX2_take_X2_knownPose : GoodIn wsX2_take wsX2_knownPose := goodIn_ca (goodIn_r _ [15, 9, 10, 16, 60, 61, 62, 63, 64, 65, 66, 67, 68] (by decide +kernel) (by decide +kernel)) (goodIn_sub (fun _ h => List.mem_cons_of_mem _ (List.mem_append_right _ h)) (by decide +kernel))
set_option maxRecDepth 20000 in
theorem gX2_take_X2_knownPose : GoodIn wsX2_take (wsV RX2 73 RX2 yX2_knownPose wsX2_knownPose) := goodIn_app (goodIn_of _ (by decide +kernel)) ggX2_take_X2_knownPose
set_option maxRecDepth 20000 in
theorem ggX2_take_X0_canTurnTo : GoodIn wsX2_take wsX0_canTurnTo := goodIn_r _ [21, 22, 23, 24, 51, 52, 53, 54, 55, 56, 57, 58, 59, 69] (by decide +kernel) (by decide +kernel)
set_option maxRecDepth 20000 in
theorem gX2_take_X0_canTurnTo : GoodIn wsX2_take (wsV RX2 77 RX0 yX0_canTurnTo wsX0_canTurnTo) := goodIn_app (goodIn_of _ (by decide +kernel)) ggX2_take_X0_canTurnTo
set_option maxRecDepth 20000 in
theorem ggX2_take_X0_brokenJoints : GoodIn wsX2_take wsX0_brokenJoints := goodIn_r _ [28, 29, 30, 31, 20, 32, 22, 51, 52, 53, 54, 55, 56, 57, 58, 59] (by decide +kernel) (by decide +kernel)
set_option maxRecDepth 20000 in
theorem gX2_take_X0_brokenJoints : GoodIn wsX2_take (wsV RX2 83 RX0 yX0_brokenJoints wsX0_brokenJoints) := goodIn_app (goodIn_of _ (by decide +kernel)) ggX2_take_X0_brokenJoints
set_option maxRecDepth 20000 in
theorem ggX2_take_X0_turnTo : GoodIn wsX2_take wsX0_turnTo := goodIn_r _ [36, 24, 23, 37, 38, 39, 40, 22, 41, 42, 43, 44, 45, 46, 20, 47, 48, 49, 50, 69, 51, 52, 53, 54, 55, 56, 57, 58, 59] (by decide +kernel) (by decide +kernel)
set_option maxRecDepth 20000 in
theorem gX2_take_X0_turnTo : GoodIn wsX2_take (wsV RX2 87 RX0 yX0_turnTo wsX0_turnTo) := goodIn_app (goodIn_of _ (by decide +kernel)) ggX2_take_X0_turnTo
theorem dX2_take_0 : decode cX2_take 0 = .ok (.aload_n 0, 1) := by decide +kernel
theorem dX2_take_1 : decode cX2_take 1 = .ok (.iload_n 1, 1) := by decide +kernel
theorem dX2_take_2 : decode cX2_take 2 = .ok (.invokevirtual 69, 3) := by decide +kernel
theorem dX2_take_5 : decode cX2_take 5 = .ok (.astore_n 3, 1) := by decide +kernel
theorem dX2_take_6 : decode cX2_take 6 = .ok (.aload_n 0, 1) := by decide +kernel
theorem dX2_take_7 : decode cX2_take 7 = .ok (.iload_n 2, 1) := by decide +kernel
theorem dX2_take_8 : decode cX2_take 8 = .ok (.invokevirtual 73, 3) := by decide +kernel
theorem dX2_take_11 : decode cX2_take 11 = .ok (.astore 4, 2) := by decide +kernel
theorem dX2_take_13 : decode cX2_take 13 = .ok (.aload_n 3, 1) := by decide +kernel
theorem dX2_take_14 : decode cX2_take 14 = .ok (.aload 4, 2) := by decide +kernel
theorem dX2_take_16 : decode cX2_take 16 = .ok (.invokevirtual 77, 3) := by decide +kernel
theorem dX2_take_19 : decode cX2_take 19 = .ok (.ifCond .ne 13, 3) := by decide +kernel
theorem dX2_take_22 : decode cX2_take 22 = .ok (.new 48, 3) := by decide +kernel
theorem dX2_take_25 : decode cX2_take 25 = .ok (.dup, 1) := by decide +kernel
theorem dX2_take_26 : decode cX2_take 26 = .ok (.ldc 81, 2) := by decide +kernel
theorem dX2_take_28 : decode cX2_take 28 = .ok (.invokespecial 52, 3) := by decide +kernel
theorem dX2_take_31 : decode cX2_take 31 = .ok (.athrow, 1) := by decide +kernel
theorem dX2_take_32 : decode cX2_take 32 = .ok (.aload_n 3, 1) := by decide +kernel
theorem dX2_take_33 : decode cX2_take 33 = .ok (.invokevirtual 83, 3) := by decide +kernel
theorem dX2_take_36 : decode cX2_take 36 = .ok (.istore 5, 2) := by decide +kernel
theorem dX2_take_38 : decode cX2_take 38 = .ok (.aload_n 3, 1) := by decide +kernel
theorem dX2_take_39 : decode cX2_take 39 = .ok (.aload 4, 2) := by decide +kernel
theorem dX2_take_41 : decode cX2_take 41 = .ok (.invokevirtual 87, 3) := by decide +kernel
theorem dX2_take_44 : decode cX2_take 44 = .ok (.aload_n 3, 1) := by decide +kernel
theorem dX2_take_45 : decode cX2_take 45 = .ok (.dup, 1) := by decide +kernel
theorem dX2_take_46 : decode cX2_take 46 = .ok (.getfield 91, 3) := by decide +kernel
theorem dX2_take_49 : decode cX2_take 49 = .ok (.iconst 1, 1) := by decide +kernel
theorem dX2_take_50 : decode cX2_take 50 = .ok (.iadd, 1) := by decide +kernel
theorem dX2_take_51 : decode cX2_take 51 = .ok (.putfield 91, 3) := by decide +kernel
theorem dX2_take_54 : decode cX2_take 54 = .ok (.aload_n 3, 1) := by decide +kernel
theorem dX2_take_55 : decode cX2_take 55 = .ok (.invokevirtual 83, 3) := by decide +kernel
theorem dX2_take_58 : decode cX2_take 58 = .ok (.iload 5, 2) := by decide +kernel
theorem dX2_take_60 : decode cX2_take 60 = .ok (.isub, 1) := by decide +kernel
theorem dX2_take_61 : decode cX2_take 61 = .ok (.ireturn, 1) := by decide +kernel
set_option maxRecDepth 20000 in
theorem ggX2_blink_X2_knownDoll : GoodIn wsX2_blink wsX2_knownDoll := goodIn_ca (goodIn_r _ [11, 1, 2, 12, 22, 23, 24, 25, 26, 27, 28, 29, 30] (by decide +kernel) (by decide +kernel)) (goodIn_sub (fun _ h => List.mem_cons_of_mem _ (List.mem_append_left _ (List.mem_append_right _ h))) (by decide +kernel))
set_option maxRecDepth 20000 in
theorem gX2_blink_X2_knownDoll : GoodIn wsX2_blink (wsV RX2 69 RX2 yX2_knownDoll wsX2_knownDoll) := goodIn_app (goodIn_of _ (by decide +kernel)) ggX2_blink_X2_knownDoll
theorem dX2_blink_0 : decode cX2_blink 0 = .ok (.aload_n 0, 1) := by decide +kernel
theorem dX2_blink_1 : decode cX2_blink 1 = .ok (.iload_n 1, 1) := by decide +kernel
theorem dX2_blink_2 : decode cX2_blink 2 = .ok (.invokevirtual 69, 3) := by decide +kernel
theorem dX2_blink_5 : decode cX2_blink 5 = .ok (.astore_n 3, 1) := by decide +kernel
theorem dX2_blink_6 : decode cX2_blink 6 = .ok (.iload_n 2, 1) := by decide +kernel
theorem dX2_blink_7 : decode cX2_blink 7 = .ok (.ifCond .lt 8, 3) := by decide +kernel
theorem dX2_blink_10 : decode cX2_blink 10 = .ok (.iload_n 2, 1) := by decide +kernel
theorem dX2_blink_11 : decode cX2_blink 11 = .ok (.iconst 2, 1) := by decide +kernel
theorem dX2_blink_12 : decode cX2_blink 12 = .ok (.if_icmp .lt 13, 3) := by decide +kernel
theorem dX2_blink_15 : decode cX2_blink 15 = .ok (.new 94, 3) := by decide +kernel
theorem dX2_blink_18 : decode cX2_blink 18 = .ok (.dup, 1) := by decide +kernel
theorem dX2_blink_19 : decode cX2_blink 19 = .ok (.ldc 96, 2) := by decide +kernel
theorem dX2_blink_21 : decode cX2_blink 21 = .ok (.invokespecial 98, 3) := by decide +kernel
theorem dX2_blink_24 : decode cX2_blink 24 = .ok (.athrow, 1) := by decide +kernel
theorem dX2_blink_25 : decode cX2_blink 25 = .ok (.aload_n 3, 1) := by decide +kernel
theorem dX2_blink_26 : decode cX2_blink 26 = .ok (.getfield 99, 3) := by decide +kernel
theorem dX2_blink_29 : decode cX2_blink 29 = .ok (.iload_n 2, 1) := by decide +kernel
theorem dX2_blink_30 : decode cX2_blink 30 = .ok (.iaload, 1) := by decide +kernel
theorem dX2_blink_31 : decode cX2_blink 31 = .ok (.bipush 9, 2) := by decide +kernel
theorem dX2_blink_33 : decode cX2_blink 33 = .ok (.if_icmp .lt 13, 3) := by decide +kernel
theorem dX2_blink_36 : decode cX2_blink 36 = .ok (.new 48, 3) := by decide +kernel
theorem dX2_blink_39 : decode cX2_blink 39 = .ok (.dup, 1) := by decide +kernel
theorem dX2_blink_40 : decode cX2_blink 40 = .ok (.ldc 102, 2) := by decide +kernel
theorem dX2_blink_42 : decode cX2_blink 42 = .ok (.invokespecial 52, 3) := by decide +kernel
theorem dX2_blink_45 : decode cX2_blink 45 = .ok (.athrow, 1) := by decide +kernel
theorem dX2_blink_46 : decode cX2_blink 46 = .ok (.aload_n 3, 1) := by decide +kernel
theorem dX2_blink_47 : decode cX2_blink 47 = .ok (.getfield 104, 3) := by decide +kernel
theorem dX2_blink_50 : decode cX2_blink 50 = .ok (.iload_n 2, 1) := by decide +kernel
theorem dX2_blink_51 : decode cX2_blink 51 = .ok (.aload_n 3, 1) := by decide +kernel
theorem dX2_blink_52 : decode cX2_blink 52 = .ok (.getfield 104, 3) := by decide +kernel
theorem dX2_blink_55 : decode cX2_blink 55 = .ok (.iload_n 2, 1) := by decide +kernel
theorem dX2_blink_56 : decode cX2_blink 56 = .ok (.baload, 1) := by decide +kernel
theorem dX2_blink_57 : decode cX2_blink 57 = .ok (.ifCond .ne 7, 3) := by decide +kernel
theorem dX2_blink_60 : decode cX2_blink 60 = .ok (.iconst 1, 1) := by decide +kernel
theorem dX2_blink_61 : decode cX2_blink 61 = .ok (.goto 4, 3) := by decide +kernel
theorem dX2_blink_64 : decode cX2_blink 64 = .ok (.iconst 0, 1) := by decide +kernel
theorem dX2_blink_65 : decode cX2_blink 65 = .ok (.bastore, 1) := by decide +kernel
theorem dX2_blink_66 : decode cX2_blink 66 = .ok (.aload_n 3, 1) := by decide +kernel
theorem dX2_blink_67 : decode cX2_blink 67 = .ok (.getfield 104, 3) := by decide +kernel
theorem dX2_blink_70 : decode cX2_blink 70 = .ok (.iload_n 2, 1) := by decide +kernel
theorem dX2_blink_71 : decode cX2_blink 71 = .ok (.baload, 1) := by decide +kernel
theorem dX2_blink_72 : decode cX2_blink 72 = .ok (.ireturn, 1) := by decide +kernel
set_option maxRecDepth 20000 in
theorem ggX2_dress_X2_knownDoll : GoodIn wsX2_dress wsX2_knownDoll := goodIn_ca (goodIn_r _ [16, 17, 18, 19, 20, 21, 22, 23, 24, 25, 26, 27, 28] (by decide +kernel) (by decide +kernel)) (goodIn_sub (fun _ h => List.mem_cons_of_mem _ (List.mem_append_right _ h)) (by decide +kernel))
set_option maxRecDepth 20000 in
theorem gX2_dress_X2_knownDoll : GoodIn wsX2_dress (wsV RX2 69 RX2 yX2_knownDoll wsX2_knownDoll) := goodIn_app (goodIn_of _ (by decide +kernel)) ggX2_dress_X2_knownDoll
theorem dX2_dress_0 : decode cX2_dress 0 = .ok (.aload_n 0, 1) := by decide +kernel
theorem dX2_dress_1 : decode cX2_dress 1 = .ok (.iload_n 1, 1) := by decide +kernel
theorem dX2_dress_2 : decode cX2_dress 2 = .ok (.invokevirtual 69, 3) := by decide +kernel
theorem dX2_dress_5 : decode cX2_dress 5 = .ok (.astore 4, 2) := by decide +kernel
theorem dX2_dress_7 : decode cX2_dress 7 = .ok (.iload_n 2, 1) := by decide +kernel
theorem dX2_dress_8 : decode cX2_dress 8 = .ok (.iconst 1, 1) := by decide +kernel
theorem dX2_dress_9 : decode cX2_dress 9 = .ok (.if_icmp .lt 19, 3) := by decide +kernel
theorem dX2_dress_12 : decode cX2_dress 12 = .ok (.iload_n 2, 1) := by decide +kernel
theorem dX2_dress_13 : decode cX2_dress 13 = .ok (.bipush 9, 2) := by decide +kernel
theorem dX2_dress_15 : decode cX2_dress 15 = .ok (.if_icmp .gt 13, 3) := by decide +kernel
theorem dX2_dress_18 : decode cX2_dress 18 = .ok (.iload_n 3, 1) := by decide +kernel
theorem dX2_dress_19 : decode cX2_dress 19 = .ok (.ifCond .lt 9, 3) := by decide +kernel
theorem dX2_dress_22 : decode cX2_dress 22 = .ok (.iload_n 3, 1) := by decide +kernel
theorem dX2_dress_23 : decode cX2_dress 23 = .ok (.bipush 12, 2) := by decide +kernel
theorem dX2_dress_25 : decode cX2_dress 25 = .ok (.if_icmp .le 13, 3) := by decide +kernel
theorem dX2_dress_28 : decode cX2_dress 28 = .ok (.new 59, 3) := by decide +kernel
theorem dX2_dress_31 : decode cX2_dress 31 = .ok (.dup, 1) := by decide +kernel
theorem dX2_dress_32 : decode cX2_dress 32 = .ok (.ldc 108, 2) := by decide +kernel
theorem dX2_dress_34 : decode cX2_dress 34 = .ok (.invokespecial 63, 3) := by decide +kernel
theorem dX2_dress_37 : decode cX2_dress 37 = .ok (.athrow, 1) := by decide +kernel
theorem dX2_dress_38 : decode cX2_dress 38 = .ok (.iload_n 3, 1) := by decide +kernel
theorem dX2_dress_39 : decode cX2_dress 39 = .ok (.iload_n 2, 1) := by decide +kernel
theorem dX2_dress_40 : decode cX2_dress 40 = .ok (.if_icmp .lt 13, 3) := by decide +kernel
theorem dX2_dress_43 : decode cX2_dress 43 = .ok (.iload_n 3, 1) := by decide +kernel
theorem dX2_dress_44 : decode cX2_dress 44 = .ok (.aload_n 0, 1) := by decide +kernel
theorem dX2_dress_45 : decode cX2_dress 45 = .ok (.getfield 21, 3) := by decide +kernel
theorem dX2_dress_48 : decode cX2_dress 48 = .ok (.iconst 2, 1) := by decide +kernel
theorem dX2_dress_49 : decode cX2_dress 49 = .ok (.iaload, 1) := by decide +kernel
theorem dX2_dress_50 : decode cX2_dress 50 = .ok (.if_icmp .le 13, 3) := by decide +kernel
theorem dX2_dress_53 : decode cX2_dress 53 = .ok (.new 48, 3) := by decide +kernel
theorem dX2_dress_56 : decode cX2_dress 56 = .ok (.dup, 1) := by decide +kernel
theorem dX2_dress_57 : decode cX2_dress 57 = .ok (.ldc 110, 2) := by decide +kernel
theorem dX2_dress_59 : decode cX2_dress 59 = .ok (.invokespecial 52, 3) := by decide +kernel
theorem dX2_dress_62 : decode cX2_dress 62 = .ok (.athrow, 1) := by decide +kernel
theorem dX2_dress_63 : decode cX2_dress 63 = .ok (.aload 4, 2) := by decide +kernel
theorem dX2_dress_65 : decode cX2_dress 65 = .ok (.getfield 112, 3) := by decide +kernel
theorem dX2_dress_68 : decode cX2_dress 68 = .ok (.istore 5, 2) := by decide +kernel
theorem dX2_dress_70 : decode cX2_dress 70 = .ok (.aload 4, 2) := by decide +kernel
theorem dX2_dress_72 : decode cX2_dress 72 = .ok (.iload_n 2, 1) := by decide +kernel
theorem dX2_dress_73 : decode cX2_dress 73 = .ok (.putfield 115, 3) := by decide +kernel
theorem dX2_dress_76 : decode cX2_dress 76 = .ok (.aload 4, 2) := by decide +kernel
theorem dX2_dress_78 : decode cX2_dress 78 = .ok (.iload_n 3, 1) := by decide +kernel
theorem dX2_dress_79 : decode cX2_dress 79 = .ok (.putfield 112, 3) := by decide +kernel
theorem dX2_dress_82 : decode cX2_dress 82 = .ok (.aload_n 0, 1) := by decide +kernel
theorem dX2_dress_83 : decode cX2_dress 83 = .ok (.getfield 21, 3) := by decide +kernel
theorem dX2_dress_86 : decode cX2_dress 86 = .ok (.iconst 2, 1) := by decide +kernel
theorem dX2_dress_87 : decode cX2_dress 87 = .ok (.bipush 99, 2) := by decide +kernel
theorem dX2_dress_89 : decode cX2_dress 89 = .ok (.aload_n 0, 1) := by decide +kernel
theorem dX2_dress_90 : decode cX2_dress 90 = .ok (.getfield 21, 3) := by decide +kernel
theorem dX2_dress_93 : decode cX2_dress 93 = .ok (.iconst 2, 1) := by decide +kernel
theorem dX2_dress_94 : decode cX2_dress 94 = .ok (.iaload, 1) := by decide +kernel
theorem dX2_dress_95 : decode cX2_dress 95 = .ok (.iload_n 3, 1) := by decide +kernel
theorem dX2_dress_96 : decode cX2_dress 96 = .ok (.isub, 1) := by decide +kernel
theorem dX2_dress_97 : decode cX2_dress 97 = .ok (.iload 5, 2) := by decide +kernel
theorem dX2_dress_99 : decode cX2_dress 99 = .ok (.iadd, 1) := by decide +kernel
theorem dX2_dress_100 : decode cX2_dress 100 = .ok (.invokestatic 118, 3) := by decide +kernel
theorem dX2_dress_103 : decode cX2_dress 103 = .ok (.iastore, 1) := by decide +kernel
theorem dX2_dress_104 : decode cX2_dress 104 = .ok (.aload_n 0, 1) := by decide +kernel
theorem dX2_dress_105 : decode cX2_dress 105 = .ok (.getfield 21, 3) := by decide +kernel
theorem dX2_dress_108 : decode cX2_dress 108 = .ok (.iconst 2, 1) := by decide +kernel
theorem dX2_dress_109 : decode cX2_dress 109 = .ok (.iaload, 1) := by decide +kernel
theorem dX2_dress_110 : decode cX2_dress 110 = .ok (.ireturn, 1) := by decide +kernel
theorem dX2_bring_0 : decode cX2_bring 0 = .ok (.iload_n 1, 1) := by decide +kernel
theorem dX2_bring_1 : decode cX2_bring 1 = .ok (.ifCond .lt 19, 3) := by decide +kernel
theorem dX2_bring_4 : decode cX2_bring 4 = .ok (.iload_n 1, 1) := by decide +kernel
theorem dX2_bring_5 : decode cX2_bring 5 = .ok (.iconst 5, 1) := by decide +kernel
theorem dX2_bring_6 : decode cX2_bring 6 = .ok (.if_icmp .ge 14, 3) := by decide +kernel
theorem dX2_bring_9 : decode cX2_bring 9 = .ok (.iload_n 2, 1) := by decide +kernel
theorem dX2_bring_10 : decode cX2_bring 10 = .ok (.iconst 1, 1) := by decide +kernel
theorem dX2_bring_11 : decode cX2_bring 11 = .ok (.if_icmp .lt 9, 3) := by decide +kernel
theorem dX2_bring_14 : decode cX2_bring 14 = .ok (.iload_n 2, 1) := by decide +kernel
theorem dX2_bring_15 : decode cX2_bring 15 = .ok (.bipush 99, 2) := by decide +kernel
theorem dX2_bring_17 : decode cX2_bring 17 = .ok (.if_icmp .le 13, 3) := by decide +kernel
theorem dX2_bring_20 : decode cX2_bring 20 = .ok (.new 59, 3) := by decide +kernel
theorem dX2_bring_23 : decode cX2_bring 23 = .ok (.dup, 1) := by decide +kernel
theorem dX2_bring_24 : decode cX2_bring 24 = .ok (.ldc 124, 2) := by decide +kernel
theorem dX2_bring_26 : decode cX2_bring 26 = .ok (.invokespecial 63, 3) := by decide +kernel
theorem dX2_bring_29 : decode cX2_bring 29 = .ok (.athrow, 1) := by decide +kernel
theorem dX2_bring_30 : decode cX2_bring 30 = .ok (.aload_n 0, 1) := by decide +kernel
theorem dX2_bring_31 : decode cX2_bring 31 = .ok (.getfield 21, 3) := by decide +kernel
theorem dX2_bring_34 : decode cX2_bring 34 = .ok (.iload_n 1, 1) := by decide +kernel
theorem dX2_bring_35 : decode cX2_bring 35 = .ok (.bipush 99, 2) := by decide +kernel
theorem dX2_bring_37 : decode cX2_bring 37 = .ok (.aload_n 0, 1) := by decide +kernel
theorem dX2_bring_38 : decode cX2_bring 38 = .ok (.getfield 21, 3) := by decide +kernel
theorem dX2_bring_41 : decode cX2_bring 41 = .ok (.iload_n 1, 1) := by decide +kernel
theorem dX2_bring_42 : decode cX2_bring 42 = .ok (.iaload, 1) := by decide +kernel
theorem dX2_bring_43 : decode cX2_bring 43 = .ok (.iload_n 2, 1) := by decide +kernel
theorem dX2_bring_44 : decode cX2_bring 44 = .ok (.iadd, 1) := by decide +kernel
theorem dX2_bring_45 : decode cX2_bring 45 = .ok (.invokestatic 118, 3) := by decide +kernel
theorem dX2_bring_48 : decode cX2_bring 48 = .ok (.iastore, 1) := by decide +kernel
theorem dX2_bring_49 : decode cX2_bring 49 = .ok (.aload_n 0, 1) := by decide +kernel
theorem dX2_bring_50 : decode cX2_bring 50 = .ok (.getfield 21, 3) := by decide +kernel
theorem dX2_bring_53 : decode cX2_bring 53 = .ok (.iload_n 1, 1) := by decide +kernel
theorem dX2_bring_54 : decode cX2_bring 54 = .ok (.iaload, 1) := by decide +kernel
theorem dX2_bring_55 : decode cX2_bring 55 = .ok (.ireturn, 1) := by decide +kernel
theorem dX2_setMoths_0 : decode cX2_setMoths 0 = .ok (.iload_n 1, 1) := by decide +kernel
theorem dX2_setMoths_1 : decode cX2_setMoths 1 = .ok (.ifCond .lt 8, 3) := by decide +kernel
theorem dX2_setMoths_4 : decode cX2_setMoths 4 = .ok (.iload_n 1, 1) := by decide +kernel
theorem dX2_setMoths_5 : decode cX2_setMoths 5 = .ok (.iconst 3, 1) := by decide +kernel
theorem dX2_setMoths_6 : decode cX2_setMoths 6 = .ok (.if_icmp .le 13, 3) := by decide +kernel
theorem dX2_setMoths_9 : decode cX2_setMoths 9 = .ok (.new 59, 3) := by decide +kernel
theorem dX2_setMoths_12 : decode cX2_setMoths 12 = .ok (.dup, 1) := by decide +kernel
theorem dX2_setMoths_13 : decode cX2_setMoths 13 = .ok (.ldc 126, 2) := by decide +kernel
theorem dX2_setMoths_15 : decode cX2_setMoths 15 = .ok (.invokespecial 63, 3) := by decide +kernel
theorem dX2_setMoths_18 : decode cX2_setMoths 18 = .ok (.athrow, 1) := by decide +kernel
theorem dX2_setMoths_19 : decode cX2_setMoths 19 = .ok (.aload_n 0, 1) := by decide +kernel
theorem dX2_setMoths_20 : decode cX2_setMoths 20 = .ok (.getfield 45, 3) := by decide +kernel
theorem dX2_setMoths_23 : decode cX2_setMoths 23 = .ok (.istore_n 2, 1) := by decide +kernel
theorem dX2_setMoths_24 : decode cX2_setMoths 24 = .ok (.aload_n 0, 1) := by decide +kernel
theorem dX2_setMoths_25 : decode cX2_setMoths 25 = .ok (.iload_n 1, 1) := by decide +kernel
theorem dX2_setMoths_26 : decode cX2_setMoths 26 = .ok (.putfield 45, 3) := by decide +kernel
theorem dX2_setMoths_29 : decode cX2_setMoths 29 = .ok (.iload_n 2, 1) := by decide +kernel
theorem dX2_setMoths_30 : decode cX2_setMoths 30 = .ok (.ireturn, 1) := by decide +kernel
set_option maxRecDepth 20000 in
theorem ggX2_mend_X2_knownDoll : GoodIn wsX2_mend wsX2_knownDoll := goodIn_ca (goodIn_r _ [16, 1, 2, 17, 30, 31, 32, 33, 34, 35, 36, 37, 38] (by decide +kernel) (by decide +kernel)) (goodIn_sub (fun _ h => List.mem_cons_of_mem _ (List.mem_append_left _ (List.mem_append_left _ (List.mem_append_right _ h)))) (by decide +kernel))
set_option maxRecDepth 20000 in
theorem gX2_mend_X2_knownDoll : GoodIn wsX2_mend (wsV RX2 69 RX2 yX2_knownDoll wsX2_knownDoll) := goodIn_app (goodIn_of _ (by decide +kernel)) ggX2_mend_X2_knownDoll
set_option maxRecDepth 20000 in
theorem ggX2_mend_X0_hasRoomForPin : GoodIn wsX2_mend wsX0_hasRoomForPin := goodIn_r _ [22, 23, 24, 39, 40, 41, 42, 43, 44, 45, 46, 47] (by decide +kernel) (by decide +kernel)
set_option maxRecDepth 20000 in
theorem gX2_mend_X0_hasRoomForPin : GoodIn wsX2_mend (wsV RX2 132 RX0 yX0_hasRoomForPin wsX0_hasRoomForPin) := goodIn_app (goodIn_of _ (by decide +kernel)) ggX2_mend_X0_hasRoomForPin
set_option maxRecDepth 20000 in
theorem ggX2_mend_X0_wipeEyes : GoodIn wsX2_mend wsX0_wipeEyes := goodIn_r _ [28, 29, 39, 40, 41, 42, 43, 44, 45, 46, 47] (by decide +kernel) (by decide +kernel)
set_option maxRecDepth 20000 in
theorem gX2_mend_X0_wipeEyes : GoodIn wsX2_mend (wsV RX2 144 RX0 yX0_wipeEyes wsX0_wipeEyes) := goodIn_app (goodIn_of _ (by decide +kernel)) ggX2_mend_X0_wipeEyes
theorem dX2_mend_0 : decode cX2_mend 0 = .ok (.aload_n 0, 1) := by decide +kernel
theorem dX2_mend_1 : decode cX2_mend 1 = .ok (.iload_n 1, 1) := by decide +kernel
theorem dX2_mend_2 : decode cX2_mend 2 = .ok (.invokevirtual 69, 3) := by decide +kernel
theorem dX2_mend_5 : decode cX2_mend 5 = .ok (.astore 4, 2) := by decide +kernel
theorem dX2_mend_7 : decode cX2_mend 7 = .ok (.iload_n 3, 1) := by decide +kernel
theorem dX2_mend_8 : decode cX2_mend 8 = .ok (.ifCond .lt 9, 3) := by decide +kernel
theorem dX2_mend_11 : decode cX2_mend 11 = .ok (.iload_n 3, 1) := by decide +kernel
theorem dX2_mend_12 : decode cX2_mend 12 = .ok (.bipush 6, 2) := by decide +kernel
theorem dX2_mend_14 : decode cX2_mend 14 = .ok (.if_icmp .lt 13, 3) := by decide +kernel
theorem dX2_mend_17 : decode cX2_mend 17 = .ok (.new 94, 3) := by decide +kernel
theorem dX2_mend_20 : decode cX2_mend 20 = .ok (.dup, 1) := by decide +kernel
theorem dX2_mend_21 : decode cX2_mend 21 = .ok (.ldc 128, 2) := by decide +kernel
theorem dX2_mend_23 : decode cX2_mend 23 = .ok (.invokespecial 98, 3) := by decide +kernel
theorem dX2_mend_26 : decode cX2_mend 26 = .ok (.athrow, 1) := by decide +kernel
theorem dX2_mend_27 : decode cX2_mend 27 = .ok (.iload_n 2, 1) := by decide +kernel
theorem dX2_mend_28 : decode cX2_mend 28 = .ok (.ifCond .lt 8, 3) := by decide +kernel
theorem dX2_mend_31 : decode cX2_mend 31 = .ok (.iload_n 2, 1) := by decide +kernel
theorem dX2_mend_32 : decode cX2_mend 32 = .ok (.iconst 5, 1) := by decide +kernel
theorem dX2_mend_33 : decode cX2_mend 33 = .ok (.if_icmp .lt 13, 3) := by decide +kernel
theorem dX2_mend_36 : decode cX2_mend 36 = .ok (.new 59, 3) := by decide +kernel
theorem dX2_mend_39 : decode cX2_mend 39 = .ok (.dup, 1) := by decide +kernel
theorem dX2_mend_40 : decode cX2_mend 40 = .ok (.ldc 130, 2) := by decide +kernel
theorem dX2_mend_42 : decode cX2_mend 42 = .ok (.invokespecial 63, 3) := by decide +kernel
theorem dX2_mend_45 : decode cX2_mend 45 = .ok (.athrow, 1) := by decide +kernel
theorem dX2_mend_46 : decode cX2_mend 46 = .ok (.aload_n 0, 1) := by decide +kernel
theorem dX2_mend_47 : decode cX2_mend 47 = .ok (.getfield 21, 3) := by decide +kernel
theorem dX2_mend_50 : decode cX2_mend 50 = .ok (.iload_n 2, 1) := by decide +kernel
theorem dX2_mend_51 : decode cX2_mend 51 = .ok (.iaload, 1) := by decide +kernel
theorem dX2_mend_52 : decode cX2_mend 52 = .ok (.ifCond .le 16, 3) := by decide +kernel
theorem dX2_mend_55 : decode cX2_mend 55 = .ok (.iload_n 2, 1) := by decide +kernel
theorem dX2_mend_56 : decode cX2_mend 56 = .ok (.iconst 2, 1) := by decide +kernel
theorem dX2_mend_57 : decode cX2_mend 57 = .ok (.if_icmp .ne 21, 3) := by decide +kernel
theorem dX2_mend_60 : decode cX2_mend 60 = .ok (.aload 4, 2) := by decide +kernel
theorem dX2_mend_62 : decode cX2_mend 62 = .ok (.invokevirtual 132, 3) := by decide +kernel
theorem dX2_mend_65 : decode cX2_mend 65 = .ok (.ifCond .ne 13, 3) := by decide +kernel
theorem dX2_mend_68 : decode cX2_mend 68 = .ok (.new 48, 3) := by decide +kernel
theorem dX2_mend_71 : decode cX2_mend 71 = .ok (.dup, 1) := by decide +kernel
theorem dX2_mend_72 : decode cX2_mend 72 = .ok (.ldc 136, 2) := by decide +kernel
theorem dX2_mend_74 : decode cX2_mend 74 = .ok (.invokespecial 52, 3) := by decide +kernel
theorem dX2_mend_77 : decode cX2_mend 77 = .ok (.athrow, 1) := by decide +kernel
theorem dX2_mend_78 : decode cX2_mend 78 = .ok (.iload_n 2, 1) := by decide +kernel
theorem dX2_mend_79 : decode cX2_mend 79 = .ok (.tableswitch 82 0 3 #[29, 48, 60, 74], 29) := by decide +kernel
theorem dX2_mend_108 : decode cX2_mend 108 = .ok (.aload 4, 2) := by decide +kernel
theorem dX2_mend_110 : decode cX2_mend 110 = .ok (.getfield 138, 3) := by decide +kernel
theorem dX2_mend_113 : decode cX2_mend 113 = .ok (.iload_n 3, 1) := by decide +kernel
theorem dX2_mend_114 : decode cX2_mend 114 = .ok (.iconst 0, 1) := by decide +kernel
theorem dX2_mend_115 : decode cX2_mend 115 = .ok (.iastore, 1) := by decide +kernel
theorem dX2_mend_116 : decode cX2_mend 116 = .ok (.aload 4, 2) := by decide +kernel
theorem dX2_mend_118 : decode cX2_mend 118 = .ok (.getfield 141, 3) := by decide +kernel
theorem dX2_mend_121 : decode cX2_mend 121 = .ok (.iload_n 3, 1) := by decide +kernel
theorem dX2_mend_122 : decode cX2_mend 122 = .ok (.iconst 0, 1) := by decide +kernel
theorem dX2_mend_123 : decode cX2_mend 123 = .ok (.iastore, 1) := by decide +kernel
theorem dX2_mend_124 : decode cX2_mend 124 = .ok (.goto 43, 3) := by decide +kernel
theorem dX2_mend_127 : decode cX2_mend 127 = .ok (.aload 4, 2) := by decide +kernel
theorem dX2_mend_129 : decode cX2_mend 129 = .ok (.getfield 141, 3) := by decide +kernel
theorem dX2_mend_132 : decode cX2_mend 132 = .ok (.iload_n 3, 1) := by decide +kernel
theorem dX2_mend_133 : decode cX2_mend 133 = .ok (.bipush 20, 2) := by decide +kernel
theorem dX2_mend_135 : decode cX2_mend 135 = .ok (.iastore, 1) := by decide +kernel
theorem dX2_mend_136 : decode cX2_mend 136 = .ok (.goto 31, 3) := by decide +kernel
theorem dX2_mend_139 : decode cX2_mend 139 = .ok (.aload 4, 2) := by decide +kernel
theorem dX2_mend_141 : decode cX2_mend 141 = .ok (.dup, 1) := by decide +kernel
theorem dX2_mend_142 : decode cX2_mend 142 = .ok (.getfield 112, 3) := by decide +kernel
theorem dX2_mend_145 : decode cX2_mend 145 = .ok (.iconst 1, 1) := by decide +kernel
theorem dX2_mend_146 : decode cX2_mend 146 = .ok (.iadd, 1) := by decide +kernel
theorem dX2_mend_147 : decode cX2_mend 147 = .ok (.putfield 112, 3) := by decide +kernel
theorem dX2_mend_150 : decode cX2_mend 150 = .ok (.goto 17, 3) := by decide +kernel
theorem dX2_mend_153 : decode cX2_mend 153 = .ok (.aload 4, 2) := by decide +kernel
theorem dX2_mend_155 : decode cX2_mend 155 = .ok (.invokevirtual 144, 3) := by decide +kernel
theorem dX2_mend_158 : decode cX2_mend 158 = .ok (.goto 9, 3) := by decide +kernel
theorem dX2_mend_161 : decode cX2_mend 161 = .ok (.aload 4, 2) := by decide +kernel
theorem dX2_mend_163 : decode cX2_mend 163 = .ok (.iconst 0, 1) := by decide +kernel
theorem dX2_mend_164 : decode cX2_mend 164 = .ok (.putfield 147, 3) := by decide +kernel
theorem dX2_mend_167 : decode cX2_mend 167 = .ok (.aload_n 0, 1) := by decide +kernel
theorem dX2_mend_168 : decode cX2_mend 168 = .ok (.getfield 21, 3) := by decide +kernel
theorem dX2_mend_171 : decode cX2_mend 171 = .ok (.iload_n 2, 1) := by decide +kernel
theorem dX2_mend_172 : decode cX2_mend 172 = .ok (.dup2, 1) := by decide +kernel
theorem dX2_mend_173 : decode cX2_mend 173 = .ok (.iaload, 1) := by decide +kernel
theorem dX2_mend_174 : decode cX2_mend 174 = .ok (.iconst 1, 1) := by decide +kernel
theorem dX2_mend_175 : decode cX2_mend 175 = .ok (.isub, 1) := by decide +kernel
theorem dX2_mend_176 : decode cX2_mend 176 = .ok (.iastore, 1) := by decide +kernel
theorem dX2_mend_177 : decode cX2_mend 177 = .ok (.aload_n 0, 1) := by decide +kernel
theorem dX2_mend_178 : decode cX2_mend 178 = .ok (.getfield 21, 3) := by decide +kernel
theorem dX2_mend_181 : decode cX2_mend 181 = .ok (.iload_n 2, 1) := by decide +kernel
theorem dX2_mend_182 : decode cX2_mend 182 = .ok (.iaload, 1) := by decide +kernel
theorem dX2_mend_183 : decode cX2_mend 183 = .ok (.ireturn, 1) := by decide +kernel
set_option maxRecDepth 20000 in
theorem ggX2_joint_X2_knownDoll : GoodIn wsX2_joint wsX2_knownDoll := goodIn_ca (goodIn_r _ [10, 1, 2, 11, 21, 22, 23, 24, 25, 26, 27, 28, 29] (by decide +kernel) (by decide +kernel)) (goodIn_sub (fun _ h => List.mem_cons_of_mem _ (List.mem_append_right _ h)) (by decide +kernel))
set_option maxRecDepth 20000 in
theorem gX2_joint_X2_knownDoll : GoodIn wsX2_joint (wsV RX2 69 RX2 yX2_knownDoll wsX2_knownDoll) := goodIn_app (goodIn_of _ (by decide +kernel)) ggX2_joint_X2_knownDoll
theorem dX2_joint_0 : decode cX2_joint 0 = .ok (.aload_n 0, 1) := by decide +kernel
theorem dX2_joint_1 : decode cX2_joint 1 = .ok (.iload_n 1, 1) := by decide +kernel
theorem dX2_joint_2 : decode cX2_joint 2 = .ok (.invokevirtual 69, 3) := by decide +kernel
theorem dX2_joint_5 : decode cX2_joint 5 = .ok (.astore 4, 2) := by decide +kernel
theorem dX2_joint_7 : decode cX2_joint 7 = .ok (.iload_n 2, 1) := by decide +kernel
theorem dX2_joint_8 : decode cX2_joint 8 = .ok (.ifCond .lt 18, 3) := by decide +kernel
theorem dX2_joint_11 : decode cX2_joint 11 = .ok (.iload_n 2, 1) := by decide +kernel
theorem dX2_joint_12 : decode cX2_joint 12 = .ok (.bipush 6, 2) := by decide +kernel
theorem dX2_joint_14 : decode cX2_joint 14 = .ok (.if_icmp .ge 12, 3) := by decide +kernel
theorem dX2_joint_17 : decode cX2_joint 17 = .ok (.iload_n 3, 1) := by decide +kernel
theorem dX2_joint_18 : decode cX2_joint 18 = .ok (.ifCond .lt 8, 3) := by decide +kernel
theorem dX2_joint_21 : decode cX2_joint 21 = .ok (.iload_n 3, 1) := by decide +kernel
theorem dX2_joint_22 : decode cX2_joint 22 = .ok (.iconst 4, 1) := by decide +kernel
theorem dX2_joint_23 : decode cX2_joint 23 = .ok (.if_icmp .lt 13, 3) := by decide +kernel
theorem dX2_joint_26 : decode cX2_joint 26 = .ok (.new 94, 3) := by decide +kernel
theorem dX2_joint_29 : decode cX2_joint 29 = .ok (.dup, 1) := by decide +kernel
theorem dX2_joint_30 : decode cX2_joint 30 = .ok (.ldc 150, 2) := by decide +kernel
theorem dX2_joint_32 : decode cX2_joint 32 = .ok (.invokespecial 98, 3) := by decide +kernel
theorem dX2_joint_35 : decode cX2_joint 35 = .ok (.athrow, 1) := by decide +kernel
theorem dX2_joint_36 : decode cX2_joint 36 = .ok (.iload_n 3, 1) := by decide +kernel
theorem dX2_joint_37 : decode cX2_joint 37 = .ok (.tableswitch 51 0 2 #[27, 35, 43], 27) := by decide +kernel
theorem dX2_joint_64 : decode cX2_joint 64 = .ok (.aload 4, 2) := by decide +kernel
theorem dX2_joint_66 : decode cX2_joint 66 = .ok (.getfield 152, 3) := by decide +kernel
theorem dX2_joint_69 : decode cX2_joint 69 = .ok (.iload_n 2, 1) := by decide +kernel
theorem dX2_joint_70 : decode cX2_joint 70 = .ok (.iaload, 1) := by decide +kernel
theorem dX2_joint_71 : decode cX2_joint 71 = .ok (.ireturn, 1) := by decide +kernel
theorem dX2_joint_72 : decode cX2_joint 72 = .ok (.aload 4, 2) := by decide +kernel
theorem dX2_joint_74 : decode cX2_joint 74 = .ok (.getfield 138, 3) := by decide +kernel
theorem dX2_joint_77 : decode cX2_joint 77 = .ok (.iload_n 2, 1) := by decide +kernel
theorem dX2_joint_78 : decode cX2_joint 78 = .ok (.iaload, 1) := by decide +kernel
theorem dX2_joint_79 : decode cX2_joint 79 = .ok (.ireturn, 1) := by decide +kernel
theorem dX2_joint_80 : decode cX2_joint 80 = .ok (.aload 4, 2) := by decide +kernel
theorem dX2_joint_82 : decode cX2_joint 82 = .ok (.getfield 141, 3) := by decide +kernel
theorem dX2_joint_85 : decode cX2_joint 85 = .ok (.iload_n 2, 1) := by decide +kernel
theorem dX2_joint_86 : decode cX2_joint 86 = .ok (.iaload, 1) := by decide +kernel
theorem dX2_joint_87 : decode cX2_joint 87 = .ok (.ireturn, 1) := by decide +kernel
theorem dX2_joint_88 : decode cX2_joint 88 = .ok (.aload 4, 2) := by decide +kernel
theorem dX2_joint_90 : decode cX2_joint 90 = .ok (.getfield 138, 3) := by decide +kernel
theorem dX2_joint_93 : decode cX2_joint 93 = .ok (.iload_n 2, 1) := by decide +kernel
theorem dX2_joint_94 : decode cX2_joint 94 = .ok (.iaload, 1) := by decide +kernel
theorem dX2_joint_95 : decode cX2_joint 95 = .ok (.bipush 100, 2) := by decide +kernel
theorem dX2_joint_97 : decode cX2_joint 97 = .ok (.if_icmp .lt 7, 3) := by decide +kernel
theorem dX2_joint_100 : decode cX2_joint 100 = .ok (.iconst 1, 1) := by decide +kernel
theorem dX2_joint_101 : decode cX2_joint 101 = .ok (.goto 4, 3) := by decide +kernel
theorem dX2_joint_104 : decode cX2_joint 104 = .ok (.iconst 0, 1) := by decide +kernel
theorem dX2_joint_105 : decode cX2_joint 105 = .ok (.ireturn, 1) := by decide +kernel
set_option maxRecDepth 20000 in
theorem ggX2_doll_X2_knownDoll : GoodIn wsX2_doll wsX2_knownDoll := goodIn_ca (goodIn_r _ [13, 1, 2, 14, 24, 25, 26, 27, 28, 29, 30, 31, 32] (by decide +kernel) (by decide +kernel)) (goodIn_sub (fun _ h => List.mem_cons_of_mem _ (List.mem_append_right _ h)) (by decide +kernel))
set_option maxRecDepth 20000 in
theorem gX2_doll_X2_knownDoll : GoodIn wsX2_doll (wsV RX2 69 RX2 yX2_knownDoll wsX2_knownDoll) := goodIn_app (goodIn_of _ (by decide +kernel)) ggX2_doll_X2_knownDoll
theorem dX2_doll_0 : decode cX2_doll 0 = .ok (.aload_n 0, 1) := by decide +kernel
theorem dX2_doll_1 : decode cX2_doll 1 = .ok (.iload_n 1, 1) := by decide +kernel
theorem dX2_doll_2 : decode cX2_doll 2 = .ok (.invokevirtual 69, 3) := by decide +kernel
theorem dX2_doll_5 : decode cX2_doll 5 = .ok (.astore_n 3, 1) := by decide +kernel
theorem dX2_doll_6 : decode cX2_doll 6 = .ok (.iload_n 2, 1) := by decide +kernel
theorem dX2_doll_7 : decode cX2_doll 7 = .ok (.ifCond .lt 9, 3) := by decide +kernel
theorem dX2_doll_10 : decode cX2_doll 10 = .ok (.iload_n 2, 1) := by decide +kernel
theorem dX2_doll_11 : decode cX2_doll 11 = .ok (.bipush 8, 2) := by decide +kernel
theorem dX2_doll_13 : decode cX2_doll 13 = .ok (.if_icmp .lt 13, 3) := by decide +kernel
theorem dX2_doll_16 : decode cX2_doll 16 = .ok (.new 94, 3) := by decide +kernel
theorem dX2_doll_19 : decode cX2_doll 19 = .ok (.dup, 1) := by decide +kernel
theorem dX2_doll_20 : decode cX2_doll 20 = .ok (.ldc 153, 2) := by decide +kernel
theorem dX2_doll_22 : decode cX2_doll 22 = .ok (.invokespecial 98, 3) := by decide +kernel
theorem dX2_doll_25 : decode cX2_doll 25 = .ok (.athrow, 1) := by decide +kernel
theorem dX2_doll_26 : decode cX2_doll 26 = .ok (.iload_n 2, 1) := by decide +kernel
theorem dX2_doll_27 : decode cX2_doll 27 = .ok (.tableswitch 100 0 6 #[41, 56, 71, 78, 85, 90, 95], 41) := by decide +kernel
theorem dX2_doll_68 : decode cX2_doll 68 = .ok (.aload_n 3, 1) := by decide +kernel
theorem dX2_doll_69 : decode cX2_doll 69 = .ok (.getfield 104, 3) := by decide +kernel
theorem dX2_doll_72 : decode cX2_doll 72 = .ok (.iconst 0, 1) := by decide +kernel
theorem dX2_doll_73 : decode cX2_doll 73 = .ok (.baload, 1) := by decide +kernel
theorem dX2_doll_74 : decode cX2_doll 74 = .ok (.ifCond .eq 7, 3) := by decide +kernel
theorem dX2_doll_77 : decode cX2_doll 77 = .ok (.iconst 1, 1) := by decide +kernel
theorem dX2_doll_78 : decode cX2_doll 78 = .ok (.goto 4, 3) := by decide +kernel
theorem dX2_doll_81 : decode cX2_doll 81 = .ok (.iconst 0, 1) := by decide +kernel
theorem dX2_doll_82 : decode cX2_doll 82 = .ok (.ireturn, 1) := by decide +kernel
theorem dX2_doll_83 : decode cX2_doll 83 = .ok (.aload_n 3, 1) := by decide +kernel
theorem dX2_doll_84 : decode cX2_doll 84 = .ok (.getfield 104, 3) := by decide +kernel
theorem dX2_doll_87 : decode cX2_doll 87 = .ok (.iconst 1, 1) := by decide +kernel
theorem dX2_doll_88 : decode cX2_doll 88 = .ok (.baload, 1) := by decide +kernel
theorem dX2_doll_89 : decode cX2_doll 89 = .ok (.ifCond .eq 7, 3) := by decide +kernel
theorem dX2_doll_92 : decode cX2_doll 92 = .ok (.iconst 1, 1) := by decide +kernel
theorem dX2_doll_93 : decode cX2_doll 93 = .ok (.goto 4, 3) := by decide +kernel
theorem dX2_doll_96 : decode cX2_doll 96 = .ok (.iconst 0, 1) := by decide +kernel
theorem dX2_doll_97 : decode cX2_doll 97 = .ok (.ireturn, 1) := by decide +kernel
theorem dX2_doll_98 : decode cX2_doll 98 = .ok (.aload_n 3, 1) := by decide +kernel
theorem dX2_doll_99 : decode cX2_doll 99 = .ok (.getfield 99, 3) := by decide +kernel
theorem dX2_doll_102 : decode cX2_doll 102 = .ok (.iconst 0, 1) := by decide +kernel
theorem dX2_doll_103 : decode cX2_doll 103 = .ok (.iaload, 1) := by decide +kernel
theorem dX2_doll_104 : decode cX2_doll 104 = .ok (.ireturn, 1) := by decide +kernel
theorem dX2_doll_105 : decode cX2_doll 105 = .ok (.aload_n 3, 1) := by decide +kernel
theorem dX2_doll_106 : decode cX2_doll 106 = .ok (.getfield 99, 3) := by decide +kernel
theorem dX2_doll_109 : decode cX2_doll 109 = .ok (.iconst 1, 1) := by decide +kernel
theorem dX2_doll_110 : decode cX2_doll 110 = .ok (.iaload, 1) := by decide +kernel
theorem dX2_doll_111 : decode cX2_doll 111 = .ok (.ireturn, 1) := by decide +kernel
theorem dX2_doll_112 : decode cX2_doll 112 = .ok (.aload_n 3, 1) := by decide +kernel
theorem dX2_doll_113 : decode cX2_doll 113 = .ok (.getfield 147, 3) := by decide +kernel
theorem dX2_doll_116 : decode cX2_doll 116 = .ok (.ireturn, 1) := by decide +kernel
theorem dX2_doll_117 : decode cX2_doll 117 = .ok (.aload_n 3, 1) := by decide +kernel
theorem dX2_doll_118 : decode cX2_doll 118 = .ok (.getfield 115, 3) := by decide +kernel
theorem dX2_doll_121 : decode cX2_doll 121 = .ok (.ireturn, 1) := by decide +kernel
theorem dX2_doll_122 : decode cX2_doll 122 = .ok (.aload_n 3, 1) := by decide +kernel
theorem dX2_doll_123 : decode cX2_doll 123 = .ok (.getfield 112, 3) := by decide +kernel
theorem dX2_doll_126 : decode cX2_doll 126 = .ok (.ireturn, 1) := by decide +kernel
theorem dX2_doll_127 : decode cX2_doll 127 = .ok (.aload_n 3, 1) := by decide +kernel
theorem dX2_doll_128 : decode cX2_doll 128 = .ok (.getfield 91, 3) := by decide +kernel
theorem dX2_doll_131 : decode cX2_doll 131 = .ok (.ireturn, 1) := by decide +kernel
set_option maxRecDepth 20000 in
theorem ggX2_count_X2_tallyOfAll : GoodIn wsX2_count wsX2_tallyOfAll := goodIn_r _ [12, 13, 14, 15, 16, 17, 18, 19, 20, 21, 22, 23, 24, 25, 26, 27, 28, 29, 30, 31, 32, 33, 34, 35, 36, 37, 38, 39, 40, 41, 42, 43, 44, 45, 46, 47, 48, 49, 50, 51, 52] (by decide +kernel) (by decide +kernel)
set_option maxRecDepth 20000 in
theorem gX2_count_X2_tallyOfAll : GoodIn wsX2_count (wsV RX2 157 RX2 yX2_tallyOfAll wsX2_tallyOfAll) := goodIn_app (goodIn_of _ (by decide +kernel)) ggX2_count_X2_tallyOfAll
theorem dX2_count_0 : decode cX2_count 0 = .ok (.iload_n 1, 1) := by decide +kernel
theorem dX2_count_1 : decode cX2_count 1 = .ok (.ifCond .lt 9, 3) := by decide +kernel
theorem dX2_count_4 : decode cX2_count 4 = .ok (.iload_n 1, 1) := by decide +kernel
theorem dX2_count_5 : decode cX2_count 5 = .ok (.bipush 13, 2) := by decide +kernel
theorem dX2_count_7 : decode cX2_count 7 = .ok (.if_icmp .lt 13, 3) := by decide +kernel
theorem dX2_count_10 : decode cX2_count 10 = .ok (.new 94, 3) := by decide +kernel
theorem dX2_count_13 : decode cX2_count 13 = .ok (.dup, 1) := by decide +kernel
theorem dX2_count_14 : decode cX2_count 14 = .ok (.ldc 155, 2) := by decide +kernel
theorem dX2_count_16 : decode cX2_count 16 = .ok (.invokespecial 98, 3) := by decide +kernel
theorem dX2_count_19 : decode cX2_count 19 = .ok (.athrow, 1) := by decide +kernel
theorem dX2_count_20 : decode cX2_count 20 = .ok (.iload_n 1, 1) := by decide +kernel
theorem dX2_count_21 : decode cX2_count 21 = .ok (.bipush 8, 2) := by decide +kernel
theorem dX2_count_23 : decode cX2_count 23 = .ok (.if_icmp .lt 13, 3) := by decide +kernel
theorem dX2_count_26 : decode cX2_count 26 = .ok (.aload_n 0, 1) := by decide +kernel
theorem dX2_count_27 : decode cX2_count 27 = .ok (.getfield 21, 3) := by decide +kernel
theorem dX2_count_30 : decode cX2_count 30 = .ok (.iload_n 1, 1) := by decide +kernel
theorem dX2_count_31 : decode cX2_count 31 = .ok (.bipush 8, 2) := by decide +kernel
theorem dX2_count_33 : decode cX2_count 33 = .ok (.isub, 1) := by decide +kernel
theorem dX2_count_34 : decode cX2_count 34 = .ok (.iaload, 1) := by decide +kernel
theorem dX2_count_35 : decode cX2_count 35 = .ok (.ireturn, 1) := by decide +kernel
theorem dX2_count_36 : decode cX2_count 36 = .ok (.iload_n 1, 1) := by decide +kernel
theorem dX2_count_37 : decode cX2_count 37 = .ok (.tableswitch 51 0 3 #[31, 36, 41, 46], 31) := by decide +kernel
theorem dX2_count_68 : decode cX2_count 68 = .ok (.aload_n 0, 1) := by decide +kernel
theorem dX2_count_69 : decode cX2_count 69 = .ok (.getfield 42, 3) := by decide +kernel
theorem dX2_count_72 : decode cX2_count 72 = .ok (.ireturn, 1) := by decide +kernel
theorem dX2_count_73 : decode cX2_count 73 = .ok (.aload_n 0, 1) := by decide +kernel
theorem dX2_count_74 : decode cX2_count 74 = .ok (.getfield 35, 3) := by decide +kernel
theorem dX2_count_77 : decode cX2_count 77 = .ok (.ireturn, 1) := by decide +kernel
theorem dX2_count_78 : decode cX2_count 78 = .ok (.aload_n 0, 1) := by decide +kernel
theorem dX2_count_79 : decode cX2_count 79 = .ok (.getfield 39, 3) := by decide +kernel
theorem dX2_count_82 : decode cX2_count 82 = .ok (.ireturn, 1) := by decide +kernel
theorem dX2_count_83 : decode cX2_count 83 = .ok (.aload_n 0, 1) := by decide +kernel
theorem dX2_count_84 : decode cX2_count 84 = .ok (.getfield 45, 3) := by decide +kernel
theorem dX2_count_87 : decode cX2_count 87 = .ok (.ireturn, 1) := by decide +kernel
theorem dX2_count_88 : decode cX2_count 88 = .ok (.aload_n 0, 1) := by decide +kernel
theorem dX2_count_89 : decode cX2_count 89 = .ok (.iload_n 1, 1) := by decide +kernel
theorem dX2_count_90 : decode cX2_count 90 = .ok (.invokevirtual 157, 3) := by decide +kernel
theorem dX2_count_93 : decode cX2_count 93 = .ok (.ireturn, 1) := by decide +kernel
set_option maxRecDepth 20000 in
theorem ggX2_costs_X2_knownDoll : GoodIn wsX2_costs wsX2_knownDoll := goodIn_ca (goodIn_r _ [6, 7, 8, 9, 55, 56, 57, 58, 59, 60, 61, 62, 63] (by decide +kernel) (by decide +kernel)) (goodIn_sub (fun _ h => List.mem_cons_of_mem _ (List.mem_append_right _ h)) (by decide +kernel))
set_option maxRecDepth 20000 in
theorem gX2_costs_X2_knownDoll : GoodIn wsX2_costs (wsV RX2 69 RX2 yX2_knownDoll wsX2_knownDoll) := goodIn_app (goodIn_of _ (by decide +kernel)) ggX2_costs_X2_knownDoll
set_option maxRecDepth 20000 in
theorem ggX2_costs_X2_knownPose : GoodIn wsX2_costs wsX2_knownPose := goodIn_ca (goodIn_r _ [13, 7, 8, 14, 55, 56, 57, 58, 59, 60, 61, 62, 63] (by decide +kernel) (by decide +kernel)) (goodIn_sub (fun _ h => List.mem_cons_of_mem _ (List.mem_append_right _ h)) (by decide +kernel))
set_option maxRecDepth 20000 in
theorem gX2_costs_X2_knownPose : GoodIn wsX2_costs (wsV RX2 73 RX2 yX2_knownPose wsX2_knownPose) := goodIn_app (goodIn_of _ (by decide +kernel)) ggX2_costs_X2_knownPose
set_option maxRecDepth 20000 in
theorem ggX2_costs_X0_canTurnTo : GoodIn wsX2_costs wsX0_canTurnTo := goodIn_r _ [19, 20, 21, 22, 64, 65, 66, 67, 68, 69, 70, 71, 72, 73] (by decide +kernel) (by decide +kernel)
set_option maxRecDepth 20000 in
theorem gX2_costs_X0_canTurnTo : GoodIn wsX2_costs (wsV RX2 77 RX0 yX0_canTurnTo wsX0_canTurnTo) := goodIn_app (goodIn_of _ (by decide +kernel)) ggX2_costs_X0_canTurnTo
set_option maxRecDepth 20000 in
theorem ggX2_costs_X0_becomeLike : GoodIn wsX2_costs wsX0_becomeLike := goodIn_r _ [26, 21, 20, 27, 28, 29, 30, 31, 32, 33, 64, 65, 66, 67, 68, 69, 70, 71, 72] (by decide +kernel) (by decide +kernel)
set_option maxRecDepth 20000 in
theorem gX2_costs_X0_becomeLike : GoodIn wsX2_costs (wsV RX2 161 RX0 yX0_becomeLike wsX0_becomeLike) := goodIn_app (goodIn_of _ (by decide +kernel)) ggX2_costs_X0_becomeLike
set_option maxRecDepth 20000 in
theorem ggX2_costs_X0_turnTo : GoodIn wsX2_costs wsX0_turnTo := goodIn_r _ [37, 22, 21, 38, 39, 40, 41, 20, 27, 42, 43, 44, 45, 46, 18, 47, 48, 49, 50, 73, 64, 65, 66, 67, 68, 69, 70, 71, 72] (by decide +kernel) (by decide +kernel)
set_option maxRecDepth 20000 in
theorem gX2_costs_X0_turnTo : GoodIn wsX2_costs (wsV RX2 87 RX0 yX0_turnTo wsX0_turnTo) := goodIn_app (goodIn_of _ (by decide +kernel)) ggX2_costs_X0_turnTo
set_option maxRecDepth 20000 in
theorem ggX2_costs_X0_wearOfAllJoints : GoodIn wsX2_costs wsX0_wearOfAllJoints := goodIn_r _ [54, 20, 64, 65, 66, 67, 68, 69, 70, 71, 72] (by decide +kernel) (by decide +kernel)
set_option maxRecDepth 20000 in
theorem gX2_costs_X0_wearOfAllJoints : GoodIn wsX2_costs (wsV RX2 165 RX0 yX0_wearOfAllJoints wsX0_wearOfAllJoints) := goodIn_app (goodIn_of _ (by decide +kernel)) ggX2_costs_X0_wearOfAllJoints
theorem dX2_costs_0 : decode cX2_costs 0 = .ok (.aload_n 0, 1) := by decide +kernel
theorem dX2_costs_1 : decode cX2_costs 1 = .ok (.iload_n 1, 1) := by decide +kernel
theorem dX2_costs_2 : decode cX2_costs 2 = .ok (.invokevirtual 69, 3) := by decide +kernel
theorem dX2_costs_5 : decode cX2_costs 5 = .ok (.astore_n 3, 1) := by decide +kernel
theorem dX2_costs_6 : decode cX2_costs 6 = .ok (.aload_n 0, 1) := by decide +kernel
theorem dX2_costs_7 : decode cX2_costs 7 = .ok (.iload_n 2, 1) := by decide +kernel
theorem dX2_costs_8 : decode cX2_costs 8 = .ok (.invokevirtual 73, 3) := by decide +kernel
theorem dX2_costs_11 : decode cX2_costs 11 = .ok (.astore 4, 2) := by decide +kernel
theorem dX2_costs_13 : decode cX2_costs 13 = .ok (.aload_n 3, 1) := by decide +kernel
theorem dX2_costs_14 : decode cX2_costs 14 = .ok (.aload 4, 2) := by decide +kernel
theorem dX2_costs_16 : decode cX2_costs 16 = .ok (.invokevirtual 77, 3) := by decide +kernel
theorem dX2_costs_19 : decode cX2_costs 19 = .ok (.ifCond .ne 5, 3) := by decide +kernel
theorem dX2_costs_22 : decode cX2_costs 22 = .ok (.iconst (-1), 1) := by decide +kernel
theorem dX2_costs_23 : decode cX2_costs 23 = .ok (.ireturn, 1) := by decide +kernel
theorem dX2_costs_24 : decode cX2_costs 24 = .ok (.aload_n 0, 1) := by decide +kernel
theorem dX2_costs_25 : decode cX2_costs 25 = .ok (.getfield 31, 3) := by decide +kernel
theorem dX2_costs_28 : decode cX2_costs 28 = .ok (.aload_n 3, 1) := by decide +kernel
theorem dX2_costs_29 : decode cX2_costs 29 = .ok (.invokevirtual 161, 3) := by decide +kernel
theorem dX2_costs_32 : decode cX2_costs 32 = .ok (.aload_n 0, 1) := by decide +kernel
theorem dX2_costs_33 : decode cX2_costs 33 = .ok (.getfield 31, 3) := by decide +kernel
theorem dX2_costs_36 : decode cX2_costs 36 = .ok (.aload 4, 2) := by decide +kernel
theorem dX2_costs_38 : decode cX2_costs 38 = .ok (.invokevirtual 87, 3) := by decide +kernel
theorem dX2_costs_41 : decode cX2_costs 41 = .ok (.aload_n 0, 1) := by decide +kernel
theorem dX2_costs_42 : decode cX2_costs 42 = .ok (.getfield 31, 3) := by decide +kernel
theorem dX2_costs_45 : decode cX2_costs 45 = .ok (.invokevirtual 165, 3) := by decide +kernel
theorem dX2_costs_48 : decode cX2_costs 48 = .ok (.aload_n 3, 1) := by decide +kernel
theorem dX2_costs_49 : decode cX2_costs 49 = .ok (.invokevirtual 165, 3) := by decide +kernel
theorem dX2_costs_52 : decode cX2_costs 52 = .ok (.isub, 1) := by decide +kernel
theorem dX2_costs_53 : decode cX2_costs 53 = .ok (.ireturn, 1) := by decide +kernel
set_option maxRecDepth 20000 in
theorem ggX2_often_X2_knownDoll : GoodIn wsX2_often wsX2_knownDoll := goodIn_ca (goodIn_r _ [7, 8, 9, 10, 52, 53, 54, 55, 56, 57, 58, 59, 60] (by decide +kernel) (by decide +kernel)) (goodIn_sub (fun _ h => List.mem_cons_of_mem _ (List.mem_append_right _ h)) (by decide +kernel))
set_option maxRecDepth 20000 in
theorem gX2_often_X2_knownDoll : GoodIn wsX2_often (wsV RX2 69 RX2 yX2_knownDoll wsX2_knownDoll) := goodIn_app (goodIn_of _ (by decide +kernel)) ggX2_often_X2_knownDoll
set_option maxRecDepth 20000 in
theorem ggX2_often_X2_knownPose : GoodIn wsX2_often wsX2_knownPose := goodIn_ca (goodIn_r _ [14, 8, 9, 15, 52, 53, 54, 55, 56, 57, 58, 59, 60] (by decide +kernel) (by decide +kernel)) (goodIn_sub (fun _ h => List.mem_cons_of_mem _ (List.mem_append_right _ h)) (by decide +kernel))
set_option maxRecDepth 20000 in
theorem gX2_often_X2_knownPose : GoodIn wsX2_often (wsV RX2 73 RX2 yX2_knownPose wsX2_knownPose) := goodIn_app (goodIn_of _ (by decide +kernel)) ggX2_often_X2_knownPose
set_option maxRecDepth 20000 in
theorem ggX2_often_X0_becomeLike : GoodIn wsX2_often wsX0_becomeLike := goodIn_r _ [20, 21, 22, 23, 24, 25, 26, 27, 28, 29, 61, 62, 63, 64, 65, 66, 67, 68, 69] (by decide +kernel) (by decide +kernel)
set_option maxRecDepth 20000 in
theorem gX2_often_X0_becomeLike : GoodIn wsX2_often (wsV RX2 161 RX0 yX0_becomeLike wsX0_becomeLike) := goodIn_app (goodIn_of _ (by decide +kernel)) ggX2_often_X0_becomeLike
set_option maxRecDepth 20000 in
theorem ggX2_often_X0_canTurnTo : GoodIn wsX2_often wsX0_canTurnTo := goodIn_r _ [33, 22, 21, 34, 61, 62, 63, 64, 65, 66, 67, 68, 69, 70] (by decide +kernel) (by decide +kernel)
set_option maxRecDepth 20000 in
theorem gX2_often_X0_canTurnTo : GoodIn wsX2_often (wsV RX2 77 RX0 yX0_canTurnTo wsX0_canTurnTo) := goodIn_app (goodIn_of _ (by decide +kernel)) ggX2_often_X0_canTurnTo
set_option maxRecDepth 20000 in
theorem ggX2_often_X0_turnTo : GoodIn wsX2_often wsX0_turnTo := goodIn_r _ [38, 34, 21, 39, 40, 41, 42, 22, 23, 43, 44, 45, 46, 47, 19, 48, 49, 50, 51, 70, 61, 62, 63, 64, 65, 66, 67, 68, 69] (by decide +kernel) (by decide +kernel)
set_option maxRecDepth 20000 in
theorem gX2_often_X0_turnTo : GoodIn wsX2_often (wsV RX2 87 RX0 yX0_turnTo wsX0_turnTo) := goodIn_app (goodIn_of _ (by decide +kernel)) ggX2_often_X0_turnTo
theorem dX2_often_0 : decode cX2_often 0 = .ok (.aload_n 0, 1) := by decide +kernel
theorem dX2_often_1 : decode cX2_often 1 = .ok (.iload_n 1, 1) := by decide +kernel
theorem dX2_often_2 : decode cX2_often 2 = .ok (.invokevirtual 69, 3) := by decide +kernel
theorem dX2_often_5 : decode cX2_often 5 = .ok (.astore_n 3, 1) := by decide +kernel
theorem dX2_often_6 : decode cX2_often 6 = .ok (.aload_n 0, 1) := by decide +kernel
theorem dX2_often_7 : decode cX2_often 7 = .ok (.iload_n 2, 1) := by decide +kernel
theorem dX2_often_8 : decode cX2_often 8 = .ok (.invokevirtual 73, 3) := by decide +kernel
theorem dX2_often_11 : decode cX2_often 11 = .ok (.astore 4, 2) := by decide +kernel
theorem dX2_often_13 : decode cX2_often 13 = .ok (.aload_n 0, 1) := by decide +kernel
theorem dX2_often_14 : decode cX2_often 14 = .ok (.getfield 31, 3) := by decide +kernel
theorem dX2_often_17 : decode cX2_often 17 = .ok (.aload_n 3, 1) := by decide +kernel
theorem dX2_often_18 : decode cX2_often 18 = .ok (.invokevirtual 161, 3) := by decide +kernel
theorem dX2_often_21 : decode cX2_often 21 = .ok (.iconst 0, 1) := by decide +kernel
theorem dX2_often_22 : decode cX2_often 22 = .ok (.istore 5, 2) := by decide +kernel
theorem dX2_often_24 : decode cX2_often 24 = .ok (.iload 5, 2) := by decide +kernel
theorem dX2_often_26 : decode cX2_often 26 = .ok (.bipush 50, 2) := by decide +kernel
theorem dX2_often_28 : decode cX2_often 28 = .ok (.if_icmp .ge 41, 3) := by decide +kernel
theorem dX2_often_31 : decode cX2_often 31 = .ok (.aload_n 0, 1) := by decide +kernel
theorem dX2_often_32 : decode cX2_often 32 = .ok (.getfield 31, 3) := by decide +kernel
theorem dX2_often_35 : decode cX2_often 35 = .ok (.aload 4, 2) := by decide +kernel
theorem dX2_often_37 : decode cX2_often 37 = .ok (.invokevirtual 77, 3) := by decide +kernel
theorem dX2_often_40 : decode cX2_often 40 = .ok (.ifCond .eq 29, 3) := by decide +kernel
theorem dX2_often_43 : decode cX2_often 43 = .ok (.aload_n 0, 1) := by decide +kernel
theorem dX2_often_44 : decode cX2_often 44 = .ok (.getfield 31, 3) := by decide +kernel
theorem dX2_often_47 : decode cX2_often 47 = .ok (.aload 4, 2) := by decide +kernel
theorem dX2_often_49 : decode cX2_often 49 = .ok (.invokevirtual 87, 3) := by decide +kernel
theorem dX2_often_52 : decode cX2_often 52 = .ok (.aload_n 0, 1) := by decide +kernel
theorem dX2_often_53 : decode cX2_often 53 = .ok (.getfield 31, 3) := by decide +kernel
theorem dX2_often_56 : decode cX2_often 56 = .ok (.aload_n 0, 1) := by decide +kernel
theorem dX2_often_57 : decode cX2_often 57 = .ok (.getfield 26, 3) := by decide +kernel
theorem dX2_often_60 : decode cX2_often 60 = .ok (.invokevirtual 87, 3) := by decide +kernel
theorem dX2_often_63 : decode cX2_often 63 = .ok (.iinc 5 1, 3) := by decide +kernel
theorem dX2_often_66 : decode cX2_often 66 = .ok (.goto (-42), 3) := by decide +kernel
theorem dX2_often_69 : decode cX2_often 69 = .ok (.iload 5, 2) := by decide +kernel
theorem dX2_often_71 : decode cX2_often 71 = .ok (.ireturn, 1) := by decide +kernel
set_option maxRecDepth 20000 in
theorem ggX2_needs_X2_knownDoll : GoodIn wsX2_needs wsX2_knownDoll := goodIn_ca (goodIn_r _ [7, 8, 9, 10, 34, 35, 36, 37, 38, 39, 40, 41, 42] (by decide +kernel) (by decide +kernel)) (goodIn_sub (fun _ h => List.mem_cons_of_mem _ (List.mem_append_right _ h)) (by decide +kernel))
set_option maxRecDepth 20000 in
theorem gX2_needs_X2_knownDoll : GoodIn wsX2_needs (wsV RX2 69 RX2 yX2_knownDoll wsX2_knownDoll) := goodIn_app (goodIn_of _ (by decide +kernel)) ggX2_needs_X2_knownDoll
set_option maxRecDepth 20000 in
theorem ggX2_needs_X0_wants : GoodIn wsX2_needs wsX0_wants := goodIn_r _ [15, 16, 17, 18, 19, 20, 21, 14, 22, 23, 24, 25, 26, 27, 28, 29, 30, 31, 32, 33, 43, 44, 45, 46, 47, 48, 49, 50, 51] (by decide +kernel) (by decide +kernel)
set_option maxRecDepth 20000 in
theorem gX2_needs_X0_wants : GoodIn wsX2_needs (wsV RX2 168 RX0 yX0_wants wsX0_wants) := goodIn_app (goodIn_of _ (by decide +kernel)) ggX2_needs_X0_wants
theorem dX2_needs_0 : decode cX2_needs 0 = .ok (.aload_n 0, 1) := by decide +kernel
theorem dX2_needs_1 : decode cX2_needs 1 = .ok (.iload_n 1, 1) := by decide +kernel
theorem dX2_needs_2 : decode cX2_needs 2 = .ok (.invokevirtual 69, 3) := by decide +kernel
theorem dX2_needs_5 : decode cX2_needs 5 = .ok (.astore_n 3, 1) := by decide +kernel
theorem dX2_needs_6 : decode cX2_needs 6 = .ok (.iload_n 2, 1) := by decide +kernel
theorem dX2_needs_7 : decode cX2_needs 7 = .ok (.ifCond .lt 8, 3) := by decide +kernel
theorem dX2_needs_10 : decode cX2_needs 10 = .ok (.iload_n 2, 1) := by decide +kernel
theorem dX2_needs_11 : decode cX2_needs 11 = .ok (.iconst 5, 1) := by decide +kernel
theorem dX2_needs_12 : decode cX2_needs 12 = .ok (.if_icmp .lt 13, 3) := by decide +kernel
theorem dX2_needs_15 : decode cX2_needs 15 = .ok (.new 59, 3) := by decide +kernel
theorem dX2_needs_18 : decode cX2_needs 18 = .ok (.dup, 1) := by decide +kernel
theorem dX2_needs_19 : decode cX2_needs 19 = .ok (.ldc 130, 2) := by decide +kernel
theorem dX2_needs_21 : decode cX2_needs 21 = .ok (.invokespecial 63, 3) := by decide +kernel
theorem dX2_needs_24 : decode cX2_needs 24 = .ok (.athrow, 1) := by decide +kernel
theorem dX2_needs_25 : decode cX2_needs 25 = .ok (.aload_n 3, 1) := by decide +kernel
theorem dX2_needs_26 : decode cX2_needs 26 = .ok (.iload_n 2, 1) := by decide +kernel
theorem dX2_needs_27 : decode cX2_needs 27 = .ok (.invokevirtual 168, 3) := by decide +kernel
theorem dX2_needs_30 : decode cX2_needs 30 = .ok (.ireturn, 1) := by decide +kernel
set_option maxRecDepth 20000 in
theorem ggX2_lacks_X0_wants : GoodIn wsX2_lacks wsX0_wants := goodIn_r _ [13, 14, 15, 16, 17, 18, 19, 12, 20, 21, 22, 23, 24, 25, 26, 27, 28, 29, 30, 31, 41, 42, 43, 44, 45, 46, 47, 48, 49] (by decide +kernel) (by decide +kernel)
set_option maxRecDepth 20000 in
theorem gX2_lacks_X0_wants : GoodIn wsX2_lacks (wsV RX2 168 RX0 yX0_wants wsX0_wants) := goodIn_app (goodIn_of _ (by decide +kernel)) ggX2_lacks_X0_wants
theorem dX2_lacks_0 : decode cX2_lacks 0 = .ok (.iload_n 1, 1) := by decide +kernel
theorem dX2_lacks_1 : decode cX2_lacks 1 = .ok (.ifCond .lt 8, 3) := by decide +kernel
theorem dX2_lacks_4 : decode cX2_lacks 4 = .ok (.iload_n 1, 1) := by decide +kernel
theorem dX2_lacks_5 : decode cX2_lacks 5 = .ok (.iconst 5, 1) := by decide +kernel
theorem dX2_lacks_6 : decode cX2_lacks 6 = .ok (.if_icmp .lt 13, 3) := by decide +kernel
theorem dX2_lacks_9 : decode cX2_lacks 9 = .ok (.new 59, 3) := by decide +kernel
theorem dX2_lacks_12 : decode cX2_lacks 12 = .ok (.dup, 1) := by decide +kernel
theorem dX2_lacks_13 : decode cX2_lacks 13 = .ok (.ldc 130, 2) := by decide +kernel
theorem dX2_lacks_15 : decode cX2_lacks 15 = .ok (.invokespecial 63, 3) := by decide +kernel
theorem dX2_lacks_18 : decode cX2_lacks 18 = .ok (.athrow, 1) := by decide +kernel
theorem dX2_lacks_19 : decode cX2_lacks 19 = .ok (.iconst 0, 1) := by decide +kernel
theorem dX2_lacks_20 : decode cX2_lacks 20 = .ok (.istore_n 2, 1) := by decide +kernel
theorem dX2_lacks_21 : decode cX2_lacks 21 = .ok (.aload_n 0, 1) := by decide +kernel
theorem dX2_lacks_22 : decode cX2_lacks 22 = .ok (.getfield 11, 3) := by decide +kernel
theorem dX2_lacks_25 : decode cX2_lacks 25 = .ok (.astore_n 3, 1) := by decide +kernel
theorem dX2_lacks_26 : decode cX2_lacks 26 = .ok (.aload_n 3, 1) := by decide +kernel
theorem dX2_lacks_27 : decode cX2_lacks 27 = .ok (.arraylength, 1) := by decide +kernel
theorem dX2_lacks_28 : decode cX2_lacks 28 = .ok (.istore 4, 2) := by decide +kernel
theorem dX2_lacks_30 : decode cX2_lacks 30 = .ok (.iconst 0, 1) := by decide +kernel
theorem dX2_lacks_31 : decode cX2_lacks 31 = .ok (.istore 5, 2) := by decide +kernel
theorem dX2_lacks_33 : decode cX2_lacks 33 = .ok (.iload 5, 2) := by decide +kernel
theorem dX2_lacks_35 : decode cX2_lacks 35 = .ok (.iload 4, 2) := by decide +kernel
theorem dX2_lacks_37 : decode cX2_lacks 37 = .ok (.if_icmp .ge 29, 3) := by decide +kernel
theorem dX2_lacks_40 : decode cX2_lacks 40 = .ok (.aload_n 3, 1) := by decide +kernel
theorem dX2_lacks_41 : decode cX2_lacks 41 = .ok (.iload 5, 2) := by decide +kernel
theorem dX2_lacks_43 : decode cX2_lacks 43 = .ok (.aaload, 1) := by decide +kernel
theorem dX2_lacks_44 : decode cX2_lacks 44 = .ok (.astore 6, 2) := by decide +kernel
theorem dX2_lacks_46 : decode cX2_lacks 46 = .ok (.aload 6, 2) := by decide +kernel
theorem dX2_lacks_48 : decode cX2_lacks 48 = .ok (.ifnull 12, 3) := by decide +kernel
theorem dX2_lacks_51 : decode cX2_lacks 51 = .ok (.iload_n 2, 1) := by decide +kernel
theorem dX2_lacks_52 : decode cX2_lacks 52 = .ok (.aload 6, 2) := by decide +kernel
theorem dX2_lacks_54 : decode cX2_lacks 54 = .ok (.iload_n 1, 1) := by decide +kernel
theorem dX2_lacks_55 : decode cX2_lacks 55 = .ok (.invokevirtual 168, 3) := by decide +kernel
theorem dX2_lacks_58 : decode cX2_lacks 58 = .ok (.iadd, 1) := by decide +kernel
theorem dX2_lacks_59 : decode cX2_lacks 59 = .ok (.istore_n 2, 1) := by decide +kernel
theorem dX2_lacks_60 : decode cX2_lacks 60 = .ok (.iinc 5 1, 3) := by decide +kernel
theorem dX2_lacks_63 : decode cX2_lacks 63 = .ok (.goto (-30), 3) := by decide +kernel
theorem dX2_lacks_66 : decode cX2_lacks 66 = .ok (.iconst 0, 1) := by decide +kernel
theorem dX2_lacks_67 : decode cX2_lacks 67 = .ok (.iload_n 2, 1) := by decide +kernel
theorem dX2_lacks_68 : decode cX2_lacks 68 = .ok (.aload_n 0, 1) := by decide +kernel
theorem dX2_lacks_69 : decode cX2_lacks 69 = .ok (.getfield 21, 3) := by decide +kernel
theorem dX2_lacks_72 : decode cX2_lacks 72 = .ok (.iload_n 1, 1) := by decide +kernel
theorem dX2_lacks_73 : decode cX2_lacks 73 = .ok (.iaload, 1) := by decide +kernel
theorem dX2_lacks_74 : decode cX2_lacks 74 = .ok (.isub, 1) := by decide +kernel
theorem dX2_lacks_75 : decode cX2_lacks 75 = .ok (.invokestatic 171, 3) := by decide +kernel
theorem dX2_lacks_78 : decode cX2_lacks 78 = .ok (.ireturn, 1) := by decide +kernel
set_option maxRecDepth 20000 in
theorem ggX2_worst_X0_wantsInAll : GoodIn wsX2_worst wsX0_wantsInAll := goodIn_r _ [6, 7, 8, 9, 5, 10, 11, 12, 13, 14, 15, 16, 17, 18, 19, 20, 21, 22, 23, 24, 25, 26, 27, 28, 38, 39, 40, 41, 42, 43, 44, 45, 46] (by decide +kernel) (by decide +kernel)
set_option maxRecDepth 20000 in
theorem gX2_worst_X0_wantsInAll : GoodIn wsX2_worst (wsV RX2 174 RX0 yX0_wantsInAll wsX0_wantsInAll) := goodIn_app (goodIn_of _ (by decide +kernel)) ggX2_worst_X0_wantsInAll
theorem dX2_worst_0 : decode cX2_worst 0 = .ok (.iconst (-1), 1) := by decide +kernel
theorem dX2_worst_1 : decode cX2_worst 1 = .ok (.istore_n 1, 1) := by decide +kernel
theorem dX2_worst_2 : decode cX2_worst 2 = .ok (.iconst 0, 1) := by decide +kernel
theorem dX2_worst_3 : decode cX2_worst 3 = .ok (.istore_n 2, 1) := by decide +kernel
theorem dX2_worst_4 : decode cX2_worst 4 = .ok (.iconst 0, 1) := by decide +kernel
theorem dX2_worst_5 : decode cX2_worst 5 = .ok (.istore_n 3, 1) := by decide +kernel
theorem dX2_worst_6 : decode cX2_worst 6 = .ok (.iload_n 3, 1) := by decide +kernel
theorem dX2_worst_7 : decode cX2_worst 7 = .ok (.aload_n 0, 1) := by decide +kernel
theorem dX2_worst_8 : decode cX2_worst 8 = .ok (.getfield 11, 3) := by decide +kernel
theorem dX2_worst_11 : decode cX2_worst 11 = .ok (.arraylength, 1) := by decide +kernel
theorem dX2_worst_12 : decode cX2_worst 12 = .ok (.if_icmp .ge 44, 3) := by decide +kernel
theorem dX2_worst_15 : decode cX2_worst 15 = .ok (.aload_n 0, 1) := by decide +kernel
theorem dX2_worst_16 : decode cX2_worst 16 = .ok (.getfield 11, 3) := by decide +kernel
theorem dX2_worst_19 : decode cX2_worst 19 = .ok (.iload_n 3, 1) := by decide +kernel
theorem dX2_worst_20 : decode cX2_worst 20 = .ok (.aaload, 1) := by decide +kernel
theorem dX2_worst_21 : decode cX2_worst 21 = .ok (.astore 4, 2) := by decide +kernel
theorem dX2_worst_23 : decode cX2_worst 23 = .ok (.aload 4, 2) := by decide +kernel
theorem dX2_worst_25 : decode cX2_worst 25 = .ok (.ifnonnull 7, 3) := by decide +kernel
theorem dX2_worst_28 : decode cX2_worst 28 = .ok (.iconst 0, 1) := by decide +kernel
theorem dX2_worst_29 : decode cX2_worst 29 = .ok (.goto 8, 3) := by decide +kernel
theorem dX2_worst_32 : decode cX2_worst 32 = .ok (.aload 4, 2) := by decide +kernel
theorem dX2_worst_34 : decode cX2_worst 34 = .ok (.invokevirtual 174, 3) := by decide +kernel
theorem dX2_worst_37 : decode cX2_worst 37 = .ok (.istore 5, 2) := by decide +kernel
theorem dX2_worst_39 : decode cX2_worst 39 = .ok (.iload 5, 2) := by decide +kernel
theorem dX2_worst_41 : decode cX2_worst 41 = .ok (.iload_n 2, 1) := by decide +kernel
theorem dX2_worst_42 : decode cX2_worst 42 = .ok (.if_icmp .le 8, 3) := by decide +kernel
theorem dX2_worst_45 : decode cX2_worst 45 = .ok (.iload 5, 2) := by decide +kernel
theorem dX2_worst_47 : decode cX2_worst 47 = .ok (.istore_n 2, 1) := by decide +kernel
theorem dX2_worst_48 : decode cX2_worst 48 = .ok (.iload_n 3, 1) := by decide +kernel
theorem dX2_worst_49 : decode cX2_worst 49 = .ok (.istore_n 1, 1) := by decide +kernel
theorem dX2_worst_50 : decode cX2_worst 50 = .ok (.iinc 3 1, 3) := by decide +kernel
theorem dX2_worst_53 : decode cX2_worst 53 = .ok (.goto (-47), 3) := by decide +kernel
theorem dX2_worst_56 : decode cX2_worst 56 = .ok (.iload_n 1, 1) := by decide +kernel
theorem dX2_worst_57 : decode cX2_worst 57 = .ok (.ireturn, 1) := by decide +kernel
set_option maxRecDepth 20000 in
theorem ggX2_foresee_X0_becomeLike : GoodIn wsX2_foresee wsX0_becomeLike := goodIn_r _ [11, 12, 13, 14, 15, 16, 17, 18, 19, 20, 81, 82, 83, 84, 85, 86, 87, 88, 89] (by decide +kernel) (by decide +kernel)
set_option maxRecDepth 20000 in
theorem gX2_foresee_X0_becomeLike : GoodIn wsX2_foresee (wsV RX2 161 RX0 yX0_becomeLike wsX0_becomeLike) := goodIn_app (goodIn_of _ (by decide +kernel)) ggX2_foresee_X0_becomeLike
set_option maxRecDepth 20000 in
theorem ggX2_foresee_X2_liveThrough : GoodIn wsX2_foresee wsX2_liveThrough := goodIn_r _ [25, 26, 27, 28, 29, 30, 10, 31, 32, 33, 34, 35, 17, 18, 36, 37, 38, 39, 40, 41, 42, 43, 13, 44, 45, 46, 47, 16, 48, 49, 50, 51, 52, 53, 54, 55, 19, 56, 57, 58, 59, 60, 61, 62, 63, 14, 64, 65, 66, 67, 15, 68, 69, 70, 72, 73, 74, 75, 76, 77, 78, 79, 80, 81, 82, 83, 84, 85, 86, 87, 88, 89] (by decide +kernel) (by decide +kernel)
set_option maxRecDepth 20000 in
theorem gX2_foresee_X2_liveThrough : GoodIn wsX2_foresee (wsV RX2 181 RX2 yX2_liveThrough wsX2_liveThrough) := goodIn_app (goodIn_of _ (by decide +kernel)) ggX2_foresee_X2_liveThrough
set_option maxRecDepth 20000 in
theorem ggX2_foresee_X0_tally : GoodIn wsX2_foresee wsX0_tally := goodIn_r _ [35, 17, 18, 36, 37, 38, 10, 39, 40, 41, 42, 43, 13, 44, 45, 46, 47, 16, 81, 82, 83, 84, 85, 86, 87, 88, 89] (by decide +kernel) (by decide +kernel)
set_option maxRecDepth 20000 in
theorem gX2_foresee_X0_tally : GoodIn wsX2_foresee (wsV RX2 185 RX0 yX0_tally wsX0_tally) := goodIn_app (goodIn_of _ (by decide +kernel)) ggX2_foresee_X0_tally
theorem dX2_foresee_0 : decode cX2_foresee 0 = .ok (.iload_n 1, 1) := by decide +kernel
theorem dX2_foresee_1 : decode cX2_foresee 1 = .ok (.iconst 1, 1) := by decide +kernel
theorem dX2_foresee_2 : decode cX2_foresee 2 = .ok (.if_icmp .lt 9, 3) := by decide +kernel
theorem dX2_foresee_5 : decode cX2_foresee 5 = .ok (.iload_n 1, 1) := by decide +kernel
theorem dX2_foresee_6 : decode cX2_foresee 6 = .ok (.bipush 60, 2) := by decide +kernel
theorem dX2_foresee_8 : decode cX2_foresee 8 = .ok (.if_icmp .le 13, 3) := by decide +kernel
theorem dX2_foresee_11 : decode cX2_foresee 11 = .ok (.new 59, 3) := by decide +kernel
theorem dX2_foresee_14 : decode cX2_foresee 14 = .ok (.dup, 1) := by decide +kernel
theorem dX2_foresee_15 : decode cX2_foresee 15 = .ok (.ldc 177, 2) := by decide +kernel
theorem dX2_foresee_17 : decode cX2_foresee 17 = .ok (.invokespecial 63, 3) := by decide +kernel
theorem dX2_foresee_20 : decode cX2_foresee 20 = .ok (.athrow, 1) := by decide +kernel
theorem dX2_foresee_21 : decode cX2_foresee 21 = .ok (.iload_n 2, 1) := by decide +kernel
theorem dX2_foresee_22 : decode cX2_foresee 22 = .ok (.iconst 4, 1) := by decide +kernel
theorem dX2_foresee_23 : decode cX2_foresee 23 = .ok (.if_icmp .lt 9, 3) := by decide +kernel
theorem dX2_foresee_26 : decode cX2_foresee 26 = .ok (.iload_n 2, 1) := by decide +kernel
theorem dX2_foresee_27 : decode cX2_foresee 27 = .ok (.bipush 7, 2) := by decide +kernel
theorem dX2_foresee_29 : decode cX2_foresee 29 = .ok (.if_icmp .le 13, 3) := by decide +kernel
theorem dX2_foresee_32 : decode cX2_foresee 32 = .ok (.new 94, 3) := by decide +kernel
theorem dX2_foresee_35 : decode cX2_foresee 35 = .ok (.dup, 1) := by decide +kernel
theorem dX2_foresee_36 : decode cX2_foresee 36 = .ok (.ldc 179, 2) := by decide +kernel
theorem dX2_foresee_38 : decode cX2_foresee 38 = .ok (.invokespecial 98, 3) := by decide +kernel
theorem dX2_foresee_41 : decode cX2_foresee 41 = .ok (.athrow, 1) := by decide +kernel
theorem dX2_foresee_42 : decode cX2_foresee 42 = .ok (.iconst 0, 1) := by decide +kernel
theorem dX2_foresee_43 : decode cX2_foresee 43 = .ok (.istore_n 3, 1) := by decide +kernel
theorem dX2_foresee_44 : decode cX2_foresee 44 = .ok (.aload_n 0, 1) := by decide +kernel
theorem dX2_foresee_45 : decode cX2_foresee 45 = .ok (.getfield 11, 3) := by decide +kernel
theorem dX2_foresee_48 : decode cX2_foresee 48 = .ok (.astore 4, 2) := by decide +kernel
theorem dX2_foresee_50 : decode cX2_foresee 50 = .ok (.aload 4, 2) := by decide +kernel
theorem dX2_foresee_52 : decode cX2_foresee 52 = .ok (.arraylength, 1) := by decide +kernel
theorem dX2_foresee_53 : decode cX2_foresee 53 = .ok (.istore 5, 2) := by decide +kernel
theorem dX2_foresee_55 : decode cX2_foresee 55 = .ok (.iconst 0, 1) := by decide +kernel
theorem dX2_foresee_56 : decode cX2_foresee 56 = .ok (.istore 6, 2) := by decide +kernel
theorem dX2_foresee_58 : decode cX2_foresee 58 = .ok (.iload 6, 2) := by decide +kernel
theorem dX2_foresee_60 : decode cX2_foresee 60 = .ok (.iload 5, 2) := by decide +kernel
theorem dX2_foresee_62 : decode cX2_foresee 62 = .ok (.if_icmp .ge 51, 3) := by decide +kernel
theorem dX2_foresee_65 : decode cX2_foresee 65 = .ok (.aload 4, 2) := by decide +kernel
theorem dX2_foresee_67 : decode cX2_foresee 67 = .ok (.iload 6, 2) := by decide +kernel
theorem dX2_foresee_69 : decode cX2_foresee 69 = .ok (.aaload, 1) := by decide +kernel
theorem dX2_foresee_70 : decode cX2_foresee 70 = .ok (.astore 7, 2) := by decide +kernel
theorem dX2_foresee_72 : decode cX2_foresee 72 = .ok (.aload 7, 2) := by decide +kernel
theorem dX2_foresee_74 : decode cX2_foresee 74 = .ok (.ifnull 33, 3) := by decide +kernel
theorem dX2_foresee_77 : decode cX2_foresee 77 = .ok (.aload_n 0, 1) := by decide +kernel
theorem dX2_foresee_78 : decode cX2_foresee 78 = .ok (.getfield 31, 3) := by decide +kernel
theorem dX2_foresee_81 : decode cX2_foresee 81 = .ok (.aload 7, 2) := by decide +kernel
theorem dX2_foresee_83 : decode cX2_foresee 83 = .ok (.invokevirtual 161, 3) := by decide +kernel
theorem dX2_foresee_86 : decode cX2_foresee 86 = .ok (.aload_n 0, 1) := by decide +kernel
theorem dX2_foresee_87 : decode cX2_foresee 87 = .ok (.aload_n 0, 1) := by decide +kernel
theorem dX2_foresee_88 : decode cX2_foresee 88 = .ok (.getfield 31, 3) := by decide +kernel
theorem dX2_foresee_91 : decode cX2_foresee 91 = .ok (.iload_n 1, 1) := by decide +kernel
theorem dX2_foresee_92 : decode cX2_foresee 92 = .ok (.invokevirtual 181, 3) := by decide +kernel
theorem dX2_foresee_95 : decode cX2_foresee 95 = .ok (.pop, 1) := by decide +kernel
theorem dX2_foresee_96 : decode cX2_foresee 96 = .ok (.iload_n 3, 1) := by decide +kernel
theorem dX2_foresee_97 : decode cX2_foresee 97 = .ok (.aload_n 0, 1) := by decide +kernel
theorem dX2_foresee_98 : decode cX2_foresee 98 = .ok (.getfield 31, 3) := by decide +kernel
theorem dX2_foresee_101 : decode cX2_foresee 101 = .ok (.iload_n 2, 1) := by decide +kernel
theorem dX2_foresee_102 : decode cX2_foresee 102 = .ok (.invokevirtual 185, 3) := by decide +kernel
theorem dX2_foresee_105 : decode cX2_foresee 105 = .ok (.iadd, 1) := by decide +kernel
theorem dX2_foresee_106 : decode cX2_foresee 106 = .ok (.istore_n 3, 1) := by decide +kernel
theorem dX2_foresee_107 : decode cX2_foresee 107 = .ok (.iinc 6 1, 3) := by decide +kernel
theorem dX2_foresee_110 : decode cX2_foresee 110 = .ok (.goto (-52), 3) := by decide +kernel
theorem dX2_foresee_113 : decode cX2_foresee 113 = .ok (.iload_n 3, 1) := by decide +kernel
theorem dX2_foresee_114 : decode cX2_foresee 114 = .ok (.ireturn, 1) := by decide +kernel
set_option maxRecDepth 20000 in
theorem ggX2_pass_X2_liveThrough : GoodIn wsX2_pass wsX2_liveThrough := goodIn_r _ [9, 4, 10, 11, 12, 13, 14, 15, 16, 17, 18, 19, 20, 21, 22, 23, 24, 25, 26, 27, 28, 29, 30, 31, 32, 33, 34, 35, 36, 37, 38, 39, 40, 41, 42, 43, 44, 45, 46, 47, 48, 49, 50, 51, 52, 53, 54, 55, 56, 57, 58, 59, 60, 61, 62, 63, 64, 65, 66, 67, 68, 69, 70, 71, 72, 73, 74, 75, 76, 77, 78, 79] (by decide +kernel) (by decide +kernel)
set_option maxRecDepth 20000 in
theorem gX2_pass_X2_liveThrough : GoodIn wsX2_pass (wsV RX2 181 RX2 yX2_liveThrough wsX2_liveThrough) := goodIn_app (goodIn_of _ (by decide +kernel)) ggX2_pass_X2_liveThrough
theorem dX2_pass_0 : decode cX2_pass 0 = .ok (.iload_n 1, 1) := by decide +kernel
theorem dX2_pass_1 : decode cX2_pass 1 = .ok (.iconst 1, 1) := by decide +kernel
theorem dX2_pass_2 : decode cX2_pass 2 = .ok (.if_icmp .lt 9, 3) := by decide +kernel
theorem dX2_pass_5 : decode cX2_pass 5 = .ok (.iload_n 1, 1) := by decide +kernel
theorem dX2_pass_6 : decode cX2_pass 6 = .ok (.bipush 60, 2) := by decide +kernel
theorem dX2_pass_8 : decode cX2_pass 8 = .ok (.if_icmp .le 13, 3) := by decide +kernel
theorem dX2_pass_11 : decode cX2_pass 11 = .ok (.new 59, 3) := by decide +kernel
theorem dX2_pass_14 : decode cX2_pass 14 = .ok (.dup, 1) := by decide +kernel
theorem dX2_pass_15 : decode cX2_pass 15 = .ok (.ldc 177, 2) := by decide +kernel
theorem dX2_pass_17 : decode cX2_pass 17 = .ok (.invokespecial 63, 3) := by decide +kernel
theorem dX2_pass_20 : decode cX2_pass 20 = .ok (.athrow, 1) := by decide +kernel
theorem dX2_pass_21 : decode cX2_pass 21 = .ok (.iconst 0, 1) := by decide +kernel
theorem dX2_pass_22 : decode cX2_pass 22 = .ok (.istore_n 2, 1) := by decide +kernel
theorem dX2_pass_23 : decode cX2_pass 23 = .ok (.aload_n 0, 1) := by decide +kernel
theorem dX2_pass_24 : decode cX2_pass 24 = .ok (.getfield 11, 3) := by decide +kernel
theorem dX2_pass_27 : decode cX2_pass 27 = .ok (.astore_n 3, 1) := by decide +kernel
theorem dX2_pass_28 : decode cX2_pass 28 = .ok (.aload_n 3, 1) := by decide +kernel
theorem dX2_pass_29 : decode cX2_pass 29 = .ok (.arraylength, 1) := by decide +kernel
theorem dX2_pass_30 : decode cX2_pass 30 = .ok (.istore 4, 2) := by decide +kernel
theorem dX2_pass_32 : decode cX2_pass 32 = .ok (.iconst 0, 1) := by decide +kernel
theorem dX2_pass_33 : decode cX2_pass 33 = .ok (.istore 5, 2) := by decide +kernel
theorem dX2_pass_35 : decode cX2_pass 35 = .ok (.iload 5, 2) := by decide +kernel
theorem dX2_pass_37 : decode cX2_pass 37 = .ok (.iload 4, 2) := by decide +kernel
theorem dX2_pass_39 : decode cX2_pass 39 = .ok (.if_icmp .ge 30, 3) := by decide +kernel
theorem dX2_pass_42 : decode cX2_pass 42 = .ok (.aload_n 3, 1) := by decide +kernel
theorem dX2_pass_43 : decode cX2_pass 43 = .ok (.iload 5, 2) := by decide +kernel
theorem dX2_pass_45 : decode cX2_pass 45 = .ok (.aaload, 1) := by decide +kernel
theorem dX2_pass_46 : decode cX2_pass 46 = .ok (.astore 6, 2) := by decide +kernel
theorem dX2_pass_48 : decode cX2_pass 48 = .ok (.aload 6, 2) := by decide +kernel
theorem dX2_pass_50 : decode cX2_pass 50 = .ok (.ifnull 13, 3) := by decide +kernel
theorem dX2_pass_53 : decode cX2_pass 53 = .ok (.iload_n 2, 1) := by decide +kernel
theorem dX2_pass_54 : decode cX2_pass 54 = .ok (.aload_n 0, 1) := by decide +kernel
theorem dX2_pass_55 : decode cX2_pass 55 = .ok (.aload 6, 2) := by decide +kernel
theorem dX2_pass_57 : decode cX2_pass 57 = .ok (.iload_n 1, 1) := by decide +kernel
theorem dX2_pass_58 : decode cX2_pass 58 = .ok (.invokevirtual 181, 3) := by decide +kernel
theorem dX2_pass_61 : decode cX2_pass 61 = .ok (.iadd, 1) := by decide +kernel
theorem dX2_pass_62 : decode cX2_pass 62 = .ok (.istore_n 2, 1) := by decide +kernel
theorem dX2_pass_63 : decode cX2_pass 63 = .ok (.iinc 5 1, 3) := by decide +kernel
theorem dX2_pass_66 : decode cX2_pass 66 = .ok (.goto (-31), 3) := by decide +kernel
theorem dX2_pass_69 : decode cX2_pass 69 = .ok (.aload_n 0, 1) := by decide +kernel
theorem dX2_pass_70 : decode cX2_pass 70 = .ok (.dup, 1) := by decide +kernel
theorem dX2_pass_71 : decode cX2_pass 71 = .ok (.getfield 42, 3) := by decide +kernel
theorem dX2_pass_74 : decode cX2_pass 74 = .ok (.iload_n 1, 1) := by decide +kernel
theorem dX2_pass_75 : decode cX2_pass 75 = .ok (.iadd, 1) := by decide +kernel
theorem dX2_pass_76 : decode cX2_pass 76 = .ok (.putfield 42, 3) := by decide +kernel
theorem dX2_pass_79 : decode cX2_pass 79 = .ok (.iload_n 2, 1) := by decide +kernel
theorem dX2_pass_80 : decode cX2_pass 80 = .ok (.ireturn, 1) := by decide +kernel
set_option maxRecDepth 20000 in
theorem ggX2_mean_X0_wearOfAllJoints : GoodIn wsX2_mean wsX0_wearOfAllJoints := goodIn_r _ [7, 8, 18, 19, 20, 21, 22, 23, 24, 25, 26] (by decide +kernel) (by decide +kernel)
set_option maxRecDepth 20000 in
theorem gX2_mean_X0_wearOfAllJoints : GoodIn wsX2_mean (wsV RX2 165 RX0 yX0_wearOfAllJoints wsX0_wearOfAllJoints) := goodIn_app (goodIn_of _ (by decide +kernel)) ggX2_mean_X0_wearOfAllJoints
theorem dX2_mean_0 : decode cX2_mean 0 = .ok (.aload_n 0, 1) := by decide +kernel
theorem dX2_mean_1 : decode cX2_mean 1 = .ok (.getfield 35, 3) := by decide +kernel
theorem dX2_mean_4 : decode cX2_mean 4 = .ok (.ifCond .gt 5, 3) := by decide +kernel
theorem dX2_mean_7 : decode cX2_mean 7 = .ok (.dconst 0, 1) := by decide +kernel
theorem dX2_mean_8 : decode cX2_mean 8 = .ok (.dreturn, 1) := by decide +kernel
theorem dX2_mean_9 : decode cX2_mean 9 = .ok (.iconst 0, 1) := by decide +kernel
theorem dX2_mean_10 : decode cX2_mean 10 = .ok (.istore_n 1, 1) := by decide +kernel
theorem dX2_mean_11 : decode cX2_mean 11 = .ok (.aload_n 0, 1) := by decide +kernel
theorem dX2_mean_12 : decode cX2_mean 12 = .ok (.getfield 11, 3) := by decide +kernel
theorem dX2_mean_15 : decode cX2_mean 15 = .ok (.astore_n 2, 1) := by decide +kernel
theorem dX2_mean_16 : decode cX2_mean 16 = .ok (.aload_n 2, 1) := by decide +kernel
theorem dX2_mean_17 : decode cX2_mean 17 = .ok (.arraylength, 1) := by decide +kernel
theorem dX2_mean_18 : decode cX2_mean 18 = .ok (.istore_n 3, 1) := by decide +kernel
theorem dX2_mean_19 : decode cX2_mean 19 = .ok (.iconst 0, 1) := by decide +kernel
theorem dX2_mean_20 : decode cX2_mean 20 = .ok (.istore 4, 2) := by decide +kernel
theorem dX2_mean_22 : decode cX2_mean 22 = .ok (.iload 4, 2) := by decide +kernel
theorem dX2_mean_24 : decode cX2_mean 24 = .ok (.iload_n 3, 1) := by decide +kernel
theorem dX2_mean_25 : decode cX2_mean 25 = .ok (.if_icmp .ge 28, 3) := by decide +kernel
theorem dX2_mean_28 : decode cX2_mean 28 = .ok (.aload_n 2, 1) := by decide +kernel
theorem dX2_mean_29 : decode cX2_mean 29 = .ok (.iload 4, 2) := by decide +kernel
theorem dX2_mean_31 : decode cX2_mean 31 = .ok (.aaload, 1) := by decide +kernel
theorem dX2_mean_32 : decode cX2_mean 32 = .ok (.astore 5, 2) := by decide +kernel
theorem dX2_mean_34 : decode cX2_mean 34 = .ok (.aload 5, 2) := by decide +kernel
theorem dX2_mean_36 : decode cX2_mean 36 = .ok (.ifnull 11, 3) := by decide +kernel
theorem dX2_mean_39 : decode cX2_mean 39 = .ok (.iload_n 1, 1) := by decide +kernel
theorem dX2_mean_40 : decode cX2_mean 40 = .ok (.aload 5, 2) := by decide +kernel
theorem dX2_mean_42 : decode cX2_mean 42 = .ok (.invokevirtual 165, 3) := by decide +kernel
theorem dX2_mean_45 : decode cX2_mean 45 = .ok (.iadd, 1) := by decide +kernel
theorem dX2_mean_46 : decode cX2_mean 46 = .ok (.istore_n 1, 1) := by decide +kernel
theorem dX2_mean_47 : decode cX2_mean 47 = .ok (.iinc 4 1, 3) := by decide +kernel
theorem dX2_mean_50 : decode cX2_mean 50 = .ok (.goto (-28), 3) := by decide +kernel
theorem dX2_mean_53 : decode cX2_mean 53 = .ok (.iload_n 1, 1) := by decide +kernel
theorem dX2_mean_54 : decode cX2_mean 54 = .ok (.i2d, 1) := by decide +kernel
theorem dX2_mean_55 : decode cX2_mean 55 = .ok (.aload_n 0, 1) := by decide +kernel
theorem dX2_mean_56 : decode cX2_mean 56 = .ok (.getfield 35, 3) := by decide +kernel
theorem dX2_mean_59 : decode cX2_mean 59 = .ok (.bipush 6, 2) := by decide +kernel
theorem dX2_mean_61 : decode cX2_mean 61 = .ok (.imul, 1) := by decide +kernel
theorem dX2_mean_62 : decode cX2_mean 62 = .ok (.i2d, 1) := by decide +kernel
theorem dX2_mean_63 : decode cX2_mean 63 = .ok (.ddiv, 1) := by decide +kernel
theorem dX2_mean_64 : decode cX2_mean 64 = .ok (.dreturn, 1) := by decide +kernel
set_option maxRecDepth 20000 in
theorem ggX2_digest_X2_count : GoodIn wsX2_digest wsX2_count := goodIn_ca (goodIn_r _ [9, 10, 11, 12, 13, 4, 14, 15, 16, 17, 18, 8, 19, 20, 21, 22, 23, 24, 25, 26, 27, 28, 29, 30, 31, 32, 33, 34, 35, 36, 37, 38, 39, 40, 41, 74, 75, 76, 77, 78, 79, 80, 81, 82, 83, 84, 85, 86, 87, 88, 89, 90, 91] (by decide +kernel) (by decide +kernel)) (goodIn_sub (fun _ h => List.mem_cons_of_mem _ (List.mem_append_right _ h)) (by decide +kernel))
set_option maxRecDepth 20000 in
theorem gX2_digest_X2_count : GoodIn wsX2_digest (wsV RX2 192 RX2 yX2_count wsX2_count) := goodIn_app (goodIn_of _ (by decide +kernel)) ggX2_digest_X2_count
set_option maxRecDepth 20000 in
theorem ggX2_digest_X1_digestInto : GoodIn wsX2_digest wsX1_digestInto := goodIn_r _ [46, 47, 48, 92] (by decide +kernel) (by decide +kernel)
set_option maxRecDepth 20000 in
theorem gX2_digest_X1_digestInto : GoodIn wsX2_digest (wsV RX2 195 RX1 yX1_digestInto wsX1_digestInto) := goodIn_app (goodIn_of _ (by decide +kernel)) ggX2_digest_X1_digestInto
set_option maxRecDepth 20000 in
theorem ggX2_digest_X2_doll : GoodIn wsX2_digest wsX2_doll := goodIn_ca (goodIn_r _ [52, 10, 11, 53, 54, 55, 56, 57, 58, 59, 60, 61, 8, 62, 20, 83, 84, 85, 86, 87, 88, 89, 90, 91, 74, 75, 76, 77, 78, 79, 80, 81, 82] (by decide +kernel) (by decide +kernel)) (goodIn_sub (fun _ h => List.mem_cons_of_mem _ (List.mem_append_right _ h)) (by decide +kernel))
set_option maxRecDepth 20000 in
theorem gX2_digest_X2_doll : GoodIn wsX2_digest (wsV RX2 199 RX2 yX2_doll wsX2_doll) := goodIn_app (goodIn_of _ (by decide +kernel)) ggX2_digest_X2_doll
set_option maxRecDepth 20000 in
theorem ggX2_digest_X2_digestJointsInto : GoodIn wsX2_digest wsX2_digestJointsInto := goodIn_ca (goodIn_r _ [66, 2, 67, 68, 69, 8, 70, 10, 11, 71, 72, 73, 59, 60, 61, 62, 20, 83, 84, 85, 86, 87, 88, 89, 90, 91, 74, 75, 76, 77, 78, 79, 80, 81, 82] (by decide +kernel) (by decide +kernel)) (goodIn_sub (fun _ h => List.mem_cons_of_mem _ (List.mem_append_right _ h)) (by decide +kernel))
set_option maxRecDepth 20000 in
theorem gX2_digest_X2_digestJointsInto : GoodIn wsX2_digest (wsV RX2 202 RX2 yX2_digestJointsInto wsX2_digestJointsInto) := goodIn_app (goodIn_of _ (by decide +kernel)) ggX2_digest_X2_digestJointsInto
theorem dX2_digest_0 : decode cX2_digest 0 = .ok (.ldc2_w 188, 3) := by decide +kernel
theorem dX2_digest_3 : decode cX2_digest 3 = .ok (.lstore_n 1, 1) := by decide +kernel
theorem dX2_digest_4 : decode cX2_digest 4 = .ok (.iconst 0, 1) := by decide +kernel
theorem dX2_digest_5 : decode cX2_digest 5 = .ok (.istore_n 3, 1) := by decide +kernel
theorem dX2_digest_6 : decode cX2_digest 6 = .ok (.iload_n 3, 1) := by decide +kernel
theorem dX2_digest_7 : decode cX2_digest 7 = .ok (.bipush 13, 2) := by decide +kernel
theorem dX2_digest_9 : decode cX2_digest 9 = .ok (.if_icmp .ge 22, 3) := by decide +kernel
theorem dX2_digest_12 : decode cX2_digest 12 = .ok (.lload_n 1, 1) := by decide +kernel
theorem dX2_digest_13 : decode cX2_digest 13 = .ok (.ldc2_w 190, 3) := by decide +kernel
theorem dX2_digest_16 : decode cX2_digest 16 = .ok (.lmul, 1) := by decide +kernel
theorem dX2_digest_17 : decode cX2_digest 17 = .ok (.aload_n 0, 1) := by decide +kernel
theorem dX2_digest_18 : decode cX2_digest 18 = .ok (.iload_n 3, 1) := by decide +kernel
theorem dX2_digest_19 : decode cX2_digest 19 = .ok (.invokevirtual 192, 3) := by decide +kernel
theorem dX2_digest_22 : decode cX2_digest 22 = .ok (.i2l, 1) := by decide +kernel
theorem dX2_digest_23 : decode cX2_digest 23 = .ok (.ladd, 1) := by decide +kernel
theorem dX2_digest_24 : decode cX2_digest 24 = .ok (.lstore_n 1, 1) := by decide +kernel
theorem dX2_digest_25 : decode cX2_digest 25 = .ok (.iinc 3 1, 3) := by decide +kernel
theorem dX2_digest_28 : decode cX2_digest 28 = .ok (.goto (-22), 3) := by decide +kernel
theorem dX2_digest_31 : decode cX2_digest 31 = .ok (.aload_n 0, 1) := by decide +kernel
theorem dX2_digest_32 : decode cX2_digest 32 = .ok (.getfield 17, 3) := by decide +kernel
theorem dX2_digest_35 : decode cX2_digest 35 = .ok (.astore_n 3, 1) := by decide +kernel
theorem dX2_digest_36 : decode cX2_digest 36 = .ok (.aload_n 3, 1) := by decide +kernel
theorem dX2_digest_37 : decode cX2_digest 37 = .ok (.arraylength, 1) := by decide +kernel
theorem dX2_digest_38 : decode cX2_digest 38 = .ok (.istore 4, 2) := by decide +kernel
theorem dX2_digest_40 : decode cX2_digest 40 = .ok (.iconst 0, 1) := by decide +kernel
theorem dX2_digest_41 : decode cX2_digest 41 = .ok (.istore 5, 2) := by decide +kernel
theorem dX2_digest_43 : decode cX2_digest 43 = .ok (.iload 5, 2) := by decide +kernel
theorem dX2_digest_45 : decode cX2_digest 45 = .ok (.iload 4, 2) := by decide +kernel
theorem dX2_digest_47 : decode cX2_digest 47 = .ok (.if_icmp .ge 27, 3) := by decide +kernel
theorem dX2_digest_50 : decode cX2_digest 50 = .ok (.aload_n 3, 1) := by decide +kernel
theorem dX2_digest_51 : decode cX2_digest 51 = .ok (.iload 5, 2) := by decide +kernel
theorem dX2_digest_53 : decode cX2_digest 53 = .ok (.aaload, 1) := by decide +kernel
theorem dX2_digest_54 : decode cX2_digest 54 = .ok (.astore 6, 2) := by decide +kernel
theorem dX2_digest_56 : decode cX2_digest 56 = .ok (.aload 6, 2) := by decide +kernel
theorem dX2_digest_58 : decode cX2_digest 58 = .ok (.ifnull 10, 3) := by decide +kernel
theorem dX2_digest_61 : decode cX2_digest 61 = .ok (.aload 6, 2) := by decide +kernel
theorem dX2_digest_63 : decode cX2_digest 63 = .ok (.lload_n 1, 1) := by decide +kernel
theorem dX2_digest_64 : decode cX2_digest 64 = .ok (.invokevirtual 195, 3) := by decide +kernel
theorem dX2_digest_67 : decode cX2_digest 67 = .ok (.lstore_n 1, 1) := by decide +kernel
theorem dX2_digest_68 : decode cX2_digest 68 = .ok (.iinc 5 1, 3) := by decide +kernel
theorem dX2_digest_71 : decode cX2_digest 71 = .ok (.goto (-28), 3) := by decide +kernel
theorem dX2_digest_74 : decode cX2_digest 74 = .ok (.iconst 0, 1) := by decide +kernel
theorem dX2_digest_75 : decode cX2_digest 75 = .ok (.istore_n 3, 1) := by decide +kernel
theorem dX2_digest_76 : decode cX2_digest 76 = .ok (.iload_n 3, 1) := by decide +kernel
theorem dX2_digest_77 : decode cX2_digest 77 = .ok (.aload_n 0, 1) := by decide +kernel
theorem dX2_digest_78 : decode cX2_digest 78 = .ok (.getfield 35, 3) := by decide +kernel
theorem dX2_digest_81 : decode cX2_digest 81 = .ok (.if_icmp .ge 47, 3) := by decide +kernel
theorem dX2_digest_84 : decode cX2_digest 84 = .ok (.iconst 0, 1) := by decide +kernel
theorem dX2_digest_85 : decode cX2_digest 85 = .ok (.istore 4, 2) := by decide +kernel
theorem dX2_digest_87 : decode cX2_digest 87 = .ok (.iload 4, 2) := by decide +kernel
theorem dX2_digest_89 : decode cX2_digest 89 = .ok (.bipush 8, 2) := by decide +kernel
theorem dX2_digest_91 : decode cX2_digest 91 = .ok (.if_icmp .ge 24, 3) := by decide +kernel
theorem dX2_digest_94 : decode cX2_digest 94 = .ok (.lload_n 1, 1) := by decide +kernel
theorem dX2_digest_95 : decode cX2_digest 95 = .ok (.ldc2_w 190, 3) := by decide +kernel
theorem dX2_digest_98 : decode cX2_digest 98 = .ok (.lmul, 1) := by decide +kernel
theorem dX2_digest_99 : decode cX2_digest 99 = .ok (.aload_n 0, 1) := by decide +kernel
theorem dX2_digest_100 : decode cX2_digest 100 = .ok (.iload_n 3, 1) := by decide +kernel
theorem dX2_digest_101 : decode cX2_digest 101 = .ok (.iload 4, 2) := by decide +kernel
theorem dX2_digest_103 : decode cX2_digest 103 = .ok (.invokevirtual 199, 3) := by decide +kernel
theorem dX2_digest_106 : decode cX2_digest 106 = .ok (.i2l, 1) := by decide +kernel
theorem dX2_digest_107 : decode cX2_digest 107 = .ok (.ladd, 1) := by decide +kernel
theorem dX2_digest_108 : decode cX2_digest 108 = .ok (.lstore_n 1, 1) := by decide +kernel
theorem dX2_digest_109 : decode cX2_digest 109 = .ok (.iinc 4 1, 3) := by decide +kernel
theorem dX2_digest_112 : decode cX2_digest 112 = .ok (.goto (-25), 3) := by decide +kernel
theorem dX2_digest_115 : decode cX2_digest 115 = .ok (.aload_n 0, 1) := by decide +kernel
theorem dX2_digest_116 : decode cX2_digest 116 = .ok (.lload_n 1, 1) := by decide +kernel
theorem dX2_digest_117 : decode cX2_digest 117 = .ok (.iload_n 3, 1) := by decide +kernel
theorem dX2_digest_118 : decode cX2_digest 118 = .ok (.invokevirtual 202, 3) := by decide +kernel
theorem dX2_digest_121 : decode cX2_digest 121 = .ok (.lstore_n 1, 1) := by decide +kernel
theorem dX2_digest_122 : decode cX2_digest 122 = .ok (.iinc 3 1, 3) := by decide +kernel
theorem dX2_digest_125 : decode cX2_digest 125 = .ok (.goto (-49), 3) := by decide +kernel
theorem dX2_digest_128 : decode cX2_digest 128 = .ok (.lload_n 1, 1) := by decide +kernel
theorem dX2_digest_129 : decode cX2_digest 129 = .ok (.lreturn, 1) := by decide +kernel
set_option maxRecDepth 20000 in
theorem ggX2_digestJointsInto_X2_joint : GoodIn wsX2_digestJointsInto wsX2_joint := goodIn_ca (goodIn_r _ [6, 7, 8, 9, 10, 11, 12, 13, 14, 5, 15, 16, 17, 18, 19, 20, 21, 22, 23, 24, 25, 26, 27, 28, 29, 30, 31, 32, 33, 34] (by decide +kernel) (by decide +kernel)) (goodIn_sub (fun _ h => List.mem_cons_of_mem _ (List.mem_append_right _ h)) (by decide +kernel))
set_option maxRecDepth 20000 in
theorem gX2_digestJointsInto_X2_joint : GoodIn wsX2_digestJointsInto (wsV RX2 206 RX2 yX2_joint wsX2_joint) := goodIn_app (goodIn_of _ (by decide +kernel)) ggX2_digestJointsInto_X2_joint
theorem dX2_digestJointsInto_0 : decode cX2_digestJointsInto 0 = .ok (.lload_n 1, 1) := by decide +kernel
theorem dX2_digestJointsInto_1 : decode cX2_digestJointsInto 1 = .ok (.lstore 4, 2) := by decide +kernel
theorem dX2_digestJointsInto_3 : decode cX2_digestJointsInto 3 = .ok (.iconst 0, 1) := by decide +kernel
theorem dX2_digestJointsInto_4 : decode cX2_digestJointsInto 4 = .ok (.istore 6, 2) := by decide +kernel
theorem dX2_digestJointsInto_6 : decode cX2_digestJointsInto 6 = .ok (.iload 6, 2) := by decide +kernel
theorem dX2_digestJointsInto_8 : decode cX2_digestJointsInto 8 = .ok (.bipush 6, 2) := by decide +kernel
theorem dX2_digestJointsInto_10 : decode cX2_digestJointsInto 10 = .ok (.if_icmp .ge 43, 3) := by decide +kernel
theorem dX2_digestJointsInto_13 : decode cX2_digestJointsInto 13 = .ok (.iconst 0, 1) := by decide +kernel
theorem dX2_digestJointsInto_14 : decode cX2_digestJointsInto 14 = .ok (.istore 7, 2) := by decide +kernel
theorem dX2_digestJointsInto_16 : decode cX2_digestJointsInto 16 = .ok (.iload 7, 2) := by decide +kernel
theorem dX2_digestJointsInto_18 : decode cX2_digestJointsInto 18 = .ok (.iconst 4, 1) := by decide +kernel
theorem dX2_digestJointsInto_19 : decode cX2_digestJointsInto 19 = .ok (.if_icmp .ge 28, 3) := by decide +kernel
theorem dX2_digestJointsInto_22 : decode cX2_digestJointsInto 22 = .ok (.lload 4, 2) := by decide +kernel
theorem dX2_digestJointsInto_24 : decode cX2_digestJointsInto 24 = .ok (.ldc2_w 190, 3) := by decide +kernel
theorem dX2_digestJointsInto_27 : decode cX2_digestJointsInto 27 = .ok (.lmul, 1) := by decide +kernel
theorem dX2_digestJointsInto_28 : decode cX2_digestJointsInto 28 = .ok (.aload_n 0, 1) := by decide +kernel
theorem dX2_digestJointsInto_29 : decode cX2_digestJointsInto 29 = .ok (.iload_n 3, 1) := by decide +kernel
theorem dX2_digestJointsInto_30 : decode cX2_digestJointsInto 30 = .ok (.iload 6, 2) := by decide +kernel
theorem dX2_digestJointsInto_32 : decode cX2_digestJointsInto 32 = .ok (.iload 7, 2) := by decide +kernel
theorem dX2_digestJointsInto_34 : decode cX2_digestJointsInto 34 = .ok (.invokevirtual 206, 3) := by decide +kernel
theorem dX2_digestJointsInto_37 : decode cX2_digestJointsInto 37 = .ok (.i2l, 1) := by decide +kernel
theorem dX2_digestJointsInto_38 : decode cX2_digestJointsInto 38 = .ok (.ladd, 1) := by decide +kernel
theorem dX2_digestJointsInto_39 : decode cX2_digestJointsInto 39 = .ok (.lstore 4, 2) := by decide +kernel
theorem dX2_digestJointsInto_41 : decode cX2_digestJointsInto 41 = .ok (.iinc 7 1, 3) := by decide +kernel
theorem dX2_digestJointsInto_44 : decode cX2_digestJointsInto 44 = .ok (.goto (-28), 3) := by decide +kernel
theorem dX2_digestJointsInto_47 : decode cX2_digestJointsInto 47 = .ok (.iinc 6 1, 3) := by decide +kernel
theorem dX2_digestJointsInto_50 : decode cX2_digestJointsInto 50 = .ok (.goto (-44), 3) := by decide +kernel
theorem dX2_digestJointsInto_53 : decode cX2_digestJointsInto 53 = .ok (.lload 4, 2) := by decide +kernel
theorem dX2_digestJointsInto_55 : decode cX2_digestJointsInto 55 = .ok (.lreturn, 1) := by decide +kernel
theorem dX2_isAngle_0 : decode cX2_isAngle 0 = .ok (.iload_n 0, 1) := by decide +kernel
theorem dX2_isAngle_1 : decode cX2_isAngle 1 = .ok (.ifCond .lt 13, 3) := by decide +kernel
theorem dX2_isAngle_4 : decode cX2_isAngle 4 = .ok (.iload_n 0, 1) := by decide +kernel
theorem dX2_isAngle_5 : decode cX2_isAngle 5 = .ok (.bipush 90, 2) := by decide +kernel
theorem dX2_isAngle_7 : decode cX2_isAngle 7 = .ok (.if_icmp .gt 7, 3) := by decide +kernel
theorem dX2_isAngle_10 : decode cX2_isAngle 10 = .ok (.iconst 1, 1) := by decide +kernel
theorem dX2_isAngle_11 : decode cX2_isAngle 11 = .ok (.goto 4, 3) := by decide +kernel
theorem dX2_isAngle_14 : decode cX2_isAngle 14 = .ok (.iconst 0, 1) := by decide +kernel
theorem dX2_isAngle_15 : decode cX2_isAngle 15 = .ok (.ireturn, 1) := by decide +kernel
theorem dX2_knownDoll_0 : decode cX2_knownDoll 0 = .ok (.iload_n 1, 1) := by decide +kernel
theorem dX2_knownDoll_1 : decode cX2_knownDoll 1 = .ok (.ifCond .lt 21, 3) := by decide +kernel
theorem dX2_knownDoll_4 : decode cX2_knownDoll 4 = .ok (.iload_n 1, 1) := by decide +kernel
theorem dX2_knownDoll_5 : decode cX2_knownDoll 5 = .ok (.aload_n 0, 1) := by decide +kernel
theorem dX2_knownDoll_6 : decode cX2_knownDoll 6 = .ok (.getfield 11, 3) := by decide +kernel
theorem dX2_knownDoll_9 : decode cX2_knownDoll 9 = .ok (.arraylength, 1) := by decide +kernel
theorem dX2_knownDoll_10 : decode cX2_knownDoll 10 = .ok (.if_icmp .ge 12, 3) := by decide +kernel
theorem dX2_knownDoll_13 : decode cX2_knownDoll 13 = .ok (.aload_n 0, 1) := by decide +kernel
theorem dX2_knownDoll_14 : decode cX2_knownDoll 14 = .ok (.getfield 11, 3) := by decide +kernel
theorem dX2_knownDoll_17 : decode cX2_knownDoll 17 = .ok (.iload_n 1, 1) := by decide +kernel
theorem dX2_knownDoll_18 : decode cX2_knownDoll 18 = .ok (.aaload, 1) := by decide +kernel
theorem dX2_knownDoll_19 : decode cX2_knownDoll 19 = .ok (.goto 4, 3) := by decide +kernel
theorem dX2_knownDoll_22 : decode cX2_knownDoll 22 = .ok (.aconst_null, 1) := by decide +kernel
theorem dX2_knownDoll_23 : decode cX2_knownDoll 23 = .ok (.astore_n 2, 1) := by decide +kernel
theorem dX2_knownDoll_24 : decode cX2_knownDoll 24 = .ok (.aload_n 2, 1) := by decide +kernel
theorem dX2_knownDoll_25 : decode cX2_knownDoll 25 = .ok (.ifnonnull 13, 3) := by decide +kernel
theorem dX2_knownDoll_28 : decode cX2_knownDoll 28 = .ok (.new 94, 3) := by decide +kernel
theorem dX2_knownDoll_31 : decode cX2_knownDoll 31 = .ok (.dup, 1) := by decide +kernel
theorem dX2_knownDoll_32 : decode cX2_knownDoll 32 = .ok (.ldc 210, 2) := by decide +kernel
theorem dX2_knownDoll_34 : decode cX2_knownDoll 34 = .ok (.invokespecial 98, 3) := by decide +kernel
theorem dX2_knownDoll_37 : decode cX2_knownDoll 37 = .ok (.athrow, 1) := by decide +kernel
theorem dX2_knownDoll_38 : decode cX2_knownDoll 38 = .ok (.aload_n 2, 1) := by decide +kernel
theorem dX2_knownDoll_39 : decode cX2_knownDoll 39 = .ok (.areturn, 1) := by decide +kernel
theorem dX2_knownPose_0 : decode cX2_knownPose 0 = .ok (.iload_n 1, 1) := by decide +kernel
theorem dX2_knownPose_1 : decode cX2_knownPose 1 = .ok (.ifCond .lt 21, 3) := by decide +kernel
theorem dX2_knownPose_4 : decode cX2_knownPose 4 = .ok (.iload_n 1, 1) := by decide +kernel
theorem dX2_knownPose_5 : decode cX2_knownPose 5 = .ok (.aload_n 0, 1) := by decide +kernel
theorem dX2_knownPose_6 : decode cX2_knownPose 6 = .ok (.getfield 17, 3) := by decide +kernel
theorem dX2_knownPose_9 : decode cX2_knownPose 9 = .ok (.arraylength, 1) := by decide +kernel
theorem dX2_knownPose_10 : decode cX2_knownPose 10 = .ok (.if_icmp .ge 12, 3) := by decide +kernel
theorem dX2_knownPose_13 : decode cX2_knownPose 13 = .ok (.aload_n 0, 1) := by decide +kernel
theorem dX2_knownPose_14 : decode cX2_knownPose 14 = .ok (.getfield 17, 3) := by decide +kernel
theorem dX2_knownPose_17 : decode cX2_knownPose 17 = .ok (.iload_n 1, 1) := by decide +kernel
theorem dX2_knownPose_18 : decode cX2_knownPose 18 = .ok (.aaload, 1) := by decide +kernel
theorem dX2_knownPose_19 : decode cX2_knownPose 19 = .ok (.goto 4, 3) := by decide +kernel
theorem dX2_knownPose_22 : decode cX2_knownPose 22 = .ok (.aconst_null, 1) := by decide +kernel
theorem dX2_knownPose_23 : decode cX2_knownPose 23 = .ok (.astore_n 2, 1) := by decide +kernel
theorem dX2_knownPose_24 : decode cX2_knownPose 24 = .ok (.aload_n 2, 1) := by decide +kernel
theorem dX2_knownPose_25 : decode cX2_knownPose 25 = .ok (.ifnonnull 13, 3) := by decide +kernel
theorem dX2_knownPose_28 : decode cX2_knownPose 28 = .ok (.new 94, 3) := by decide +kernel
theorem dX2_knownPose_31 : decode cX2_knownPose 31 = .ok (.dup, 1) := by decide +kernel
theorem dX2_knownPose_32 : decode cX2_knownPose 32 = .ok (.ldc 212, 2) := by decide +kernel
theorem dX2_knownPose_34 : decode cX2_knownPose 34 = .ok (.invokespecial 98, 3) := by decide +kernel
theorem dX2_knownPose_37 : decode cX2_knownPose 37 = .ok (.athrow, 1) := by decide +kernel
theorem dX2_knownPose_38 : decode cX2_knownPose 38 = .ok (.aload_n 2, 1) := by decide +kernel
theorem dX2_knownPose_39 : decode cX2_knownPose 39 = .ok (.areturn, 1) := by decide +kernel
set_option maxRecDepth 20000 in
theorem ggX2_tallyOfAll_X0_tally : GoodIn wsX2_tallyOfAll wsX0_tally := goodIn_r _ [6, 7, 8, 9, 10, 11, 5, 12, 13, 14, 15, 16, 17, 18, 19, 20, 21, 22, 32, 33, 34, 35, 36, 37, 38, 39, 40] (by decide +kernel) (by decide +kernel)
set_option maxRecDepth 20000 in
theorem gX2_tallyOfAll_X0_tally : GoodIn wsX2_tallyOfAll (wsV RX2 185 RX0 yX0_tally wsX0_tally) := goodIn_app (goodIn_of _ (by decide +kernel)) ggX2_tallyOfAll_X0_tally
theorem dX2_tallyOfAll_0 : decode cX2_tallyOfAll 0 = .ok (.iconst 0, 1) := by decide +kernel
theorem dX2_tallyOfAll_1 : decode cX2_tallyOfAll 1 = .ok (.istore_n 2, 1) := by decide +kernel
theorem dX2_tallyOfAll_2 : decode cX2_tallyOfAll 2 = .ok (.aload_n 0, 1) := by decide +kernel
theorem dX2_tallyOfAll_3 : decode cX2_tallyOfAll 3 = .ok (.getfield 11, 3) := by decide +kernel
theorem dX2_tallyOfAll_6 : decode cX2_tallyOfAll 6 = .ok (.astore_n 3, 1) := by decide +kernel
theorem dX2_tallyOfAll_7 : decode cX2_tallyOfAll 7 = .ok (.aload_n 3, 1) := by decide +kernel
theorem dX2_tallyOfAll_8 : decode cX2_tallyOfAll 8 = .ok (.arraylength, 1) := by decide +kernel
theorem dX2_tallyOfAll_9 : decode cX2_tallyOfAll 9 = .ok (.istore 4, 2) := by decide +kernel
theorem dX2_tallyOfAll_11 : decode cX2_tallyOfAll 11 = .ok (.iconst 0, 1) := by decide +kernel
theorem dX2_tallyOfAll_12 : decode cX2_tallyOfAll 12 = .ok (.istore 5, 2) := by decide +kernel
theorem dX2_tallyOfAll_14 : decode cX2_tallyOfAll 14 = .ok (.iload 5, 2) := by decide +kernel
theorem dX2_tallyOfAll_16 : decode cX2_tallyOfAll 16 = .ok (.iload 4, 2) := by decide +kernel
theorem dX2_tallyOfAll_18 : decode cX2_tallyOfAll 18 = .ok (.if_icmp .ge 29, 3) := by decide +kernel
theorem dX2_tallyOfAll_21 : decode cX2_tallyOfAll 21 = .ok (.aload_n 3, 1) := by decide +kernel
theorem dX2_tallyOfAll_22 : decode cX2_tallyOfAll 22 = .ok (.iload 5, 2) := by decide +kernel
theorem dX2_tallyOfAll_24 : decode cX2_tallyOfAll 24 = .ok (.aaload, 1) := by decide +kernel
theorem dX2_tallyOfAll_25 : decode cX2_tallyOfAll 25 = .ok (.astore 6, 2) := by decide +kernel
theorem dX2_tallyOfAll_27 : decode cX2_tallyOfAll 27 = .ok (.aload 6, 2) := by decide +kernel
theorem dX2_tallyOfAll_29 : decode cX2_tallyOfAll 29 = .ok (.ifnull 12, 3) := by decide +kernel
theorem dX2_tallyOfAll_32 : decode cX2_tallyOfAll 32 = .ok (.iload_n 2, 1) := by decide +kernel
theorem dX2_tallyOfAll_33 : decode cX2_tallyOfAll 33 = .ok (.aload 6, 2) := by decide +kernel
theorem dX2_tallyOfAll_35 : decode cX2_tallyOfAll 35 = .ok (.iload_n 1, 1) := by decide +kernel
theorem dX2_tallyOfAll_36 : decode cX2_tallyOfAll 36 = .ok (.invokevirtual 185, 3) := by decide +kernel
theorem dX2_tallyOfAll_39 : decode cX2_tallyOfAll 39 = .ok (.iadd, 1) := by decide +kernel
theorem dX2_tallyOfAll_40 : decode cX2_tallyOfAll 40 = .ok (.istore_n 2, 1) := by decide +kernel
theorem dX2_tallyOfAll_41 : decode cX2_tallyOfAll 41 = .ok (.iinc 5 1, 3) := by decide +kernel
theorem dX2_tallyOfAll_44 : decode cX2_tallyOfAll 44 = .ok (.goto (-30), 3) := by decide +kernel
theorem dX2_tallyOfAll_47 : decode cX2_tallyOfAll 47 = .ok (.iload_n 2, 1) := by decide +kernel
theorem dX2_tallyOfAll_48 : decode cX2_tallyOfAll 48 = .ok (.ireturn, 1) := by decide +kernel
set_option maxRecDepth 20000 in
theorem ggX2_liveThrough_X0_liveOneDay : GoodIn wsX2_liveThrough wsX0_liveOneDay := goodIn_r _ [7, 8, 9, 10, 6, 11, 12, 13, 14, 15, 16, 17, 18, 19, 20, 21, 22, 23, 24, 25, 26, 27, 28, 29, 30, 31, 32, 33, 34, 35, 36, 37, 38, 39, 40, 41, 42, 43, 44, 45, 46, 47, 48, 49, 50, 51, 52, 53, 63, 64, 65, 66, 67, 68, 69, 70, 71] (by decide +kernel) (by decide +kernel)
set_option maxRecDepth 20000 in
theorem gX2_liveThrough_X0_liveOneDay : GoodIn wsX2_liveThrough (wsV RX2 214 RX0 yX0_liveOneDay wsX0_liveOneDay) := goodIn_app (goodIn_of _ (by decide +kernel)) ggX2_liveThrough_X0_liveOneDay
theorem dX2_liveThrough_0 : decode cX2_liveThrough 0 = .ok (.iconst 0, 1) := by decide +kernel
theorem dX2_liveThrough_1 : decode cX2_liveThrough 1 = .ok (.istore_n 3, 1) := by decide +kernel
theorem dX2_liveThrough_2 : decode cX2_liveThrough 2 = .ok (.iconst 0, 1) := by decide +kernel
theorem dX2_liveThrough_3 : decode cX2_liveThrough 3 = .ok (.istore 4, 2) := by decide +kernel
theorem dX2_liveThrough_5 : decode cX2_liveThrough 5 = .ok (.iload 4, 2) := by decide +kernel
theorem dX2_liveThrough_7 : decode cX2_liveThrough 7 = .ok (.iload_n 2, 1) := by decide +kernel
theorem dX2_liveThrough_8 : decode cX2_liveThrough 8 = .ok (.if_icmp .ge 27, 3) := by decide +kernel
theorem dX2_liveThrough_11 : decode cX2_liveThrough 11 = .ok (.iload_n 3, 1) := by decide +kernel
theorem dX2_liveThrough_12 : decode cX2_liveThrough 12 = .ok (.aload_n 1, 1) := by decide +kernel
theorem dX2_liveThrough_13 : decode cX2_liveThrough 13 = .ok (.aload_n 0, 1) := by decide +kernel
theorem dX2_liveThrough_14 : decode cX2_liveThrough 14 = .ok (.getfield 42, 3) := by decide +kernel
theorem dX2_liveThrough_17 : decode cX2_liveThrough 17 = .ok (.iload 4, 2) := by decide +kernel
theorem dX2_liveThrough_19 : decode cX2_liveThrough 19 = .ok (.iadd, 1) := by decide +kernel
theorem dX2_liveThrough_20 : decode cX2_liveThrough 20 = .ok (.aload_n 0, 1) := by decide +kernel
theorem dX2_liveThrough_21 : decode cX2_liveThrough 21 = .ok (.getfield 45, 3) := by decide +kernel
theorem dX2_liveThrough_24 : decode cX2_liveThrough 24 = .ok (.invokevirtual 214, 3) := by decide +kernel
theorem dX2_liveThrough_27 : decode cX2_liveThrough 27 = .ok (.iadd, 1) := by decide +kernel
theorem dX2_liveThrough_28 : decode cX2_liveThrough 28 = .ok (.istore_n 3, 1) := by decide +kernel
theorem dX2_liveThrough_29 : decode cX2_liveThrough 29 = .ok (.iinc 4 1, 3) := by decide +kernel
theorem dX2_liveThrough_32 : decode cX2_liveThrough 32 = .ok (.goto (-27), 3) := by decide +kernel
theorem dX2_liveThrough_35 : decode cX2_liveThrough 35 = .ok (.iload_n 3, 1) := by decide +kernel
theorem dX2_liveThrough_36 : decode cX2_liveThrough 36 = .ok (.ireturn, 1) := by decide +kernel
end
section
theorem dX3_init_0 : decode cX3_init 0 = .ok (.aload_n 0, 1) := by decide +kernel
theorem dX3_init_1 : decode cX3_init 1 = .ok (.invokespecial 1, 3) := by decide +kernel
theorem dX3_init_4 : decode cX3_init 4 = .ok (.aload_n 0, 1) := by decide +kernel
theorem dX3_init_5 : decode cX3_init 5 = .ok (.iconst 1, 1) := by decide +kernel
theorem dX3_init_6 : decode cX3_init 6 = .ok (.putfield 7, 3) := by decide +kernel
theorem dX3_init_9 : decode cX3_init 9 = .ok (.aload_n 0, 1) := by decide +kernel
theorem dX3_init_10 : decode cX3_init 10 = .ok (.sipush 144, 3) := by decide +kernel
theorem dX3_init_13 : decode cX3_init 13 = .ok (.newarray .int, 2) := by decide +kernel
theorem dX3_init_15 : decode cX3_init 15 = .ok (.putfield 13, 3) := by decide +kernel
theorem dX3_init_18 : decode cX3_init 18 = .ok (.aload_n 0, 1) := by decide +kernel
theorem dX3_init_19 : decode cX3_init 19 = .ok (.bipush 64, 2) := by decide +kernel
theorem dX3_init_21 : decode cX3_init 21 = .ok (.newarray .int, 2) := by decide +kernel
theorem dX3_init_23 : decode cX3_init 23 = .ok (.putfield 17, 3) := by decide +kernel
theorem dX3_init_26 : decode cX3_init 26 = .ok (.aload_n 0, 1) := by decide +kernel
theorem dX3_init_27 : decode cX3_init 27 = .ok (.bipush 48, 2) := by decide +kernel
theorem dX3_init_29 : decode cX3_init 29 = .ok (.newarray .int, 2) := by decide +kernel
theorem dX3_init_31 : decode cX3_init 31 = .ok (.putfield 20, 3) := by decide +kernel
theorem dX3_init_34 : decode cX3_init 34 = .ok (.aload_n 0, 1) := by decide +kernel
theorem dX3_init_35 : decode cX3_init 35 = .ok (.iconst 5, 1) := by decide +kernel
theorem dX3_init_36 : decode cX3_init 36 = .ok (.newarray .int, 2) := by decide +kernel
theorem dX3_init_38 : decode cX3_init 38 = .ok (.putfield 23, 3) := by decide +kernel
theorem dX3_init_41 : decode cX3_init 41 = .ok (.aload_n 0, 1) := by decide +kernel
theorem dX3_init_42 : decode cX3_init 42 = .ok (.iconst 1, 1) := by decide +kernel
theorem dX3_init_43 : decode cX3_init 43 = .ok (.newarray .int, 2) := by decide +kernel
theorem dX3_init_45 : decode cX3_init 45 = .ok (.dup, 1) := by decide +kernel
theorem dX3_init_46 : decode cX3_init 46 = .ok (.iconst 0, 1) := by decide +kernel
theorem dX3_init_47 : decode cX3_init 47 = .ok (.iconst 0, 1) := by decide +kernel
theorem dX3_init_48 : decode cX3_init 48 = .ok (.iastore, 1) := by decide +kernel
theorem dX3_init_49 : decode cX3_init 49 = .ok (.putfield 26, 3) := by decide +kernel
theorem dX3_init_52 : decode cX3_init 52 = .ok (.return_, 1) := by decide +kernel
theorem dX3_thrown_0 : decode cX3_thrown 0 = .ok (.aload_n 0, 1) := by decide +kernel
theorem dX3_thrown_1 : decode cX3_thrown 1 = .ok (.getfield 29, 3) := by decide +kernel
theorem dX3_thrown_4 : decode cX3_thrown 4 = .ok (.ireturn, 1) := by decide +kernel
theorem dX3_fail_0 : decode cX3_fail 0 = .ok (.aload_n 0, 1) := by decide +kernel
theorem dX3_fail_1 : decode cX3_fail 1 = .ok (.iload_n 1, 1) := by decide +kernel
theorem dX3_fail_2 : decode cX3_fail 2 = .ok (.putfield 29, 3) := by decide +kernel
theorem dX3_fail_5 : decode cX3_fail 5 = .ok (.iconst 0, 1) := by decide +kernel
theorem dX3_fail_6 : decode cX3_fail 6 = .ok (.ireturn, 1) := by decide +kernel
theorem dX3_isIn_0 : decode cX3_isIn 0 = .ok (.iload_n 0, 1) := by decide +kernel
theorem dX3_isIn_1 : decode cX3_isIn 1 = .ok (.iload_n 1, 1) := by decide +kernel
theorem dX3_isIn_2 : decode cX3_isIn 2 = .ok (.if_icmp .lt 12, 3) := by decide +kernel
theorem dX3_isIn_5 : decode cX3_isIn 5 = .ok (.iload_n 0, 1) := by decide +kernel
theorem dX3_isIn_6 : decode cX3_isIn 6 = .ok (.iload_n 2, 1) := by decide +kernel
theorem dX3_isIn_7 : decode cX3_isIn 7 = .ok (.if_icmp .gt 7, 3) := by decide +kernel
theorem dX3_isIn_10 : decode cX3_isIn 10 = .ok (.iconst 1, 1) := by decide +kernel
theorem dX3_isIn_11 : decode cX3_isIn 11 = .ok (.goto 4, 3) := by decide +kernel
theorem dX3_isIn_14 : decode cX3_isIn 14 = .ok (.iconst 0, 1) := by decide +kernel
theorem dX3_isIn_15 : decode cX3_isIn 15 = .ok (.ireturn, 1) := by decide +kernel
set_option maxRecDepth 20000 in
theorem ggX3_isDoll_X3_isIn : GoodIn wsX3_isDoll wsX3_isIn := goodIn_r _ [5] (by decide +kernel) (by decide +kernel)
set_option maxRecDepth 20000 in
theorem gX3_isDoll_X3_isIn : GoodIn wsX3_isDoll (va_wsS RX3 35 yX3_isIn wsX3_isIn) := goodIn_app (goodIn_of _ (by decide +kernel)) ggX3_isDoll_X3_isIn
theorem dX3_isDoll_0 : decode cX3_isDoll 0 = .ok (.iload_n 1, 1) := by decide +kernel
theorem dX3_isDoll_1 : decode cX3_isDoll 1 = .ok (.iconst 0, 1) := by decide +kernel
theorem dX3_isDoll_2 : decode cX3_isDoll 2 = .ok (.aload_n 0, 1) := by decide +kernel
theorem dX3_isDoll_3 : decode cX3_isDoll 3 = .ok (.getfield 32, 3) := by decide +kernel
theorem dX3_isDoll_6 : decode cX3_isDoll 6 = .ok (.iconst 1, 1) := by decide +kernel
theorem dX3_isDoll_7 : decode cX3_isDoll 7 = .ok (.isub, 1) := by decide +kernel
theorem dX3_isDoll_8 : decode cX3_isDoll 8 = .ok (.invokestatic 35, 3) := by decide +kernel
theorem dX3_isDoll_11 : decode cX3_isDoll 11 = .ok (.ireturn, 1) := by decide +kernel
set_option maxRecDepth 20000 in
theorem ggX3_isPose_X3_isIn : GoodIn wsX3_isPose wsX3_isIn := goodIn_r _ [5] (by decide +kernel) (by decide +kernel)
set_option maxRecDepth 20000 in
theorem gX3_isPose_X3_isIn : GoodIn wsX3_isPose (va_wsS RX3 35 yX3_isIn wsX3_isIn) := goodIn_app (goodIn_of _ (by decide +kernel)) ggX3_isPose_X3_isIn
theorem dX3_isPose_0 : decode cX3_isPose 0 = .ok (.iload_n 1, 1) := by decide +kernel
theorem dX3_isPose_1 : decode cX3_isPose 1 = .ok (.iconst 0, 1) := by decide +kernel
theorem dX3_isPose_2 : decode cX3_isPose 2 = .ok (.aload_n 0, 1) := by decide +kernel
theorem dX3_isPose_3 : decode cX3_isPose 3 = .ok (.getfield 39, 3) := by decide +kernel
theorem dX3_isPose_6 : decode cX3_isPose 6 = .ok (.iconst 1, 1) := by decide +kernel
theorem dX3_isPose_7 : decode cX3_isPose 7 = .ok (.isub, 1) := by decide +kernel
theorem dX3_isPose_8 : decode cX3_isPose 8 = .ok (.invokestatic 35, 3) := by decide +kernel
theorem dX3_isPose_11 : decode cX3_isPose 11 = .ok (.ireturn, 1) := by decide +kernel
theorem dX3_at_0 : decode cX3_at 0 = .ok (.iconst 3, 1) := by decide +kernel
theorem dX3_at_1 : decode cX3_at 1 = .ok (.bipush 6, 2) := by decide +kernel
theorem dX3_at_3 : decode cX3_at 3 = .ok (.iload_n 0, 1) := by decide +kernel
theorem dX3_at_4 : decode cX3_at 4 = .ok (.imul, 1) := by decide +kernel
theorem dX3_at_5 : decode cX3_at 5 = .ok (.iload_n 1, 1) := by decide +kernel
theorem dX3_at_6 : decode cX3_at 6 = .ok (.iadd, 1) := by decide +kernel
theorem dX3_at_7 : decode cX3_at 7 = .ok (.imul, 1) := by decide +kernel
theorem dX3_at_8 : decode cX3_at 8 = .ok (.iload_n 2, 1) := by decide +kernel
theorem dX3_at_9 : decode cX3_at 9 = .ok (.iadd, 1) := by decide +kernel
theorem dX3_at_10 : decode cX3_at 10 = .ok (.ireturn, 1) := by decide +kernel
set_option maxRecDepth 20000 in
theorem ggX3_li_X3_at : GoodIn wsX3_li wsX3_at := goodIn_r _ [5] (by decide +kernel) (by decide +kernel)
set_option maxRecDepth 20000 in
theorem gX3_li_X3_at : GoodIn wsX3_li (va_wsS RX3 42 yX3_at wsX3_at) := goodIn_app (goodIn_of _ (by decide +kernel)) ggX3_li_X3_at
theorem dX3_li_0 : decode cX3_li 0 = .ok (.aload_n 0, 1) := by decide +kernel
theorem dX3_li_1 : decode cX3_li 1 = .ok (.getfield 13, 3) := by decide +kernel
theorem dX3_li_4 : decode cX3_li 4 = .ok (.iload_n 1, 1) := by decide +kernel
theorem dX3_li_5 : decode cX3_li 5 = .ok (.iload_n 2, 1) := by decide +kernel
theorem dX3_li_6 : decode cX3_li 6 = .ok (.iload_n 3, 1) := by decide +kernel
theorem dX3_li_7 : decode cX3_li 7 = .ok (.invokestatic 42, 3) := by decide +kernel
theorem dX3_li_10 : decode cX3_li 10 = .ok (.iaload, 1) := by decide +kernel
theorem dX3_li_11 : decode cX3_li 11 = .ok (.ireturn, 1) := by decide +kernel
theorem dX3_ro_0 : decode cX3_ro 0 = .ok (.aload_n 0, 1) := by decide +kernel
theorem dX3_ro_1 : decode cX3_ro 1 = .ok (.getfield 17, 3) := by decide +kernel
theorem dX3_ro_4 : decode cX3_ro 4 = .ok (.bipush 8, 2) := by decide +kernel
theorem dX3_ro_6 : decode cX3_ro 6 = .ok (.iload_n 1, 1) := by decide +kernel
theorem dX3_ro_7 : decode cX3_ro 7 = .ok (.imul, 1) := by decide +kernel
theorem dX3_ro_8 : decode cX3_ro 8 = .ok (.iload_n 2, 1) := by decide +kernel
theorem dX3_ro_9 : decode cX3_ro 9 = .ok (.iadd, 1) := by decide +kernel
theorem dX3_ro_10 : decode cX3_ro 10 = .ok (.iaload, 1) := by decide +kernel
theorem dX3_ro_11 : decode cX3_ro 11 = .ok (.ireturn, 1) := by decide +kernel
theorem dX3_put_0 : decode cX3_put 0 = .ok (.aload_n 0, 1) := by decide +kernel
theorem dX3_put_1 : decode cX3_put 1 = .ok (.getfield 17, 3) := by decide +kernel
theorem dX3_put_4 : decode cX3_put 4 = .ok (.bipush 8, 2) := by decide +kernel
theorem dX3_put_6 : decode cX3_put 6 = .ok (.iload_n 1, 1) := by decide +kernel
theorem dX3_put_7 : decode cX3_put 7 = .ok (.imul, 1) := by decide +kernel
theorem dX3_put_8 : decode cX3_put 8 = .ok (.iload_n 2, 1) := by decide +kernel
theorem dX3_put_9 : decode cX3_put 9 = .ok (.iadd, 1) := by decide +kernel
theorem dX3_put_10 : decode cX3_put 10 = .ok (.iload_n 3, 1) := by decide +kernel
theorem dX3_put_11 : decode cX3_put 11 = .ok (.iastore, 1) := by decide +kernel
theorem dX3_put_12 : decode cX3_put 12 = .ok (.return_, 1) := by decide +kernel
set_option maxRecDepth 20000 in
theorem ggX3_make_X3_fail : GoodIn wsX3_make wsX3_fail := goodIn_r _ [14, 1, 18, 19, 20, 21, 22, 23, 24, 25, 26] (by decide +kernel) (by decide +kernel)
set_option maxRecDepth 20000 in
theorem gX3_make_X3_fail : GoodIn wsX3_make (wsV RX3 46 RX3 yX3_fail wsX3_fail) := goodIn_app (goodIn_of _ (by decide +kernel)) ggX3_make_X3_fail
set_option maxRecDepth 20000 in
theorem ggX3_make_X3_at : GoodIn wsX3_make wsX3_at := goodIn_r _ [17] (by decide +kernel) (by decide +kernel)
set_option maxRecDepth 20000 in
theorem gX3_make_X3_at : GoodIn wsX3_make (va_wsS RX3 42 yX3_at wsX3_at) := goodIn_app (goodIn_of _ (by decide +kernel)) ggX3_make_X3_at
theorem dX3_make_0 : decode cX3_make 0 = .ok (.aload_n 0, 1) := by decide +kernel
theorem dX3_make_1 : decode cX3_make 1 = .ok (.iconst 0, 1) := by decide +kernel
theorem dX3_make_2 : decode cX3_make 2 = .ok (.putfield 29, 3) := by decide +kernel
theorem dX3_make_5 : decode cX3_make 5 = .ok (.aload_n 0, 1) := by decide +kernel
theorem dX3_make_6 : decode cX3_make 6 = .ok (.getfield 32, 3) := by decide +kernel
theorem dX3_make_9 : decode cX3_make 9 = .ok (.bipush 8, 2) := by decide +kernel
theorem dX3_make_11 : decode cX3_make 11 = .ok (.if_icmp .ne 9, 3) := by decide +kernel
theorem dX3_make_14 : decode cX3_make 14 = .ok (.aload_n 0, 1) := by decide +kernel
theorem dX3_make_15 : decode cX3_make 15 = .ok (.iconst 1, 1) := by decide +kernel
theorem dX3_make_16 : decode cX3_make 16 = .ok (.invokevirtual 46, 3) := by decide +kernel
theorem dX3_make_19 : decode cX3_make 19 = .ok (.ireturn, 1) := by decide +kernel
theorem dX3_make_20 : decode cX3_make 20 = .ok (.iconst 0, 1) := by decide +kernel
theorem dX3_make_21 : decode cX3_make 21 = .ok (.istore_n 1, 1) := by decide +kernel
theorem dX3_make_22 : decode cX3_make 22 = .ok (.iload_n 1, 1) := by decide +kernel
theorem dX3_make_23 : decode cX3_make 23 = .ok (.bipush 18, 2) := by decide +kernel
theorem dX3_make_25 : decode cX3_make 25 = .ok (.if_icmp .ge 26, 3) := by decide +kernel
theorem dX3_make_28 : decode cX3_make 28 = .ok (.aload_n 0, 1) := by decide +kernel
theorem dX3_make_29 : decode cX3_make 29 = .ok (.getfield 13, 3) := by decide +kernel
theorem dX3_make_32 : decode cX3_make 32 = .ok (.aload_n 0, 1) := by decide +kernel
theorem dX3_make_33 : decode cX3_make 33 = .ok (.getfield 32, 3) := by decide +kernel
theorem dX3_make_36 : decode cX3_make 36 = .ok (.iconst 0, 1) := by decide +kernel
theorem dX3_make_37 : decode cX3_make 37 = .ok (.iconst 0, 1) := by decide +kernel
theorem dX3_make_38 : decode cX3_make 38 = .ok (.invokestatic 42, 3) := by decide +kernel
theorem dX3_make_41 : decode cX3_make 41 = .ok (.iload_n 1, 1) := by decide +kernel
theorem dX3_make_42 : decode cX3_make 42 = .ok (.iadd, 1) := by decide +kernel
theorem dX3_make_43 : decode cX3_make 43 = .ok (.iconst 0, 1) := by decide +kernel
theorem dX3_make_44 : decode cX3_make 44 = .ok (.iastore, 1) := by decide +kernel
theorem dX3_make_45 : decode cX3_make 45 = .ok (.iinc 1 1, 3) := by decide +kernel
theorem dX3_make_48 : decode cX3_make 48 = .ok (.goto (-26), 3) := by decide +kernel
theorem dX3_make_51 : decode cX3_make 51 = .ok (.bipush 8, 2) := by decide +kernel
theorem dX3_make_53 : decode cX3_make 53 = .ok (.newarray .int, 2) := by decide +kernel
theorem dX3_make_55 : decode cX3_make 55 = .ok (.dup, 1) := by decide +kernel
theorem dX3_make_56 : decode cX3_make 56 = .ok (.iconst 0, 1) := by decide +kernel
theorem dX3_make_57 : decode cX3_make 57 = .ok (.iconst 1, 1) := by decide +kernel
theorem dX3_make_58 : decode cX3_make 58 = .ok (.iastore, 1) := by decide +kernel
theorem dX3_make_59 : decode cX3_make 59 = .ok (.dup, 1) := by decide +kernel
theorem dX3_make_60 : decode cX3_make 60 = .ok (.iconst 1, 1) := by decide +kernel
theorem dX3_make_61 : decode cX3_make 61 = .ok (.iconst 1, 1) := by decide +kernel
theorem dX3_make_62 : decode cX3_make 62 = .ok (.iastore, 1) := by decide +kernel
theorem dX3_make_63 : decode cX3_make 63 = .ok (.dup, 1) := by decide +kernel
theorem dX3_make_64 : decode cX3_make 64 = .ok (.iconst 2, 1) := by decide +kernel
theorem dX3_make_65 : decode cX3_make 65 = .ok (.iconst 0, 1) := by decide +kernel
theorem dX3_make_66 : decode cX3_make 66 = .ok (.iastore, 1) := by decide +kernel
theorem dX3_make_67 : decode cX3_make 67 = .ok (.dup, 1) := by decide +kernel
theorem dX3_make_68 : decode cX3_make 68 = .ok (.iconst 3, 1) := by decide +kernel
theorem dX3_make_69 : decode cX3_make 69 = .ok (.iconst 0, 1) := by decide +kernel
theorem dX3_make_70 : decode cX3_make 70 = .ok (.iastore, 1) := by decide +kernel
theorem dX3_make_71 : decode cX3_make 71 = .ok (.dup, 1) := by decide +kernel
theorem dX3_make_72 : decode cX3_make 72 = .ok (.iconst 4, 1) := by decide +kernel
theorem dX3_make_73 : decode cX3_make 73 = .ok (.iconst 0, 1) := by decide +kernel
theorem dX3_make_74 : decode cX3_make 74 = .ok (.iastore, 1) := by decide +kernel
theorem dX3_make_75 : decode cX3_make 75 = .ok (.dup, 1) := by decide +kernel
theorem dX3_make_76 : decode cX3_make 76 = .ok (.iconst 5, 1) := by decide +kernel
theorem dX3_make_77 : decode cX3_make 77 = .ok (.iconst 0, 1) := by decide +kernel
theorem dX3_make_78 : decode cX3_make 78 = .ok (.iastore, 1) := by decide +kernel
theorem dX3_make_79 : decode cX3_make 79 = .ok (.dup, 1) := by decide +kernel
theorem dX3_make_80 : decode cX3_make 80 = .ok (.bipush 6, 2) := by decide +kernel
theorem dX3_make_82 : decode cX3_make 82 = .ok (.iconst 0, 1) := by decide +kernel
theorem dX3_make_83 : decode cX3_make 83 = .ok (.iastore, 1) := by decide +kernel
theorem dX3_make_84 : decode cX3_make 84 = .ok (.dup, 1) := by decide +kernel
theorem dX3_make_85 : decode cX3_make 85 = .ok (.bipush 7, 2) := by decide +kernel
theorem dX3_make_87 : decode cX3_make 87 = .ok (.iconst 0, 1) := by decide +kernel
theorem dX3_make_88 : decode cX3_make 88 = .ok (.iastore, 1) := by decide +kernel
theorem dX3_make_89 : decode cX3_make 89 = .ok (.astore_n 1, 1) := by decide +kernel
theorem dX3_make_90 : decode cX3_make 90 = .ok (.aload_n 1, 1) := by decide +kernel
theorem dX3_make_91 : decode cX3_make 91 = .ok (.iconst 0, 1) := by decide +kernel
theorem dX3_make_92 : decode cX3_make 92 = .ok (.aload_n 0, 1) := by decide +kernel
theorem dX3_make_93 : decode cX3_make 93 = .ok (.getfield 17, 3) := by decide +kernel
theorem dX3_make_96 : decode cX3_make 96 = .ok (.bipush 8, 2) := by decide +kernel
theorem dX3_make_98 : decode cX3_make 98 = .ok (.aload_n 0, 1) := by decide +kernel
theorem dX3_make_99 : decode cX3_make 99 = .ok (.getfield 32, 3) := by decide +kernel
theorem dX3_make_102 : decode cX3_make 102 = .ok (.imul, 1) := by decide +kernel
theorem dX3_make_103 : decode cX3_make 103 = .ok (.bipush 8, 2) := by decide +kernel
theorem dX3_make_105 : decode cX3_make 105 = .ok (.invokestatic 50, 3) := by decide +kernel
theorem dX3_make_108 : decode cX3_make 108 = .ok (.aload_n 0, 1) := by decide +kernel
theorem dX3_make_109 : decode cX3_make 109 = .ok (.dup, 1) := by decide +kernel
theorem dX3_make_110 : decode cX3_make 110 = .ok (.getfield 32, 3) := by decide +kernel
theorem dX3_make_113 : decode cX3_make 113 = .ok (.iconst 1, 1) := by decide +kernel
theorem dX3_make_114 : decode cX3_make 114 = .ok (.iadd, 1) := by decide +kernel
theorem dX3_make_115 : decode cX3_make 115 = .ok (.putfield 32, 3) := by decide +kernel
theorem dX3_make_118 : decode cX3_make 118 = .ok (.aload_n 0, 1) := by decide +kernel
theorem dX3_make_119 : decode cX3_make 119 = .ok (.getfield 32, 3) := by decide +kernel
theorem dX3_make_122 : decode cX3_make 122 = .ok (.iconst 1, 1) := by decide +kernel
theorem dX3_make_123 : decode cX3_make 123 = .ok (.isub, 1) := by decide +kernel
theorem dX3_make_124 : decode cX3_make 124 = .ok (.ireturn, 1) := by decide +kernel
set_option maxRecDepth 20000 in
theorem ggX3_pose_X3_isIn : GoodIn wsX3_pose wsX3_isIn := goodIn_r _ [12] (by decide +kernel) (by decide +kernel)
set_option maxRecDepth 20000 in
theorem gX3_pose_X3_isIn : GoodIn wsX3_pose (va_wsS RX3 35 yX3_isIn wsX3_isIn) := goodIn_app (goodIn_of _ (by decide +kernel)) ggX3_pose_X3_isIn
set_option maxRecDepth 20000 in
theorem ggX3_pose_X3_fail : GoodIn wsX3_pose wsX3_fail := goodIn_r _ [16, 1, 17, 18, 19, 20, 21, 22, 23, 24, 25] (by decide +kernel) (by decide +kernel)
set_option maxRecDepth 20000 in
theorem gX3_pose_X3_fail : GoodIn wsX3_pose (wsV RX3 46 RX3 yX3_fail wsX3_fail) := goodIn_app (goodIn_of _ (by decide +kernel)) ggX3_pose_X3_fail
theorem dX3_pose_0 : decode cX3_pose 0 = .ok (.aload_n 0, 1) := by decide +kernel
theorem dX3_pose_1 : decode cX3_pose 1 = .ok (.iconst 0, 1) := by decide +kernel
theorem dX3_pose_2 : decode cX3_pose 2 = .ok (.putfield 29, 3) := by decide +kernel
theorem dX3_pose_5 : decode cX3_pose 5 = .ok (.bipush 6, 2) := by decide +kernel
theorem dX3_pose_7 : decode cX3_pose 7 = .ok (.newarray .int, 2) := by decide +kernel
theorem dX3_pose_9 : decode cX3_pose 9 = .ok (.dup, 1) := by decide +kernel
theorem dX3_pose_10 : decode cX3_pose 10 = .ok (.iconst 0, 1) := by decide +kernel
theorem dX3_pose_11 : decode cX3_pose 11 = .ok (.iload_n 1, 1) := by decide +kernel
theorem dX3_pose_12 : decode cX3_pose 12 = .ok (.iastore, 1) := by decide +kernel
theorem dX3_pose_13 : decode cX3_pose 13 = .ok (.dup, 1) := by decide +kernel
theorem dX3_pose_14 : decode cX3_pose 14 = .ok (.iconst 1, 1) := by decide +kernel
theorem dX3_pose_15 : decode cX3_pose 15 = .ok (.iload_n 2, 1) := by decide +kernel
theorem dX3_pose_16 : decode cX3_pose 16 = .ok (.iastore, 1) := by decide +kernel
theorem dX3_pose_17 : decode cX3_pose 17 = .ok (.dup, 1) := by decide +kernel
theorem dX3_pose_18 : decode cX3_pose 18 = .ok (.iconst 2, 1) := by decide +kernel
theorem dX3_pose_19 : decode cX3_pose 19 = .ok (.iload_n 3, 1) := by decide +kernel
theorem dX3_pose_20 : decode cX3_pose 20 = .ok (.iastore, 1) := by decide +kernel
theorem dX3_pose_21 : decode cX3_pose 21 = .ok (.dup, 1) := by decide +kernel
theorem dX3_pose_22 : decode cX3_pose 22 = .ok (.iconst 3, 1) := by decide +kernel
theorem dX3_pose_23 : decode cX3_pose 23 = .ok (.iload 4, 2) := by decide +kernel
theorem dX3_pose_25 : decode cX3_pose 25 = .ok (.iastore, 1) := by decide +kernel
theorem dX3_pose_26 : decode cX3_pose 26 = .ok (.dup, 1) := by decide +kernel
theorem dX3_pose_27 : decode cX3_pose 27 = .ok (.iconst 4, 1) := by decide +kernel
theorem dX3_pose_28 : decode cX3_pose 28 = .ok (.iload 5, 2) := by decide +kernel
theorem dX3_pose_30 : decode cX3_pose 30 = .ok (.iastore, 1) := by decide +kernel
theorem dX3_pose_31 : decode cX3_pose 31 = .ok (.dup, 1) := by decide +kernel
theorem dX3_pose_32 : decode cX3_pose 32 = .ok (.iconst 5, 1) := by decide +kernel
theorem dX3_pose_33 : decode cX3_pose 33 = .ok (.iload 6, 2) := by decide +kernel
theorem dX3_pose_35 : decode cX3_pose 35 = .ok (.iastore, 1) := by decide +kernel
theorem dX3_pose_36 : decode cX3_pose 36 = .ok (.astore 7, 2) := by decide +kernel
theorem dX3_pose_38 : decode cX3_pose 38 = .ok (.aload 7, 2) := by decide +kernel
theorem dX3_pose_40 : decode cX3_pose 40 = .ok (.astore 8, 2) := by decide +kernel
theorem dX3_pose_42 : decode cX3_pose 42 = .ok (.aload 8, 2) := by decide +kernel
theorem dX3_pose_44 : decode cX3_pose 44 = .ok (.arraylength, 1) := by decide +kernel
theorem dX3_pose_45 : decode cX3_pose 45 = .ok (.istore 9, 2) := by decide +kernel
theorem dX3_pose_47 : decode cX3_pose 47 = .ok (.iconst 0, 1) := by decide +kernel
theorem dX3_pose_48 : decode cX3_pose 48 = .ok (.istore 10, 2) := by decide +kernel
theorem dX3_pose_50 : decode cX3_pose 50 = .ok (.iload 10, 2) := by decide +kernel
theorem dX3_pose_52 : decode cX3_pose 52 = .ok (.iload 9, 2) := by decide +kernel
theorem dX3_pose_54 : decode cX3_pose 54 = .ok (.if_icmp .ge 33, 3) := by decide +kernel
theorem dX3_pose_57 : decode cX3_pose 57 = .ok (.aload 8, 2) := by decide +kernel
theorem dX3_pose_59 : decode cX3_pose 59 = .ok (.iload 10, 2) := by decide +kernel
theorem dX3_pose_61 : decode cX3_pose 61 = .ok (.iaload, 1) := by decide +kernel
theorem dX3_pose_62 : decode cX3_pose 62 = .ok (.istore 11, 2) := by decide +kernel
theorem dX3_pose_64 : decode cX3_pose 64 = .ok (.iload 11, 2) := by decide +kernel
theorem dX3_pose_66 : decode cX3_pose 66 = .ok (.iconst 0, 1) := by decide +kernel
theorem dX3_pose_67 : decode cX3_pose 67 = .ok (.bipush 90, 2) := by decide +kernel
theorem dX3_pose_69 : decode cX3_pose 69 = .ok (.invokestatic 35, 3) := by decide +kernel
theorem dX3_pose_72 : decode cX3_pose 72 = .ok (.ifCond .ne 9, 3) := by decide +kernel
theorem dX3_pose_75 : decode cX3_pose 75 = .ok (.aload_n 0, 1) := by decide +kernel
theorem dX3_pose_76 : decode cX3_pose 76 = .ok (.iconst 1, 1) := by decide +kernel
theorem dX3_pose_77 : decode cX3_pose 77 = .ok (.invokevirtual 46, 3) := by decide +kernel
theorem dX3_pose_80 : decode cX3_pose 80 = .ok (.ireturn, 1) := by decide +kernel
theorem dX3_pose_81 : decode cX3_pose 81 = .ok (.iinc 10 1, 3) := by decide +kernel
theorem dX3_pose_84 : decode cX3_pose 84 = .ok (.goto (-34), 3) := by decide +kernel
theorem dX3_pose_87 : decode cX3_pose 87 = .ok (.aload_n 0, 1) := by decide +kernel
theorem dX3_pose_88 : decode cX3_pose 88 = .ok (.getfield 39, 3) := by decide +kernel
theorem dX3_pose_91 : decode cX3_pose 91 = .ok (.bipush 8, 2) := by decide +kernel
theorem dX3_pose_93 : decode cX3_pose 93 = .ok (.if_icmp .ne 9, 3) := by decide +kernel
theorem dX3_pose_96 : decode cX3_pose 96 = .ok (.aload_n 0, 1) := by decide +kernel
theorem dX3_pose_97 : decode cX3_pose 97 = .ok (.iconst 2, 1) := by decide +kernel
theorem dX3_pose_98 : decode cX3_pose 98 = .ok (.invokevirtual 46, 3) := by decide +kernel
theorem dX3_pose_101 : decode cX3_pose 101 = .ok (.ireturn, 1) := by decide +kernel
theorem dX3_pose_102 : decode cX3_pose 102 = .ok (.aload 7, 2) := by decide +kernel
theorem dX3_pose_104 : decode cX3_pose 104 = .ok (.iconst 0, 1) := by decide +kernel
theorem dX3_pose_105 : decode cX3_pose 105 = .ok (.aload_n 0, 1) := by decide +kernel
theorem dX3_pose_106 : decode cX3_pose 106 = .ok (.getfield 20, 3) := by decide +kernel
theorem dX3_pose_109 : decode cX3_pose 109 = .ok (.bipush 6, 2) := by decide +kernel
theorem dX3_pose_111 : decode cX3_pose 111 = .ok (.aload_n 0, 1) := by decide +kernel
theorem dX3_pose_112 : decode cX3_pose 112 = .ok (.getfield 39, 3) := by decide +kernel
theorem dX3_pose_115 : decode cX3_pose 115 = .ok (.imul, 1) := by decide +kernel
theorem dX3_pose_116 : decode cX3_pose 116 = .ok (.bipush 6, 2) := by decide +kernel
theorem dX3_pose_118 : decode cX3_pose 118 = .ok (.invokestatic 50, 3) := by decide +kernel
theorem dX3_pose_121 : decode cX3_pose 121 = .ok (.aload_n 0, 1) := by decide +kernel
theorem dX3_pose_122 : decode cX3_pose 122 = .ok (.dup, 1) := by decide +kernel
theorem dX3_pose_123 : decode cX3_pose 123 = .ok (.getfield 39, 3) := by decide +kernel
theorem dX3_pose_126 : decode cX3_pose 126 = .ok (.iconst 1, 1) := by decide +kernel
theorem dX3_pose_127 : decode cX3_pose 127 = .ok (.iadd, 1) := by decide +kernel
theorem dX3_pose_128 : decode cX3_pose 128 = .ok (.putfield 39, 3) := by decide +kernel
theorem dX3_pose_131 : decode cX3_pose 131 = .ok (.aload_n 0, 1) := by decide +kernel
theorem dX3_pose_132 : decode cX3_pose 132 = .ok (.getfield 39, 3) := by decide +kernel
theorem dX3_pose_135 : decode cX3_pose 135 = .ok (.iconst 1, 1) := by decide +kernel
theorem dX3_pose_136 : decode cX3_pose 136 = .ok (.isub, 1) := by decide +kernel
theorem dX3_pose_137 : decode cX3_pose 137 = .ok (.ireturn, 1) := by decide +kernel
set_option maxRecDepth 20000 in
theorem ggX3_isBroken_X3_li : GoodIn wsX3_isBroken wsX3_li := goodIn_r _ [5, 6, 7, 8, 4, 9, 10, 11, 12, 13, 14, 15, 16, 17, 18] (by decide +kernel) (by decide +kernel)
set_option maxRecDepth 20000 in
theorem gX3_isBroken_X3_li : GoodIn wsX3_isBroken (wsV RX3 56 RX3 yX3_li wsX3_li) := goodIn_app (goodIn_of _ (by decide +kernel)) ggX3_isBroken_X3_li
theorem dX3_isBroken_0 : decode cX3_isBroken 0 = .ok (.aload_n 0, 1) := by decide +kernel
theorem dX3_isBroken_1 : decode cX3_isBroken 1 = .ok (.iload_n 1, 1) := by decide +kernel
theorem dX3_isBroken_2 : decode cX3_isBroken 2 = .ok (.iload_n 2, 1) := by decide +kernel
theorem dX3_isBroken_3 : decode cX3_isBroken 3 = .ok (.iconst 1, 1) := by decide +kernel
theorem dX3_isBroken_4 : decode cX3_isBroken 4 = .ok (.invokevirtual 56, 3) := by decide +kernel
theorem dX3_isBroken_7 : decode cX3_isBroken 7 = .ok (.bipush 100, 2) := by decide +kernel
theorem dX3_isBroken_9 : decode cX3_isBroken 9 = .ok (.if_icmp .ne 7, 3) := by decide +kernel
theorem dX3_isBroken_12 : decode cX3_isBroken 12 = .ok (.iconst 1, 1) := by decide +kernel
theorem dX3_isBroken_13 : decode cX3_isBroken 13 = .ok (.goto 4, 3) := by decide +kernel
theorem dX3_isBroken_16 : decode cX3_isBroken 16 = .ok (.iconst 0, 1) := by decide +kernel
theorem dX3_isBroken_17 : decode cX3_isBroken 17 = .ok (.ireturn, 1) := by decide +kernel
set_option maxRecDepth 20000 in
theorem ggX3_turn_X3_li : GoodIn wsX3_turn wsX3_li := goodIn_r _ [13, 5, 14, 15, 12, 16, 21, 22, 23, 24, 25, 26, 27, 28, 29] (by decide +kernel) (by decide +kernel)
set_option maxRecDepth 20000 in
theorem gX3_turn_X3_li : GoodIn wsX3_turn (wsV RX3 56 RX3 yX3_li wsX3_li) := goodIn_app (goodIn_of _ (by decide +kernel)) ggX3_turn_X3_li
set_option maxRecDepth 20000 in
theorem ggX3_turn_X3_at : GoodIn wsX3_turn wsX3_at := goodIn_r _ [16] (by decide +kernel) (by decide +kernel)
set_option maxRecDepth 20000 in
theorem gX3_turn_X3_at : GoodIn wsX3_turn (va_wsS RX3 42 yX3_at wsX3_at) := goodIn_app (goodIn_of _ (by decide +kernel)) ggX3_turn_X3_at
set_option maxRecDepth 20000 in
theorem ggX3_turn_X3_isBroken : GoodIn wsX3_turn wsX3_isBroken := goodIn_r _ [20, 9, 10, 11, 12, 13, 5, 14, 15, 16, 21, 22, 23, 24, 25, 26, 27, 28, 29] (by decide +kernel) (by decide +kernel)
set_option maxRecDepth 20000 in
theorem gX3_turn_X3_isBroken : GoodIn wsX3_turn (wsV RX3 68 RX3 yX3_isBroken wsX3_isBroken) := goodIn_app (goodIn_of _ (by decide +kernel)) ggX3_turn_X3_isBroken
theorem dX3_turn_0 : decode cX3_turn 0 = .ok (.aload_n 0, 1) := by decide +kernel
theorem dX3_turn_1 : decode cX3_turn 1 = .ok (.iload_n 1, 1) := by decide +kernel
theorem dX3_turn_2 : decode cX3_turn 2 = .ok (.iload_n 2, 1) := by decide +kernel
theorem dX3_turn_3 : decode cX3_turn 3 = .ok (.iconst 0, 1) := by decide +kernel
theorem dX3_turn_4 : decode cX3_turn 4 = .ok (.invokevirtual 56, 3) := by decide +kernel
theorem dX3_turn_7 : decode cX3_turn 7 = .ok (.iload_n 3, 1) := by decide +kernel
theorem dX3_turn_8 : decode cX3_turn 8 = .ok (.isub, 1) := by decide +kernel
theorem dX3_turn_9 : decode cX3_turn 9 = .ok (.invokestatic 59, 3) := by decide +kernel
theorem dX3_turn_12 : decode cX3_turn 12 = .ok (.istore 4, 2) := by decide +kernel
theorem dX3_turn_14 : decode cX3_turn 14 = .ok (.iload 4, 2) := by decide +kernel
theorem dX3_turn_16 : decode cX3_turn 16 = .ok (.ifCond .ne 5, 3) := by decide +kernel
theorem dX3_turn_19 : decode cX3_turn 19 = .ok (.iconst 0, 1) := by decide +kernel
theorem dX3_turn_20 : decode cX3_turn 20 = .ok (.ireturn, 1) := by decide +kernel
theorem dX3_turn_21 : decode cX3_turn 21 = .ok (.aload_n 0, 1) := by decide +kernel
theorem dX3_turn_22 : decode cX3_turn 22 = .ok (.iload_n 1, 1) := by decide +kernel
theorem dX3_turn_23 : decode cX3_turn 23 = .ok (.iload_n 2, 1) := by decide +kernel
theorem dX3_turn_24 : decode cX3_turn 24 = .ok (.iconst 2, 1) := by decide +kernel
theorem dX3_turn_25 : decode cX3_turn 25 = .ok (.invokevirtual 56, 3) := by decide +kernel
theorem dX3_turn_28 : decode cX3_turn 28 = .ok (.ifCond .le 7, 3) := by decide +kernel
theorem dX3_turn_31 : decode cX3_turn 31 = .ok (.iconst 1, 1) := by decide +kernel
theorem dX3_turn_32 : decode cX3_turn 32 = .ok (.goto 4, 3) := by decide +kernel
theorem dX3_turn_35 : decode cX3_turn 35 = .ok (.iconst 0, 1) := by decide +kernel
theorem dX3_turn_36 : decode cX3_turn 36 = .ok (.istore 5, 2) := by decide +kernel
theorem dX3_turn_38 : decode cX3_turn 38 = .ok (.aload_n 0, 1) := by decide +kernel
theorem dX3_turn_39 : decode cX3_turn 39 = .ok (.getfield 13, 3) := by decide +kernel
theorem dX3_turn_42 : decode cX3_turn 42 = .ok (.iload_n 1, 1) := by decide +kernel
theorem dX3_turn_43 : decode cX3_turn 43 = .ok (.iload_n 2, 1) := by decide +kernel
theorem dX3_turn_44 : decode cX3_turn 44 = .ok (.iconst 0, 1) := by decide +kernel
theorem dX3_turn_45 : decode cX3_turn 45 = .ok (.invokestatic 42, 3) := by decide +kernel
theorem dX3_turn_48 : decode cX3_turn 48 = .ok (.iload_n 3, 1) := by decide +kernel
theorem dX3_turn_49 : decode cX3_turn 49 = .ok (.iastore, 1) := by decide +kernel
theorem dX3_turn_50 : decode cX3_turn 50 = .ok (.aload_n 0, 1) := by decide +kernel
theorem dX3_turn_51 : decode cX3_turn 51 = .ok (.getfield 13, 3) := by decide +kernel
theorem dX3_turn_54 : decode cX3_turn 54 = .ok (.iload_n 1, 1) := by decide +kernel
theorem dX3_turn_55 : decode cX3_turn 55 = .ok (.iload_n 2, 1) := by decide +kernel
theorem dX3_turn_56 : decode cX3_turn 56 = .ok (.iconst 1, 1) := by decide +kernel
theorem dX3_turn_57 : decode cX3_turn 57 = .ok (.invokestatic 42, 3) := by decide +kernel
theorem dX3_turn_60 : decode cX3_turn 60 = .ok (.bipush 100, 2) := by decide +kernel
theorem dX3_turn_62 : decode cX3_turn 62 = .ok (.aload_n 0, 1) := by decide +kernel
theorem dX3_turn_63 : decode cX3_turn 63 = .ok (.iload_n 1, 1) := by decide +kernel
theorem dX3_turn_64 : decode cX3_turn 64 = .ok (.iload_n 2, 1) := by decide +kernel
theorem dX3_turn_65 : decode cX3_turn 65 = .ok (.iconst 1, 1) := by decide +kernel
theorem dX3_turn_66 : decode cX3_turn 66 = .ok (.invokevirtual 56, 3) := by decide +kernel
theorem dX3_turn_69 : decode cX3_turn 69 = .ok (.iload 5, 2) := by decide +kernel
theorem dX3_turn_71 : decode cX3_turn 71 = .ok (.ifCond .eq 11, 3) := by decide +kernel
theorem dX3_turn_74 : decode cX3_turn 74 = .ok (.iload 4, 2) := by decide +kernel
theorem dX3_turn_76 : decode cX3_turn 76 = .ok (.bipush 20, 2) := by decide +kernel
theorem dX3_turn_78 : decode cX3_turn 78 = .ok (.idiv, 1) := by decide +kernel
theorem dX3_turn_79 : decode cX3_turn 79 = .ok (.goto 10, 3) := by decide +kernel
theorem dX3_turn_82 : decode cX3_turn 82 = .ok (.iload 4, 2) := by decide +kernel
theorem dX3_turn_84 : decode cX3_turn 84 = .ok (.bipush 10, 2) := by decide +kernel
theorem dX3_turn_86 : decode cX3_turn 86 = .ok (.idiv, 1) := by decide +kernel
theorem dX3_turn_87 : decode cX3_turn 87 = .ok (.iconst 1, 1) := by decide +kernel
theorem dX3_turn_88 : decode cX3_turn 88 = .ok (.iadd, 1) := by decide +kernel
theorem dX3_turn_89 : decode cX3_turn 89 = .ok (.iadd, 1) := by decide +kernel
theorem dX3_turn_90 : decode cX3_turn 90 = .ok (.invokestatic 64, 3) := by decide +kernel
theorem dX3_turn_93 : decode cX3_turn 93 = .ok (.iastore, 1) := by decide +kernel
theorem dX3_turn_94 : decode cX3_turn 94 = .ok (.iload 5, 2) := by decide +kernel
theorem dX3_turn_96 : decode cX3_turn 96 = .ok (.ifCond .eq 18, 3) := by decide +kernel
theorem dX3_turn_99 : decode cX3_turn 99 = .ok (.aload_n 0, 1) := by decide +kernel
theorem dX3_turn_100 : decode cX3_turn 100 = .ok (.getfield 13, 3) := by decide +kernel
theorem dX3_turn_103 : decode cX3_turn 103 = .ok (.iload_n 1, 1) := by decide +kernel
theorem dX3_turn_104 : decode cX3_turn 104 = .ok (.iload_n 2, 1) := by decide +kernel
theorem dX3_turn_105 : decode cX3_turn 105 = .ok (.iconst 2, 1) := by decide +kernel
theorem dX3_turn_106 : decode cX3_turn 106 = .ok (.invokestatic 42, 3) := by decide +kernel
theorem dX3_turn_109 : decode cX3_turn 109 = .ok (.dup2, 1) := by decide +kernel
theorem dX3_turn_110 : decode cX3_turn 110 = .ok (.iaload, 1) := by decide +kernel
theorem dX3_turn_111 : decode cX3_turn 111 = .ok (.iconst 1, 1) := by decide +kernel
theorem dX3_turn_112 : decode cX3_turn 112 = .ok (.isub, 1) := by decide +kernel
theorem dX3_turn_113 : decode cX3_turn 113 = .ok (.iastore, 1) := by decide +kernel
theorem dX3_turn_114 : decode cX3_turn 114 = .ok (.aload_n 0, 1) := by decide +kernel
theorem dX3_turn_115 : decode cX3_turn 115 = .ok (.iload_n 1, 1) := by decide +kernel
theorem dX3_turn_116 : decode cX3_turn 116 = .ok (.iload_n 2, 1) := by decide +kernel
theorem dX3_turn_117 : decode cX3_turn 117 = .ok (.invokevirtual 68, 3) := by decide +kernel
theorem dX3_turn_120 : decode cX3_turn 120 = .ok (.ireturn, 1) := by decide +kernel
set_option maxRecDepth 20000 in
theorem ggX3_can_X3_isBroken : GoodIn wsX3_can wsX3_isBroken := goodIn_r _ [6, 7, 8, 9, 5, 10, 11, 12, 13, 14, 15, 16, 17, 18, 19, 20, 21, 22, 23] (by decide +kernel) (by decide +kernel)
set_option maxRecDepth 20000 in
theorem gX3_can_X3_isBroken : GoodIn wsX3_can (wsV RX3 68 RX3 yX3_isBroken wsX3_isBroken) := goodIn_app (goodIn_of _ (by decide +kernel)) ggX3_can_X3_isBroken
set_option maxRecDepth 20000 in
theorem ggX3_can_X3_li : GoodIn wsX3_can wsX3_li := goodIn_r _ [10, 11, 12, 13, 5, 14, 15, 16, 17, 18, 19, 20, 21, 22, 23] (by decide +kernel) (by decide +kernel)
set_option maxRecDepth 20000 in
theorem gX3_can_X3_li : GoodIn wsX3_can (wsV RX3 56 RX3 yX3_li wsX3_li) := goodIn_app (goodIn_of _ (by decide +kernel)) ggX3_can_X3_li
theorem dX3_can_0 : decode cX3_can 0 = .ok (.iconst 0, 1) := by decide +kernel
theorem dX3_can_1 : decode cX3_can 1 = .ok (.istore_n 3, 1) := by decide +kernel
theorem dX3_can_2 : decode cX3_can 2 = .ok (.iload_n 3, 1) := by decide +kernel
theorem dX3_can_3 : decode cX3_can 3 = .ok (.bipush 6, 2) := by decide +kernel
theorem dX3_can_5 : decode cX3_can 5 = .ok (.if_icmp .ge 41, 3) := by decide +kernel
theorem dX3_can_8 : decode cX3_can 8 = .ok (.aload_n 0, 1) := by decide +kernel
theorem dX3_can_9 : decode cX3_can 9 = .ok (.iload_n 1, 1) := by decide +kernel
theorem dX3_can_10 : decode cX3_can 10 = .ok (.iload_n 3, 1) := by decide +kernel
theorem dX3_can_11 : decode cX3_can 11 = .ok (.invokevirtual 68, 3) := by decide +kernel
theorem dX3_can_14 : decode cX3_can 14 = .ok (.ifCond .eq 26, 3) := by decide +kernel
theorem dX3_can_17 : decode cX3_can 17 = .ok (.aload_n 0, 1) := by decide +kernel
theorem dX3_can_18 : decode cX3_can 18 = .ok (.iload_n 1, 1) := by decide +kernel
theorem dX3_can_19 : decode cX3_can 19 = .ok (.iload_n 3, 1) := by decide +kernel
theorem dX3_can_20 : decode cX3_can 20 = .ok (.iconst 0, 1) := by decide +kernel
theorem dX3_can_21 : decode cX3_can 21 = .ok (.invokevirtual 56, 3) := by decide +kernel
theorem dX3_can_24 : decode cX3_can 24 = .ok (.aload_n 0, 1) := by decide +kernel
theorem dX3_can_25 : decode cX3_can 25 = .ok (.getfield 20, 3) := by decide +kernel
theorem dX3_can_28 : decode cX3_can 28 = .ok (.bipush 6, 2) := by decide +kernel
theorem dX3_can_30 : decode cX3_can 30 = .ok (.iload_n 2, 1) := by decide +kernel
theorem dX3_can_31 : decode cX3_can 31 = .ok (.imul, 1) := by decide +kernel
theorem dX3_can_32 : decode cX3_can 32 = .ok (.iload_n 3, 1) := by decide +kernel
theorem dX3_can_33 : decode cX3_can 33 = .ok (.iadd, 1) := by decide +kernel
theorem dX3_can_34 : decode cX3_can 34 = .ok (.iaload, 1) := by decide +kernel
theorem dX3_can_35 : decode cX3_can 35 = .ok (.if_icmp .eq 5, 3) := by decide +kernel
theorem dX3_can_38 : decode cX3_can 38 = .ok (.iconst 0, 1) := by decide +kernel
theorem dX3_can_39 : decode cX3_can 39 = .ok (.ireturn, 1) := by decide +kernel
theorem dX3_can_40 : decode cX3_can 40 = .ok (.iinc 3 1, 3) := by decide +kernel
theorem dX3_can_43 : decode cX3_can 43 = .ok (.goto (-41), 3) := by decide +kernel
theorem dX3_can_46 : decode cX3_can 46 = .ok (.iconst 1, 1) := by decide +kernel
theorem dX3_can_47 : decode cX3_can 47 = .ok (.ireturn, 1) := by decide +kernel
set_option maxRecDepth 20000 in
theorem ggX3_turnAll_X3_turn : GoodIn wsX3_turnAll wsX3_turn := goodIn_r _ [6, 7, 8, 9, 10, 11, 12, 13, 14, 15, 16, 17, 5, 18, 19, 20, 21, 22, 23, 24, 25, 26, 27, 28, 29, 30, 31, 32, 33, 34] (by decide +kernel) (by decide +kernel)
set_option maxRecDepth 20000 in
theorem gX3_turnAll_X3_turn : GoodIn wsX3_turnAll (wsV RX3 72 RX3 yX3_turn wsX3_turn) := goodIn_app (goodIn_of _ (by decide +kernel)) ggX3_turnAll_X3_turn
theorem dX3_turnAll_0 : decode cX3_turnAll 0 = .ok (.iconst 0, 1) := by decide +kernel
theorem dX3_turnAll_1 : decode cX3_turnAll 1 = .ok (.istore_n 3, 1) := by decide +kernel
theorem dX3_turnAll_2 : decode cX3_turnAll 2 = .ok (.iconst 0, 1) := by decide +kernel
theorem dX3_turnAll_3 : decode cX3_turnAll 3 = .ok (.istore 4, 2) := by decide +kernel
theorem dX3_turnAll_5 : decode cX3_turnAll 5 = .ok (.iload 4, 2) := by decide +kernel
theorem dX3_turnAll_7 : decode cX3_turnAll 7 = .ok (.bipush 6, 2) := by decide +kernel
theorem dX3_turnAll_9 : decode cX3_turnAll 9 = .ok (.if_icmp .ge 39, 3) := by decide +kernel
theorem dX3_turnAll_12 : decode cX3_turnAll 12 = .ok (.iload_n 3, 1) := by decide +kernel
theorem dX3_turnAll_13 : decode cX3_turnAll 13 = .ok (.aload_n 0, 1) := by decide +kernel
theorem dX3_turnAll_14 : decode cX3_turnAll 14 = .ok (.iload_n 1, 1) := by decide +kernel
theorem dX3_turnAll_15 : decode cX3_turnAll 15 = .ok (.iload 4, 2) := by decide +kernel
theorem dX3_turnAll_17 : decode cX3_turnAll 17 = .ok (.aload_n 0, 1) := by decide +kernel
theorem dX3_turnAll_18 : decode cX3_turnAll 18 = .ok (.getfield 20, 3) := by decide +kernel
theorem dX3_turnAll_21 : decode cX3_turnAll 21 = .ok (.bipush 6, 2) := by decide +kernel
theorem dX3_turnAll_23 : decode cX3_turnAll 23 = .ok (.iload_n 2, 1) := by decide +kernel
theorem dX3_turnAll_24 : decode cX3_turnAll 24 = .ok (.imul, 1) := by decide +kernel
theorem dX3_turnAll_25 : decode cX3_turnAll 25 = .ok (.iload 4, 2) := by decide +kernel
theorem dX3_turnAll_27 : decode cX3_turnAll 27 = .ok (.iadd, 1) := by decide +kernel
theorem dX3_turnAll_28 : decode cX3_turnAll 28 = .ok (.iaload, 1) := by decide +kernel
theorem dX3_turnAll_29 : decode cX3_turnAll 29 = .ok (.invokevirtual 72, 3) := by decide +kernel
theorem dX3_turnAll_32 : decode cX3_turnAll 32 = .ok (.ifCond .eq 7, 3) := by decide +kernel
theorem dX3_turnAll_35 : decode cX3_turnAll 35 = .ok (.iconst 1, 1) := by decide +kernel
theorem dX3_turnAll_36 : decode cX3_turnAll 36 = .ok (.goto 4, 3) := by decide +kernel
theorem dX3_turnAll_39 : decode cX3_turnAll 39 = .ok (.iconst 0, 1) := by decide +kernel
theorem dX3_turnAll_40 : decode cX3_turnAll 40 = .ok (.iadd, 1) := by decide +kernel
theorem dX3_turnAll_41 : decode cX3_turnAll 41 = .ok (.istore_n 3, 1) := by decide +kernel
theorem dX3_turnAll_42 : decode cX3_turnAll 42 = .ok (.iinc 4 1, 3) := by decide +kernel
theorem dX3_turnAll_45 : decode cX3_turnAll 45 = .ok (.goto (-40), 3) := by decide +kernel
theorem dX3_turnAll_48 : decode cX3_turnAll 48 = .ok (.iload_n 3, 1) := by decide +kernel
theorem dX3_turnAll_49 : decode cX3_turnAll 49 = .ok (.ireturn, 1) := by decide +kernel
set_option maxRecDepth 20000 in
theorem ggX3_take_X3_isDoll : GoodIn wsX3_take wsX3_isDoll := goodIn_r _ [6, 7, 8, 9, 5, 10, 61, 62, 63, 64, 65, 66, 67, 68, 69] (by decide +kernel) (by decide +kernel)
set_option maxRecDepth 20000 in
theorem gX3_take_X3_isDoll : GoodIn wsX3_take (wsV RX3 75 RX3 yX3_isDoll wsX3_isDoll) := goodIn_app (goodIn_of _ (by decide +kernel)) ggX3_take_X3_isDoll
set_option maxRecDepth 20000 in
theorem ggX3_take_X3_isPose : GoodIn wsX3_take wsX3_isPose := goodIn_r _ [14, 15, 8, 9, 5, 10, 61, 62, 63, 64, 65, 66, 67, 68, 69] (by decide +kernel) (by decide +kernel)
set_option maxRecDepth 20000 in
theorem gX3_take_X3_isPose : GoodIn wsX3_take (wsV RX3 79 RX3 yX3_isPose wsX3_isPose) := goodIn_app (goodIn_of _ (by decide +kernel)) ggX3_take_X3_isPose
set_option maxRecDepth 20000 in
theorem ggX3_take_X3_fail : GoodIn wsX3_take wsX3_fail := goodIn_r _ [19, 1, 61, 62, 63, 64, 65, 66, 67, 68, 69] (by decide +kernel) (by decide +kernel)
set_option maxRecDepth 20000 in
theorem gX3_take_X3_fail : GoodIn wsX3_take (wsV RX3 46 RX3 yX3_fail wsX3_fail) := goodIn_app (goodIn_of _ (by decide +kernel)) ggX3_take_X3_fail
set_option maxRecDepth 20000 in
theorem ggX3_take_X3_can : GoodIn wsX3_take wsX3_can := goodIn_r _ [23, 24, 25, 26, 27, 5, 28, 29, 30, 31, 32, 33, 34, 35, 36, 61, 62, 63, 64, 65, 66, 67, 68, 69] (by decide +kernel) (by decide +kernel)
set_option maxRecDepth 20000 in
theorem gX3_take_X3_can : GoodIn wsX3_take (wsV RX3 82 RX3 yX3_can wsX3_can) := goodIn_app (goodIn_of _ (by decide +kernel)) ggX3_take_X3_can
set_option maxRecDepth 20000 in
theorem ggX3_take_X3_ro : GoodIn wsX3_take wsX3_ro := goodIn_r _ [40, 41, 61, 62, 63, 64, 65, 66, 67, 68, 69] (by decide +kernel) (by decide +kernel)
set_option maxRecDepth 20000 in
theorem gX3_take_X3_ro : GoodIn wsX3_take (wsV RX3 85 RX3 yX3_ro wsX3_ro) := goodIn_app (goodIn_of _ (by decide +kernel)) ggX3_take_X3_ro
set_option maxRecDepth 20000 in
theorem ggX3_take_X3_put : GoodIn wsX3_take wsX3_put := goodIn_r _ [45, 41, 61, 62, 63, 64, 65, 66, 67, 68, 69] (by decide +kernel) (by decide +kernel)
set_option maxRecDepth 20000 in
theorem gX3_take_X3_put : GoodIn wsX3_take (wsV RX3 88 RX3 yX3_put wsX3_put) := goodIn_app (goodIn_of _ (by decide +kernel)) ggX3_take_X3_put
set_option maxRecDepth 20000 in
theorem ggX3_take_X3_turnAll : GoodIn wsX3_take wsX3_turnAll := goodIn_r _ [49, 24, 50, 51, 52, 5, 53, 54, 55, 56, 57, 33, 58, 59, 60, 29, 30, 31, 32, 34, 35, 36, 25, 26, 27, 28, 61, 62, 63, 64, 65, 66, 67, 68, 69] (by decide +kernel) (by decide +kernel)
set_option maxRecDepth 20000 in
theorem gX3_take_X3_turnAll : GoodIn wsX3_take (wsV RX3 92 RX3 yX3_turnAll wsX3_turnAll) := goodIn_app (goodIn_of _ (by decide +kernel)) ggX3_take_X3_turnAll
theorem dX3_take_0 : decode cX3_take 0 = .ok (.aload_n 0, 1) := by decide +kernel
theorem dX3_take_1 : decode cX3_take 1 = .ok (.iconst 0, 1) := by decide +kernel
theorem dX3_take_2 : decode cX3_take 2 = .ok (.putfield 29, 3) := by decide +kernel
theorem dX3_take_5 : decode cX3_take 5 = .ok (.aload_n 0, 1) := by decide +kernel
theorem dX3_take_6 : decode cX3_take 6 = .ok (.iload_n 1, 1) := by decide +kernel
theorem dX3_take_7 : decode cX3_take 7 = .ok (.invokevirtual 75, 3) := by decide +kernel
theorem dX3_take_10 : decode cX3_take 10 = .ok (.ifCond .eq 11, 3) := by decide +kernel
theorem dX3_take_13 : decode cX3_take 13 = .ok (.aload_n 0, 1) := by decide +kernel
theorem dX3_take_14 : decode cX3_take 14 = .ok (.iload_n 2, 1) := by decide +kernel
theorem dX3_take_15 : decode cX3_take 15 = .ok (.invokevirtual 79, 3) := by decide +kernel
theorem dX3_take_18 : decode cX3_take 18 = .ok (.ifCond .ne 9, 3) := by decide +kernel
theorem dX3_take_21 : decode cX3_take 21 = .ok (.aload_n 0, 1) := by decide +kernel
theorem dX3_take_22 : decode cX3_take 22 = .ok (.iconst 1, 1) := by decide +kernel
theorem dX3_take_23 : decode cX3_take 23 = .ok (.invokevirtual 46, 3) := by decide +kernel
theorem dX3_take_26 : decode cX3_take 26 = .ok (.ireturn, 1) := by decide +kernel
theorem dX3_take_27 : decode cX3_take 27 = .ok (.aload_n 0, 1) := by decide +kernel
theorem dX3_take_28 : decode cX3_take 28 = .ok (.iload_n 1, 1) := by decide +kernel
theorem dX3_take_29 : decode cX3_take 29 = .ok (.iload_n 2, 1) := by decide +kernel
theorem dX3_take_30 : decode cX3_take 30 = .ok (.invokevirtual 82, 3) := by decide +kernel
theorem dX3_take_33 : decode cX3_take 33 = .ok (.ifCond .ne 9, 3) := by decide +kernel
theorem dX3_take_36 : decode cX3_take 36 = .ok (.aload_n 0, 1) := by decide +kernel
theorem dX3_take_37 : decode cX3_take 37 = .ok (.iconst 2, 1) := by decide +kernel
theorem dX3_take_38 : decode cX3_take 38 = .ok (.invokevirtual 46, 3) := by decide +kernel
theorem dX3_take_41 : decode cX3_take 41 = .ok (.ireturn, 1) := by decide +kernel
theorem dX3_take_42 : decode cX3_take 42 = .ok (.aload_n 0, 1) := by decide +kernel
theorem dX3_take_43 : decode cX3_take 43 = .ok (.iload_n 1, 1) := by decide +kernel
theorem dX3_take_44 : decode cX3_take 44 = .ok (.bipush 7, 2) := by decide +kernel
theorem dX3_take_46 : decode cX3_take 46 = .ok (.aload_n 0, 1) := by decide +kernel
theorem dX3_take_47 : decode cX3_take 47 = .ok (.iload_n 1, 1) := by decide +kernel
theorem dX3_take_48 : decode cX3_take 48 = .ok (.bipush 7, 2) := by decide +kernel
theorem dX3_take_50 : decode cX3_take 50 = .ok (.invokevirtual 85, 3) := by decide +kernel
theorem dX3_take_53 : decode cX3_take 53 = .ok (.iconst 1, 1) := by decide +kernel
theorem dX3_take_54 : decode cX3_take 54 = .ok (.iadd, 1) := by decide +kernel
theorem dX3_take_55 : decode cX3_take 55 = .ok (.invokevirtual 88, 3) := by decide +kernel
theorem dX3_take_58 : decode cX3_take 58 = .ok (.aload_n 0, 1) := by decide +kernel
theorem dX3_take_59 : decode cX3_take 59 = .ok (.iload_n 1, 1) := by decide +kernel
theorem dX3_take_60 : decode cX3_take 60 = .ok (.iload_n 2, 1) := by decide +kernel
theorem dX3_take_61 : decode cX3_take 61 = .ok (.invokevirtual 92, 3) := by decide +kernel
theorem dX3_take_64 : decode cX3_take 64 = .ok (.ireturn, 1) := by decide +kernel
set_option maxRecDepth 20000 in
theorem ggX3_blink_X3_isDoll : GoodIn wsX3_blink wsX3_isDoll := goodIn_r _ [6, 7, 8, 9, 5, 10, 20, 21, 22, 23, 24, 25, 26, 27, 28] (by decide +kernel) (by decide +kernel)
set_option maxRecDepth 20000 in
theorem gX3_blink_X3_isDoll : GoodIn wsX3_blink (wsV RX3 75 RX3 yX3_isDoll wsX3_isDoll) := goodIn_app (goodIn_of _ (by decide +kernel)) ggX3_blink_X3_isDoll
set_option maxRecDepth 20000 in
theorem ggX3_blink_X3_isIn : GoodIn wsX3_blink wsX3_isIn := goodIn_r _ [10] (by decide +kernel) (by decide +kernel)
set_option maxRecDepth 20000 in
theorem gX3_blink_X3_isIn : GoodIn wsX3_blink (va_wsS RX3 35 yX3_isIn wsX3_isIn) := goodIn_app (goodIn_of _ (by decide +kernel)) ggX3_blink_X3_isIn
set_option maxRecDepth 20000 in
theorem ggX3_blink_X3_ro : GoodIn wsX3_blink wsX3_ro := goodIn_r _ [14, 15, 20, 21, 22, 23, 24, 25, 26, 27, 28] (by decide +kernel) (by decide +kernel)
set_option maxRecDepth 20000 in
theorem gX3_blink_X3_ro : GoodIn wsX3_blink (wsV RX3 85 RX3 yX3_ro wsX3_ro) := goodIn_app (goodIn_of _ (by decide +kernel)) ggX3_blink_X3_ro
set_option maxRecDepth 20000 in
theorem ggX3_blink_X3_put : GoodIn wsX3_blink wsX3_put := goodIn_r _ [19, 15, 20, 21, 22, 23, 24, 25, 26, 27, 28] (by decide +kernel) (by decide +kernel)
set_option maxRecDepth 20000 in
theorem gX3_blink_X3_put : GoodIn wsX3_blink (wsV RX3 88 RX3 yX3_put wsX3_put) := goodIn_app (goodIn_of _ (by decide +kernel)) ggX3_blink_X3_put
theorem dX3_blink_0 : decode cX3_blink 0 = .ok (.aload_n 0, 1) := by decide +kernel
theorem dX3_blink_1 : decode cX3_blink 1 = .ok (.aload_n 0, 1) := by decide +kernel
theorem dX3_blink_2 : decode cX3_blink 2 = .ok (.iload_n 1, 1) := by decide +kernel
theorem dX3_blink_3 : decode cX3_blink 3 = .ok (.invokevirtual 75, 3) := by decide +kernel
theorem dX3_blink_6 : decode cX3_blink 6 = .ok (.ifCond .eq 12, 3) := by decide +kernel
theorem dX3_blink_9 : decode cX3_blink 9 = .ok (.iload_n 2, 1) := by decide +kernel
theorem dX3_blink_10 : decode cX3_blink 10 = .ok (.iconst 0, 1) := by decide +kernel
theorem dX3_blink_11 : decode cX3_blink 11 = .ok (.iconst 1, 1) := by decide +kernel
theorem dX3_blink_12 : decode cX3_blink 12 = .ok (.invokestatic 35, 3) := by decide +kernel
theorem dX3_blink_15 : decode cX3_blink 15 = .ok (.ifCond .ne 7, 3) := by decide +kernel
theorem dX3_blink_18 : decode cX3_blink 18 = .ok (.iconst 1, 1) := by decide +kernel
theorem dX3_blink_19 : decode cX3_blink 19 = .ok (.goto 21, 3) := by decide +kernel
theorem dX3_blink_22 : decode cX3_blink 22 = .ok (.aload_n 0, 1) := by decide +kernel
theorem dX3_blink_23 : decode cX3_blink 23 = .ok (.iload_n 1, 1) := by decide +kernel
theorem dX3_blink_24 : decode cX3_blink 24 = .ok (.iconst 2, 1) := by decide +kernel
theorem dX3_blink_25 : decode cX3_blink 25 = .ok (.iload_n 2, 1) := by decide +kernel
theorem dX3_blink_26 : decode cX3_blink 26 = .ok (.iadd, 1) := by decide +kernel
theorem dX3_blink_27 : decode cX3_blink 27 = .ok (.invokevirtual 85, 3) := by decide +kernel
theorem dX3_blink_30 : decode cX3_blink 30 = .ok (.bipush 9, 2) := by decide +kernel
theorem dX3_blink_32 : decode cX3_blink 32 = .ok (.if_icmp .ne 7, 3) := by decide +kernel
theorem dX3_blink_35 : decode cX3_blink 35 = .ok (.iconst 2, 1) := by decide +kernel
theorem dX3_blink_36 : decode cX3_blink 36 = .ok (.goto 4, 3) := by decide +kernel
theorem dX3_blink_39 : decode cX3_blink 39 = .ok (.iconst 0, 1) := by decide +kernel
theorem dX3_blink_40 : decode cX3_blink 40 = .ok (.putfield 29, 3) := by decide +kernel
theorem dX3_blink_43 : decode cX3_blink 43 = .ok (.aload_n 0, 1) := by decide +kernel
theorem dX3_blink_44 : decode cX3_blink 44 = .ok (.getfield 29, 3) := by decide +kernel
theorem dX3_blink_47 : decode cX3_blink 47 = .ok (.ifCond .eq 5, 3) := by decide +kernel
theorem dX3_blink_50 : decode cX3_blink 50 = .ok (.iconst 0, 1) := by decide +kernel
theorem dX3_blink_51 : decode cX3_blink 51 = .ok (.ireturn, 1) := by decide +kernel
theorem dX3_blink_52 : decode cX3_blink 52 = .ok (.aload_n 0, 1) := by decide +kernel
theorem dX3_blink_53 : decode cX3_blink 53 = .ok (.iload_n 1, 1) := by decide +kernel
theorem dX3_blink_54 : decode cX3_blink 54 = .ok (.iconst 0, 1) := by decide +kernel
theorem dX3_blink_55 : decode cX3_blink 55 = .ok (.iload_n 2, 1) := by decide +kernel
theorem dX3_blink_56 : decode cX3_blink 56 = .ok (.iadd, 1) := by decide +kernel
theorem dX3_blink_57 : decode cX3_blink 57 = .ok (.iconst 1, 1) := by decide +kernel
theorem dX3_blink_58 : decode cX3_blink 58 = .ok (.aload_n 0, 1) := by decide +kernel
theorem dX3_blink_59 : decode cX3_blink 59 = .ok (.iload_n 1, 1) := by decide +kernel
theorem dX3_blink_60 : decode cX3_blink 60 = .ok (.iconst 0, 1) := by decide +kernel
theorem dX3_blink_61 : decode cX3_blink 61 = .ok (.iload_n 2, 1) := by decide +kernel
theorem dX3_blink_62 : decode cX3_blink 62 = .ok (.iadd, 1) := by decide +kernel
theorem dX3_blink_63 : decode cX3_blink 63 = .ok (.invokevirtual 85, 3) := by decide +kernel
theorem dX3_blink_66 : decode cX3_blink 66 = .ok (.isub, 1) := by decide +kernel
theorem dX3_blink_67 : decode cX3_blink 67 = .ok (.invokevirtual 88, 3) := by decide +kernel
theorem dX3_blink_70 : decode cX3_blink 70 = .ok (.aload_n 0, 1) := by decide +kernel
theorem dX3_blink_71 : decode cX3_blink 71 = .ok (.iload_n 1, 1) := by decide +kernel
theorem dX3_blink_72 : decode cX3_blink 72 = .ok (.iconst 0, 1) := by decide +kernel
theorem dX3_blink_73 : decode cX3_blink 73 = .ok (.iload_n 2, 1) := by decide +kernel
theorem dX3_blink_74 : decode cX3_blink 74 = .ok (.iadd, 1) := by decide +kernel
theorem dX3_blink_75 : decode cX3_blink 75 = .ok (.invokevirtual 85, 3) := by decide +kernel
theorem dX3_blink_78 : decode cX3_blink 78 = .ok (.iconst 1, 1) := by decide +kernel
theorem dX3_blink_79 : decode cX3_blink 79 = .ok (.if_icmp .ne 7, 3) := by decide +kernel
theorem dX3_blink_82 : decode cX3_blink 82 = .ok (.iconst 1, 1) := by decide +kernel
theorem dX3_blink_83 : decode cX3_blink 83 = .ok (.goto 4, 3) := by decide +kernel
theorem dX3_blink_86 : decode cX3_blink 86 = .ok (.iconst 0, 1) := by decide +kernel
theorem dX3_blink_87 : decode cX3_blink 87 = .ok (.ireturn, 1) := by decide +kernel
set_option maxRecDepth 20000 in
theorem ggX3_dress_X3_isDoll : GoodIn wsX3_dress wsX3_isDoll := goodIn_r _ [11, 12, 13, 14, 10, 15, 29, 30, 31, 32, 33, 34, 35, 36, 37] (by decide +kernel) (by decide +kernel)
set_option maxRecDepth 20000 in
theorem gX3_dress_X3_isDoll : GoodIn wsX3_dress (wsV RX3 75 RX3 yX3_isDoll wsX3_isDoll) := goodIn_app (goodIn_of _ (by decide +kernel)) ggX3_dress_X3_isDoll
set_option maxRecDepth 20000 in
theorem ggX3_dress_X3_fail : GoodIn wsX3_dress wsX3_fail := goodIn_r _ [19, 1, 29, 30, 31, 32, 33, 34, 35, 36, 37] (by decide +kernel) (by decide +kernel)
set_option maxRecDepth 20000 in
theorem gX3_dress_X3_fail : GoodIn wsX3_dress (wsV RX3 46 RX3 yX3_fail wsX3_fail) := goodIn_app (goodIn_of _ (by decide +kernel)) ggX3_dress_X3_fail
set_option maxRecDepth 20000 in
theorem ggX3_dress_X3_isIn : GoodIn wsX3_dress wsX3_isIn := goodIn_r _ [15] (by decide +kernel) (by decide +kernel)
set_option maxRecDepth 20000 in
theorem gX3_dress_X3_isIn : GoodIn wsX3_dress (va_wsS RX3 35 yX3_isIn wsX3_isIn) := goodIn_app (goodIn_of _ (by decide +kernel)) ggX3_dress_X3_isIn
set_option maxRecDepth 20000 in
theorem ggX3_dress_X3_ro : GoodIn wsX3_dress wsX3_ro := goodIn_r _ [23, 24, 29, 30, 31, 32, 33, 34, 35, 36, 37] (by decide +kernel) (by decide +kernel)
set_option maxRecDepth 20000 in
theorem gX3_dress_X3_ro : GoodIn wsX3_dress (wsV RX3 85 RX3 yX3_ro wsX3_ro) := goodIn_app (goodIn_of _ (by decide +kernel)) ggX3_dress_X3_ro
set_option maxRecDepth 20000 in
theorem ggX3_dress_X3_put : GoodIn wsX3_dress wsX3_put := goodIn_r _ [28, 24, 29, 30, 31, 32, 33, 34, 35, 36, 37] (by decide +kernel) (by decide +kernel)
set_option maxRecDepth 20000 in
theorem gX3_dress_X3_put : GoodIn wsX3_dress (wsV RX3 88 RX3 yX3_put wsX3_put) := goodIn_app (goodIn_of _ (by decide +kernel)) ggX3_dress_X3_put
theorem dX3_dress_0 : decode cX3_dress 0 = .ok (.aload_n 0, 1) := by decide +kernel
theorem dX3_dress_1 : decode cX3_dress 1 = .ok (.iconst 0, 1) := by decide +kernel
theorem dX3_dress_2 : decode cX3_dress 2 = .ok (.putfield 29, 3) := by decide +kernel
theorem dX3_dress_5 : decode cX3_dress 5 = .ok (.aload_n 0, 1) := by decide +kernel
theorem dX3_dress_6 : decode cX3_dress 6 = .ok (.iload_n 1, 1) := by decide +kernel
theorem dX3_dress_7 : decode cX3_dress 7 = .ok (.invokevirtual 75, 3) := by decide +kernel
theorem dX3_dress_10 : decode cX3_dress 10 = .ok (.ifCond .ne 9, 3) := by decide +kernel
theorem dX3_dress_13 : decode cX3_dress 13 = .ok (.aload_n 0, 1) := by decide +kernel
theorem dX3_dress_14 : decode cX3_dress 14 = .ok (.iconst 1, 1) := by decide +kernel
theorem dX3_dress_15 : decode cX3_dress 15 = .ok (.invokevirtual 46, 3) := by decide +kernel
theorem dX3_dress_18 : decode cX3_dress 18 = .ok (.ireturn, 1) := by decide +kernel
theorem dX3_dress_19 : decode cX3_dress 19 = .ok (.iload_n 2, 1) := by decide +kernel
theorem dX3_dress_20 : decode cX3_dress 20 = .ok (.iconst 1, 1) := by decide +kernel
theorem dX3_dress_21 : decode cX3_dress 21 = .ok (.bipush 9, 2) := by decide +kernel
theorem dX3_dress_23 : decode cX3_dress 23 = .ok (.invokestatic 35, 3) := by decide +kernel
theorem dX3_dress_26 : decode cX3_dress 26 = .ok (.ifCond .eq 13, 3) := by decide +kernel
theorem dX3_dress_29 : decode cX3_dress 29 = .ok (.iload_n 3, 1) := by decide +kernel
theorem dX3_dress_30 : decode cX3_dress 30 = .ok (.iconst 0, 1) := by decide +kernel
theorem dX3_dress_31 : decode cX3_dress 31 = .ok (.bipush 12, 2) := by decide +kernel
theorem dX3_dress_33 : decode cX3_dress 33 = .ok (.invokestatic 35, 3) := by decide +kernel
theorem dX3_dress_36 : decode cX3_dress 36 = .ok (.ifCond .ne 9, 3) := by decide +kernel
theorem dX3_dress_39 : decode cX3_dress 39 = .ok (.aload_n 0, 1) := by decide +kernel
theorem dX3_dress_40 : decode cX3_dress 40 = .ok (.iconst 2, 1) := by decide +kernel
theorem dX3_dress_41 : decode cX3_dress 41 = .ok (.invokevirtual 46, 3) := by decide +kernel
theorem dX3_dress_44 : decode cX3_dress 44 = .ok (.ireturn, 1) := by decide +kernel
theorem dX3_dress_45 : decode cX3_dress 45 = .ok (.iload_n 3, 1) := by decide +kernel
theorem dX3_dress_46 : decode cX3_dress 46 = .ok (.iload_n 2, 1) := by decide +kernel
theorem dX3_dress_47 : decode cX3_dress 47 = .ok (.if_icmp .lt 13, 3) := by decide +kernel
theorem dX3_dress_50 : decode cX3_dress 50 = .ok (.aload_n 0, 1) := by decide +kernel
theorem dX3_dress_51 : decode cX3_dress 51 = .ok (.getfield 23, 3) := by decide +kernel
theorem dX3_dress_54 : decode cX3_dress 54 = .ok (.iconst 2, 1) := by decide +kernel
theorem dX3_dress_55 : decode cX3_dress 55 = .ok (.iaload, 1) := by decide +kernel
theorem dX3_dress_56 : decode cX3_dress 56 = .ok (.iload_n 3, 1) := by decide +kernel
theorem dX3_dress_57 : decode cX3_dress 57 = .ok (.if_icmp .ge 9, 3) := by decide +kernel
theorem dX3_dress_60 : decode cX3_dress 60 = .ok (.aload_n 0, 1) := by decide +kernel
theorem dX3_dress_61 : decode cX3_dress 61 = .ok (.iconst 3, 1) := by decide +kernel
theorem dX3_dress_62 : decode cX3_dress 62 = .ok (.invokevirtual 46, 3) := by decide +kernel
theorem dX3_dress_65 : decode cX3_dress 65 = .ok (.ireturn, 1) := by decide +kernel
theorem dX3_dress_66 : decode cX3_dress 66 = .ok (.aload_n 0, 1) := by decide +kernel
theorem dX3_dress_67 : decode cX3_dress 67 = .ok (.getfield 23, 3) := by decide +kernel
theorem dX3_dress_70 : decode cX3_dress 70 = .ok (.iconst 2, 1) := by decide +kernel
theorem dX3_dress_71 : decode cX3_dress 71 = .ok (.bipush 99, 2) := by decide +kernel
theorem dX3_dress_73 : decode cX3_dress 73 = .ok (.aload_n 0, 1) := by decide +kernel
theorem dX3_dress_74 : decode cX3_dress 74 = .ok (.getfield 23, 3) := by decide +kernel
theorem dX3_dress_77 : decode cX3_dress 77 = .ok (.iconst 2, 1) := by decide +kernel
theorem dX3_dress_78 : decode cX3_dress 78 = .ok (.iaload, 1) := by decide +kernel
theorem dX3_dress_79 : decode cX3_dress 79 = .ok (.iload_n 3, 1) := by decide +kernel
theorem dX3_dress_80 : decode cX3_dress 80 = .ok (.isub, 1) := by decide +kernel
theorem dX3_dress_81 : decode cX3_dress 81 = .ok (.aload_n 0, 1) := by decide +kernel
theorem dX3_dress_82 : decode cX3_dress 82 = .ok (.iload_n 1, 1) := by decide +kernel
theorem dX3_dress_83 : decode cX3_dress 83 = .ok (.bipush 6, 2) := by decide +kernel
theorem dX3_dress_85 : decode cX3_dress 85 = .ok (.invokevirtual 85, 3) := by decide +kernel
theorem dX3_dress_88 : decode cX3_dress 88 = .ok (.iadd, 1) := by decide +kernel
theorem dX3_dress_89 : decode cX3_dress 89 = .ok (.invokestatic 64, 3) := by decide +kernel
theorem dX3_dress_92 : decode cX3_dress 92 = .ok (.iastore, 1) := by decide +kernel
theorem dX3_dress_93 : decode cX3_dress 93 = .ok (.aload_n 0, 1) := by decide +kernel
theorem dX3_dress_94 : decode cX3_dress 94 = .ok (.iload_n 1, 1) := by decide +kernel
theorem dX3_dress_95 : decode cX3_dress 95 = .ok (.iconst 5, 1) := by decide +kernel
theorem dX3_dress_96 : decode cX3_dress 96 = .ok (.iload_n 2, 1) := by decide +kernel
theorem dX3_dress_97 : decode cX3_dress 97 = .ok (.invokevirtual 88, 3) := by decide +kernel
theorem dX3_dress_100 : decode cX3_dress 100 = .ok (.aload_n 0, 1) := by decide +kernel
theorem dX3_dress_101 : decode cX3_dress 101 = .ok (.iload_n 1, 1) := by decide +kernel
theorem dX3_dress_102 : decode cX3_dress 102 = .ok (.bipush 6, 2) := by decide +kernel
theorem dX3_dress_104 : decode cX3_dress 104 = .ok (.iload_n 3, 1) := by decide +kernel
theorem dX3_dress_105 : decode cX3_dress 105 = .ok (.invokevirtual 88, 3) := by decide +kernel
theorem dX3_dress_108 : decode cX3_dress 108 = .ok (.aload_n 0, 1) := by decide +kernel
theorem dX3_dress_109 : decode cX3_dress 109 = .ok (.getfield 23, 3) := by decide +kernel
theorem dX3_dress_112 : decode cX3_dress 112 = .ok (.iconst 2, 1) := by decide +kernel
theorem dX3_dress_113 : decode cX3_dress 113 = .ok (.iaload, 1) := by decide +kernel
theorem dX3_dress_114 : decode cX3_dress 114 = .ok (.ireturn, 1) := by decide +kernel
set_option maxRecDepth 20000 in
theorem ggX3_bring_X3_isIn : GoodIn wsX3_bring wsX3_isIn := goodIn_r _ [10] (by decide +kernel) (by decide +kernel)
set_option maxRecDepth 20000 in
theorem gX3_bring_X3_isIn : GoodIn wsX3_bring (va_wsS RX3 35 yX3_isIn wsX3_isIn) := goodIn_app (goodIn_of _ (by decide +kernel)) ggX3_bring_X3_isIn
set_option maxRecDepth 20000 in
theorem ggX3_bring_X3_fail : GoodIn wsX3_bring wsX3_fail := goodIn_r _ [14, 1, 15, 16, 17, 18, 19, 20, 21, 22, 23] (by decide +kernel) (by decide +kernel)
set_option maxRecDepth 20000 in
theorem gX3_bring_X3_fail : GoodIn wsX3_bring (wsV RX3 46 RX3 yX3_fail wsX3_fail) := goodIn_app (goodIn_of _ (by decide +kernel)) ggX3_bring_X3_fail
theorem dX3_bring_0 : decode cX3_bring 0 = .ok (.aload_n 0, 1) := by decide +kernel
theorem dX3_bring_1 : decode cX3_bring 1 = .ok (.iconst 0, 1) := by decide +kernel
theorem dX3_bring_2 : decode cX3_bring 2 = .ok (.putfield 29, 3) := by decide +kernel
theorem dX3_bring_5 : decode cX3_bring 5 = .ok (.iload_n 1, 1) := by decide +kernel
theorem dX3_bring_6 : decode cX3_bring 6 = .ok (.iconst 0, 1) := by decide +kernel
theorem dX3_bring_7 : decode cX3_bring 7 = .ok (.iconst 4, 1) := by decide +kernel
theorem dX3_bring_8 : decode cX3_bring 8 = .ok (.invokestatic 35, 3) := by decide +kernel
theorem dX3_bring_11 : decode cX3_bring 11 = .ok (.ifCond .eq 13, 3) := by decide +kernel
theorem dX3_bring_14 : decode cX3_bring 14 = .ok (.iload_n 2, 1) := by decide +kernel
theorem dX3_bring_15 : decode cX3_bring 15 = .ok (.iconst 1, 1) := by decide +kernel
theorem dX3_bring_16 : decode cX3_bring 16 = .ok (.bipush 99, 2) := by decide +kernel
theorem dX3_bring_18 : decode cX3_bring 18 = .ok (.invokestatic 35, 3) := by decide +kernel
theorem dX3_bring_21 : decode cX3_bring 21 = .ok (.ifCond .ne 9, 3) := by decide +kernel
theorem dX3_bring_24 : decode cX3_bring 24 = .ok (.aload_n 0, 1) := by decide +kernel
theorem dX3_bring_25 : decode cX3_bring 25 = .ok (.iconst 1, 1) := by decide +kernel
theorem dX3_bring_26 : decode cX3_bring 26 = .ok (.invokevirtual 46, 3) := by decide +kernel
theorem dX3_bring_29 : decode cX3_bring 29 = .ok (.ireturn, 1) := by decide +kernel
theorem dX3_bring_30 : decode cX3_bring 30 = .ok (.aload_n 0, 1) := by decide +kernel
theorem dX3_bring_31 : decode cX3_bring 31 = .ok (.getfield 23, 3) := by decide +kernel
theorem dX3_bring_34 : decode cX3_bring 34 = .ok (.iload_n 1, 1) := by decide +kernel
theorem dX3_bring_35 : decode cX3_bring 35 = .ok (.bipush 99, 2) := by decide +kernel
theorem dX3_bring_37 : decode cX3_bring 37 = .ok (.aload_n 0, 1) := by decide +kernel
theorem dX3_bring_38 : decode cX3_bring 38 = .ok (.getfield 23, 3) := by decide +kernel
theorem dX3_bring_41 : decode cX3_bring 41 = .ok (.iload_n 1, 1) := by decide +kernel
theorem dX3_bring_42 : decode cX3_bring 42 = .ok (.iaload, 1) := by decide +kernel
theorem dX3_bring_43 : decode cX3_bring 43 = .ok (.iload_n 2, 1) := by decide +kernel
theorem dX3_bring_44 : decode cX3_bring 44 = .ok (.iadd, 1) := by decide +kernel
theorem dX3_bring_45 : decode cX3_bring 45 = .ok (.invokestatic 64, 3) := by decide +kernel
theorem dX3_bring_48 : decode cX3_bring 48 = .ok (.iastore, 1) := by decide +kernel
theorem dX3_bring_49 : decode cX3_bring 49 = .ok (.aload_n 0, 1) := by decide +kernel
theorem dX3_bring_50 : decode cX3_bring 50 = .ok (.getfield 23, 3) := by decide +kernel
theorem dX3_bring_53 : decode cX3_bring 53 = .ok (.iload_n 1, 1) := by decide +kernel
theorem dX3_bring_54 : decode cX3_bring 54 = .ok (.iaload, 1) := by decide +kernel
theorem dX3_bring_55 : decode cX3_bring 55 = .ok (.ireturn, 1) := by decide +kernel
set_option maxRecDepth 20000 in
theorem ggX3_setMoths_X3_isIn : GoodIn wsX3_setMoths wsX3_isIn := goodIn_r _ [6] (by decide +kernel) (by decide +kernel)
set_option maxRecDepth 20000 in
theorem gX3_setMoths_X3_isIn : GoodIn wsX3_setMoths (va_wsS RX3 35 yX3_isIn wsX3_isIn) := goodIn_app (goodIn_of _ (by decide +kernel)) ggX3_setMoths_X3_isIn
set_option maxRecDepth 20000 in
theorem ggX3_setMoths_X3_fail : GoodIn wsX3_setMoths wsX3_fail := goodIn_r _ [10, 1, 11, 12, 13, 14, 15, 16, 17, 18, 19] (by decide +kernel) (by decide +kernel)
set_option maxRecDepth 20000 in
theorem gX3_setMoths_X3_fail : GoodIn wsX3_setMoths (wsV RX3 46 RX3 yX3_fail wsX3_fail) := goodIn_app (goodIn_of _ (by decide +kernel)) ggX3_setMoths_X3_fail
theorem dX3_setMoths_0 : decode cX3_setMoths 0 = .ok (.aload_n 0, 1) := by decide +kernel
theorem dX3_setMoths_1 : decode cX3_setMoths 1 = .ok (.iconst 0, 1) := by decide +kernel
theorem dX3_setMoths_2 : decode cX3_setMoths 2 = .ok (.putfield 29, 3) := by decide +kernel
theorem dX3_setMoths_5 : decode cX3_setMoths 5 = .ok (.iload_n 1, 1) := by decide +kernel
theorem dX3_setMoths_6 : decode cX3_setMoths 6 = .ok (.iconst 0, 1) := by decide +kernel
theorem dX3_setMoths_7 : decode cX3_setMoths 7 = .ok (.iconst 3, 1) := by decide +kernel
theorem dX3_setMoths_8 : decode cX3_setMoths 8 = .ok (.invokestatic 35, 3) := by decide +kernel
theorem dX3_setMoths_11 : decode cX3_setMoths 11 = .ok (.ifCond .ne 9, 3) := by decide +kernel
theorem dX3_setMoths_14 : decode cX3_setMoths 14 = .ok (.aload_n 0, 1) := by decide +kernel
theorem dX3_setMoths_15 : decode cX3_setMoths 15 = .ok (.iconst 1, 1) := by decide +kernel
theorem dX3_setMoths_16 : decode cX3_setMoths 16 = .ok (.invokevirtual 46, 3) := by decide +kernel
theorem dX3_setMoths_19 : decode cX3_setMoths 19 = .ok (.ireturn, 1) := by decide +kernel
theorem dX3_setMoths_20 : decode cX3_setMoths 20 = .ok (.aload_n 0, 1) := by decide +kernel
theorem dX3_setMoths_21 : decode cX3_setMoths 21 = .ok (.getfield 7, 3) := by decide +kernel
theorem dX3_setMoths_24 : decode cX3_setMoths 24 = .ok (.istore_n 2, 1) := by decide +kernel
theorem dX3_setMoths_25 : decode cX3_setMoths 25 = .ok (.aload_n 0, 1) := by decide +kernel
theorem dX3_setMoths_26 : decode cX3_setMoths 26 = .ok (.iload_n 1, 1) := by decide +kernel
theorem dX3_setMoths_27 : decode cX3_setMoths 27 = .ok (.putfield 7, 3) := by decide +kernel
theorem dX3_setMoths_30 : decode cX3_setMoths 30 = .ok (.iload_n 2, 1) := by decide +kernel
theorem dX3_setMoths_31 : decode cX3_setMoths 31 = .ok (.ireturn, 1) := by decide +kernel
set_option maxRecDepth 20000 in
theorem ggX3_mend_X3_isDoll : GoodIn wsX3_mend wsX3_isDoll := goodIn_r _ [8, 9, 10, 11, 7, 12, 29, 30, 31, 32, 33, 34, 35, 36, 37] (by decide +kernel) (by decide +kernel)
set_option maxRecDepth 20000 in
theorem gX3_mend_X3_isDoll : GoodIn wsX3_mend (wsV RX3 75 RX3 yX3_isDoll wsX3_isDoll) := goodIn_app (goodIn_of _ (by decide +kernel)) ggX3_mend_X3_isDoll
set_option maxRecDepth 20000 in
theorem ggX3_mend_X3_isIn : GoodIn wsX3_mend wsX3_isIn := goodIn_r _ [12] (by decide +kernel) (by decide +kernel)
set_option maxRecDepth 20000 in
theorem gX3_mend_X3_isIn : GoodIn wsX3_mend (va_wsS RX3 35 yX3_isIn wsX3_isIn) := goodIn_app (goodIn_of _ (by decide +kernel)) ggX3_mend_X3_isIn
set_option maxRecDepth 20000 in
theorem ggX3_mend_X3_fail : GoodIn wsX3_mend wsX3_fail := goodIn_r _ [16, 1, 29, 30, 31, 32, 33, 34, 35, 36, 37] (by decide +kernel) (by decide +kernel)
set_option maxRecDepth 20000 in
theorem gX3_mend_X3_fail : GoodIn wsX3_mend (wsV RX3 46 RX3 yX3_fail wsX3_fail) := goodIn_app (goodIn_of _ (by decide +kernel)) ggX3_mend_X3_fail
set_option maxRecDepth 20000 in
theorem ggX3_mend_X3_ro : GoodIn wsX3_mend wsX3_ro := goodIn_r _ [20, 21, 29, 30, 31, 32, 33, 34, 35, 36, 37] (by decide +kernel) (by decide +kernel)
set_option maxRecDepth 20000 in
theorem gX3_mend_X3_ro : GoodIn wsX3_mend (wsV RX3 85 RX3 yX3_ro wsX3_ro) := goodIn_app (goodIn_of _ (by decide +kernel)) ggX3_mend_X3_ro
set_option maxRecDepth 20000 in
theorem ggX3_mend_X3_at : GoodIn wsX3_mend wsX3_at := goodIn_r _ [24] (by decide +kernel) (by decide +kernel)
set_option maxRecDepth 20000 in
theorem gX3_mend_X3_at : GoodIn wsX3_mend (va_wsS RX3 42 yX3_at wsX3_at) := goodIn_app (goodIn_of _ (by decide +kernel)) ggX3_mend_X3_at
set_option maxRecDepth 20000 in
theorem ggX3_mend_X3_put : GoodIn wsX3_mend wsX3_put := goodIn_r _ [28, 21, 29, 30, 31, 32, 33, 34, 35, 36, 37] (by decide +kernel) (by decide +kernel)
set_option maxRecDepth 20000 in
theorem gX3_mend_X3_put : GoodIn wsX3_mend (wsV RX3 88 RX3 yX3_put wsX3_put) := goodIn_app (goodIn_of _ (by decide +kernel)) ggX3_mend_X3_put
theorem dX3_mend_0 : decode cX3_mend 0 = .ok (.aload_n 0, 1) := by decide +kernel
theorem dX3_mend_1 : decode cX3_mend 1 = .ok (.iconst 0, 1) := by decide +kernel
theorem dX3_mend_2 : decode cX3_mend 2 = .ok (.putfield 29, 3) := by decide +kernel
theorem dX3_mend_5 : decode cX3_mend 5 = .ok (.aload_n 0, 1) := by decide +kernel
theorem dX3_mend_6 : decode cX3_mend 6 = .ok (.iload_n 1, 1) := by decide +kernel
theorem dX3_mend_7 : decode cX3_mend 7 = .ok (.invokevirtual 75, 3) := by decide +kernel
theorem dX3_mend_10 : decode cX3_mend 10 = .ok (.ifCond .eq 12, 3) := by decide +kernel
theorem dX3_mend_13 : decode cX3_mend 13 = .ok (.iload_n 3, 1) := by decide +kernel
theorem dX3_mend_14 : decode cX3_mend 14 = .ok (.iconst 0, 1) := by decide +kernel
theorem dX3_mend_15 : decode cX3_mend 15 = .ok (.iconst 5, 1) := by decide +kernel
theorem dX3_mend_16 : decode cX3_mend 16 = .ok (.invokestatic 35, 3) := by decide +kernel
theorem dX3_mend_19 : decode cX3_mend 19 = .ok (.ifCond .ne 9, 3) := by decide +kernel
theorem dX3_mend_22 : decode cX3_mend 22 = .ok (.aload_n 0, 1) := by decide +kernel
theorem dX3_mend_23 : decode cX3_mend 23 = .ok (.iconst 1, 1) := by decide +kernel
theorem dX3_mend_24 : decode cX3_mend 24 = .ok (.invokevirtual 46, 3) := by decide +kernel
theorem dX3_mend_27 : decode cX3_mend 27 = .ok (.ireturn, 1) := by decide +kernel
theorem dX3_mend_28 : decode cX3_mend 28 = .ok (.iload_n 2, 1) := by decide +kernel
theorem dX3_mend_29 : decode cX3_mend 29 = .ok (.iconst 0, 1) := by decide +kernel
theorem dX3_mend_30 : decode cX3_mend 30 = .ok (.iconst 4, 1) := by decide +kernel
theorem dX3_mend_31 : decode cX3_mend 31 = .ok (.invokestatic 35, 3) := by decide +kernel
theorem dX3_mend_34 : decode cX3_mend 34 = .ok (.ifCond .ne 9, 3) := by decide +kernel
theorem dX3_mend_37 : decode cX3_mend 37 = .ok (.aload_n 0, 1) := by decide +kernel
theorem dX3_mend_38 : decode cX3_mend 38 = .ok (.iconst 2, 1) := by decide +kernel
theorem dX3_mend_39 : decode cX3_mend 39 = .ok (.invokevirtual 46, 3) := by decide +kernel
theorem dX3_mend_42 : decode cX3_mend 42 = .ok (.ireturn, 1) := by decide +kernel
theorem dX3_mend_43 : decode cX3_mend 43 = .ok (.aload_n 0, 1) := by decide +kernel
theorem dX3_mend_44 : decode cX3_mend 44 = .ok (.getfield 23, 3) := by decide +kernel
theorem dX3_mend_47 : decode cX3_mend 47 = .ok (.iload_n 2, 1) := by decide +kernel
theorem dX3_mend_48 : decode cX3_mend 48 = .ok (.iaload, 1) := by decide +kernel
theorem dX3_mend_49 : decode cX3_mend 49 = .ok (.ifCond .eq 29, 3) := by decide +kernel
theorem dX3_mend_52 : decode cX3_mend 52 = .ok (.iload_n 2, 1) := by decide +kernel
theorem dX3_mend_53 : decode cX3_mend 53 = .ok (.iconst 2, 1) := by decide +kernel
theorem dX3_mend_54 : decode cX3_mend 54 = .ok (.if_icmp .ne 30, 3) := by decide +kernel
theorem dX3_mend_57 : decode cX3_mend 57 = .ok (.aload_n 0, 1) := by decide +kernel
theorem dX3_mend_58 : decode cX3_mend 58 = .ok (.iload_n 1, 1) := by decide +kernel
theorem dX3_mend_59 : decode cX3_mend 59 = .ok (.iconst 5, 1) := by decide +kernel
theorem dX3_mend_60 : decode cX3_mend 60 = .ok (.invokevirtual 85, 3) := by decide +kernel
theorem dX3_mend_63 : decode cX3_mend 63 = .ok (.ifCond .eq 15, 3) := by decide +kernel
theorem dX3_mend_66 : decode cX3_mend 66 = .ok (.aload_n 0, 1) := by decide +kernel
theorem dX3_mend_67 : decode cX3_mend 67 = .ok (.iload_n 1, 1) := by decide +kernel
theorem dX3_mend_68 : decode cX3_mend 68 = .ok (.bipush 6, 2) := by decide +kernel
theorem dX3_mend_70 : decode cX3_mend 70 = .ok (.invokevirtual 85, 3) := by decide +kernel
theorem dX3_mend_73 : decode cX3_mend 73 = .ok (.bipush 12, 2) := by decide +kernel
theorem dX3_mend_75 : decode cX3_mend 75 = .ok (.if_icmp .ne 9, 3) := by decide +kernel
theorem dX3_mend_78 : decode cX3_mend 78 = .ok (.aload_n 0, 1) := by decide +kernel
theorem dX3_mend_79 : decode cX3_mend 79 = .ok (.iconst 3, 1) := by decide +kernel
theorem dX3_mend_80 : decode cX3_mend 80 = .ok (.invokevirtual 46, 3) := by decide +kernel
theorem dX3_mend_83 : decode cX3_mend 83 = .ok (.ireturn, 1) := by decide +kernel
theorem dX3_mend_84 : decode cX3_mend 84 = .ok (.aload_n 0, 1) := by decide +kernel
theorem dX3_mend_85 : decode cX3_mend 85 = .ok (.getfield 23, 3) := by decide +kernel
theorem dX3_mend_88 : decode cX3_mend 88 = .ok (.iload_n 2, 1) := by decide +kernel
theorem dX3_mend_89 : decode cX3_mend 89 = .ok (.dup2, 1) := by decide +kernel
theorem dX3_mend_90 : decode cX3_mend 90 = .ok (.iaload, 1) := by decide +kernel
theorem dX3_mend_91 : decode cX3_mend 91 = .ok (.iconst 1, 1) := by decide +kernel
theorem dX3_mend_92 : decode cX3_mend 92 = .ok (.isub, 1) := by decide +kernel
theorem dX3_mend_93 : decode cX3_mend 93 = .ok (.iastore, 1) := by decide +kernel
theorem dX3_mend_94 : decode cX3_mend 94 = .ok (.iload_n 2, 1) := by decide +kernel
theorem dX3_mend_95 : decode cX3_mend 95 = .ok (.tableswitch 108 0 3 #[29, 56, 72, 91], 29) := by decide +kernel
theorem dX3_mend_124 : decode cX3_mend 124 = .ok (.aload_n 0, 1) := by decide +kernel
theorem dX3_mend_125 : decode cX3_mend 125 = .ok (.getfield 13, 3) := by decide +kernel
theorem dX3_mend_128 : decode cX3_mend 128 = .ok (.iload_n 1, 1) := by decide +kernel
theorem dX3_mend_129 : decode cX3_mend 129 = .ok (.iload_n 3, 1) := by decide +kernel
theorem dX3_mend_130 : decode cX3_mend 130 = .ok (.iconst 1, 1) := by decide +kernel
theorem dX3_mend_131 : decode cX3_mend 131 = .ok (.invokestatic 42, 3) := by decide +kernel
theorem dX3_mend_134 : decode cX3_mend 134 = .ok (.iconst 0, 1) := by decide +kernel
theorem dX3_mend_135 : decode cX3_mend 135 = .ok (.iastore, 1) := by decide +kernel
theorem dX3_mend_136 : decode cX3_mend 136 = .ok (.aload_n 0, 1) := by decide +kernel
theorem dX3_mend_137 : decode cX3_mend 137 = .ok (.getfield 13, 3) := by decide +kernel
theorem dX3_mend_140 : decode cX3_mend 140 = .ok (.iload_n 1, 1) := by decide +kernel
theorem dX3_mend_141 : decode cX3_mend 141 = .ok (.iload_n 3, 1) := by decide +kernel
theorem dX3_mend_142 : decode cX3_mend 142 = .ok (.iconst 2, 1) := by decide +kernel
theorem dX3_mend_143 : decode cX3_mend 143 = .ok (.invokestatic 42, 3) := by decide +kernel
theorem dX3_mend_146 : decode cX3_mend 146 = .ok (.iconst 0, 1) := by decide +kernel
theorem dX3_mend_147 : decode cX3_mend 147 = .ok (.iastore, 1) := by decide +kernel
theorem dX3_mend_148 : decode cX3_mend 148 = .ok (.goto 62, 3) := by decide +kernel
theorem dX3_mend_151 : decode cX3_mend 151 = .ok (.aload_n 0, 1) := by decide +kernel
theorem dX3_mend_152 : decode cX3_mend 152 = .ok (.getfield 13, 3) := by decide +kernel
theorem dX3_mend_155 : decode cX3_mend 155 = .ok (.iload_n 1, 1) := by decide +kernel
theorem dX3_mend_156 : decode cX3_mend 156 = .ok (.iload_n 3, 1) := by decide +kernel
theorem dX3_mend_157 : decode cX3_mend 157 = .ok (.iconst 2, 1) := by decide +kernel
theorem dX3_mend_158 : decode cX3_mend 158 = .ok (.invokestatic 42, 3) := by decide +kernel
theorem dX3_mend_161 : decode cX3_mend 161 = .ok (.bipush 20, 2) := by decide +kernel
theorem dX3_mend_163 : decode cX3_mend 163 = .ok (.iastore, 1) := by decide +kernel
theorem dX3_mend_164 : decode cX3_mend 164 = .ok (.goto 46, 3) := by decide +kernel
theorem dX3_mend_167 : decode cX3_mend 167 = .ok (.aload_n 0, 1) := by decide +kernel
theorem dX3_mend_168 : decode cX3_mend 168 = .ok (.iload_n 1, 1) := by decide +kernel
theorem dX3_mend_169 : decode cX3_mend 169 = .ok (.bipush 6, 2) := by decide +kernel
theorem dX3_mend_171 : decode cX3_mend 171 = .ok (.aload_n 0, 1) := by decide +kernel
theorem dX3_mend_172 : decode cX3_mend 172 = .ok (.iload_n 1, 1) := by decide +kernel
theorem dX3_mend_173 : decode cX3_mend 173 = .ok (.bipush 6, 2) := by decide +kernel
theorem dX3_mend_175 : decode cX3_mend 175 = .ok (.invokevirtual 85, 3) := by decide +kernel
theorem dX3_mend_178 : decode cX3_mend 178 = .ok (.iconst 1, 1) := by decide +kernel
theorem dX3_mend_179 : decode cX3_mend 179 = .ok (.iadd, 1) := by decide +kernel
theorem dX3_mend_180 : decode cX3_mend 180 = .ok (.invokevirtual 88, 3) := by decide +kernel
theorem dX3_mend_183 : decode cX3_mend 183 = .ok (.goto 27, 3) := by decide +kernel
theorem dX3_mend_186 : decode cX3_mend 186 = .ok (.aload_n 0, 1) := by decide +kernel
theorem dX3_mend_187 : decode cX3_mend 187 = .ok (.iload_n 1, 1) := by decide +kernel
theorem dX3_mend_188 : decode cX3_mend 188 = .ok (.iconst 2, 1) := by decide +kernel
theorem dX3_mend_189 : decode cX3_mend 189 = .ok (.iconst 0, 1) := by decide +kernel
theorem dX3_mend_190 : decode cX3_mend 190 = .ok (.invokevirtual 88, 3) := by decide +kernel
theorem dX3_mend_193 : decode cX3_mend 193 = .ok (.aload_n 0, 1) := by decide +kernel
theorem dX3_mend_194 : decode cX3_mend 194 = .ok (.iload_n 1, 1) := by decide +kernel
theorem dX3_mend_195 : decode cX3_mend 195 = .ok (.iconst 3, 1) := by decide +kernel
theorem dX3_mend_196 : decode cX3_mend 196 = .ok (.iconst 0, 1) := by decide +kernel
theorem dX3_mend_197 : decode cX3_mend 197 = .ok (.invokevirtual 88, 3) := by decide +kernel
theorem dX3_mend_200 : decode cX3_mend 200 = .ok (.goto 10, 3) := by decide +kernel
theorem dX3_mend_203 : decode cX3_mend 203 = .ok (.aload_n 0, 1) := by decide +kernel
theorem dX3_mend_204 : decode cX3_mend 204 = .ok (.iload_n 1, 1) := by decide +kernel
theorem dX3_mend_205 : decode cX3_mend 205 = .ok (.iconst 4, 1) := by decide +kernel
theorem dX3_mend_206 : decode cX3_mend 206 = .ok (.iconst 0, 1) := by decide +kernel
theorem dX3_mend_207 : decode cX3_mend 207 = .ok (.invokevirtual 88, 3) := by decide +kernel
theorem dX3_mend_210 : decode cX3_mend 210 = .ok (.aload_n 0, 1) := by decide +kernel
theorem dX3_mend_211 : decode cX3_mend 211 = .ok (.getfield 23, 3) := by decide +kernel
theorem dX3_mend_214 : decode cX3_mend 214 = .ok (.iload_n 2, 1) := by decide +kernel
theorem dX3_mend_215 : decode cX3_mend 215 = .ok (.iaload, 1) := by decide +kernel
theorem dX3_mend_216 : decode cX3_mend 216 = .ok (.ireturn, 1) := by decide +kernel
set_option maxRecDepth 20000 in
theorem ggX3_jointTold_X3_li : GoodIn wsX3_jointTold wsX3_li := goodIn_r _ [5, 6, 7, 8, 4, 9, 14, 15, 16, 17, 18, 19, 20, 21, 22] (by decide +kernel) (by decide +kernel)
set_option maxRecDepth 20000 in
theorem gX3_jointTold_X3_li : GoodIn wsX3_jointTold (wsV RX3 56 RX3 yX3_li wsX3_li) := goodIn_app (goodIn_of _ (by decide +kernel)) ggX3_jointTold_X3_li
set_option maxRecDepth 20000 in
theorem ggX3_jointTold_X3_isBroken : GoodIn wsX3_jointTold wsX3_isBroken := goodIn_r _ [13, 1, 2, 3, 4, 5, 6, 7, 8, 9, 14, 15, 16, 17, 18, 19, 20, 21, 22] (by decide +kernel) (by decide +kernel)
set_option maxRecDepth 20000 in
theorem gX3_jointTold_X3_isBroken : GoodIn wsX3_jointTold (wsV RX3 68 RX3 yX3_isBroken wsX3_isBroken) := goodIn_app (goodIn_of _ (by decide +kernel)) ggX3_jointTold_X3_isBroken
theorem dX3_jointTold_0 : decode cX3_jointTold 0 = .ok (.iload_n 3, 1) := by decide +kernel
theorem dX3_jointTold_1 : decode cX3_jointTold 1 = .ok (.iconst 3, 1) := by decide +kernel
theorem dX3_jointTold_2 : decode cX3_jointTold 2 = .ok (.if_icmp .ge 13, 3) := by decide +kernel
theorem dX3_jointTold_5 : decode cX3_jointTold 5 = .ok (.aload_n 0, 1) := by decide +kernel
theorem dX3_jointTold_6 : decode cX3_jointTold 6 = .ok (.iload_n 1, 1) := by decide +kernel
theorem dX3_jointTold_7 : decode cX3_jointTold 7 = .ok (.iload_n 2, 1) := by decide +kernel
theorem dX3_jointTold_8 : decode cX3_jointTold 8 = .ok (.iload_n 3, 1) := by decide +kernel
theorem dX3_jointTold_9 : decode cX3_jointTold 9 = .ok (.invokevirtual 56, 3) := by decide +kernel
theorem dX3_jointTold_12 : decode cX3_jointTold 12 = .ok (.goto 17, 3) := by decide +kernel
theorem dX3_jointTold_15 : decode cX3_jointTold 15 = .ok (.aload_n 0, 1) := by decide +kernel
theorem dX3_jointTold_16 : decode cX3_jointTold 16 = .ok (.iload_n 1, 1) := by decide +kernel
theorem dX3_jointTold_17 : decode cX3_jointTold 17 = .ok (.iload_n 2, 1) := by decide +kernel
theorem dX3_jointTold_18 : decode cX3_jointTold 18 = .ok (.invokevirtual 68, 3) := by decide +kernel
theorem dX3_jointTold_21 : decode cX3_jointTold 21 = .ok (.ifCond .eq 7, 3) := by decide +kernel
theorem dX3_jointTold_24 : decode cX3_jointTold 24 = .ok (.iconst 1, 1) := by decide +kernel
theorem dX3_jointTold_25 : decode cX3_jointTold 25 = .ok (.goto 4, 3) := by decide +kernel
theorem dX3_jointTold_28 : decode cX3_jointTold 28 = .ok (.iconst 0, 1) := by decide +kernel
theorem dX3_jointTold_29 : decode cX3_jointTold 29 = .ok (.ireturn, 1) := by decide +kernel
set_option maxRecDepth 20000 in
theorem ggX3_joint_X3_isDoll : GoodIn wsX3_joint wsX3_isDoll := goodIn_r _ [6, 7, 8, 9, 5, 10, 31, 32, 33, 34, 35, 36, 37, 38, 39] (by decide +kernel) (by decide +kernel)
set_option maxRecDepth 20000 in
theorem gX3_joint_X3_isDoll : GoodIn wsX3_joint (wsV RX3 75 RX3 yX3_isDoll wsX3_isDoll) := goodIn_app (goodIn_of _ (by decide +kernel)) ggX3_joint_X3_isDoll
set_option maxRecDepth 20000 in
theorem ggX3_joint_X3_isIn : GoodIn wsX3_joint wsX3_isIn := goodIn_r _ [10] (by decide +kernel) (by decide +kernel)
set_option maxRecDepth 20000 in
theorem gX3_joint_X3_isIn : GoodIn wsX3_joint (va_wsS RX3 35 yX3_isIn wsX3_isIn) := goodIn_app (goodIn_of _ (by decide +kernel)) ggX3_joint_X3_isIn
set_option maxRecDepth 20000 in
theorem ggX3_joint_X3_jointTold : GoodIn wsX3_joint wsX3_jointTold := goodIn_r _ [14, 15, 16, 17, 5, 18, 19, 20, 21, 22, 23, 24, 25, 26, 31, 32, 33, 34, 35, 36, 37, 38, 39] (by decide +kernel) (by decide +kernel)
set_option maxRecDepth 20000 in
theorem gX3_joint_X3_jointTold : GoodIn wsX3_joint (wsV RX3 95 RX3 yX3_jointTold wsX3_jointTold) := goodIn_app (goodIn_of _ (by decide +kernel)) ggX3_joint_X3_jointTold
set_option maxRecDepth 20000 in
theorem ggX3_joint_X3_fail : GoodIn wsX3_joint wsX3_fail := goodIn_r _ [30, 1, 31, 32, 33, 34, 35, 36, 37, 38, 39] (by decide +kernel) (by decide +kernel)
set_option maxRecDepth 20000 in
theorem gX3_joint_X3_fail : GoodIn wsX3_joint (wsV RX3 46 RX3 yX3_fail wsX3_fail) := goodIn_app (goodIn_of _ (by decide +kernel)) ggX3_joint_X3_fail
theorem dX3_joint_0 : decode cX3_joint 0 = .ok (.aload_n 0, 1) := by decide +kernel
theorem dX3_joint_1 : decode cX3_joint 1 = .ok (.iconst 0, 1) := by decide +kernel
theorem dX3_joint_2 : decode cX3_joint 2 = .ok (.putfield 29, 3) := by decide +kernel
theorem dX3_joint_5 : decode cX3_joint 5 = .ok (.aload_n 0, 1) := by decide +kernel
theorem dX3_joint_6 : decode cX3_joint 6 = .ok (.iload_n 1, 1) := by decide +kernel
theorem dX3_joint_7 : decode cX3_joint 7 = .ok (.invokevirtual 75, 3) := by decide +kernel
theorem dX3_joint_10 : decode cX3_joint 10 = .ok (.ifCond .eq 31, 3) := by decide +kernel
theorem dX3_joint_13 : decode cX3_joint 13 = .ok (.iload_n 2, 1) := by decide +kernel
theorem dX3_joint_14 : decode cX3_joint 14 = .ok (.iconst 0, 1) := by decide +kernel
theorem dX3_joint_15 : decode cX3_joint 15 = .ok (.iconst 5, 1) := by decide +kernel
theorem dX3_joint_16 : decode cX3_joint 16 = .ok (.invokestatic 35, 3) := by decide +kernel
theorem dX3_joint_19 : decode cX3_joint 19 = .ok (.ifCond .eq 22, 3) := by decide +kernel
theorem dX3_joint_22 : decode cX3_joint 22 = .ok (.iload_n 3, 1) := by decide +kernel
theorem dX3_joint_23 : decode cX3_joint 23 = .ok (.iconst 0, 1) := by decide +kernel
theorem dX3_joint_24 : decode cX3_joint 24 = .ok (.iconst 3, 1) := by decide +kernel
theorem dX3_joint_25 : decode cX3_joint 25 = .ok (.invokestatic 35, 3) := by decide +kernel
theorem dX3_joint_28 : decode cX3_joint 28 = .ok (.ifCond .eq 13, 3) := by decide +kernel
theorem dX3_joint_31 : decode cX3_joint 31 = .ok (.aload_n 0, 1) := by decide +kernel
theorem dX3_joint_32 : decode cX3_joint 32 = .ok (.iload_n 1, 1) := by decide +kernel
theorem dX3_joint_33 : decode cX3_joint 33 = .ok (.iload_n 2, 1) := by decide +kernel
theorem dX3_joint_34 : decode cX3_joint 34 = .ok (.iload_n 3, 1) := by decide +kernel
theorem dX3_joint_35 : decode cX3_joint 35 = .ok (.invokevirtual 95, 3) := by decide +kernel
theorem dX3_joint_38 : decode cX3_joint 38 = .ok (.goto 8, 3) := by decide +kernel
theorem dX3_joint_41 : decode cX3_joint 41 = .ok (.aload_n 0, 1) := by decide +kernel
theorem dX3_joint_42 : decode cX3_joint 42 = .ok (.iconst 1, 1) := by decide +kernel
theorem dX3_joint_43 : decode cX3_joint 43 = .ok (.invokevirtual 46, 3) := by decide +kernel
theorem dX3_joint_46 : decode cX3_joint 46 = .ok (.ireturn, 1) := by decide +kernel
set_option maxRecDepth 20000 in
theorem ggX3_doll_X3_isDoll : GoodIn wsX3_doll wsX3_isDoll := goodIn_r _ [6, 7, 8, 9, 5, 10, 20, 21, 22, 23, 24, 25, 26, 27, 28] (by decide +kernel) (by decide +kernel)
set_option maxRecDepth 20000 in
theorem gX3_doll_X3_isDoll : GoodIn wsX3_doll (wsV RX3 75 RX3 yX3_isDoll wsX3_isDoll) := goodIn_app (goodIn_of _ (by decide +kernel)) ggX3_doll_X3_isDoll
set_option maxRecDepth 20000 in
theorem ggX3_doll_X3_isIn : GoodIn wsX3_doll wsX3_isIn := goodIn_r _ [10] (by decide +kernel) (by decide +kernel)
set_option maxRecDepth 20000 in
theorem gX3_doll_X3_isIn : GoodIn wsX3_doll (va_wsS RX3 35 yX3_isIn wsX3_isIn) := goodIn_app (goodIn_of _ (by decide +kernel)) ggX3_doll_X3_isIn
set_option maxRecDepth 20000 in
theorem ggX3_doll_X3_ro : GoodIn wsX3_doll wsX3_ro := goodIn_r _ [14, 15, 20, 21, 22, 23, 24, 25, 26, 27, 28] (by decide +kernel) (by decide +kernel)
set_option maxRecDepth 20000 in
theorem gX3_doll_X3_ro : GoodIn wsX3_doll (wsV RX3 85 RX3 yX3_ro wsX3_ro) := goodIn_app (goodIn_of _ (by decide +kernel)) ggX3_doll_X3_ro
set_option maxRecDepth 20000 in
theorem ggX3_doll_X3_fail : GoodIn wsX3_doll wsX3_fail := goodIn_r _ [19, 1, 20, 21, 22, 23, 24, 25, 26, 27, 28] (by decide +kernel) (by decide +kernel)
set_option maxRecDepth 20000 in
theorem gX3_doll_X3_fail : GoodIn wsX3_doll (wsV RX3 46 RX3 yX3_fail wsX3_fail) := goodIn_app (goodIn_of _ (by decide +kernel)) ggX3_doll_X3_fail
theorem dX3_doll_0 : decode cX3_doll 0 = .ok (.aload_n 0, 1) := by decide +kernel
theorem dX3_doll_1 : decode cX3_doll 1 = .ok (.iconst 0, 1) := by decide +kernel
theorem dX3_doll_2 : decode cX3_doll 2 = .ok (.putfield 29, 3) := by decide +kernel
theorem dX3_doll_5 : decode cX3_doll 5 = .ok (.aload_n 0, 1) := by decide +kernel
theorem dX3_doll_6 : decode cX3_doll 6 = .ok (.iload_n 1, 1) := by decide +kernel
theorem dX3_doll_7 : decode cX3_doll 7 = .ok (.invokevirtual 75, 3) := by decide +kernel
theorem dX3_doll_10 : decode cX3_doll 10 = .ok (.ifCond .eq 22, 3) := by decide +kernel
theorem dX3_doll_13 : decode cX3_doll 13 = .ok (.iload_n 2, 1) := by decide +kernel
theorem dX3_doll_14 : decode cX3_doll 14 = .ok (.iconst 0, 1) := by decide +kernel
theorem dX3_doll_15 : decode cX3_doll 15 = .ok (.bipush 7, 2) := by decide +kernel
theorem dX3_doll_17 : decode cX3_doll 17 = .ok (.invokestatic 35, 3) := by decide +kernel
theorem dX3_doll_20 : decode cX3_doll 20 = .ok (.ifCond .eq 12, 3) := by decide +kernel
theorem dX3_doll_23 : decode cX3_doll 23 = .ok (.aload_n 0, 1) := by decide +kernel
theorem dX3_doll_24 : decode cX3_doll 24 = .ok (.iload_n 1, 1) := by decide +kernel
theorem dX3_doll_25 : decode cX3_doll 25 = .ok (.iload_n 2, 1) := by decide +kernel
theorem dX3_doll_26 : decode cX3_doll 26 = .ok (.invokevirtual 85, 3) := by decide +kernel
theorem dX3_doll_29 : decode cX3_doll 29 = .ok (.goto 8, 3) := by decide +kernel
theorem dX3_doll_32 : decode cX3_doll 32 = .ok (.aload_n 0, 1) := by decide +kernel
theorem dX3_doll_33 : decode cX3_doll 33 = .ok (.iconst 1, 1) := by decide +kernel
theorem dX3_doll_34 : decode cX3_doll 34 = .ok (.invokevirtual 46, 3) := by decide +kernel
theorem dX3_doll_37 : decode cX3_doll 37 = .ok (.ireturn, 1) := by decide +kernel
set_option maxRecDepth 20000 in
theorem ggX3_counted_X3_jointTold : GoodIn wsX3_counted wsX3_jointTold := goodIn_r _ [10, 11, 12, 13, 9, 14, 15, 16, 17, 18, 19, 20, 21, 22, 28, 29, 30, 31, 32, 33, 34, 35, 36] (by decide +kernel) (by decide +kernel)
set_option maxRecDepth 20000 in
theorem gX3_counted_X3_jointTold : GoodIn wsX3_counted (wsV RX3 95 RX3 yX3_jointTold wsX3_jointTold) := goodIn_app (goodIn_of _ (by decide +kernel)) ggX3_counted_X3_jointTold
set_option maxRecDepth 20000 in
theorem ggX3_counted_X3_ro : GoodIn wsX3_counted wsX3_ro := goodIn_r _ [26, 27, 28, 29, 30, 31, 32, 33, 34, 35, 36] (by decide +kernel) (by decide +kernel)
set_option maxRecDepth 20000 in
theorem gX3_counted_X3_ro : GoodIn wsX3_counted (wsV RX3 85 RX3 yX3_ro wsX3_ro) := goodIn_app (goodIn_of _ (by decide +kernel)) ggX3_counted_X3_ro
theorem dX3_counted_0 : decode cX3_counted 0 = .ok (.iconst 0, 1) := by decide +kernel
theorem dX3_counted_1 : decode cX3_counted 1 = .ok (.istore_n 2, 1) := by decide +kernel
theorem dX3_counted_2 : decode cX3_counted 2 = .ok (.iload_n 1, 1) := by decide +kernel
theorem dX3_counted_3 : decode cX3_counted 3 = .ok (.bipush 7, 2) := by decide +kernel
theorem dX3_counted_5 : decode cX3_counted 5 = .ok (.if_icmp .le 13, 3) := by decide +kernel
theorem dX3_counted_8 : decode cX3_counted 8 = .ok (.aload_n 0, 1) := by decide +kernel
theorem dX3_counted_9 : decode cX3_counted 9 = .ok (.getfield 23, 3) := by decide +kernel
theorem dX3_counted_12 : decode cX3_counted 12 = .ok (.iload_n 1, 1) := by decide +kernel
theorem dX3_counted_13 : decode cX3_counted 13 = .ok (.bipush 8, 2) := by decide +kernel
theorem dX3_counted_15 : decode cX3_counted 15 = .ok (.isub, 1) := by decide +kernel
theorem dX3_counted_16 : decode cX3_counted 16 = .ok (.iaload, 1) := by decide +kernel
theorem dX3_counted_17 : decode cX3_counted 17 = .ok (.ireturn, 1) := by decide +kernel
theorem dX3_counted_18 : decode cX3_counted 18 = .ok (.iload_n 1, 1) := by decide +kernel
theorem dX3_counted_19 : decode cX3_counted 19 = .ok (.iconst 4, 1) := by decide +kernel
theorem dX3_counted_20 : decode cX3_counted 20 = .ok (.if_icmp .ge 45, 3) := by decide +kernel
theorem dX3_counted_23 : decode cX3_counted 23 = .ok (.iload_n 1, 1) := by decide +kernel
theorem dX3_counted_24 : decode cX3_counted 24 = .ok (.ifCond .ne 12, 3) := by decide +kernel
theorem dX3_counted_27 : decode cX3_counted 27 = .ok (.aload_n 0, 1) := by decide +kernel
theorem dX3_counted_28 : decode cX3_counted 28 = .ok (.getfield 26, 3) := by decide +kernel
theorem dX3_counted_31 : decode cX3_counted 31 = .ok (.iconst 0, 1) := by decide +kernel
theorem dX3_counted_32 : decode cX3_counted 32 = .ok (.iaload, 1) := by decide +kernel
theorem dX3_counted_33 : decode cX3_counted 33 = .ok (.goto 31, 3) := by decide +kernel
theorem dX3_counted_36 : decode cX3_counted 36 = .ok (.iload_n 1, 1) := by decide +kernel
theorem dX3_counted_37 : decode cX3_counted 37 = .ok (.iconst 1, 1) := by decide +kernel
theorem dX3_counted_38 : decode cX3_counted 38 = .ok (.if_icmp .ne 10, 3) := by decide +kernel
theorem dX3_counted_41 : decode cX3_counted 41 = .ok (.aload_n 0, 1) := by decide +kernel
theorem dX3_counted_42 : decode cX3_counted 42 = .ok (.getfield 32, 3) := by decide +kernel
theorem dX3_counted_45 : decode cX3_counted 45 = .ok (.goto 19, 3) := by decide +kernel
theorem dX3_counted_48 : decode cX3_counted 48 = .ok (.iload_n 1, 1) := by decide +kernel
theorem dX3_counted_49 : decode cX3_counted 49 = .ok (.iconst 2, 1) := by decide +kernel
theorem dX3_counted_50 : decode cX3_counted 50 = .ok (.if_icmp .ne 10, 3) := by decide +kernel
theorem dX3_counted_53 : decode cX3_counted 53 = .ok (.aload_n 0, 1) := by decide +kernel
theorem dX3_counted_54 : decode cX3_counted 54 = .ok (.getfield 39, 3) := by decide +kernel
theorem dX3_counted_57 : decode cX3_counted 57 = .ok (.goto 7, 3) := by decide +kernel
theorem dX3_counted_60 : decode cX3_counted 60 = .ok (.aload_n 0, 1) := by decide +kernel
theorem dX3_counted_61 : decode cX3_counted 61 = .ok (.getfield 7, 3) := by decide +kernel
theorem dX3_counted_64 : decode cX3_counted 64 = .ok (.ireturn, 1) := by decide +kernel
theorem dX3_counted_65 : decode cX3_counted 65 = .ok (.iconst 0, 1) := by decide +kernel
theorem dX3_counted_66 : decode cX3_counted 66 = .ok (.istore_n 3, 1) := by decide +kernel
theorem dX3_counted_67 : decode cX3_counted 67 = .ok (.iload_n 3, 1) := by decide +kernel
theorem dX3_counted_68 : decode cX3_counted 68 = .ok (.aload_n 0, 1) := by decide +kernel
theorem dX3_counted_69 : decode cX3_counted 69 = .ok (.getfield 32, 3) := by decide +kernel
theorem dX3_counted_72 : decode cX3_counted 72 = .ok (.if_icmp .ge 129, 3) := by decide +kernel
theorem dX3_counted_75 : decode cX3_counted 75 = .ok (.iconst 0, 1) := by decide +kernel
theorem dX3_counted_76 : decode cX3_counted 76 = .ok (.istore 4, 2) := by decide +kernel
theorem dX3_counted_78 : decode cX3_counted 78 = .ok (.iload 4, 2) := by decide +kernel
theorem dX3_counted_80 : decode cX3_counted 80 = .ok (.bipush 6, 2) := by decide +kernel
theorem dX3_counted_82 : decode cX3_counted 82 = .ok (.if_icmp .ge 25, 3) := by decide +kernel
theorem dX3_counted_85 : decode cX3_counted 85 = .ok (.iload_n 1, 1) := by decide +kernel
theorem dX3_counted_86 : decode cX3_counted 86 = .ok (.iconst 4, 1) := by decide +kernel
theorem dX3_counted_87 : decode cX3_counted 87 = .ok (.if_icmp .ne 20, 3) := by decide +kernel
theorem dX3_counted_90 : decode cX3_counted 90 = .ok (.iload_n 2, 1) := by decide +kernel
theorem dX3_counted_91 : decode cX3_counted 91 = .ok (.aload_n 0, 1) := by decide +kernel
theorem dX3_counted_92 : decode cX3_counted 92 = .ok (.iload_n 3, 1) := by decide +kernel
theorem dX3_counted_93 : decode cX3_counted 93 = .ok (.iload 4, 2) := by decide +kernel
theorem dX3_counted_95 : decode cX3_counted 95 = .ok (.iconst 3, 1) := by decide +kernel
theorem dX3_counted_96 : decode cX3_counted 96 = .ok (.invokevirtual 95, 3) := by decide +kernel
theorem dX3_counted_99 : decode cX3_counted 99 = .ok (.iadd, 1) := by decide +kernel
theorem dX3_counted_100 : decode cX3_counted 100 = .ok (.istore_n 2, 1) := by decide +kernel
theorem dX3_counted_101 : decode cX3_counted 101 = .ok (.iinc 4 1, 3) := by decide +kernel
theorem dX3_counted_104 : decode cX3_counted 104 = .ok (.goto (-26), 3) := by decide +kernel
theorem dX3_counted_107 : decode cX3_counted 107 = .ok (.iload_n 1, 1) := by decide +kernel
theorem dX3_counted_108 : decode cX3_counted 108 = .ok (.iconst 5, 1) := by decide +kernel
theorem dX3_counted_109 : decode cX3_counted 109 = .ok (.if_icmp .ne 21, 3) := by decide +kernel
theorem dX3_counted_112 : decode cX3_counted 112 = .ok (.iload_n 2, 1) := by decide +kernel
theorem dX3_counted_113 : decode cX3_counted 113 = .ok (.aload_n 0, 1) := by decide +kernel
theorem dX3_counted_114 : decode cX3_counted 114 = .ok (.iload_n 3, 1) := by decide +kernel
theorem dX3_counted_115 : decode cX3_counted 115 = .ok (.iconst 4, 1) := by decide +kernel
theorem dX3_counted_116 : decode cX3_counted 116 = .ok (.invokevirtual 85, 3) := by decide +kernel
theorem dX3_counted_119 : decode cX3_counted 119 = .ok (.iconst (-1), 1) := by decide +kernel
theorem dX3_counted_120 : decode cX3_counted 120 = .ok (.if_icmp .ne 7, 3) := by decide +kernel
theorem dX3_counted_123 : decode cX3_counted 123 = .ok (.iconst 0, 1) := by decide +kernel
theorem dX3_counted_124 : decode cX3_counted 124 = .ok (.goto 4, 3) := by decide +kernel
theorem dX3_counted_127 : decode cX3_counted 127 = .ok (.iconst 1, 1) := by decide +kernel
theorem dX3_counted_128 : decode cX3_counted 128 = .ok (.iadd, 1) := by decide +kernel
theorem dX3_counted_129 : decode cX3_counted 129 = .ok (.istore_n 2, 1) := by decide +kernel
theorem dX3_counted_130 : decode cX3_counted 130 = .ok (.iload_n 1, 1) := by decide +kernel
theorem dX3_counted_131 : decode cX3_counted 131 = .ok (.bipush 6, 2) := by decide +kernel
theorem dX3_counted_133 : decode cX3_counted 133 = .ok (.if_icmp .ne 20, 3) := by decide +kernel
theorem dX3_counted_136 : decode cX3_counted 136 = .ok (.iload_n 2, 1) := by decide +kernel
theorem dX3_counted_137 : decode cX3_counted 137 = .ok (.aload_n 0, 1) := by decide +kernel
theorem dX3_counted_138 : decode cX3_counted 138 = .ok (.iload_n 3, 1) := by decide +kernel
theorem dX3_counted_139 : decode cX3_counted 139 = .ok (.iconst 5, 1) := by decide +kernel
theorem dX3_counted_140 : decode cX3_counted 140 = .ok (.invokevirtual 85, 3) := by decide +kernel
theorem dX3_counted_143 : decode cX3_counted 143 = .ok (.ifCond .le 7, 3) := by decide +kernel
theorem dX3_counted_146 : decode cX3_counted 146 = .ok (.iconst 1, 1) := by decide +kernel
theorem dX3_counted_147 : decode cX3_counted 147 = .ok (.goto 4, 3) := by decide +kernel
theorem dX3_counted_150 : decode cX3_counted 150 = .ok (.iconst 0, 1) := by decide +kernel
theorem dX3_counted_151 : decode cX3_counted 151 = .ok (.iadd, 1) := by decide +kernel
theorem dX3_counted_152 : decode cX3_counted 152 = .ok (.istore_n 2, 1) := by decide +kernel
theorem dX3_counted_153 : decode cX3_counted 153 = .ok (.iload_n 1, 1) := by decide +kernel
theorem dX3_counted_154 : decode cX3_counted 154 = .ok (.bipush 7, 2) := by decide +kernel
theorem dX3_counted_156 : decode cX3_counted 156 = .ok (.if_icmp .ne 39, 3) := by decide +kernel
theorem dX3_counted_159 : decode cX3_counted 159 = .ok (.iload_n 2, 1) := by decide +kernel
theorem dX3_counted_160 : decode cX3_counted 160 = .ok (.aload_n 0, 1) := by decide +kernel
theorem dX3_counted_161 : decode cX3_counted 161 = .ok (.iload_n 3, 1) := by decide +kernel
theorem dX3_counted_162 : decode cX3_counted 162 = .ok (.iconst 2, 1) := by decide +kernel
theorem dX3_counted_163 : decode cX3_counted 163 = .ok (.invokevirtual 85, 3) := by decide +kernel
theorem dX3_counted_166 : decode cX3_counted 166 = .ok (.bipush 9, 2) := by decide +kernel
theorem dX3_counted_168 : decode cX3_counted 168 = .ok (.if_icmp .ne 7, 3) := by decide +kernel
theorem dX3_counted_171 : decode cX3_counted 171 = .ok (.iconst 1, 1) := by decide +kernel
theorem dX3_counted_172 : decode cX3_counted 172 = .ok (.goto 4, 3) := by decide +kernel
theorem dX3_counted_175 : decode cX3_counted 175 = .ok (.iconst 0, 1) := by decide +kernel
theorem dX3_counted_176 : decode cX3_counted 176 = .ok (.aload_n 0, 1) := by decide +kernel
theorem dX3_counted_177 : decode cX3_counted 177 = .ok (.iload_n 3, 1) := by decide +kernel
theorem dX3_counted_178 : decode cX3_counted 178 = .ok (.iconst 3, 1) := by decide +kernel
theorem dX3_counted_179 : decode cX3_counted 179 = .ok (.invokevirtual 85, 3) := by decide +kernel
theorem dX3_counted_182 : decode cX3_counted 182 = .ok (.bipush 9, 2) := by decide +kernel
theorem dX3_counted_184 : decode cX3_counted 184 = .ok (.if_icmp .ne 7, 3) := by decide +kernel
theorem dX3_counted_187 : decode cX3_counted 187 = .ok (.iconst 1, 1) := by decide +kernel
theorem dX3_counted_188 : decode cX3_counted 188 = .ok (.goto 4, 3) := by decide +kernel
theorem dX3_counted_191 : decode cX3_counted 191 = .ok (.iconst 0, 1) := by decide +kernel
theorem dX3_counted_192 : decode cX3_counted 192 = .ok (.iadd, 1) := by decide +kernel
theorem dX3_counted_193 : decode cX3_counted 193 = .ok (.iadd, 1) := by decide +kernel
theorem dX3_counted_194 : decode cX3_counted 194 = .ok (.istore_n 2, 1) := by decide +kernel
theorem dX3_counted_195 : decode cX3_counted 195 = .ok (.iinc 3 1, 3) := by decide +kernel
theorem dX3_counted_198 : decode cX3_counted 198 = .ok (.goto (-131), 3) := by decide +kernel
theorem dX3_counted_201 : decode cX3_counted 201 = .ok (.iload_n 2, 1) := by decide +kernel
theorem dX3_counted_202 : decode cX3_counted 202 = .ok (.ireturn, 1) := by decide +kernel
set_option maxRecDepth 20000 in
theorem ggX3_count_X3_isIn : GoodIn wsX3_count wsX3_isIn := goodIn_r _ [5] (by decide +kernel) (by decide +kernel)
set_option maxRecDepth 20000 in
theorem gX3_count_X3_isIn : GoodIn wsX3_count (va_wsS RX3 35 yX3_isIn wsX3_isIn) := goodIn_app (goodIn_of _ (by decide +kernel)) ggX3_count_X3_isIn
set_option maxRecDepth 20000 in
theorem ggX3_count_X3_counted : GoodIn wsX3_count wsX3_counted := goodIn_r _ [9, 10, 11, 12, 13, 14, 15, 16, 17, 4, 18, 19, 20, 21, 22, 23, 24, 25, 26, 27, 28, 29, 30, 31, 32, 33, 34, 35, 40, 41, 42, 43, 44, 45, 46, 47, 48] (by decide +kernel) (by decide +kernel)
set_option maxRecDepth 20000 in
theorem gX3_count_X3_counted : GoodIn wsX3_count (wsV RX3 98 RX3 yX3_counted wsX3_counted) := goodIn_app (goodIn_of _ (by decide +kernel)) ggX3_count_X3_counted
set_option maxRecDepth 20000 in
theorem ggX3_count_X3_fail : GoodIn wsX3_count wsX3_fail := goodIn_r _ [39, 1, 40, 41, 42, 43, 44, 45, 46, 47, 48] (by decide +kernel) (by decide +kernel)
set_option maxRecDepth 20000 in
theorem gX3_count_X3_fail : GoodIn wsX3_count (wsV RX3 46 RX3 yX3_fail wsX3_fail) := goodIn_app (goodIn_of _ (by decide +kernel)) ggX3_count_X3_fail
theorem dX3_count_0 : decode cX3_count 0 = .ok (.aload_n 0, 1) := by decide +kernel
theorem dX3_count_1 : decode cX3_count 1 = .ok (.iconst 0, 1) := by decide +kernel
theorem dX3_count_2 : decode cX3_count 2 = .ok (.putfield 29, 3) := by decide +kernel
theorem dX3_count_5 : decode cX3_count 5 = .ok (.iload_n 1, 1) := by decide +kernel
theorem dX3_count_6 : decode cX3_count 6 = .ok (.iconst 0, 1) := by decide +kernel
theorem dX3_count_7 : decode cX3_count 7 = .ok (.bipush 12, 2) := by decide +kernel
theorem dX3_count_9 : decode cX3_count 9 = .ok (.invokestatic 35, 3) := by decide +kernel
theorem dX3_count_12 : decode cX3_count 12 = .ok (.ifCond .eq 11, 3) := by decide +kernel
theorem dX3_count_15 : decode cX3_count 15 = .ok (.aload_n 0, 1) := by decide +kernel
theorem dX3_count_16 : decode cX3_count 16 = .ok (.iload_n 1, 1) := by decide +kernel
theorem dX3_count_17 : decode cX3_count 17 = .ok (.invokevirtual 98, 3) := by decide +kernel
theorem dX3_count_20 : decode cX3_count 20 = .ok (.goto 8, 3) := by decide +kernel
theorem dX3_count_23 : decode cX3_count 23 = .ok (.aload_n 0, 1) := by decide +kernel
theorem dX3_count_24 : decode cX3_count 24 = .ok (.iconst 1, 1) := by decide +kernel
theorem dX3_count_25 : decode cX3_count 25 = .ok (.invokevirtual 46, 3) := by decide +kernel
theorem dX3_count_28 : decode cX3_count 28 = .ok (.ireturn, 1) := by decide +kernel
theorem dX3_kept_0 : decode cX3_kept 0 = .ok (.iconst 3, 1) := by decide +kernel
theorem dX3_kept_1 : decode cX3_kept 1 = .ok (.anewarray 101, 3) := by decide +kernel
theorem dX3_kept_4 : decode cX3_kept 4 = .ok (.dup, 1) := by decide +kernel
theorem dX3_kept_5 : decode cX3_kept 5 = .ok (.iconst 0, 1) := by decide +kernel
theorem dX3_kept_6 : decode cX3_kept 6 = .ok (.aload_n 0, 1) := by decide +kernel
theorem dX3_kept_7 : decode cX3_kept 7 = .ok (.getfield 13, 3) := by decide +kernel
theorem dX3_kept_10 : decode cX3_kept 10 = .ok (.invokevirtual 102, 3) := by decide +kernel
theorem dX3_kept_13 : decode cX3_kept 13 = .ok (.checkcast 101, 3) := by decide +kernel
theorem dX3_kept_16 : decode cX3_kept 16 = .ok (.aastore, 1) := by decide +kernel
theorem dX3_kept_17 : decode cX3_kept 17 = .ok (.dup, 1) := by decide +kernel
theorem dX3_kept_18 : decode cX3_kept 18 = .ok (.iconst 1, 1) := by decide +kernel
theorem dX3_kept_19 : decode cX3_kept 19 = .ok (.aload_n 0, 1) := by decide +kernel
theorem dX3_kept_20 : decode cX3_kept 20 = .ok (.getfield 17, 3) := by decide +kernel
theorem dX3_kept_23 : decode cX3_kept 23 = .ok (.invokevirtual 102, 3) := by decide +kernel
theorem dX3_kept_26 : decode cX3_kept 26 = .ok (.checkcast 101, 3) := by decide +kernel
theorem dX3_kept_29 : decode cX3_kept 29 = .ok (.aastore, 1) := by decide +kernel
theorem dX3_kept_30 : decode cX3_kept 30 = .ok (.dup, 1) := by decide +kernel
theorem dX3_kept_31 : decode cX3_kept 31 = .ok (.iconst 2, 1) := by decide +kernel
theorem dX3_kept_32 : decode cX3_kept 32 = .ok (.aload_n 0, 1) := by decide +kernel
theorem dX3_kept_33 : decode cX3_kept 33 = .ok (.getfield 26, 3) := by decide +kernel
theorem dX3_kept_36 : decode cX3_kept 36 = .ok (.invokevirtual 102, 3) := by decide +kernel
theorem dX3_kept_39 : decode cX3_kept 39 = .ok (.checkcast 101, 3) := by decide +kernel
theorem dX3_kept_42 : decode cX3_kept 42 = .ok (.aastore, 1) := by decide +kernel
theorem dX3_kept_43 : decode cX3_kept 43 = .ok (.areturn, 1) := by decide +kernel
theorem dX3_bringBack_0 : decode cX3_bringBack 0 = .ok (.aload_n 1, 1) := by decide +kernel
theorem dX3_bringBack_1 : decode cX3_bringBack 1 = .ok (.iconst 0, 1) := by decide +kernel
theorem dX3_bringBack_2 : decode cX3_bringBack 2 = .ok (.aaload, 1) := by decide +kernel
theorem dX3_bringBack_3 : decode cX3_bringBack 3 = .ok (.iconst 0, 1) := by decide +kernel
theorem dX3_bringBack_4 : decode cX3_bringBack 4 = .ok (.aload_n 0, 1) := by decide +kernel
theorem dX3_bringBack_5 : decode cX3_bringBack 5 = .ok (.getfield 13, 3) := by decide +kernel
theorem dX3_bringBack_8 : decode cX3_bringBack 8 = .ok (.iconst 0, 1) := by decide +kernel
theorem dX3_bringBack_9 : decode cX3_bringBack 9 = .ok (.aload_n 0, 1) := by decide +kernel
theorem dX3_bringBack_10 : decode cX3_bringBack 10 = .ok (.getfield 13, 3) := by decide +kernel
theorem dX3_bringBack_13 : decode cX3_bringBack 13 = .ok (.arraylength, 1) := by decide +kernel
theorem dX3_bringBack_14 : decode cX3_bringBack 14 = .ok (.invokestatic 50, 3) := by decide +kernel
theorem dX3_bringBack_17 : decode cX3_bringBack 17 = .ok (.aload_n 1, 1) := by decide +kernel
theorem dX3_bringBack_18 : decode cX3_bringBack 18 = .ok (.iconst 1, 1) := by decide +kernel
theorem dX3_bringBack_19 : decode cX3_bringBack 19 = .ok (.aaload, 1) := by decide +kernel
theorem dX3_bringBack_20 : decode cX3_bringBack 20 = .ok (.iconst 0, 1) := by decide +kernel
theorem dX3_bringBack_21 : decode cX3_bringBack 21 = .ok (.aload_n 0, 1) := by decide +kernel
theorem dX3_bringBack_22 : decode cX3_bringBack 22 = .ok (.getfield 17, 3) := by decide +kernel
theorem dX3_bringBack_25 : decode cX3_bringBack 25 = .ok (.iconst 0, 1) := by decide +kernel
theorem dX3_bringBack_26 : decode cX3_bringBack 26 = .ok (.aload_n 0, 1) := by decide +kernel
theorem dX3_bringBack_27 : decode cX3_bringBack 27 = .ok (.getfield 17, 3) := by decide +kernel
theorem dX3_bringBack_30 : decode cX3_bringBack 30 = .ok (.arraylength, 1) := by decide +kernel
theorem dX3_bringBack_31 : decode cX3_bringBack 31 = .ok (.invokestatic 50, 3) := by decide +kernel
theorem dX3_bringBack_34 : decode cX3_bringBack 34 = .ok (.aload_n 0, 1) := by decide +kernel
theorem dX3_bringBack_35 : decode cX3_bringBack 35 = .ok (.getfield 26, 3) := by decide +kernel
theorem dX3_bringBack_38 : decode cX3_bringBack 38 = .ok (.iconst 0, 1) := by decide +kernel
theorem dX3_bringBack_39 : decode cX3_bringBack 39 = .ok (.aload_n 1, 1) := by decide +kernel
theorem dX3_bringBack_40 : decode cX3_bringBack 40 = .ok (.iconst 2, 1) := by decide +kernel
theorem dX3_bringBack_41 : decode cX3_bringBack 41 = .ok (.aaload, 1) := by decide +kernel
theorem dX3_bringBack_42 : decode cX3_bringBack 42 = .ok (.iconst 0, 1) := by decide +kernel
theorem dX3_bringBack_43 : decode cX3_bringBack 43 = .ok (.iaload, 1) := by decide +kernel
theorem dX3_bringBack_44 : decode cX3_bringBack 44 = .ok (.iastore, 1) := by decide +kernel
theorem dX3_bringBack_45 : decode cX3_bringBack 45 = .ok (.return_, 1) := by decide +kernel
set_option maxRecDepth 20000 in
theorem ggX3_wearOf_X3_li : GoodIn wsX3_wearOf wsX3_li := goodIn_r _ [5, 6, 7, 8, 4, 9, 10, 11, 12, 13, 14, 15, 16, 17, 18] (by decide +kernel) (by decide +kernel)
set_option maxRecDepth 20000 in
theorem gX3_wearOf_X3_li : GoodIn wsX3_wearOf (wsV RX3 56 RX3 yX3_li wsX3_li) := goodIn_app (goodIn_of _ (by decide +kernel)) ggX3_wearOf_X3_li
theorem dX3_wearOf_0 : decode cX3_wearOf 0 = .ok (.iconst 0, 1) := by decide +kernel
theorem dX3_wearOf_1 : decode cX3_wearOf 1 = .ok (.istore_n 2, 1) := by decide +kernel
theorem dX3_wearOf_2 : decode cX3_wearOf 2 = .ok (.iconst 0, 1) := by decide +kernel
theorem dX3_wearOf_3 : decode cX3_wearOf 3 = .ok (.istore_n 3, 1) := by decide +kernel
theorem dX3_wearOf_4 : decode cX3_wearOf 4 = .ok (.iload_n 3, 1) := by decide +kernel
theorem dX3_wearOf_5 : decode cX3_wearOf 5 = .ok (.bipush 6, 2) := by decide +kernel
theorem dX3_wearOf_7 : decode cX3_wearOf 7 = .ok (.if_icmp .ge 19, 3) := by decide +kernel
theorem dX3_wearOf_10 : decode cX3_wearOf 10 = .ok (.iload_n 2, 1) := by decide +kernel
theorem dX3_wearOf_11 : decode cX3_wearOf 11 = .ok (.aload_n 0, 1) := by decide +kernel
theorem dX3_wearOf_12 : decode cX3_wearOf 12 = .ok (.iload_n 1, 1) := by decide +kernel
theorem dX3_wearOf_13 : decode cX3_wearOf 13 = .ok (.iload_n 3, 1) := by decide +kernel
theorem dX3_wearOf_14 : decode cX3_wearOf 14 = .ok (.iconst 1, 1) := by decide +kernel
theorem dX3_wearOf_15 : decode cX3_wearOf 15 = .ok (.invokevirtual 56, 3) := by decide +kernel
theorem dX3_wearOf_18 : decode cX3_wearOf 18 = .ok (.iadd, 1) := by decide +kernel
theorem dX3_wearOf_19 : decode cX3_wearOf 19 = .ok (.istore_n 2, 1) := by decide +kernel
theorem dX3_wearOf_20 : decode cX3_wearOf 20 = .ok (.iinc 3 1, 3) := by decide +kernel
theorem dX3_wearOf_23 : decode cX3_wearOf 23 = .ok (.goto (-19), 3) := by decide +kernel
theorem dX3_wearOf_26 : decode cX3_wearOf 26 = .ok (.iload_n 2, 1) := by decide +kernel
theorem dX3_wearOf_27 : decode cX3_wearOf 27 = .ok (.ireturn, 1) := by decide +kernel
set_option maxRecDepth 20000 in
theorem ggX3_costs_X3_isDoll : GoodIn wsX3_costs wsX3_isDoll := goodIn_r _ [6, 7, 8, 9, 5, 10, 76, 77, 78, 79, 80, 81, 82, 83, 84] (by decide +kernel) (by decide +kernel)
set_option maxRecDepth 20000 in
theorem gX3_costs_X3_isDoll : GoodIn wsX3_costs (wsV RX3 75 RX3 yX3_isDoll wsX3_isDoll) := goodIn_app (goodIn_of _ (by decide +kernel)) ggX3_costs_X3_isDoll
set_option maxRecDepth 20000 in
theorem ggX3_costs_X3_isPose : GoodIn wsX3_costs wsX3_isPose := goodIn_r _ [14, 15, 8, 9, 5, 10, 76, 77, 78, 79, 80, 81, 82, 83, 84] (by decide +kernel) (by decide +kernel)
set_option maxRecDepth 20000 in
theorem gX3_costs_X3_isPose : GoodIn wsX3_costs (wsV RX3 79 RX3 yX3_isPose wsX3_isPose) := goodIn_app (goodIn_of _ (by decide +kernel)) ggX3_costs_X3_isPose
set_option maxRecDepth 20000 in
theorem ggX3_costs_X3_fail : GoodIn wsX3_costs wsX3_fail := goodIn_r _ [19, 1, 76, 77, 78, 79, 80, 81, 82, 83, 84] (by decide +kernel) (by decide +kernel)
set_option maxRecDepth 20000 in
theorem gX3_costs_X3_fail : GoodIn wsX3_costs (wsV RX3 46 RX3 yX3_fail wsX3_fail) := goodIn_app (goodIn_of _ (by decide +kernel)) ggX3_costs_X3_fail
set_option maxRecDepth 20000 in
theorem ggX3_costs_X3_can : GoodIn wsX3_costs wsX3_can := goodIn_r _ [23, 24, 25, 26, 27, 5, 28, 29, 30, 31, 32, 33, 34, 35, 36, 76, 77, 78, 79, 80, 81, 82, 83, 84] (by decide +kernel) (by decide +kernel)
set_option maxRecDepth 20000 in
theorem gX3_costs_X3_can : GoodIn wsX3_costs (wsV RX3 82 RX3 yX3_can wsX3_can) := goodIn_app (goodIn_of _ (by decide +kernel)) ggX3_costs_X3_can
set_option maxRecDepth 20000 in
theorem ggX3_costs_X3_kept : GoodIn wsX3_costs wsX3_kept := goodIn_r _ [40, 41, 33, 42, 43, 44, 45, 46, 47, 48, 76, 77, 78, 79, 80, 81, 82, 83, 84] (by decide +kernel) (by decide +kernel)
set_option maxRecDepth 20000 in
theorem gX3_costs_X3_kept : GoodIn wsX3_costs (wsV RX3 106 RX3 yX3_kept wsX3_kept) := goodIn_app (goodIn_of _ (by decide +kernel)) ggX3_costs_X3_kept
set_option maxRecDepth 20000 in
theorem ggX3_costs_X3_wearOf : GoodIn wsX3_costs wsX3_wearOf := goodIn_r _ [52, 29, 30, 31, 5, 32, 33, 34, 35, 36, 76, 77, 78, 79, 80, 81, 82, 83, 84] (by decide +kernel) (by decide +kernel)
set_option maxRecDepth 20000 in
theorem gX3_costs_X3_wearOf : GoodIn wsX3_costs (wsV RX3 110 RX3 yX3_wearOf wsX3_wearOf) := goodIn_app (goodIn_of _ (by decide +kernel)) ggX3_costs_X3_wearOf
set_option maxRecDepth 20000 in
theorem ggX3_costs_X3_turnAll : GoodIn wsX3_costs wsX3_turnAll := goodIn_r _ [56, 24, 57, 58, 59, 5, 60, 61, 62, 63, 64, 33, 65, 66, 67, 29, 30, 31, 32, 34, 35, 36, 25, 26, 27, 28, 76, 77, 78, 79, 80, 81, 82, 83, 84] (by decide +kernel) (by decide +kernel)
set_option maxRecDepth 20000 in
theorem gX3_costs_X3_turnAll : GoodIn wsX3_costs (wsV RX3 92 RX3 yX3_turnAll wsX3_turnAll) := goodIn_app (goodIn_of _ (by decide +kernel)) ggX3_costs_X3_turnAll
set_option maxRecDepth 20000 in
theorem ggX3_costs_X3_bringBack : GoodIn wsX3_costs wsX3_bringBack := goodIn_r _ [71, 33, 72, 73, 74, 75, 47, 48, 76, 77, 78, 79, 80, 81, 82, 83, 84] (by decide +kernel) (by decide +kernel)
set_option maxRecDepth 20000 in
theorem gX3_costs_X3_bringBack : GoodIn wsX3_costs (wsV RX3 113 RX3 yX3_bringBack wsX3_bringBack) := goodIn_app (goodIn_of _ (by decide +kernel)) ggX3_costs_X3_bringBack
theorem dX3_costs_0 : decode cX3_costs 0 = .ok (.aload_n 0, 1) := by decide +kernel
theorem dX3_costs_1 : decode cX3_costs 1 = .ok (.iconst 0, 1) := by decide +kernel
theorem dX3_costs_2 : decode cX3_costs 2 = .ok (.putfield 29, 3) := by decide +kernel
theorem dX3_costs_5 : decode cX3_costs 5 = .ok (.aload_n 0, 1) := by decide +kernel
theorem dX3_costs_6 : decode cX3_costs 6 = .ok (.iload_n 1, 1) := by decide +kernel
theorem dX3_costs_7 : decode cX3_costs 7 = .ok (.invokevirtual 75, 3) := by decide +kernel
theorem dX3_costs_10 : decode cX3_costs 10 = .ok (.ifCond .eq 11, 3) := by decide +kernel
theorem dX3_costs_13 : decode cX3_costs 13 = .ok (.aload_n 0, 1) := by decide +kernel
theorem dX3_costs_14 : decode cX3_costs 14 = .ok (.iload_n 2, 1) := by decide +kernel
theorem dX3_costs_15 : decode cX3_costs 15 = .ok (.invokevirtual 79, 3) := by decide +kernel
theorem dX3_costs_18 : decode cX3_costs 18 = .ok (.ifCond .ne 9, 3) := by decide +kernel
theorem dX3_costs_21 : decode cX3_costs 21 = .ok (.aload_n 0, 1) := by decide +kernel
theorem dX3_costs_22 : decode cX3_costs 22 = .ok (.iconst 1, 1) := by decide +kernel
theorem dX3_costs_23 : decode cX3_costs 23 = .ok (.invokevirtual 46, 3) := by decide +kernel
theorem dX3_costs_26 : decode cX3_costs 26 = .ok (.ireturn, 1) := by decide +kernel
theorem dX3_costs_27 : decode cX3_costs 27 = .ok (.aload_n 0, 1) := by decide +kernel
theorem dX3_costs_28 : decode cX3_costs 28 = .ok (.iload_n 1, 1) := by decide +kernel
theorem dX3_costs_29 : decode cX3_costs 29 = .ok (.iload_n 2, 1) := by decide +kernel
theorem dX3_costs_30 : decode cX3_costs 30 = .ok (.invokevirtual 82, 3) := by decide +kernel
theorem dX3_costs_33 : decode cX3_costs 33 = .ok (.ifCond .ne 5, 3) := by decide +kernel
theorem dX3_costs_36 : decode cX3_costs 36 = .ok (.iconst (-1), 1) := by decide +kernel
theorem dX3_costs_37 : decode cX3_costs 37 = .ok (.ireturn, 1) := by decide +kernel
theorem dX3_costs_38 : decode cX3_costs 38 = .ok (.aload_n 0, 1) := by decide +kernel
theorem dX3_costs_39 : decode cX3_costs 39 = .ok (.invokevirtual 106, 3) := by decide +kernel
theorem dX3_costs_42 : decode cX3_costs 42 = .ok (.astore_n 3, 1) := by decide +kernel
theorem dX3_costs_43 : decode cX3_costs 43 = .ok (.aload_n 0, 1) := by decide +kernel
theorem dX3_costs_44 : decode cX3_costs 44 = .ok (.iload_n 1, 1) := by decide +kernel
theorem dX3_costs_45 : decode cX3_costs 45 = .ok (.invokevirtual 110, 3) := by decide +kernel
theorem dX3_costs_48 : decode cX3_costs 48 = .ok (.istore 4, 2) := by decide +kernel
theorem dX3_costs_50 : decode cX3_costs 50 = .ok (.aload_n 0, 1) := by decide +kernel
theorem dX3_costs_51 : decode cX3_costs 51 = .ok (.iload_n 1, 1) := by decide +kernel
theorem dX3_costs_52 : decode cX3_costs 52 = .ok (.iload_n 2, 1) := by decide +kernel
theorem dX3_costs_53 : decode cX3_costs 53 = .ok (.invokevirtual 92, 3) := by decide +kernel
theorem dX3_costs_56 : decode cX3_costs 56 = .ok (.pop, 1) := by decide +kernel
theorem dX3_costs_57 : decode cX3_costs 57 = .ok (.aload_n 0, 1) := by decide +kernel
theorem dX3_costs_58 : decode cX3_costs 58 = .ok (.iload_n 1, 1) := by decide +kernel
theorem dX3_costs_59 : decode cX3_costs 59 = .ok (.invokevirtual 110, 3) := by decide +kernel
theorem dX3_costs_62 : decode cX3_costs 62 = .ok (.iload 4, 2) := by decide +kernel
theorem dX3_costs_64 : decode cX3_costs 64 = .ok (.isub, 1) := by decide +kernel
theorem dX3_costs_65 : decode cX3_costs 65 = .ok (.istore 5, 2) := by decide +kernel
theorem dX3_costs_67 : decode cX3_costs 67 = .ok (.aload_n 0, 1) := by decide +kernel
theorem dX3_costs_68 : decode cX3_costs 68 = .ok (.aload_n 3, 1) := by decide +kernel
theorem dX3_costs_69 : decode cX3_costs 69 = .ok (.invokevirtual 113, 3) := by decide +kernel
theorem dX3_costs_72 : decode cX3_costs 72 = .ok (.iload 5, 2) := by decide +kernel
theorem dX3_costs_74 : decode cX3_costs 74 = .ok (.ireturn, 1) := by decide +kernel
set_option maxRecDepth 20000 in
theorem ggX3_often_X3_isDoll : GoodIn wsX3_often wsX3_isDoll := goodIn_r _ [6, 7, 8, 9, 5, 10, 72, 73, 74, 75, 76, 77, 78, 79, 80] (by decide +kernel) (by decide +kernel)
set_option maxRecDepth 20000 in
theorem gX3_often_X3_isDoll : GoodIn wsX3_often (wsV RX3 75 RX3 yX3_isDoll wsX3_isDoll) := goodIn_app (goodIn_of _ (by decide +kernel)) ggX3_often_X3_isDoll
set_option maxRecDepth 20000 in
theorem ggX3_often_X3_isPose : GoodIn wsX3_often wsX3_isPose := goodIn_r _ [14, 15, 8, 9, 5, 10, 72, 73, 74, 75, 76, 77, 78, 79, 80] (by decide +kernel) (by decide +kernel)
set_option maxRecDepth 20000 in
theorem gX3_often_X3_isPose : GoodIn wsX3_often (wsV RX3 79 RX3 yX3_isPose wsX3_isPose) := goodIn_app (goodIn_of _ (by decide +kernel)) ggX3_often_X3_isPose
set_option maxRecDepth 20000 in
theorem ggX3_often_X3_fail : GoodIn wsX3_often wsX3_fail := goodIn_r _ [19, 1, 72, 73, 74, 75, 76, 77, 78, 79, 80] (by decide +kernel) (by decide +kernel)
set_option maxRecDepth 20000 in
theorem gX3_often_X3_fail : GoodIn wsX3_often (wsV RX3 46 RX3 yX3_fail wsX3_fail) := goodIn_app (goodIn_of _ (by decide +kernel)) ggX3_often_X3_fail
set_option maxRecDepth 20000 in
theorem ggX3_often_X3_kept : GoodIn wsX3_often wsX3_kept := goodIn_r _ [23, 24, 25, 26, 27, 28, 29, 30, 31, 32, 72, 73, 74, 75, 76, 77, 78, 79, 80] (by decide +kernel) (by decide +kernel)
set_option maxRecDepth 20000 in
theorem gX3_often_X3_kept : GoodIn wsX3_often (wsV RX3 106 RX3 yX3_kept wsX3_kept) := goodIn_app (goodIn_of _ (by decide +kernel)) ggX3_often_X3_kept
set_option maxRecDepth 20000 in
theorem ggX3_often_X3_can : GoodIn wsX3_often wsX3_can := goodIn_r _ [36, 37, 38, 39, 40, 5, 41, 42, 43, 44, 45, 25, 46, 47, 48, 72, 73, 74, 75, 76, 77, 78, 79, 80] (by decide +kernel) (by decide +kernel)
set_option maxRecDepth 20000 in
theorem gX3_often_X3_can : GoodIn wsX3_often (wsV RX3 82 RX3 yX3_can wsX3_can) := goodIn_app (goodIn_of _ (by decide +kernel)) ggX3_often_X3_can
set_option maxRecDepth 20000 in
theorem ggX3_often_X3_turnAll : GoodIn wsX3_often wsX3_turnAll := goodIn_r _ [52, 37, 53, 54, 55, 5, 56, 57, 58, 59, 60, 25, 61, 62, 63, 42, 43, 44, 45, 46, 47, 48, 38, 39, 40, 41, 72, 73, 74, 75, 76, 77, 78, 79, 80] (by decide +kernel) (by decide +kernel)
set_option maxRecDepth 20000 in
theorem gX3_often_X3_turnAll : GoodIn wsX3_often (wsV RX3 92 RX3 yX3_turnAll wsX3_turnAll) := goodIn_app (goodIn_of _ (by decide +kernel)) ggX3_often_X3_turnAll
set_option maxRecDepth 20000 in
theorem ggX3_often_X3_isBroken : GoodIn wsX3_often wsX3_isBroken := goodIn_r _ [41, 42, 43, 44, 5, 45, 25, 46, 47, 48, 72, 73, 74, 75, 76, 77, 78, 79, 80] (by decide +kernel) (by decide +kernel)
set_option maxRecDepth 20000 in
theorem gX3_often_X3_isBroken : GoodIn wsX3_often (wsV RX3 68 RX3 yX3_isBroken wsX3_isBroken) := goodIn_app (goodIn_of _ (by decide +kernel)) ggX3_often_X3_isBroken
set_option maxRecDepth 20000 in
theorem ggX3_often_X3_turn : GoodIn wsX3_often wsX3_turn := goodIn_r _ [56, 57, 58, 59, 60, 25, 61, 62, 63, 42, 43, 44, 5, 45, 46, 47, 48, 38, 39, 40, 41, 72, 73, 74, 75, 76, 77, 78, 79, 80] (by decide +kernel) (by decide +kernel)
set_option maxRecDepth 20000 in
theorem gX3_often_X3_turn : GoodIn wsX3_often (wsV RX3 72 RX3 yX3_turn wsX3_turn) := goodIn_app (goodIn_of _ (by decide +kernel)) ggX3_often_X3_turn
set_option maxRecDepth 20000 in
theorem ggX3_often_X3_bringBack : GoodIn wsX3_often wsX3_bringBack := goodIn_r _ [67, 25, 68, 69, 70, 71, 31, 32, 72, 73, 74, 75, 76, 77, 78, 79, 80] (by decide +kernel) (by decide +kernel)
set_option maxRecDepth 20000 in
theorem gX3_often_X3_bringBack : GoodIn wsX3_often (wsV RX3 113 RX3 yX3_bringBack wsX3_bringBack) := goodIn_app (goodIn_of _ (by decide +kernel)) ggX3_often_X3_bringBack
theorem dX3_often_0 : decode cX3_often 0 = .ok (.aload_n 0, 1) := by decide +kernel
theorem dX3_often_1 : decode cX3_often 1 = .ok (.iconst 0, 1) := by decide +kernel
theorem dX3_often_2 : decode cX3_often 2 = .ok (.putfield 29, 3) := by decide +kernel
theorem dX3_often_5 : decode cX3_often 5 = .ok (.aload_n 0, 1) := by decide +kernel
theorem dX3_often_6 : decode cX3_often 6 = .ok (.iload_n 1, 1) := by decide +kernel
theorem dX3_often_7 : decode cX3_often 7 = .ok (.invokevirtual 75, 3) := by decide +kernel
theorem dX3_often_10 : decode cX3_often 10 = .ok (.ifCond .eq 11, 3) := by decide +kernel
theorem dX3_often_13 : decode cX3_often 13 = .ok (.aload_n 0, 1) := by decide +kernel
theorem dX3_often_14 : decode cX3_often 14 = .ok (.iload_n 2, 1) := by decide +kernel
theorem dX3_often_15 : decode cX3_often 15 = .ok (.invokevirtual 79, 3) := by decide +kernel
theorem dX3_often_18 : decode cX3_often 18 = .ok (.ifCond .ne 9, 3) := by decide +kernel
theorem dX3_often_21 : decode cX3_often 21 = .ok (.aload_n 0, 1) := by decide +kernel
theorem dX3_often_22 : decode cX3_often 22 = .ok (.iconst 1, 1) := by decide +kernel
theorem dX3_often_23 : decode cX3_often 23 = .ok (.invokevirtual 46, 3) := by decide +kernel
theorem dX3_often_26 : decode cX3_often 26 = .ok (.ireturn, 1) := by decide +kernel
theorem dX3_often_27 : decode cX3_often 27 = .ok (.aload_n 0, 1) := by decide +kernel
theorem dX3_often_28 : decode cX3_often 28 = .ok (.invokevirtual 106, 3) := by decide +kernel
theorem dX3_often_31 : decode cX3_often 31 = .ok (.astore_n 3, 1) := by decide +kernel
theorem dX3_often_32 : decode cX3_often 32 = .ok (.iconst 0, 1) := by decide +kernel
theorem dX3_often_33 : decode cX3_often 33 = .ok (.istore 4, 2) := by decide +kernel
theorem dX3_often_35 : decode cX3_often 35 = .ok (.iload 4, 2) := by decide +kernel
theorem dX3_often_37 : decode cX3_often 37 = .ok (.bipush 50, 2) := by decide +kernel
theorem dX3_often_39 : decode cX3_often 39 = .ok (.if_icmp .ge 60, 3) := by decide +kernel
theorem dX3_often_42 : decode cX3_often 42 = .ok (.aload_n 0, 1) := by decide +kernel
theorem dX3_often_43 : decode cX3_often 43 = .ok (.iload_n 1, 1) := by decide +kernel
theorem dX3_often_44 : decode cX3_often 44 = .ok (.iload_n 2, 1) := by decide +kernel
theorem dX3_often_45 : decode cX3_often 45 = .ok (.invokevirtual 82, 3) := by decide +kernel
theorem dX3_often_48 : decode cX3_often 48 = .ok (.ifCond .eq 51, 3) := by decide +kernel
theorem dX3_often_51 : decode cX3_often 51 = .ok (.aload_n 0, 1) := by decide +kernel
theorem dX3_often_52 : decode cX3_often 52 = .ok (.iload_n 1, 1) := by decide +kernel
theorem dX3_often_53 : decode cX3_often 53 = .ok (.iload_n 2, 1) := by decide +kernel
theorem dX3_often_54 : decode cX3_often 54 = .ok (.invokevirtual 92, 3) := by decide +kernel
theorem dX3_often_57 : decode cX3_often 57 = .ok (.pop, 1) := by decide +kernel
theorem dX3_often_58 : decode cX3_often 58 = .ok (.iconst 0, 1) := by decide +kernel
theorem dX3_often_59 : decode cX3_often 59 = .ok (.istore 5, 2) := by decide +kernel
theorem dX3_often_61 : decode cX3_often 61 = .ok (.iload 5, 2) := by decide +kernel
theorem dX3_often_63 : decode cX3_often 63 = .ok (.bipush 6, 2) := by decide +kernel
theorem dX3_often_65 : decode cX3_often 65 = .ok (.if_icmp .ge 28, 3) := by decide +kernel
theorem dX3_often_68 : decode cX3_often 68 = .ok (.aload_n 0, 1) := by decide +kernel
theorem dX3_often_69 : decode cX3_often 69 = .ok (.iload_n 1, 1) := by decide +kernel
theorem dX3_often_70 : decode cX3_often 70 = .ok (.iload 5, 2) := by decide +kernel
theorem dX3_often_72 : decode cX3_often 72 = .ok (.invokevirtual 68, 3) := by decide +kernel
theorem dX3_often_75 : decode cX3_often 75 = .ok (.ifCond .ne 12, 3) := by decide +kernel
theorem dX3_often_78 : decode cX3_often 78 = .ok (.aload_n 0, 1) := by decide +kernel
theorem dX3_often_79 : decode cX3_often 79 = .ok (.iload_n 1, 1) := by decide +kernel
theorem dX3_often_80 : decode cX3_often 80 = .ok (.iload 5, 2) := by decide +kernel
theorem dX3_often_82 : decode cX3_often 82 = .ok (.iconst 0, 1) := by decide +kernel
theorem dX3_often_83 : decode cX3_often 83 = .ok (.invokevirtual 72, 3) := by decide +kernel
theorem dX3_often_86 : decode cX3_often 86 = .ok (.pop, 1) := by decide +kernel
theorem dX3_often_87 : decode cX3_often 87 = .ok (.iinc 5 1, 3) := by decide +kernel
theorem dX3_often_90 : decode cX3_often 90 = .ok (.goto (-29), 3) := by decide +kernel
theorem dX3_often_93 : decode cX3_often 93 = .ok (.iinc 4 1, 3) := by decide +kernel
theorem dX3_often_96 : decode cX3_often 96 = .ok (.goto (-61), 3) := by decide +kernel
theorem dX3_often_99 : decode cX3_often 99 = .ok (.aload_n 0, 1) := by decide +kernel
theorem dX3_often_100 : decode cX3_often 100 = .ok (.aload_n 3, 1) := by decide +kernel
theorem dX3_often_101 : decode cX3_often 101 = .ok (.invokevirtual 113, 3) := by decide +kernel
theorem dX3_often_104 : decode cX3_often 104 = .ok (.iload 4, 2) := by decide +kernel
theorem dX3_often_106 : decode cX3_often 106 = .ok (.ireturn, 1) := by decide +kernel
set_option maxRecDepth 20000 in
theorem ggX3_needed_X3_li : GoodIn wsX3_needed wsX3_li := goodIn_r _ [5, 6, 7, 8, 4, 9, 15, 16, 17, 18, 19, 20, 21, 22, 23] (by decide +kernel) (by decide +kernel)
set_option maxRecDepth 20000 in
theorem gX3_needed_X3_li : GoodIn wsX3_needed (wsV RX3 56 RX3 yX3_li wsX3_li) := goodIn_app (goodIn_of _ (by decide +kernel)) ggX3_needed_X3_li
set_option maxRecDepth 20000 in
theorem ggX3_needed_X3_ro : GoodIn wsX3_needed wsX3_ro := goodIn_r _ [13, 14, 15, 16, 17, 18, 19, 20, 21, 22, 23] (by decide +kernel) (by decide +kernel)
set_option maxRecDepth 20000 in
theorem gX3_needed_X3_ro : GoodIn wsX3_needed (wsV RX3 85 RX3 yX3_ro wsX3_ro) := goodIn_app (goodIn_of _ (by decide +kernel)) ggX3_needed_X3_ro
theorem dX3_needed_0 : decode cX3_needed 0 = .ok (.iconst 0, 1) := by decide +kernel
theorem dX3_needed_1 : decode cX3_needed 1 = .ok (.istore_n 3, 1) := by decide +kernel
theorem dX3_needed_2 : decode cX3_needed 2 = .ok (.iload_n 2, 1) := by decide +kernel
theorem dX3_needed_3 : decode cX3_needed 3 = .ok (.tableswitch 155 0 3 #[29, 68, 105, 129], 29) := by decide +kernel
theorem dX3_needed_32 : decode cX3_needed 32 = .ok (.iconst 0, 1) := by decide +kernel
theorem dX3_needed_33 : decode cX3_needed 33 = .ok (.istore 4, 2) := by decide +kernel
theorem dX3_needed_35 : decode cX3_needed 35 = .ok (.iload 4, 2) := by decide +kernel
theorem dX3_needed_37 : decode cX3_needed 37 = .ok (.bipush 6, 2) := by decide +kernel
theorem dX3_needed_39 : decode cX3_needed 39 = .ok (.if_icmp .ge 30, 3) := by decide +kernel
theorem dX3_needed_42 : decode cX3_needed 42 = .ok (.iload_n 3, 1) := by decide +kernel
theorem dX3_needed_43 : decode cX3_needed 43 = .ok (.aload_n 0, 1) := by decide +kernel
theorem dX3_needed_44 : decode cX3_needed 44 = .ok (.iload_n 1, 1) := by decide +kernel
theorem dX3_needed_45 : decode cX3_needed 45 = .ok (.iload 4, 2) := by decide +kernel
theorem dX3_needed_47 : decode cX3_needed 47 = .ok (.iconst 1, 1) := by decide +kernel
theorem dX3_needed_48 : decode cX3_needed 48 = .ok (.invokevirtual 56, 3) := by decide +kernel
theorem dX3_needed_51 : decode cX3_needed 51 = .ok (.bipush 50, 2) := by decide +kernel
theorem dX3_needed_53 : decode cX3_needed 53 = .ok (.if_icmp .lt 7, 3) := by decide +kernel
theorem dX3_needed_56 : decode cX3_needed 56 = .ok (.iconst 1, 1) := by decide +kernel
theorem dX3_needed_57 : decode cX3_needed 57 = .ok (.goto 4, 3) := by decide +kernel
theorem dX3_needed_60 : decode cX3_needed 60 = .ok (.iconst 0, 1) := by decide +kernel
theorem dX3_needed_61 : decode cX3_needed 61 = .ok (.iadd, 1) := by decide +kernel
theorem dX3_needed_62 : decode cX3_needed 62 = .ok (.istore_n 3, 1) := by decide +kernel
theorem dX3_needed_63 : decode cX3_needed 63 = .ok (.iinc 4 1, 3) := by decide +kernel
theorem dX3_needed_66 : decode cX3_needed 66 = .ok (.goto (-31), 3) := by decide +kernel
theorem dX3_needed_69 : decode cX3_needed 69 = .ok (.iload_n 3, 1) := by decide +kernel
theorem dX3_needed_70 : decode cX3_needed 70 = .ok (.ireturn, 1) := by decide +kernel
theorem dX3_needed_71 : decode cX3_needed 71 = .ok (.iconst 0, 1) := by decide +kernel
theorem dX3_needed_72 : decode cX3_needed 72 = .ok (.istore 4, 2) := by decide +kernel
theorem dX3_needed_74 : decode cX3_needed 74 = .ok (.iload 4, 2) := by decide +kernel
theorem dX3_needed_76 : decode cX3_needed 76 = .ok (.bipush 6, 2) := by decide +kernel
theorem dX3_needed_78 : decode cX3_needed 78 = .ok (.if_icmp .ge 28, 3) := by decide +kernel
theorem dX3_needed_81 : decode cX3_needed 81 = .ok (.iload_n 3, 1) := by decide +kernel
theorem dX3_needed_82 : decode cX3_needed 82 = .ok (.aload_n 0, 1) := by decide +kernel
theorem dX3_needed_83 : decode cX3_needed 83 = .ok (.iload_n 1, 1) := by decide +kernel
theorem dX3_needed_84 : decode cX3_needed 84 = .ok (.iload 4, 2) := by decide +kernel
theorem dX3_needed_86 : decode cX3_needed 86 = .ok (.iconst 2, 1) := by decide +kernel
theorem dX3_needed_87 : decode cX3_needed 87 = .ok (.invokevirtual 56, 3) := by decide +kernel
theorem dX3_needed_90 : decode cX3_needed 90 = .ok (.ifCond .ne 7, 3) := by decide +kernel
theorem dX3_needed_93 : decode cX3_needed 93 = .ok (.iconst 1, 1) := by decide +kernel
theorem dX3_needed_94 : decode cX3_needed 94 = .ok (.goto 4, 3) := by decide +kernel
theorem dX3_needed_97 : decode cX3_needed 97 = .ok (.iconst 0, 1) := by decide +kernel
theorem dX3_needed_98 : decode cX3_needed 98 = .ok (.iadd, 1) := by decide +kernel
theorem dX3_needed_99 : decode cX3_needed 99 = .ok (.istore_n 3, 1) := by decide +kernel
theorem dX3_needed_100 : decode cX3_needed 100 = .ok (.iinc 4 1, 3) := by decide +kernel
theorem dX3_needed_103 : decode cX3_needed 103 = .ok (.goto (-29), 3) := by decide +kernel
theorem dX3_needed_106 : decode cX3_needed 106 = .ok (.iload_n 3, 1) := by decide +kernel
theorem dX3_needed_107 : decode cX3_needed 107 = .ok (.ireturn, 1) := by decide +kernel
theorem dX3_needed_108 : decode cX3_needed 108 = .ok (.aload_n 0, 1) := by decide +kernel
theorem dX3_needed_109 : decode cX3_needed 109 = .ok (.iload_n 1, 1) := by decide +kernel
theorem dX3_needed_110 : decode cX3_needed 110 = .ok (.iconst 5, 1) := by decide +kernel
theorem dX3_needed_111 : decode cX3_needed 111 = .ok (.invokevirtual 85, 3) := by decide +kernel
theorem dX3_needed_114 : decode cX3_needed 114 = .ok (.ifCond .ne 7, 3) := by decide +kernel
theorem dX3_needed_117 : decode cX3_needed 117 = .ok (.iconst 0, 1) := by decide +kernel
theorem dX3_needed_118 : decode cX3_needed 118 = .ok (.goto 13, 3) := by decide +kernel
theorem dX3_needed_121 : decode cX3_needed 121 = .ok (.bipush 12, 2) := by decide +kernel
theorem dX3_needed_123 : decode cX3_needed 123 = .ok (.aload_n 0, 1) := by decide +kernel
theorem dX3_needed_124 : decode cX3_needed 124 = .ok (.iload_n 1, 1) := by decide +kernel
theorem dX3_needed_125 : decode cX3_needed 125 = .ok (.bipush 6, 2) := by decide +kernel
theorem dX3_needed_127 : decode cX3_needed 127 = .ok (.invokevirtual 85, 3) := by decide +kernel
theorem dX3_needed_130 : decode cX3_needed 130 = .ok (.isub, 1) := by decide +kernel
theorem dX3_needed_131 : decode cX3_needed 131 = .ok (.ireturn, 1) := by decide +kernel
theorem dX3_needed_132 : decode cX3_needed 132 = .ok (.aload_n 0, 1) := by decide +kernel
theorem dX3_needed_133 : decode cX3_needed 133 = .ok (.iload_n 1, 1) := by decide +kernel
theorem dX3_needed_134 : decode cX3_needed 134 = .ok (.iconst 2, 1) := by decide +kernel
theorem dX3_needed_135 : decode cX3_needed 135 = .ok (.invokevirtual 85, 3) := by decide +kernel
theorem dX3_needed_138 : decode cX3_needed 138 = .ok (.iconst 5, 1) := by decide +kernel
theorem dX3_needed_139 : decode cX3_needed 139 = .ok (.if_icmp .ge 13, 3) := by decide +kernel
theorem dX3_needed_142 : decode cX3_needed 142 = .ok (.aload_n 0, 1) := by decide +kernel
theorem dX3_needed_143 : decode cX3_needed 143 = .ok (.iload_n 1, 1) := by decide +kernel
theorem dX3_needed_144 : decode cX3_needed 144 = .ok (.iconst 3, 1) := by decide +kernel
theorem dX3_needed_145 : decode cX3_needed 145 = .ok (.invokevirtual 85, 3) := by decide +kernel
theorem dX3_needed_148 : decode cX3_needed 148 = .ok (.iconst 5, 1) := by decide +kernel
theorem dX3_needed_149 : decode cX3_needed 149 = .ok (.if_icmp .lt 7, 3) := by decide +kernel
theorem dX3_needed_152 : decode cX3_needed 152 = .ok (.iconst 1, 1) := by decide +kernel
theorem dX3_needed_153 : decode cX3_needed 153 = .ok (.goto 4, 3) := by decide +kernel
theorem dX3_needed_156 : decode cX3_needed 156 = .ok (.iconst 0, 1) := by decide +kernel
theorem dX3_needed_157 : decode cX3_needed 157 = .ok (.ireturn, 1) := by decide +kernel
theorem dX3_needed_158 : decode cX3_needed 158 = .ok (.aload_n 0, 1) := by decide +kernel
theorem dX3_needed_159 : decode cX3_needed 159 = .ok (.iload_n 1, 1) := by decide +kernel
theorem dX3_needed_160 : decode cX3_needed 160 = .ok (.iconst 4, 1) := by decide +kernel
theorem dX3_needed_161 : decode cX3_needed 161 = .ok (.invokevirtual 85, 3) := by decide +kernel
theorem dX3_needed_164 : decode cX3_needed 164 = .ok (.iconst (-1), 1) := by decide +kernel
theorem dX3_needed_165 : decode cX3_needed 165 = .ok (.if_icmp .eq 13, 3) := by decide +kernel
theorem dX3_needed_168 : decode cX3_needed 168 = .ok (.aload_n 0, 1) := by decide +kernel
theorem dX3_needed_169 : decode cX3_needed 169 = .ok (.iload_n 1, 1) := by decide +kernel
theorem dX3_needed_170 : decode cX3_needed 170 = .ok (.iconst 4, 1) := by decide +kernel
theorem dX3_needed_171 : decode cX3_needed 171 = .ok (.invokevirtual 85, 3) := by decide +kernel
theorem dX3_needed_174 : decode cX3_needed 174 = .ok (.iconst 5, 1) := by decide +kernel
theorem dX3_needed_175 : decode cX3_needed 175 = .ok (.if_icmp .lt 7, 3) := by decide +kernel
theorem dX3_needed_178 : decode cX3_needed 178 = .ok (.iconst 1, 1) := by decide +kernel
theorem dX3_needed_179 : decode cX3_needed 179 = .ok (.goto 4, 3) := by decide +kernel
theorem dX3_needed_182 : decode cX3_needed 182 = .ok (.iconst 0, 1) := by decide +kernel
theorem dX3_needed_183 : decode cX3_needed 183 = .ok (.ireturn, 1) := by decide +kernel
set_option maxRecDepth 20000 in
theorem ggX3_needs_X3_isDoll : GoodIn wsX3_needs wsX3_isDoll := goodIn_r _ [6, 7, 8, 9, 5, 10, 32, 33, 34, 35, 36, 37, 38, 39, 40] (by decide +kernel) (by decide +kernel)
set_option maxRecDepth 20000 in
theorem gX3_needs_X3_isDoll : GoodIn wsX3_needs (wsV RX3 75 RX3 yX3_isDoll wsX3_isDoll) := goodIn_app (goodIn_of _ (by decide +kernel)) ggX3_needs_X3_isDoll
set_option maxRecDepth 20000 in
theorem ggX3_needs_X3_fail : GoodIn wsX3_needs wsX3_fail := goodIn_r _ [14, 1, 32, 33, 34, 35, 36, 37, 38, 39, 40] (by decide +kernel) (by decide +kernel)
set_option maxRecDepth 20000 in
theorem gX3_needs_X3_fail : GoodIn wsX3_needs (wsV RX3 46 RX3 yX3_fail wsX3_fail) := goodIn_app (goodIn_of _ (by decide +kernel)) ggX3_needs_X3_fail
set_option maxRecDepth 20000 in
theorem ggX3_needs_X3_isIn : GoodIn wsX3_needs wsX3_isIn := goodIn_r _ [10] (by decide +kernel) (by decide +kernel)
set_option maxRecDepth 20000 in
theorem gX3_needs_X3_isIn : GoodIn wsX3_needs (va_wsS RX3 35 yX3_isIn wsX3_isIn) := goodIn_app (goodIn_of _ (by decide +kernel)) ggX3_needs_X3_isIn
set_option maxRecDepth 20000 in
theorem ggX3_needs_X3_needed : GoodIn wsX3_needs wsX3_needed := goodIn_r _ [18, 19, 20, 21, 5, 22, 23, 24, 25, 26, 27, 28, 29, 30, 31, 32, 33, 34, 35, 36, 37, 38, 39, 40] (by decide +kernel) (by decide +kernel)
set_option maxRecDepth 20000 in
theorem gX3_needs_X3_needed : GoodIn wsX3_needs (wsV RX3 117 RX3 yX3_needed wsX3_needed) := goodIn_app (goodIn_of _ (by decide +kernel)) ggX3_needs_X3_needed
theorem dX3_needs_0 : decode cX3_needs 0 = .ok (.aload_n 0, 1) := by decide +kernel
theorem dX3_needs_1 : decode cX3_needs 1 = .ok (.iconst 0, 1) := by decide +kernel
theorem dX3_needs_2 : decode cX3_needs 2 = .ok (.putfield 29, 3) := by decide +kernel
theorem dX3_needs_5 : decode cX3_needs 5 = .ok (.aload_n 0, 1) := by decide +kernel
theorem dX3_needs_6 : decode cX3_needs 6 = .ok (.iload_n 1, 1) := by decide +kernel
theorem dX3_needs_7 : decode cX3_needs 7 = .ok (.invokevirtual 75, 3) := by decide +kernel
theorem dX3_needs_10 : decode cX3_needs 10 = .ok (.ifCond .ne 9, 3) := by decide +kernel
theorem dX3_needs_13 : decode cX3_needs 13 = .ok (.aload_n 0, 1) := by decide +kernel
theorem dX3_needs_14 : decode cX3_needs 14 = .ok (.iconst 1, 1) := by decide +kernel
theorem dX3_needs_15 : decode cX3_needs 15 = .ok (.invokevirtual 46, 3) := by decide +kernel
theorem dX3_needs_18 : decode cX3_needs 18 = .ok (.ireturn, 1) := by decide +kernel
theorem dX3_needs_19 : decode cX3_needs 19 = .ok (.iload_n 2, 1) := by decide +kernel
theorem dX3_needs_20 : decode cX3_needs 20 = .ok (.iconst 0, 1) := by decide +kernel
theorem dX3_needs_21 : decode cX3_needs 21 = .ok (.iconst 4, 1) := by decide +kernel
theorem dX3_needs_22 : decode cX3_needs 22 = .ok (.invokestatic 35, 3) := by decide +kernel
theorem dX3_needs_25 : decode cX3_needs 25 = .ok (.ifCond .eq 12, 3) := by decide +kernel
theorem dX3_needs_28 : decode cX3_needs 28 = .ok (.aload_n 0, 1) := by decide +kernel
theorem dX3_needs_29 : decode cX3_needs 29 = .ok (.iload_n 1, 1) := by decide +kernel
theorem dX3_needs_30 : decode cX3_needs 30 = .ok (.iload_n 2, 1) := by decide +kernel
theorem dX3_needs_31 : decode cX3_needs 31 = .ok (.invokevirtual 117, 3) := by decide +kernel
theorem dX3_needs_34 : decode cX3_needs 34 = .ok (.goto 8, 3) := by decide +kernel
theorem dX3_needs_37 : decode cX3_needs 37 = .ok (.aload_n 0, 1) := by decide +kernel
theorem dX3_needs_38 : decode cX3_needs 38 = .ok (.iconst 2, 1) := by decide +kernel
theorem dX3_needs_39 : decode cX3_needs 39 = .ok (.invokevirtual 46, 3) := by decide +kernel
theorem dX3_needs_42 : decode cX3_needs 42 = .ok (.ireturn, 1) := by decide +kernel
set_option maxRecDepth 20000 in
theorem ggX3_lacks_X3_isIn : GoodIn wsX3_lacks wsX3_isIn := goodIn_r _ [11] (by decide +kernel) (by decide +kernel)
set_option maxRecDepth 20000 in
theorem gX3_lacks_X3_isIn : GoodIn wsX3_lacks (va_wsS RX3 35 yX3_isIn wsX3_isIn) := goodIn_app (goodIn_of _ (by decide +kernel)) ggX3_lacks_X3_isIn
set_option maxRecDepth 20000 in
theorem ggX3_lacks_X3_fail : GoodIn wsX3_lacks wsX3_fail := goodIn_r _ [15, 1, 33, 34, 35, 36, 37, 38, 39, 40, 41] (by decide +kernel) (by decide +kernel)
set_option maxRecDepth 20000 in
theorem gX3_lacks_X3_fail : GoodIn wsX3_lacks (wsV RX3 46 RX3 yX3_fail wsX3_fail) := goodIn_app (goodIn_of _ (by decide +kernel)) ggX3_lacks_X3_fail
set_option maxRecDepth 20000 in
theorem ggX3_lacks_X3_needed : GoodIn wsX3_lacks wsX3_needed := goodIn_r _ [19, 20, 21, 22, 10, 23, 24, 25, 26, 27, 28, 29, 30, 31, 32, 33, 34, 35, 36, 37, 38, 39, 40, 41] (by decide +kernel) (by decide +kernel)
set_option maxRecDepth 20000 in
theorem gX3_lacks_X3_needed : GoodIn wsX3_lacks (wsV RX3 117 RX3 yX3_needed wsX3_needed) := goodIn_app (goodIn_of _ (by decide +kernel)) ggX3_lacks_X3_needed
theorem dX3_lacks_0 : decode cX3_lacks 0 = .ok (.aload_n 0, 1) := by decide +kernel
theorem dX3_lacks_1 : decode cX3_lacks 1 = .ok (.iconst 0, 1) := by decide +kernel
theorem dX3_lacks_2 : decode cX3_lacks 2 = .ok (.putfield 29, 3) := by decide +kernel
theorem dX3_lacks_5 : decode cX3_lacks 5 = .ok (.iload_n 1, 1) := by decide +kernel
theorem dX3_lacks_6 : decode cX3_lacks 6 = .ok (.iconst 0, 1) := by decide +kernel
theorem dX3_lacks_7 : decode cX3_lacks 7 = .ok (.iconst 4, 1) := by decide +kernel
theorem dX3_lacks_8 : decode cX3_lacks 8 = .ok (.invokestatic 35, 3) := by decide +kernel
theorem dX3_lacks_11 : decode cX3_lacks 11 = .ok (.ifCond .ne 9, 3) := by decide +kernel
theorem dX3_lacks_14 : decode cX3_lacks 14 = .ok (.aload_n 0, 1) := by decide +kernel
theorem dX3_lacks_15 : decode cX3_lacks 15 = .ok (.iconst 1, 1) := by decide +kernel
theorem dX3_lacks_16 : decode cX3_lacks 16 = .ok (.invokevirtual 46, 3) := by decide +kernel
theorem dX3_lacks_19 : decode cX3_lacks 19 = .ok (.ireturn, 1) := by decide +kernel
theorem dX3_lacks_20 : decode cX3_lacks 20 = .ok (.iconst 0, 1) := by decide +kernel
theorem dX3_lacks_21 : decode cX3_lacks 21 = .ok (.istore_n 2, 1) := by decide +kernel
theorem dX3_lacks_22 : decode cX3_lacks 22 = .ok (.iconst 0, 1) := by decide +kernel
theorem dX3_lacks_23 : decode cX3_lacks 23 = .ok (.istore_n 3, 1) := by decide +kernel
theorem dX3_lacks_24 : decode cX3_lacks 24 = .ok (.iload_n 3, 1) := by decide +kernel
theorem dX3_lacks_25 : decode cX3_lacks 25 = .ok (.aload_n 0, 1) := by decide +kernel
theorem dX3_lacks_26 : decode cX3_lacks 26 = .ok (.getfield 32, 3) := by decide +kernel
theorem dX3_lacks_29 : decode cX3_lacks 29 = .ok (.if_icmp .ge 18, 3) := by decide +kernel
theorem dX3_lacks_32 : decode cX3_lacks 32 = .ok (.iload_n 2, 1) := by decide +kernel
theorem dX3_lacks_33 : decode cX3_lacks 33 = .ok (.aload_n 0, 1) := by decide +kernel
theorem dX3_lacks_34 : decode cX3_lacks 34 = .ok (.iload_n 3, 1) := by decide +kernel
theorem dX3_lacks_35 : decode cX3_lacks 35 = .ok (.iload_n 1, 1) := by decide +kernel
theorem dX3_lacks_36 : decode cX3_lacks 36 = .ok (.invokevirtual 117, 3) := by decide +kernel
theorem dX3_lacks_39 : decode cX3_lacks 39 = .ok (.iadd, 1) := by decide +kernel
theorem dX3_lacks_40 : decode cX3_lacks 40 = .ok (.istore_n 2, 1) := by decide +kernel
theorem dX3_lacks_41 : decode cX3_lacks 41 = .ok (.iinc 3 1, 3) := by decide +kernel
theorem dX3_lacks_44 : decode cX3_lacks 44 = .ok (.goto (-20), 3) := by decide +kernel
theorem dX3_lacks_47 : decode cX3_lacks 47 = .ok (.iconst 0, 1) := by decide +kernel
theorem dX3_lacks_48 : decode cX3_lacks 48 = .ok (.iload_n 2, 1) := by decide +kernel
theorem dX3_lacks_49 : decode cX3_lacks 49 = .ok (.aload_n 0, 1) := by decide +kernel
theorem dX3_lacks_50 : decode cX3_lacks 50 = .ok (.getfield 23, 3) := by decide +kernel
theorem dX3_lacks_53 : decode cX3_lacks 53 = .ok (.iload_n 1, 1) := by decide +kernel
theorem dX3_lacks_54 : decode cX3_lacks 54 = .ok (.iaload, 1) := by decide +kernel
theorem dX3_lacks_55 : decode cX3_lacks 55 = .ok (.isub, 1) := by decide +kernel
theorem dX3_lacks_56 : decode cX3_lacks 56 = .ok (.invokestatic 120, 3) := by decide +kernel
theorem dX3_lacks_59 : decode cX3_lacks 59 = .ok (.ireturn, 1) := by decide +kernel
set_option maxRecDepth 20000 in
theorem ggX3_worst_X3_needed : GoodIn wsX3_worst wsX3_needed := goodIn_r _ [7, 8, 9, 10, 6, 11, 12, 13, 14, 15, 16, 17, 18, 19, 20, 21, 22, 23, 24, 25, 26, 27, 28, 29] (by decide +kernel) (by decide +kernel)
set_option maxRecDepth 20000 in
theorem gX3_worst_X3_needed : GoodIn wsX3_worst (wsV RX3 117 RX3 yX3_needed wsX3_needed) := goodIn_app (goodIn_of _ (by decide +kernel)) ggX3_worst_X3_needed
theorem dX3_worst_0 : decode cX3_worst 0 = .ok (.aload_n 0, 1) := by decide +kernel
theorem dX3_worst_1 : decode cX3_worst 1 = .ok (.iconst 0, 1) := by decide +kernel
theorem dX3_worst_2 : decode cX3_worst 2 = .ok (.putfield 29, 3) := by decide +kernel
theorem dX3_worst_5 : decode cX3_worst 5 = .ok (.iconst (-1), 1) := by decide +kernel
theorem dX3_worst_6 : decode cX3_worst 6 = .ok (.istore_n 1, 1) := by decide +kernel
theorem dX3_worst_7 : decode cX3_worst 7 = .ok (.iconst 0, 1) := by decide +kernel
theorem dX3_worst_8 : decode cX3_worst 8 = .ok (.istore_n 2, 1) := by decide +kernel
theorem dX3_worst_9 : decode cX3_worst 9 = .ok (.iconst 0, 1) := by decide +kernel
theorem dX3_worst_10 : decode cX3_worst 10 = .ok (.istore_n 3, 1) := by decide +kernel
theorem dX3_worst_11 : decode cX3_worst 11 = .ok (.iload_n 3, 1) := by decide +kernel
theorem dX3_worst_12 : decode cX3_worst 12 = .ok (.aload_n 0, 1) := by decide +kernel
theorem dX3_worst_13 : decode cX3_worst 13 = .ok (.getfield 32, 3) := by decide +kernel
theorem dX3_worst_16 : decode cX3_worst 16 = .ok (.if_icmp .ge 53, 3) := by decide +kernel
theorem dX3_worst_19 : decode cX3_worst 19 = .ok (.iconst 0, 1) := by decide +kernel
theorem dX3_worst_20 : decode cX3_worst 20 = .ok (.istore 4, 2) := by decide +kernel
theorem dX3_worst_22 : decode cX3_worst 22 = .ok (.iconst 0, 1) := by decide +kernel
theorem dX3_worst_23 : decode cX3_worst 23 = .ok (.istore 5, 2) := by decide +kernel
theorem dX3_worst_25 : decode cX3_worst 25 = .ok (.iload 5, 2) := by decide +kernel
theorem dX3_worst_27 : decode cX3_worst 27 = .ok (.iconst 5, 1) := by decide +kernel
theorem dX3_worst_28 : decode cX3_worst 28 = .ok (.if_icmp .ge 21, 3) := by decide +kernel
theorem dX3_worst_31 : decode cX3_worst 31 = .ok (.iload 4, 2) := by decide +kernel
theorem dX3_worst_33 : decode cX3_worst 33 = .ok (.aload_n 0, 1) := by decide +kernel
theorem dX3_worst_34 : decode cX3_worst 34 = .ok (.iload_n 3, 1) := by decide +kernel
theorem dX3_worst_35 : decode cX3_worst 35 = .ok (.iload 5, 2) := by decide +kernel
theorem dX3_worst_37 : decode cX3_worst 37 = .ok (.invokevirtual 117, 3) := by decide +kernel
theorem dX3_worst_40 : decode cX3_worst 40 = .ok (.iadd, 1) := by decide +kernel
theorem dX3_worst_41 : decode cX3_worst 41 = .ok (.istore 4, 2) := by decide +kernel
theorem dX3_worst_43 : decode cX3_worst 43 = .ok (.iinc 5 1, 3) := by decide +kernel
theorem dX3_worst_46 : decode cX3_worst 46 = .ok (.goto (-21), 3) := by decide +kernel
theorem dX3_worst_49 : decode cX3_worst 49 = .ok (.iload 4, 2) := by decide +kernel
theorem dX3_worst_51 : decode cX3_worst 51 = .ok (.iload_n 2, 1) := by decide +kernel
theorem dX3_worst_52 : decode cX3_worst 52 = .ok (.if_icmp .gt 6, 3) := by decide +kernel
theorem dX3_worst_55 : decode cX3_worst 55 = .ok (.goto 8, 3) := by decide +kernel
theorem dX3_worst_58 : decode cX3_worst 58 = .ok (.iload_n 3, 1) := by decide +kernel
theorem dX3_worst_59 : decode cX3_worst 59 = .ok (.istore_n 1, 1) := by decide +kernel
theorem dX3_worst_60 : decode cX3_worst 60 = .ok (.iload 4, 2) := by decide +kernel
theorem dX3_worst_62 : decode cX3_worst 62 = .ok (.istore_n 2, 1) := by decide +kernel
theorem dX3_worst_63 : decode cX3_worst 63 = .ok (.iinc 3 1, 3) := by decide +kernel
theorem dX3_worst_66 : decode cX3_worst 66 = .ok (.goto (-55), 3) := by decide +kernel
theorem dX3_worst_69 : decode cX3_worst 69 = .ok (.iload_n 1, 1) := by decide +kernel
theorem dX3_worst_70 : decode cX3_worst 70 = .ok (.ireturn, 1) := by decide +kernel
set_option maxRecDepth 20000 in
theorem ggX3_dayOf_X3_ro : GoodIn wsX3_dayOf wsX3_ro := goodIn_r _ [15, 16, 28, 29, 30, 31, 32, 33, 34, 35, 36] (by decide +kernel) (by decide +kernel)
set_option maxRecDepth 20000 in
theorem gX3_dayOf_X3_ro : GoodIn wsX3_dayOf (wsV RX3 85 RX3 yX3_ro wsX3_ro) := goodIn_app (goodIn_of _ (by decide +kernel)) ggX3_dayOf_X3_ro
set_option maxRecDepth 20000 in
theorem ggX3_dayOf_X3_put : GoodIn wsX3_dayOf wsX3_put := goodIn_r _ [20, 16, 28, 29, 30, 31, 32, 33, 34, 35, 36] (by decide +kernel) (by decide +kernel)
set_option maxRecDepth 20000 in
theorem gX3_dayOf_X3_put : GoodIn wsX3_dayOf (wsV RX3 88 RX3 yX3_put wsX3_put) := goodIn_app (goodIn_of _ (by decide +kernel)) ggX3_dayOf_X3_put
set_option maxRecDepth 20000 in
theorem ggX3_dayOf_X3_li : GoodIn wsX3_dayOf wsX3_li := goodIn_r _ [24, 7, 25, 26, 14, 27, 28, 29, 30, 31, 32, 33, 34, 35, 36] (by decide +kernel) (by decide +kernel)
set_option maxRecDepth 20000 in
theorem gX3_dayOf_X3_li : GoodIn wsX3_dayOf (wsV RX3 56 RX3 yX3_li wsX3_li) := goodIn_app (goodIn_of _ (by decide +kernel)) ggX3_dayOf_X3_li
set_option maxRecDepth 20000 in
theorem ggX3_dayOf_X3_at : GoodIn wsX3_dayOf wsX3_at := goodIn_r _ [27] (by decide +kernel) (by decide +kernel)
set_option maxRecDepth 20000 in
theorem gX3_dayOf_X3_at : GoodIn wsX3_dayOf (va_wsS RX3 42 yX3_at wsX3_at) := goodIn_app (goodIn_of _ (by decide +kernel)) ggX3_dayOf_X3_at
theorem dX3_dayOf_0 : decode cX3_dayOf 0 = .ok (.iconst 0, 1) := by decide +kernel
theorem dX3_dayOf_1 : decode cX3_dayOf 1 = .ok (.istore_n 2, 1) := by decide +kernel
theorem dX3_dayOf_2 : decode cX3_dayOf 2 = .ok (.aload_n 0, 1) := by decide +kernel
theorem dX3_dayOf_3 : decode cX3_dayOf 3 = .ok (.iload_n 1, 1) := by decide +kernel
theorem dX3_dayOf_4 : decode cX3_dayOf 4 = .ok (.iconst 4, 1) := by decide +kernel
theorem dX3_dayOf_5 : decode cX3_dayOf 5 = .ok (.invokevirtual 85, 3) := by decide +kernel
theorem dX3_dayOf_8 : decode cX3_dayOf 8 = .ok (.iconst (-1), 1) := by decide +kernel
theorem dX3_dayOf_9 : decode cX3_dayOf 9 = .ok (.if_icmp .eq 41, 3) := by decide +kernel
theorem dX3_dayOf_12 : decode cX3_dayOf 12 = .ok (.aload_n 0, 1) := by decide +kernel
theorem dX3_dayOf_13 : decode cX3_dayOf 13 = .ok (.iload_n 1, 1) := by decide +kernel
theorem dX3_dayOf_14 : decode cX3_dayOf 14 = .ok (.iconst 4, 1) := by decide +kernel
theorem dX3_dayOf_15 : decode cX3_dayOf 15 = .ok (.aload_n 0, 1) := by decide +kernel
theorem dX3_dayOf_16 : decode cX3_dayOf 16 = .ok (.iload_n 1, 1) := by decide +kernel
theorem dX3_dayOf_17 : decode cX3_dayOf 17 = .ok (.iconst 4, 1) := by decide +kernel
theorem dX3_dayOf_18 : decode cX3_dayOf 18 = .ok (.invokevirtual 85, 3) := by decide +kernel
theorem dX3_dayOf_21 : decode cX3_dayOf 21 = .ok (.aload_n 0, 1) := by decide +kernel
theorem dX3_dayOf_22 : decode cX3_dayOf 22 = .ok (.getfield 7, 3) := by decide +kernel
theorem dX3_dayOf_25 : decode cX3_dayOf 25 = .ok (.iadd, 1) := by decide +kernel
theorem dX3_dayOf_26 : decode cX3_dayOf 26 = .ok (.invokevirtual 88, 3) := by decide +kernel
theorem dX3_dayOf_29 : decode cX3_dayOf 29 = .ok (.aload_n 0, 1) := by decide +kernel
theorem dX3_dayOf_30 : decode cX3_dayOf 30 = .ok (.iload_n 1, 1) := by decide +kernel
theorem dX3_dayOf_31 : decode cX3_dayOf 31 = .ok (.iconst 4, 1) := by decide +kernel
theorem dX3_dayOf_32 : decode cX3_dayOf 32 = .ok (.invokevirtual 85, 3) := by decide +kernel
theorem dX3_dayOf_35 : decode cX3_dayOf 35 = .ok (.bipush 10, 2) := by decide +kernel
theorem dX3_dayOf_37 : decode cX3_dayOf 37 = .ok (.if_icmp .lt 13, 3) := by decide +kernel
theorem dX3_dayOf_40 : decode cX3_dayOf 40 = .ok (.aload_n 0, 1) := by decide +kernel
theorem dX3_dayOf_41 : decode cX3_dayOf 41 = .ok (.iload_n 1, 1) := by decide +kernel
theorem dX3_dayOf_42 : decode cX3_dayOf 42 = .ok (.iconst 4, 1) := by decide +kernel
theorem dX3_dayOf_43 : decode cX3_dayOf 43 = .ok (.iconst (-1), 1) := by decide +kernel
theorem dX3_dayOf_44 : decode cX3_dayOf 44 = .ok (.invokevirtual 88, 3) := by decide +kernel
theorem dX3_dayOf_47 : decode cX3_dayOf 47 = .ok (.iinc 2 1, 3) := by decide +kernel
theorem dX3_dayOf_50 : decode cX3_dayOf 50 = .ok (.aload_n 0, 1) := by decide +kernel
theorem dX3_dayOf_51 : decode cX3_dayOf 51 = .ok (.iload_n 1, 1) := by decide +kernel
theorem dX3_dayOf_52 : decode cX3_dayOf 52 = .ok (.iconst 5, 1) := by decide +kernel
theorem dX3_dayOf_53 : decode cX3_dayOf 53 = .ok (.invokevirtual 85, 3) := by decide +kernel
theorem dX3_dayOf_56 : decode cX3_dayOf 56 = .ok (.ifCond .le 69, 3) := by decide +kernel
theorem dX3_dayOf_59 : decode cX3_dayOf 59 = .ok (.aload_n 0, 1) := by decide +kernel
theorem dX3_dayOf_60 : decode cX3_dayOf 60 = .ok (.iload_n 1, 1) := by decide +kernel
theorem dX3_dayOf_61 : decode cX3_dayOf 61 = .ok (.iconst 5, 1) := by decide +kernel
theorem dX3_dayOf_62 : decode cX3_dayOf 62 = .ok (.iconst 1, 1) := by decide +kernel
theorem dX3_dayOf_63 : decode cX3_dayOf 63 = .ok (.invokevirtual 56, 3) := by decide +kernel
theorem dX3_dayOf_66 : decode cX3_dayOf 66 = .ok (.bipush 50, 2) := by decide +kernel
theorem dX3_dayOf_68 : decode cX3_dayOf 68 = .ok (.if_icmp .lt 23, 3) := by decide +kernel
theorem dX3_dayOf_71 : decode cX3_dayOf 71 = .ok (.aload_n 0, 1) := by decide +kernel
theorem dX3_dayOf_72 : decode cX3_dayOf 72 = .ok (.iload_n 1, 1) := by decide +kernel
theorem dX3_dayOf_73 : decode cX3_dayOf 73 = .ok (.bipush 6, 2) := by decide +kernel
theorem dX3_dayOf_75 : decode cX3_dayOf 75 = .ok (.iconst 0, 1) := by decide +kernel
theorem dX3_dayOf_76 : decode cX3_dayOf 76 = .ok (.aload_n 0, 1) := by decide +kernel
theorem dX3_dayOf_77 : decode cX3_dayOf 77 = .ok (.iload_n 1, 1) := by decide +kernel
theorem dX3_dayOf_78 : decode cX3_dayOf 78 = .ok (.bipush 6, 2) := by decide +kernel
theorem dX3_dayOf_80 : decode cX3_dayOf 80 = .ok (.invokevirtual 85, 3) := by decide +kernel
theorem dX3_dayOf_83 : decode cX3_dayOf 83 = .ok (.iconst 1, 1) := by decide +kernel
theorem dX3_dayOf_84 : decode cX3_dayOf 84 = .ok (.isub, 1) := by decide +kernel
theorem dX3_dayOf_85 : decode cX3_dayOf 85 = .ok (.invokestatic 120, 3) := by decide +kernel
theorem dX3_dayOf_88 : decode cX3_dayOf 88 = .ok (.invokevirtual 88, 3) := by decide +kernel
theorem dX3_dayOf_91 : decode cX3_dayOf 91 = .ok (.aload_n 0, 1) := by decide +kernel
theorem dX3_dayOf_92 : decode cX3_dayOf 92 = .ok (.iload_n 1, 1) := by decide +kernel
theorem dX3_dayOf_93 : decode cX3_dayOf 93 = .ok (.bipush 6, 2) := by decide +kernel
theorem dX3_dayOf_95 : decode cX3_dayOf 95 = .ok (.invokevirtual 85, 3) := by decide +kernel
theorem dX3_dayOf_98 : decode cX3_dayOf 98 = .ok (.aload_n 0, 1) := by decide +kernel
theorem dX3_dayOf_99 : decode cX3_dayOf 99 = .ok (.iload_n 1, 1) := by decide +kernel
theorem dX3_dayOf_100 : decode cX3_dayOf 100 = .ok (.iconst 5, 1) := by decide +kernel
theorem dX3_dayOf_101 : decode cX3_dayOf 101 = .ok (.invokevirtual 85, 3) := by decide +kernel
theorem dX3_dayOf_104 : decode cX3_dayOf 104 = .ok (.if_icmp .ge 21, 3) := by decide +kernel
theorem dX3_dayOf_107 : decode cX3_dayOf 107 = .ok (.aload_n 0, 1) := by decide +kernel
theorem dX3_dayOf_108 : decode cX3_dayOf 108 = .ok (.iload_n 1, 1) := by decide +kernel
theorem dX3_dayOf_109 : decode cX3_dayOf 109 = .ok (.iconst 5, 1) := by decide +kernel
theorem dX3_dayOf_110 : decode cX3_dayOf 110 = .ok (.iconst 0, 1) := by decide +kernel
theorem dX3_dayOf_111 : decode cX3_dayOf 111 = .ok (.invokevirtual 88, 3) := by decide +kernel
theorem dX3_dayOf_114 : decode cX3_dayOf 114 = .ok (.aload_n 0, 1) := by decide +kernel
theorem dX3_dayOf_115 : decode cX3_dayOf 115 = .ok (.iload_n 1, 1) := by decide +kernel
theorem dX3_dayOf_116 : decode cX3_dayOf 116 = .ok (.bipush 6, 2) := by decide +kernel
theorem dX3_dayOf_118 : decode cX3_dayOf 118 = .ok (.iconst 0, 1) := by decide +kernel
theorem dX3_dayOf_119 : decode cX3_dayOf 119 = .ok (.invokevirtual 88, 3) := by decide +kernel
theorem dX3_dayOf_122 : decode cX3_dayOf 122 = .ok (.iinc 2 1, 3) := by decide +kernel
theorem dX3_dayOf_125 : decode cX3_dayOf 125 = .ok (.iconst 0, 1) := by decide +kernel
theorem dX3_dayOf_126 : decode cX3_dayOf 126 = .ok (.istore_n 3, 1) := by decide +kernel
theorem dX3_dayOf_127 : decode cX3_dayOf 127 = .ok (.iload_n 3, 1) := by decide +kernel
theorem dX3_dayOf_128 : decode cX3_dayOf 128 = .ok (.bipush 6, 2) := by decide +kernel
theorem dX3_dayOf_130 : decode cX3_dayOf 130 = .ok (.if_icmp .ge 44, 3) := by decide +kernel
theorem dX3_dayOf_133 : decode cX3_dayOf 133 = .ok (.aload_n 0, 1) := by decide +kernel
theorem dX3_dayOf_134 : decode cX3_dayOf 134 = .ok (.getfield 26, 3) := by decide +kernel
theorem dX3_dayOf_137 : decode cX3_dayOf 137 = .ok (.iconst 0, 1) := by decide +kernel
theorem dX3_dayOf_138 : decode cX3_dayOf 138 = .ok (.iaload, 1) := by decide +kernel
theorem dX3_dayOf_139 : decode cX3_dayOf 139 = .ok (.iconst 3, 1) := by decide +kernel
theorem dX3_dayOf_140 : decode cX3_dayOf 140 = .ok (.irem, 1) := by decide +kernel
theorem dX3_dayOf_141 : decode cX3_dayOf 141 = .ok (.ifCond .ne 33, 3) := by decide +kernel
theorem dX3_dayOf_144 : decode cX3_dayOf 144 = .ok (.aload_n 0, 1) := by decide +kernel
theorem dX3_dayOf_145 : decode cX3_dayOf 145 = .ok (.getfield 13, 3) := by decide +kernel
theorem dX3_dayOf_148 : decode cX3_dayOf 148 = .ok (.iload_n 1, 1) := by decide +kernel
theorem dX3_dayOf_149 : decode cX3_dayOf 149 = .ok (.iload_n 3, 1) := by decide +kernel
theorem dX3_dayOf_150 : decode cX3_dayOf 150 = .ok (.iconst 2, 1) := by decide +kernel
theorem dX3_dayOf_151 : decode cX3_dayOf 151 = .ok (.invokestatic 42, 3) := by decide +kernel
theorem dX3_dayOf_154 : decode cX3_dayOf 154 = .ok (.iconst 0, 1) := by decide +kernel
theorem dX3_dayOf_155 : decode cX3_dayOf 155 = .ok (.aload_n 0, 1) := by decide +kernel
theorem dX3_dayOf_156 : decode cX3_dayOf 156 = .ok (.iload_n 1, 1) := by decide +kernel
theorem dX3_dayOf_157 : decode cX3_dayOf 157 = .ok (.iload_n 3, 1) := by decide +kernel
theorem dX3_dayOf_158 : decode cX3_dayOf 158 = .ok (.iconst 2, 1) := by decide +kernel
theorem dX3_dayOf_159 : decode cX3_dayOf 159 = .ok (.invokevirtual 56, 3) := by decide +kernel
theorem dX3_dayOf_162 : decode cX3_dayOf 162 = .ok (.iconst 1, 1) := by decide +kernel
theorem dX3_dayOf_163 : decode cX3_dayOf 163 = .ok (.isub, 1) := by decide +kernel
theorem dX3_dayOf_164 : decode cX3_dayOf 164 = .ok (.invokestatic 120, 3) := by decide +kernel
theorem dX3_dayOf_167 : decode cX3_dayOf 167 = .ok (.iastore, 1) := by decide +kernel
theorem dX3_dayOf_168 : decode cX3_dayOf 168 = .ok (.iinc 3 1, 3) := by decide +kernel
theorem dX3_dayOf_171 : decode cX3_dayOf 171 = .ok (.goto (-44), 3) := by decide +kernel
theorem dX3_dayOf_174 : decode cX3_dayOf 174 = .ok (.iconst 0, 1) := by decide +kernel
theorem dX3_dayOf_175 : decode cX3_dayOf 175 = .ok (.istore_n 3, 1) := by decide +kernel
theorem dX3_dayOf_176 : decode cX3_dayOf 176 = .ok (.iload_n 3, 1) := by decide +kernel
theorem dX3_dayOf_177 : decode cX3_dayOf 177 = .ok (.iconst 2, 1) := by decide +kernel
theorem dX3_dayOf_178 : decode cX3_dayOf 178 = .ok (.if_icmp .ge 44, 3) := by decide +kernel
theorem dX3_dayOf_181 : decode cX3_dayOf 181 = .ok (.aload_n 0, 1) := by decide +kernel
theorem dX3_dayOf_182 : decode cX3_dayOf 182 = .ok (.iload_n 1, 1) := by decide +kernel
theorem dX3_dayOf_183 : decode cX3_dayOf 183 = .ok (.iconst 0, 1) := by decide +kernel
theorem dX3_dayOf_184 : decode cX3_dayOf 184 = .ok (.iload_n 3, 1) := by decide +kernel
theorem dX3_dayOf_185 : decode cX3_dayOf 185 = .ok (.iadd, 1) := by decide +kernel
theorem dX3_dayOf_186 : decode cX3_dayOf 186 = .ok (.invokevirtual 85, 3) := by decide +kernel
theorem dX3_dayOf_189 : decode cX3_dayOf 189 = .ok (.iconst 1, 1) := by decide +kernel
theorem dX3_dayOf_190 : decode cX3_dayOf 190 = .ok (.if_icmp .ne 26, 3) := by decide +kernel
theorem dX3_dayOf_193 : decode cX3_dayOf 193 = .ok (.aload_n 0, 1) := by decide +kernel
theorem dX3_dayOf_194 : decode cX3_dayOf 194 = .ok (.iload_n 1, 1) := by decide +kernel
theorem dX3_dayOf_195 : decode cX3_dayOf 195 = .ok (.iconst 2, 1) := by decide +kernel
theorem dX3_dayOf_196 : decode cX3_dayOf 196 = .ok (.iload_n 3, 1) := by decide +kernel
theorem dX3_dayOf_197 : decode cX3_dayOf 197 = .ok (.iadd, 1) := by decide +kernel
theorem dX3_dayOf_198 : decode cX3_dayOf 198 = .ok (.bipush 9, 2) := by decide +kernel
theorem dX3_dayOf_200 : decode cX3_dayOf 200 = .ok (.aload_n 0, 1) := by decide +kernel
theorem dX3_dayOf_201 : decode cX3_dayOf 201 = .ok (.iload_n 1, 1) := by decide +kernel
theorem dX3_dayOf_202 : decode cX3_dayOf 202 = .ok (.iconst 2, 1) := by decide +kernel
theorem dX3_dayOf_203 : decode cX3_dayOf 203 = .ok (.iload_n 3, 1) := by decide +kernel
theorem dX3_dayOf_204 : decode cX3_dayOf 204 = .ok (.iadd, 1) := by decide +kernel
theorem dX3_dayOf_205 : decode cX3_dayOf 205 = .ok (.invokevirtual 85, 3) := by decide +kernel
theorem dX3_dayOf_208 : decode cX3_dayOf 208 = .ok (.iconst 1, 1) := by decide +kernel
theorem dX3_dayOf_209 : decode cX3_dayOf 209 = .ok (.iadd, 1) := by decide +kernel
theorem dX3_dayOf_210 : decode cX3_dayOf 210 = .ok (.invokestatic 64, 3) := by decide +kernel
theorem dX3_dayOf_213 : decode cX3_dayOf 213 = .ok (.invokevirtual 88, 3) := by decide +kernel
theorem dX3_dayOf_216 : decode cX3_dayOf 216 = .ok (.iinc 3 1, 3) := by decide +kernel
theorem dX3_dayOf_219 : decode cX3_dayOf 219 = .ok (.goto (-43), 3) := by decide +kernel
theorem dX3_dayOf_222 : decode cX3_dayOf 222 = .ok (.iload_n 2, 1) := by decide +kernel
theorem dX3_dayOf_223 : decode cX3_dayOf 223 = .ok (.ireturn, 1) := by decide +kernel
set_option maxRecDepth 20000 in
theorem ggX3_daysOn_X3_dayOf : GoodIn wsX3_daysOn wsX3_dayOf := goodIn_r _ [7, 8, 9, 10, 11, 12, 2, 13, 14, 15, 16, 17, 18, 19, 6, 20, 21, 22, 23, 24, 25, 26, 27, 28, 29, 30, 31, 32, 33, 34, 35, 36, 37, 38, 39, 40, 41] (by decide +kernel) (by decide +kernel)
set_option maxRecDepth 20000 in
theorem gX3_daysOn_X3_dayOf : GoodIn wsX3_daysOn (wsV RX3 123 RX3 yX3_dayOf wsX3_dayOf) := goodIn_app (goodIn_of _ (by decide +kernel)) ggX3_daysOn_X3_dayOf
theorem dX3_daysOn_0 : decode cX3_daysOn 0 = .ok (.iconst 0, 1) := by decide +kernel
theorem dX3_daysOn_1 : decode cX3_daysOn 1 = .ok (.istore_n 2, 1) := by decide +kernel
theorem dX3_daysOn_2 : decode cX3_daysOn 2 = .ok (.iconst 0, 1) := by decide +kernel
theorem dX3_daysOn_3 : decode cX3_daysOn 3 = .ok (.istore_n 3, 1) := by decide +kernel
theorem dX3_daysOn_4 : decode cX3_daysOn 4 = .ok (.iload_n 3, 1) := by decide +kernel
theorem dX3_daysOn_5 : decode cX3_daysOn 5 = .ok (.iload_n 1, 1) := by decide +kernel
theorem dX3_daysOn_6 : decode cX3_daysOn 6 = .ok (.if_icmp .ge 46, 3) := by decide +kernel
theorem dX3_daysOn_9 : decode cX3_daysOn 9 = .ok (.iconst 0, 1) := by decide +kernel
theorem dX3_daysOn_10 : decode cX3_daysOn 10 = .ok (.istore 4, 2) := by decide +kernel
theorem dX3_daysOn_12 : decode cX3_daysOn 12 = .ok (.iload 4, 2) := by decide +kernel
theorem dX3_daysOn_14 : decode cX3_daysOn 14 = .ok (.aload_n 0, 1) := by decide +kernel
theorem dX3_daysOn_15 : decode cX3_daysOn 15 = .ok (.getfield 32, 3) := by decide +kernel
theorem dX3_daysOn_18 : decode cX3_daysOn 18 = .ok (.if_icmp .ge 18, 3) := by decide +kernel
theorem dX3_daysOn_21 : decode cX3_daysOn 21 = .ok (.iload_n 2, 1) := by decide +kernel
theorem dX3_daysOn_22 : decode cX3_daysOn 22 = .ok (.aload_n 0, 1) := by decide +kernel
theorem dX3_daysOn_23 : decode cX3_daysOn 23 = .ok (.iload 4, 2) := by decide +kernel
theorem dX3_daysOn_25 : decode cX3_daysOn 25 = .ok (.invokevirtual 123, 3) := by decide +kernel
theorem dX3_daysOn_28 : decode cX3_daysOn 28 = .ok (.iadd, 1) := by decide +kernel
theorem dX3_daysOn_29 : decode cX3_daysOn 29 = .ok (.istore_n 2, 1) := by decide +kernel
theorem dX3_daysOn_30 : decode cX3_daysOn 30 = .ok (.iinc 4 1, 3) := by decide +kernel
theorem dX3_daysOn_33 : decode cX3_daysOn 33 = .ok (.goto (-21), 3) := by decide +kernel
theorem dX3_daysOn_36 : decode cX3_daysOn 36 = .ok (.aload_n 0, 1) := by decide +kernel
theorem dX3_daysOn_37 : decode cX3_daysOn 37 = .ok (.getfield 26, 3) := by decide +kernel
theorem dX3_daysOn_40 : decode cX3_daysOn 40 = .ok (.iconst 0, 1) := by decide +kernel
theorem dX3_daysOn_41 : decode cX3_daysOn 41 = .ok (.dup2, 1) := by decide +kernel
theorem dX3_daysOn_42 : decode cX3_daysOn 42 = .ok (.iaload, 1) := by decide +kernel
theorem dX3_daysOn_43 : decode cX3_daysOn 43 = .ok (.iconst 1, 1) := by decide +kernel
theorem dX3_daysOn_44 : decode cX3_daysOn 44 = .ok (.iadd, 1) := by decide +kernel
theorem dX3_daysOn_45 : decode cX3_daysOn 45 = .ok (.iastore, 1) := by decide +kernel
theorem dX3_daysOn_46 : decode cX3_daysOn 46 = .ok (.iinc 3 1, 3) := by decide +kernel
theorem dX3_daysOn_49 : decode cX3_daysOn 49 = .ok (.goto (-45), 3) := by decide +kernel
theorem dX3_daysOn_52 : decode cX3_daysOn 52 = .ok (.iload_n 2, 1) := by decide +kernel
theorem dX3_daysOn_53 : decode cX3_daysOn 53 = .ok (.ireturn, 1) := by decide +kernel
set_option maxRecDepth 20000 in
theorem ggX3_foresee_X3_isIn : GoodIn wsX3_foresee wsX3_isIn := goodIn_r _ [5] (by decide +kernel) (by decide +kernel)
set_option maxRecDepth 20000 in
theorem gX3_foresee_X3_isIn : GoodIn wsX3_foresee (va_wsS RX3 35 yX3_isIn wsX3_isIn) := goodIn_app (goodIn_of _ (by decide +kernel)) ggX3_foresee_X3_isIn
set_option maxRecDepth 20000 in
theorem ggX3_foresee_X3_fail : GoodIn wsX3_foresee wsX3_fail := goodIn_r _ [9, 1, 77, 78, 79, 80, 81, 82, 83, 84, 85] (by decide +kernel) (by decide +kernel)
set_option maxRecDepth 20000 in
theorem gX3_foresee_X3_fail : GoodIn wsX3_foresee (wsV RX3 46 RX3 yX3_fail wsX3_fail) := goodIn_app (goodIn_of _ (by decide +kernel)) ggX3_foresee_X3_fail
set_option maxRecDepth 20000 in
theorem ggX3_foresee_X3_kept : GoodIn wsX3_foresee wsX3_kept := goodIn_r _ [13, 14, 15, 16, 17, 18, 19, 20, 21, 22, 77, 78, 79, 80, 81, 82, 83, 84, 85] (by decide +kernel) (by decide +kernel)
set_option maxRecDepth 20000 in
theorem gX3_foresee_X3_kept : GoodIn wsX3_foresee (wsV RX3 106 RX3 yX3_kept wsX3_kept) := goodIn_app (goodIn_of _ (by decide +kernel)) ggX3_foresee_X3_kept
set_option maxRecDepth 20000 in
theorem ggX3_foresee_X3_daysOn : GoodIn wsX3_foresee wsX3_daysOn := goodIn_r _ [26, 27, 22, 28, 29, 30, 4, 31, 32, 33, 34, 35, 36, 15, 37, 38, 39, 40, 41, 42, 43, 21, 44, 45, 46, 47, 48, 49, 50, 51, 52, 53, 54, 77, 78, 79, 80, 81, 82, 83, 84, 85] (by decide +kernel) (by decide +kernel)
set_option maxRecDepth 20000 in
theorem gX3_foresee_X3_daysOn : GoodIn wsX3_foresee (wsV RX3 126 RX3 yX3_daysOn wsX3_daysOn) := goodIn_app (goodIn_of _ (by decide +kernel)) ggX3_foresee_X3_daysOn
set_option maxRecDepth 20000 in
theorem ggX3_foresee_X3_counted : GoodIn wsX3_foresee wsX3_counted := goodIn_r _ [58, 59, 22, 27, 60, 32, 61, 62, 63, 4, 64, 48, 49, 50, 51, 15, 52, 53, 54, 65, 66, 67, 68, 40, 41, 42, 43, 21, 77, 78, 79, 80, 81, 82, 83, 84, 85] (by decide +kernel) (by decide +kernel)
set_option maxRecDepth 20000 in
theorem gX3_foresee_X3_counted : GoodIn wsX3_foresee (wsV RX3 98 RX3 yX3_counted wsX3_counted) := goodIn_app (goodIn_of _ (by decide +kernel)) ggX3_foresee_X3_counted
set_option maxRecDepth 20000 in
theorem ggX3_foresee_X3_bringBack : GoodIn wsX3_foresee wsX3_bringBack := goodIn_r _ [72, 15, 73, 74, 75, 76, 21, 22, 77, 78, 79, 80, 81, 82, 83, 84, 85] (by decide +kernel) (by decide +kernel)
set_option maxRecDepth 20000 in
theorem gX3_foresee_X3_bringBack : GoodIn wsX3_foresee (wsV RX3 113 RX3 yX3_bringBack wsX3_bringBack) := goodIn_app (goodIn_of _ (by decide +kernel)) ggX3_foresee_X3_bringBack
theorem dX3_foresee_0 : decode cX3_foresee 0 = .ok (.aload_n 0, 1) := by decide +kernel
theorem dX3_foresee_1 : decode cX3_foresee 1 = .ok (.iconst 0, 1) := by decide +kernel
theorem dX3_foresee_2 : decode cX3_foresee 2 = .ok (.putfield 29, 3) := by decide +kernel
theorem dX3_foresee_5 : decode cX3_foresee 5 = .ok (.iload_n 1, 1) := by decide +kernel
theorem dX3_foresee_6 : decode cX3_foresee 6 = .ok (.iconst 1, 1) := by decide +kernel
theorem dX3_foresee_7 : decode cX3_foresee 7 = .ok (.bipush 60, 2) := by decide +kernel
theorem dX3_foresee_9 : decode cX3_foresee 9 = .ok (.invokestatic 35, 3) := by decide +kernel
theorem dX3_foresee_12 : decode cX3_foresee 12 = .ok (.ifCond .ne 9, 3) := by decide +kernel
theorem dX3_foresee_15 : decode cX3_foresee 15 = .ok (.aload_n 0, 1) := by decide +kernel
theorem dX3_foresee_16 : decode cX3_foresee 16 = .ok (.iconst 1, 1) := by decide +kernel
theorem dX3_foresee_17 : decode cX3_foresee 17 = .ok (.invokevirtual 46, 3) := by decide +kernel
theorem dX3_foresee_20 : decode cX3_foresee 20 = .ok (.ireturn, 1) := by decide +kernel
theorem dX3_foresee_21 : decode cX3_foresee 21 = .ok (.iload_n 2, 1) := by decide +kernel
theorem dX3_foresee_22 : decode cX3_foresee 22 = .ok (.iconst 4, 1) := by decide +kernel
theorem dX3_foresee_23 : decode cX3_foresee 23 = .ok (.bipush 7, 2) := by decide +kernel
theorem dX3_foresee_25 : decode cX3_foresee 25 = .ok (.invokestatic 35, 3) := by decide +kernel
theorem dX3_foresee_28 : decode cX3_foresee 28 = .ok (.ifCond .ne 9, 3) := by decide +kernel
theorem dX3_foresee_31 : decode cX3_foresee 31 = .ok (.aload_n 0, 1) := by decide +kernel
theorem dX3_foresee_32 : decode cX3_foresee 32 = .ok (.iconst 2, 1) := by decide +kernel
theorem dX3_foresee_33 : decode cX3_foresee 33 = .ok (.invokevirtual 46, 3) := by decide +kernel
theorem dX3_foresee_36 : decode cX3_foresee 36 = .ok (.ireturn, 1) := by decide +kernel
theorem dX3_foresee_37 : decode cX3_foresee 37 = .ok (.aload_n 0, 1) := by decide +kernel
theorem dX3_foresee_38 : decode cX3_foresee 38 = .ok (.invokevirtual 106, 3) := by decide +kernel
theorem dX3_foresee_41 : decode cX3_foresee 41 = .ok (.astore_n 3, 1) := by decide +kernel
theorem dX3_foresee_42 : decode cX3_foresee 42 = .ok (.aload_n 0, 1) := by decide +kernel
theorem dX3_foresee_43 : decode cX3_foresee 43 = .ok (.iload_n 1, 1) := by decide +kernel
theorem dX3_foresee_44 : decode cX3_foresee 44 = .ok (.invokevirtual 126, 3) := by decide +kernel
theorem dX3_foresee_47 : decode cX3_foresee 47 = .ok (.pop, 1) := by decide +kernel
theorem dX3_foresee_48 : decode cX3_foresee 48 = .ok (.aload_n 0, 1) := by decide +kernel
theorem dX3_foresee_49 : decode cX3_foresee 49 = .ok (.iload_n 2, 1) := by decide +kernel
theorem dX3_foresee_50 : decode cX3_foresee 50 = .ok (.invokevirtual 98, 3) := by decide +kernel
theorem dX3_foresee_53 : decode cX3_foresee 53 = .ok (.istore 4, 2) := by decide +kernel
theorem dX3_foresee_55 : decode cX3_foresee 55 = .ok (.aload_n 0, 1) := by decide +kernel
theorem dX3_foresee_56 : decode cX3_foresee 56 = .ok (.aload_n 3, 1) := by decide +kernel
theorem dX3_foresee_57 : decode cX3_foresee 57 = .ok (.invokevirtual 113, 3) := by decide +kernel
theorem dX3_foresee_60 : decode cX3_foresee 60 = .ok (.iload 4, 2) := by decide +kernel
theorem dX3_foresee_62 : decode cX3_foresee 62 = .ok (.ireturn, 1) := by decide +kernel
set_option maxRecDepth 20000 in
theorem ggX3_pass_X3_isIn : GoodIn wsX3_pass wsX3_isIn := goodIn_r _ [5] (by decide +kernel) (by decide +kernel)
set_option maxRecDepth 20000 in
theorem gX3_pass_X3_isIn : GoodIn wsX3_pass (va_wsS RX3 35 yX3_isIn wsX3_isIn) := goodIn_app (goodIn_of _ (by decide +kernel)) ggX3_pass_X3_isIn
set_option maxRecDepth 20000 in
theorem ggX3_pass_X3_daysOn : GoodIn wsX3_pass wsX3_daysOn := goodIn_r _ [9, 10, 11, 12, 13, 14, 4, 15, 16, 17, 18, 19, 20, 21, 22, 23, 24, 25, 26, 27, 28, 29, 30, 31, 32, 33, 34, 35, 36, 37, 38, 39, 40, 45, 46, 47, 48, 49, 50, 51, 52, 53] (by decide +kernel) (by decide +kernel)
set_option maxRecDepth 20000 in
theorem gX3_pass_X3_daysOn : GoodIn wsX3_pass (wsV RX3 126 RX3 yX3_daysOn wsX3_daysOn) := goodIn_app (goodIn_of _ (by decide +kernel)) ggX3_pass_X3_daysOn
set_option maxRecDepth 20000 in
theorem ggX3_pass_X3_fail : GoodIn wsX3_pass wsX3_fail := goodIn_r _ [44, 1, 45, 46, 47, 48, 49, 50, 51, 52, 53] (by decide +kernel) (by decide +kernel)
set_option maxRecDepth 20000 in
theorem gX3_pass_X3_fail : GoodIn wsX3_pass (wsV RX3 46 RX3 yX3_fail wsX3_fail) := goodIn_app (goodIn_of _ (by decide +kernel)) ggX3_pass_X3_fail
theorem dX3_pass_0 : decode cX3_pass 0 = .ok (.aload_n 0, 1) := by decide +kernel
theorem dX3_pass_1 : decode cX3_pass 1 = .ok (.iconst 0, 1) := by decide +kernel
theorem dX3_pass_2 : decode cX3_pass 2 = .ok (.putfield 29, 3) := by decide +kernel
theorem dX3_pass_5 : decode cX3_pass 5 = .ok (.iload_n 1, 1) := by decide +kernel
theorem dX3_pass_6 : decode cX3_pass 6 = .ok (.iconst 1, 1) := by decide +kernel
theorem dX3_pass_7 : decode cX3_pass 7 = .ok (.bipush 60, 2) := by decide +kernel
theorem dX3_pass_9 : decode cX3_pass 9 = .ok (.invokestatic 35, 3) := by decide +kernel
theorem dX3_pass_12 : decode cX3_pass 12 = .ok (.ifCond .eq 11, 3) := by decide +kernel
theorem dX3_pass_15 : decode cX3_pass 15 = .ok (.aload_n 0, 1) := by decide +kernel
theorem dX3_pass_16 : decode cX3_pass 16 = .ok (.iload_n 1, 1) := by decide +kernel
theorem dX3_pass_17 : decode cX3_pass 17 = .ok (.invokevirtual 126, 3) := by decide +kernel
theorem dX3_pass_20 : decode cX3_pass 20 = .ok (.goto 8, 3) := by decide +kernel
theorem dX3_pass_23 : decode cX3_pass 23 = .ok (.aload_n 0, 1) := by decide +kernel
theorem dX3_pass_24 : decode cX3_pass 24 = .ok (.iconst 1, 1) := by decide +kernel
theorem dX3_pass_25 : decode cX3_pass 25 = .ok (.invokevirtual 46, 3) := by decide +kernel
theorem dX3_pass_28 : decode cX3_pass 28 = .ok (.ireturn, 1) := by decide +kernel
set_option maxRecDepth 20000 in
theorem ggX3_mean_X3_wearOf : GoodIn wsX3_mean wsX3_wearOf := goodIn_r _ [7, 8, 9, 10, 6, 11, 12, 13, 14, 15, 16, 17, 18, 19, 20, 21, 22, 23, 24] (by decide +kernel) (by decide +kernel)
set_option maxRecDepth 20000 in
theorem gX3_mean_X3_wearOf : GoodIn wsX3_mean (wsV RX3 110 RX3 yX3_wearOf wsX3_wearOf) := goodIn_app (goodIn_of _ (by decide +kernel)) ggX3_mean_X3_wearOf
theorem dX3_mean_0 : decode cX3_mean 0 = .ok (.aload_n 0, 1) := by decide +kernel
theorem dX3_mean_1 : decode cX3_mean 1 = .ok (.iconst 0, 1) := by decide +kernel
theorem dX3_mean_2 : decode cX3_mean 2 = .ok (.putfield 29, 3) := by decide +kernel
theorem dX3_mean_5 : decode cX3_mean 5 = .ok (.iconst 0, 1) := by decide +kernel
theorem dX3_mean_6 : decode cX3_mean 6 = .ok (.istore_n 1, 1) := by decide +kernel
theorem dX3_mean_7 : decode cX3_mean 7 = .ok (.iconst 0, 1) := by decide +kernel
theorem dX3_mean_8 : decode cX3_mean 8 = .ok (.istore_n 2, 1) := by decide +kernel
theorem dX3_mean_9 : decode cX3_mean 9 = .ok (.iload_n 2, 1) := by decide +kernel
theorem dX3_mean_10 : decode cX3_mean 10 = .ok (.aload_n 0, 1) := by decide +kernel
theorem dX3_mean_11 : decode cX3_mean 11 = .ok (.getfield 32, 3) := by decide +kernel
theorem dX3_mean_14 : decode cX3_mean 14 = .ok (.if_icmp .ge 17, 3) := by decide +kernel
theorem dX3_mean_17 : decode cX3_mean 17 = .ok (.iload_n 1, 1) := by decide +kernel
theorem dX3_mean_18 : decode cX3_mean 18 = .ok (.aload_n 0, 1) := by decide +kernel
theorem dX3_mean_19 : decode cX3_mean 19 = .ok (.iload_n 2, 1) := by decide +kernel
theorem dX3_mean_20 : decode cX3_mean 20 = .ok (.invokevirtual 110, 3) := by decide +kernel
theorem dX3_mean_23 : decode cX3_mean 23 = .ok (.iadd, 1) := by decide +kernel
theorem dX3_mean_24 : decode cX3_mean 24 = .ok (.istore_n 1, 1) := by decide +kernel
theorem dX3_mean_25 : decode cX3_mean 25 = .ok (.iinc 2 1, 3) := by decide +kernel
theorem dX3_mean_28 : decode cX3_mean 28 = .ok (.goto (-19), 3) := by decide +kernel
theorem dX3_mean_31 : decode cX3_mean 31 = .ok (.aload_n 0, 1) := by decide +kernel
theorem dX3_mean_32 : decode cX3_mean 32 = .ok (.getfield 32, 3) := by decide +kernel
theorem dX3_mean_35 : decode cX3_mean 35 = .ok (.ifCond .ne 7, 3) := by decide +kernel
theorem dX3_mean_38 : decode cX3_mean 38 = .ok (.dconst 0, 1) := by decide +kernel
theorem dX3_mean_39 : decode cX3_mean 39 = .ok (.goto 14, 3) := by decide +kernel
theorem dX3_mean_42 : decode cX3_mean 42 = .ok (.iload_n 1, 1) := by decide +kernel
theorem dX3_mean_43 : decode cX3_mean 43 = .ok (.i2d, 1) := by decide +kernel
theorem dX3_mean_44 : decode cX3_mean 44 = .ok (.bipush 6, 2) := by decide +kernel
theorem dX3_mean_46 : decode cX3_mean 46 = .ok (.aload_n 0, 1) := by decide +kernel
theorem dX3_mean_47 : decode cX3_mean 47 = .ok (.getfield 32, 3) := by decide +kernel
theorem dX3_mean_50 : decode cX3_mean 50 = .ok (.imul, 1) := by decide +kernel
theorem dX3_mean_51 : decode cX3_mean 51 = .ok (.i2d, 1) := by decide +kernel
theorem dX3_mean_52 : decode cX3_mean 52 = .ok (.ddiv, 1) := by decide +kernel
theorem dX3_mean_53 : decode cX3_mean 53 = .ok (.dreturn, 1) := by decide +kernel
set_option maxRecDepth 20000 in
theorem ggX3_digest_X3_counted : GoodIn wsX3_digest wsX3_counted := goodIn_r _ [11, 12, 13, 6, 4, 14, 15, 16, 17, 10, 18, 19, 20, 21, 22, 23, 24, 25, 26, 27, 28, 29, 30, 31, 32, 33, 34, 35, 36, 37, 38, 39, 40, 41, 42, 43, 44] (by decide +kernel) (by decide +kernel)
set_option maxRecDepth 20000 in
theorem gX3_digest_X3_counted : GoodIn wsX3_digest (wsV RX3 98 RX3 yX3_counted wsX3_counted) := goodIn_app (goodIn_of _ (by decide +kernel)) ggX3_digest_X3_counted
set_option maxRecDepth 20000 in
theorem ggX3_digest_X3_ro : GoodIn wsX3_digest wsX3_ro := goodIn_r _ [34, 35, 36, 37, 38, 39, 40, 41, 42, 43, 44] (by decide +kernel) (by decide +kernel)
set_option maxRecDepth 20000 in
theorem gX3_digest_X3_ro : GoodIn wsX3_digest (wsV RX3 85 RX3 yX3_ro wsX3_ro) := goodIn_app (goodIn_of _ (by decide +kernel)) ggX3_digest_X3_ro
set_option maxRecDepth 20000 in
theorem ggX3_digest_X3_jointTold : GoodIn wsX3_digest wsX3_jointTold := goodIn_r _ [18, 19, 20, 21, 10, 22, 23, 24, 25, 26, 27, 28, 29, 30, 36, 37, 38, 39, 40, 41, 42, 43, 44] (by decide +kernel) (by decide +kernel)
set_option maxRecDepth 20000 in
theorem gX3_digest_X3_jointTold : GoodIn wsX3_digest (wsV RX3 95 RX3 yX3_jointTold wsX3_jointTold) := goodIn_app (goodIn_of _ (by decide +kernel)) ggX3_digest_X3_jointTold
theorem dX3_digest_0 : decode cX3_digest 0 = .ok (.aload_n 0, 1) := by decide +kernel
theorem dX3_digest_1 : decode cX3_digest 1 = .ok (.iconst 0, 1) := by decide +kernel
theorem dX3_digest_2 : decode cX3_digest 2 = .ok (.putfield 29, 3) := by decide +kernel
theorem dX3_digest_5 : decode cX3_digest 5 = .ok (.ldc2_w 129, 3) := by decide +kernel
theorem dX3_digest_8 : decode cX3_digest 8 = .ok (.lstore_n 1, 1) := by decide +kernel
theorem dX3_digest_9 : decode cX3_digest 9 = .ok (.iconst 0, 1) := by decide +kernel
theorem dX3_digest_10 : decode cX3_digest 10 = .ok (.istore_n 3, 1) := by decide +kernel
theorem dX3_digest_11 : decode cX3_digest 11 = .ok (.iload_n 3, 1) := by decide +kernel
theorem dX3_digest_12 : decode cX3_digest 12 = .ok (.bipush 13, 2) := by decide +kernel
theorem dX3_digest_14 : decode cX3_digest 14 = .ok (.if_icmp .ge 22, 3) := by decide +kernel
theorem dX3_digest_17 : decode cX3_digest 17 = .ok (.lload_n 1, 1) := by decide +kernel
theorem dX3_digest_18 : decode cX3_digest 18 = .ok (.ldc2_w 131, 3) := by decide +kernel
theorem dX3_digest_21 : decode cX3_digest 21 = .ok (.lmul, 1) := by decide +kernel
theorem dX3_digest_22 : decode cX3_digest 22 = .ok (.aload_n 0, 1) := by decide +kernel
theorem dX3_digest_23 : decode cX3_digest 23 = .ok (.iload_n 3, 1) := by decide +kernel
theorem dX3_digest_24 : decode cX3_digest 24 = .ok (.invokevirtual 98, 3) := by decide +kernel
theorem dX3_digest_27 : decode cX3_digest 27 = .ok (.i2l, 1) := by decide +kernel
theorem dX3_digest_28 : decode cX3_digest 28 = .ok (.ladd, 1) := by decide +kernel
theorem dX3_digest_29 : decode cX3_digest 29 = .ok (.lstore_n 1, 1) := by decide +kernel
theorem dX3_digest_30 : decode cX3_digest 30 = .ok (.iinc 3 1, 3) := by decide +kernel
theorem dX3_digest_33 : decode cX3_digest 33 = .ok (.goto (-22), 3) := by decide +kernel
theorem dX3_digest_36 : decode cX3_digest 36 = .ok (.iconst 0, 1) := by decide +kernel
theorem dX3_digest_37 : decode cX3_digest 37 = .ok (.istore_n 3, 1) := by decide +kernel
theorem dX3_digest_38 : decode cX3_digest 38 = .ok (.iload_n 3, 1) := by decide +kernel
theorem dX3_digest_39 : decode cX3_digest 39 = .ok (.bipush 6, 2) := by decide +kernel
theorem dX3_digest_41 : decode cX3_digest 41 = .ok (.aload_n 0, 1) := by decide +kernel
theorem dX3_digest_42 : decode cX3_digest 42 = .ok (.getfield 39, 3) := by decide +kernel
theorem dX3_digest_45 : decode cX3_digest 45 = .ok (.imul, 1) := by decide +kernel
theorem dX3_digest_46 : decode cX3_digest 46 = .ok (.if_icmp .ge 23, 3) := by decide +kernel
theorem dX3_digest_49 : decode cX3_digest 49 = .ok (.lload_n 1, 1) := by decide +kernel
theorem dX3_digest_50 : decode cX3_digest 50 = .ok (.ldc2_w 131, 3) := by decide +kernel
theorem dX3_digest_53 : decode cX3_digest 53 = .ok (.lmul, 1) := by decide +kernel
theorem dX3_digest_54 : decode cX3_digest 54 = .ok (.aload_n 0, 1) := by decide +kernel
theorem dX3_digest_55 : decode cX3_digest 55 = .ok (.getfield 20, 3) := by decide +kernel
theorem dX3_digest_58 : decode cX3_digest 58 = .ok (.iload_n 3, 1) := by decide +kernel
theorem dX3_digest_59 : decode cX3_digest 59 = .ok (.iaload, 1) := by decide +kernel
theorem dX3_digest_60 : decode cX3_digest 60 = .ok (.i2l, 1) := by decide +kernel
theorem dX3_digest_61 : decode cX3_digest 61 = .ok (.ladd, 1) := by decide +kernel
theorem dX3_digest_62 : decode cX3_digest 62 = .ok (.lstore_n 1, 1) := by decide +kernel
theorem dX3_digest_63 : decode cX3_digest 63 = .ok (.iinc 3 1, 3) := by decide +kernel
theorem dX3_digest_66 : decode cX3_digest 66 = .ok (.goto (-28), 3) := by decide +kernel
theorem dX3_digest_69 : decode cX3_digest 69 = .ok (.iconst 0, 1) := by decide +kernel
theorem dX3_digest_70 : decode cX3_digest 70 = .ok (.istore_n 3, 1) := by decide +kernel
theorem dX3_digest_71 : decode cX3_digest 71 = .ok (.iload_n 3, 1) := by decide +kernel
theorem dX3_digest_72 : decode cX3_digest 72 = .ok (.aload_n 0, 1) := by decide +kernel
theorem dX3_digest_73 : decode cX3_digest 73 = .ok (.getfield 32, 3) := by decide +kernel
theorem dX3_digest_76 : decode cX3_digest 76 = .ok (.if_icmp .ge 88, 3) := by decide +kernel
theorem dX3_digest_79 : decode cX3_digest 79 = .ok (.iconst 0, 1) := by decide +kernel
theorem dX3_digest_80 : decode cX3_digest 80 = .ok (.istore 4, 2) := by decide +kernel
theorem dX3_digest_82 : decode cX3_digest 82 = .ok (.iload 4, 2) := by decide +kernel
theorem dX3_digest_84 : decode cX3_digest 84 = .ok (.bipush 8, 2) := by decide +kernel
theorem dX3_digest_86 : decode cX3_digest 86 = .ok (.if_icmp .ge 24, 3) := by decide +kernel
theorem dX3_digest_89 : decode cX3_digest 89 = .ok (.lload_n 1, 1) := by decide +kernel
theorem dX3_digest_90 : decode cX3_digest 90 = .ok (.ldc2_w 131, 3) := by decide +kernel
theorem dX3_digest_93 : decode cX3_digest 93 = .ok (.lmul, 1) := by decide +kernel
theorem dX3_digest_94 : decode cX3_digest 94 = .ok (.aload_n 0, 1) := by decide +kernel
theorem dX3_digest_95 : decode cX3_digest 95 = .ok (.iload_n 3, 1) := by decide +kernel
theorem dX3_digest_96 : decode cX3_digest 96 = .ok (.iload 4, 2) := by decide +kernel
theorem dX3_digest_98 : decode cX3_digest 98 = .ok (.invokevirtual 85, 3) := by decide +kernel
theorem dX3_digest_101 : decode cX3_digest 101 = .ok (.i2l, 1) := by decide +kernel
theorem dX3_digest_102 : decode cX3_digest 102 = .ok (.ladd, 1) := by decide +kernel
theorem dX3_digest_103 : decode cX3_digest 103 = .ok (.lstore_n 1, 1) := by decide +kernel
theorem dX3_digest_104 : decode cX3_digest 104 = .ok (.iinc 4 1, 3) := by decide +kernel
theorem dX3_digest_107 : decode cX3_digest 107 = .ok (.goto (-25), 3) := by decide +kernel
theorem dX3_digest_110 : decode cX3_digest 110 = .ok (.iconst 0, 1) := by decide +kernel
theorem dX3_digest_111 : decode cX3_digest 111 = .ok (.istore 4, 2) := by decide +kernel
theorem dX3_digest_113 : decode cX3_digest 113 = .ok (.iload 4, 2) := by decide +kernel
theorem dX3_digest_115 : decode cX3_digest 115 = .ok (.bipush 6, 2) := by decide +kernel
theorem dX3_digest_117 : decode cX3_digest 117 = .ok (.if_icmp .ge 41, 3) := by decide +kernel
theorem dX3_digest_120 : decode cX3_digest 120 = .ok (.iconst 0, 1) := by decide +kernel
theorem dX3_digest_121 : decode cX3_digest 121 = .ok (.istore 5, 2) := by decide +kernel
theorem dX3_digest_123 : decode cX3_digest 123 = .ok (.iload 5, 2) := by decide +kernel
theorem dX3_digest_125 : decode cX3_digest 125 = .ok (.iconst 4, 1) := by decide +kernel
theorem dX3_digest_126 : decode cX3_digest 126 = .ok (.if_icmp .ge 26, 3) := by decide +kernel
theorem dX3_digest_129 : decode cX3_digest 129 = .ok (.lload_n 1, 1) := by decide +kernel
theorem dX3_digest_130 : decode cX3_digest 130 = .ok (.ldc2_w 131, 3) := by decide +kernel
theorem dX3_digest_133 : decode cX3_digest 133 = .ok (.lmul, 1) := by decide +kernel
theorem dX3_digest_134 : decode cX3_digest 134 = .ok (.aload_n 0, 1) := by decide +kernel
theorem dX3_digest_135 : decode cX3_digest 135 = .ok (.iload_n 3, 1) := by decide +kernel
theorem dX3_digest_136 : decode cX3_digest 136 = .ok (.iload 4, 2) := by decide +kernel
theorem dX3_digest_138 : decode cX3_digest 138 = .ok (.iload 5, 2) := by decide +kernel
theorem dX3_digest_140 : decode cX3_digest 140 = .ok (.invokevirtual 95, 3) := by decide +kernel
theorem dX3_digest_143 : decode cX3_digest 143 = .ok (.i2l, 1) := by decide +kernel
theorem dX3_digest_144 : decode cX3_digest 144 = .ok (.ladd, 1) := by decide +kernel
theorem dX3_digest_145 : decode cX3_digest 145 = .ok (.lstore_n 1, 1) := by decide +kernel
theorem dX3_digest_146 : decode cX3_digest 146 = .ok (.iinc 5 1, 3) := by decide +kernel
theorem dX3_digest_149 : decode cX3_digest 149 = .ok (.goto (-26), 3) := by decide +kernel
theorem dX3_digest_152 : decode cX3_digest 152 = .ok (.iinc 4 1, 3) := by decide +kernel
theorem dX3_digest_155 : decode cX3_digest 155 = .ok (.goto (-42), 3) := by decide +kernel
theorem dX3_digest_158 : decode cX3_digest 158 = .ok (.iinc 3 1, 3) := by decide +kernel
theorem dX3_digest_161 : decode cX3_digest 161 = .ok (.goto (-90), 3) := by decide +kernel
theorem dX3_digest_164 : decode cX3_digest 164 = .ok (.lload_n 1, 1) := by decide +kernel
theorem dX3_digest_165 : decode cX3_digest 165 = .ok (.lreturn, 1) := by decide +kernel
theorem dJ9_abs_0f7a4_0 : decode cJ9_abs_0f7a4 0 = .ok (.iload_n 0, 1) := by decide +kernel
theorem dJ9_abs_0f7a4_1 : decode cJ9_abs_0f7a4 1 = .ok (.ifCond .ge 8, 3) := by decide +kernel
theorem dJ9_abs_0f7a4_4 : decode cJ9_abs_0f7a4 4 = .ok (.iload_n 0, 1) := by decide +kernel
theorem dJ9_abs_0f7a4_5 : decode cJ9_abs_0f7a4 5 = .ok (.ineg, 1) := by decide +kernel
theorem dJ9_abs_0f7a4_6 : decode cJ9_abs_0f7a4 6 = .ok (.goto 4, 3) := by decide +kernel
theorem dJ9_abs_0f7a4_9 : decode cJ9_abs_0f7a4 9 = .ok (.iload_n 0, 1) := by decide +kernel
theorem dJ9_abs_0f7a4_10 : decode cJ9_abs_0f7a4 10 = .ok (.ireturn, 1) := by decide +kernel
theorem dJ9_max_7cf53_0 : decode cJ9_max_7cf53 0 = .ok (.iload_n 0, 1) := by decide +kernel
theorem dJ9_max_7cf53_1 : decode cJ9_max_7cf53 1 = .ok (.iload_n 1, 1) := by decide +kernel
theorem dJ9_max_7cf53_2 : decode cJ9_max_7cf53 2 = .ok (.if_icmp .lt 7, 3) := by decide +kernel
theorem dJ9_max_7cf53_5 : decode cJ9_max_7cf53 5 = .ok (.iload_n 0, 1) := by decide +kernel
theorem dJ9_max_7cf53_6 : decode cJ9_max_7cf53 6 = .ok (.goto 4, 3) := by decide +kernel
theorem dJ9_max_7cf53_9 : decode cJ9_max_7cf53 9 = .ok (.iload_n 1, 1) := by decide +kernel
theorem dJ9_max_7cf53_10 : decode cJ9_max_7cf53 10 = .ok (.ireturn, 1) := by decide +kernel
theorem dJ9_min_7cf53_0 : decode cJ9_min_7cf53 0 = .ok (.iload_n 0, 1) := by decide +kernel
theorem dJ9_min_7cf53_1 : decode cJ9_min_7cf53 1 = .ok (.iload_n 1, 1) := by decide +kernel
theorem dJ9_min_7cf53_2 : decode cJ9_min_7cf53 2 = .ok (.if_icmp .gt 7, 3) := by decide +kernel
theorem dJ9_min_7cf53_5 : decode cJ9_min_7cf53 5 = .ok (.iload_n 0, 1) := by decide +kernel
theorem dJ9_min_7cf53_6 : decode cJ9_min_7cf53 6 = .ok (.goto 4, 3) := by decide +kernel
theorem dJ9_min_7cf53_9 : decode cJ9_min_7cf53 9 = .ok (.iload_n 1, 1) := by decide +kernel
theorem dJ9_min_7cf53_10 : decode cJ9_min_7cf53 10 = .ok (.ireturn, 1) := by decide +kernel
set_option maxRecDepth 20000 in
theorem ggL_make_X2_make : GoodIn wsL_make wsX2_make := goodIn_ca (goodIn_r _ [6, 7, 8, 9, 10, 11, 12, 13, 14, 15, 16, 17, 18, 19, 20, 21, 22, 23, 24, 25, 26, 27, 28, 29, 30, 31, 32, 33, 34, 35, 36, 37, 38, 39, 40, 41, 42, 43, 44, 45, 46, 47, 48] (by decide +kernel) (by decide +kernel)) (goodIn_sub (fun _ h => List.mem_cons_of_mem _ (List.mem_append_right _ h)) (by decide +kernel))
set_option maxRecDepth 20000 in
theorem gL_make_X2_make : GoodIn wsL_make (wsV RL 7 RX2 yX2_make wsX2_make) := goodIn_app (goodIn_of _ (by decide +kernel)) ggL_make_X2_make
end
section
-- BASE: whole numbers on the machine
def iv (z : Int) : Int32 := Int32.ofInt z
theorem iv_toInt {z : Int} (h : -2147483648 ≤ z ∧ z < 2147483648) : (iv z).toInt = z := by
  unfold iv
  exact Int32.toInt_ofInt_of_le (by omega) (by omega)
theorem iv_of (x : Int32) : iv x.toInt = x := by
  unfold iv
  exact Int32.ofInt_toInt x
theorem iv_rng (x : Int32) : -2147483648 ≤ x.toInt ∧ x.toInt < 2147483648 := by
  have h1 := Int32.le_toInt x
  have h2 := Int32.toInt_lt x
  omega
theorem iv_add (a b : Int) : iv a + iv b = iv (a + b) := by
  unfold iv
  exact (Int32.ofInt_add a b).symm
theorem iv_sub (a b : Int) : iv a - iv b = iv (a - b) := by
  unfold iv
  exact (Int32.ofInt_sub a b).symm
theorem iv_mul (a b : Int) : iv a * iv b = iv (a * b) := by
  unfold iv
  exact (Int32.ofInt_mul a b).symm
theorem iv_le {a b : Int} (ha : -2147483648 ≤ a ∧ a < 2147483648) (hb : -2147483648 ≤ b ∧ b < 2147483648) : iv a ≤ iv b ↔ a ≤ b := by
  rw [Int32.le_iff_toInt_le, iv_toInt ha, iv_toInt hb]
theorem iv_lt {a b : Int} (ha : -2147483648 ≤ a ∧ a < 2147483648) (hb : -2147483648 ≤ b ∧ b < 2147483648) : iv a < iv b ↔ a < b := by
  rw [Int32.lt_iff_toInt_lt, iv_toInt ha, iv_toInt hb]
theorem iv_eq {a b : Int} (ha : -2147483648 ≤ a ∧ a < 2147483648) (hb : -2147483648 ≤ b ∧ b < 2147483648) : iv a = iv b ↔ a = b := by
  rw [← Int32.toInt_inj, iv_toInt ha, iv_toInt hb]
theorem iv_zero : (0 : Int32) = iv 0 := rfl
theorem iv_nI (n : Nat) : nI n = iv (n : Int) := by
  unfold nI iv
  exact (Int32.ofInt_eq_ofNat).symm
theorem iv_div {a b : Int} (ha : 0 ≤ a ∧ a < 2147483648) (hb : 0 < b ∧ b < 2147483648) : iv a / iv b = iv (a / b) := by
  obtain ⟨x, rfl⟩ := Int.eq_ofNat_of_zero_le ha.1
  obtain ⟨y, rfl⟩ := Int.eq_ofNat_of_zero_le (Int.le_of_lt hb.1)
  rw [← iv_nI, ← iv_nI, pk_div (by omega) (by omega) (by omega), iv_nI]
  rfl
theorem iv_rem {a b : Int} (ha : 0 ≤ a ∧ a < 2147483648) (hb : 0 < b ∧ b < 2147483648) : iv a - iv a / iv b * iv b = iv (a % b) := by
  obtain ⟨x, rfl⟩ := Int.eq_ofNat_of_zero_le ha.1
  obtain ⟨y, rfl⟩ := Int.eq_ofNat_of_zero_le (Int.le_of_lt hb.1)
  rw [← iv_nI, ← iv_nI, pk_rem (by omega) (by omega) (by omega), iv_nI]
  rfl
theorem iv_ix {z : Int} {n k : Nat} (hk : z = (k : Int)) (hlt : k < n) (hn : n < 2147483648) : vp_in (iv z) n ∧ (iv z).toNatClampNeg = k := by
  subst hk
  rw [← iv_nI]
  exact ⟨vp_in_nI hlt (by omega), nI_clamp (by omega)⟩
theorem iv_max {a b : Int} (ha : -2147483648 ≤ a ∧ a < 2147483648) (hb : -2147483648 ≤ b ∧ b < 2147483648) : (if iv a < iv b then iv b else iv a) = iv (max a b) := by
  by_cases h : a < b
  · rw [if_pos ((iv_lt ha hb).mpr h), show max a b = b by omega]
  · rw [if_neg (fun q => h ((iv_lt ha hb).mp q)), show max a b = a by omega]
theorem iv_inj {a b : Int} (ha : -2147483648 ≤ a ∧ a < 2147483648) (hb : -2147483648 ≤ b ∧ b < 2147483648) (h : iv a = iv b) : a = b := (iv_eq ha hb).mp h
def updI (F : Nat → Int) (k : Nat) (x : Int) : Nat → Int := fun j => if j = k then x else F j
theorem updI_s (F : Nat → Int) (k : Nat) (x : Int) : updI F k x k = x := by simp [updI]
theorem updI_n (F : Nat → Int) {k j : Nat} (x : Int) (h : j ≠ k) : updI F k x j = F j := by simp [updI, h]
theorem iv_upd (F : Nat → Int) (k : Nat) (x : Int) : upd (fun j => iv (F j)) k (iv x) = fun j => iv (updI F k x j) := by
  funext j
  unfold upd updI
  by_cases h : j = k
  · simp [h]
  · simp [h]
-- truth as a number
def b2i (b : Bool) : Int := if b then 1 else 0
theorem b2i_rng (b : Bool) : 0 ≤ b2i b ∧ b2i b ≤ 1 := by cases b <;> simp [b2i]
-- worlds by membership
theorem wP_iff {D : va_G} {ws : va_W} {H : Heap} : va_P D vwCl ws H ↔ ∀ q ∈ ws, va_at D vwCl q H := by
  constructor
  · intro h q hq
    obtain ⟨k, hk⟩ := List.getElem?_of_mem hq
    exact h k q hk
  · intro h k q hk
    exact h q (List.mem_of_getElem? hk)
theorem wD_iff {A : Nat → Prop} {ws : va_W} : va_D A ws ↔ (ws.map (fun q => q.1)).Nodup ∧ ∀ q ∈ ws, A q.1 := by
  constructor
  · intro h
    refine ⟨?_, ?_⟩
    · unfold List.Nodup
      rw [List.pairwise_iff_getElem]
      intro i j hi hj hij he
      rw [List.length_map] at hi hj
      rw [List.getElem_map, List.getElem_map] at he
      have := h.1 i j _ _ (List.getElem?_eq_getElem hi) (List.getElem?_eq_getElem hj) he
      omega
    · intro q hq
      obtain ⟨k, hk⟩ := List.getElem?_of_mem hq
      exact h.2 k q hk
  · intro h
    refine ⟨?_, fun k q hk => h.2 q (List.mem_of_getElem? hk)⟩
    intro i j p q hi hj hpq
    have hn := h.1
    unfold List.Nodup at hn
    rw [List.pairwise_iff_getElem] at hn
    obtain ⟨li, ei⟩ := List.getElem?_eq_some_iff.mp hi
    obtain ⟨lj, ej⟩ := List.getElem?_eq_some_iff.mp hj
    rcases Nat.lt_trichotomy i j with hl | hl | hl
    · have := hn i j (by rw [List.length_map]; exact li) (by rw [List.length_map]; exact lj) hl
      rw [List.getElem_map, List.getElem_map, ei, ej] at this
      exact absurd hpq this
    · exact hl
    · have := hn j i (by rw [List.length_map]; exact lj) (by rw [List.length_map]; exact li) hl
      rw [List.getElem_map, List.getElem_map, ei, ej] at this
      exact absurd hpq.symm this
theorem wP_perm {D : va_G} {ws ws' : va_W} {H : Heap} (h : va_P D vwCl ws H) (hp : ws.Perm ws') : va_P D vwCl ws' H := wP_iff.mpr fun q hq => wP_iff.mp h q (hp.mem_iff.mpr hq)
theorem wD_perm {A : Nat → Prop} {ws ws' : va_W} (h : va_D A ws) (hp : ws.Perm ws') : va_D A ws' := by
  obtain ⟨h1, h2⟩ := wD_iff.mp h
  exact wD_iff.mpr ⟨(hp.map _).nodup_iff.mp h1, fun q hq => h2 q (hp.mem_iff.mpr hq)⟩
theorem wP_app {D : va_G} {w1 w2 : va_W} {H : Heap} : va_P D vwCl (w1 ++ w2) H ↔ va_P D vwCl w1 H ∧ va_P D vwCl w2 H := by
  constructor
  · intro h
    exact ⟨wP_iff.mpr fun q hq => wP_iff.mp h q (List.mem_append_left _ hq), wP_iff.mpr fun q hq => wP_iff.mp h q (List.mem_append_right _ hq)⟩
  · intro h
    exact va_P.app h.1 h.2
theorem wD_app1 {A : Nat → Prop} {w1 w2 : va_W} (h : va_D A (w1 ++ w2)) : va_D A w1 := by
  obtain ⟨h1, h2⟩ := wD_iff.mp h
  rw [List.map_append] at h1
  exact wD_iff.mpr ⟨(List.nodup_append.mp h1).1, fun q hq => h2 q (List.mem_append_left _ hq)⟩
/-- which addresses a world takes -/
theorem wA_mem {ws : va_W} {sz : Nat} {q : Nat} : va_A ws sz q ↔ (∃ e, (q, e) ∈ ws) ∨ sz ≤ q := by
  constructor
  · rintro (⟨k, e, h⟩ | h)
    · exact Or.inl ⟨e, List.mem_of_getElem? h⟩
    · exact Or.inr h
  · rintro (⟨e, h⟩ | h)
    · obtain ⟨k, hk⟩ := List.getElem?_of_mem h
      exact Or.inl ⟨k, e, hk⟩
    · exact Or.inr h
/-- a part of the world, handed to a callee: what it may write lies in ours -/
theorem wF {A : Nat → Prop} {ws wc wr : va_W} {H0 H : Heap} {locs : List Loc} (hD : va_D A ws) (hS : va_S A H0 H locs) (hA : ∀ q, H0.size ≤ q → A q) (hp : ws.Perm (wc ++ wr)) : ∀ q, va_A wc H.size q → A q := by
  intro q h
  rcases wA_mem.mp h with ⟨e, h⟩ | h
  · exact (wD_iff.mp hD).2 (q, e) (hp.mem_iff.mpr (List.mem_append_left _ h))
  · exact hA q (Nat.le_trans hS.1 h)
/-- and what comes back, beside the rest -/
theorem wJ {A : Nat → Prop} {D : va_G} {ws wc wr u : va_W} {H H1 : Heap} (hP : va_P D vwCl ws H) (hD : va_D A ws) (hp : ws.Perm (wc ++ wr)) (hk : ∀ q : Nat, q < H.size → ¬ va_A wc H.size q → H1[q]? = H[q]?) (hF : ∀ q, va_A wc H.size q → A q) (hP1 : va_P D vwCl u H1) (hD1 : va_D (va_A wc H.size) u) : va_P D vwCl (u ++ wr) H1 ∧ va_D A (u ++ wr) := by
  have hP' := wP_perm hP hp
  have hD' := wD_perm hD hp
  obtain ⟨n1, n2⟩ := wD_iff.mp hD'
  rw [List.map_append] at n1
  obtain ⟨-, m2, m3⟩ := List.nodup_append.mp n1
  obtain ⟨o1, o2⟩ := wD_iff.mp hD1
  have apart : ∀ q ∈ wr, q.1 < H.size ∧ ¬ va_A wc H.size q.1 := by
    intro q hq
    have hl := (wP_iff.mp hP' q (List.mem_append_right _ hq)).lt
    refine ⟨hl, fun h => ?_⟩
    rcases wA_mem.mp h with ⟨e, h⟩ | h
    · exact m3 q.1 (List.mem_map.mpr ⟨(q.1, e), h, rfl⟩) q.1 (List.mem_map.mpr ⟨q, hq, rfl⟩) rfl
    · omega
  refine ⟨wP_app.mpr ⟨hP1, wP_iff.mpr fun q hq => ?_⟩, wD_iff.mpr ⟨?_, ?_⟩⟩
  · exact (wP_iff.mp hP' q (List.mem_append_right _ hq)).kept (hk q.1 (apart q hq).1 (apart q hq).2)
  · rw [List.map_append, List.nodup_append]
    refine ⟨o1, m2, ?_⟩
    intro a ha b hb hab
    obtain ⟨q1, hq1, rfl⟩ := List.mem_map.mp ha
    obtain ⟨q2, hq2, rfl⟩ := List.mem_map.mp hb
    exact (apart q2 hq2).2 (hab ▸ o2 q1 hq1)
  · intro q hq
    rcases List.mem_append.mp hq with h | h
    · exact hF _ (o2 q h)
    · exact n2 q (List.mem_append_right _ h)
/-- an explicit head of a world, in another order -/
def wpick (E : va_W) (is : List Nat) : va_W := is.filterMap (fun i => E[i]?)
theorem wpick_all : ∀ (E : va_W), wpick E (List.range E.length) = E := by
  intro E
  induction E with
  | nil => rfl
  | cons a E ih =>
    unfold wpick at ih ⊢
    rw [List.length_cons, List.range_succ_eq_map, List.filterMap_cons]
    show a :: List.filterMap (fun i => (a :: E)[i]?) (List.map Nat.succ (List.range E.length)) = a :: E
    rw [List.filterMap_map]
    exact congrArg (fun l => a :: l) ih
theorem wpick_perm (E : va_W) {is : List Nat} (h : is.Perm (List.range E.length)) : (wpick E is).Perm E := by
  have h1 : (wpick E is).Perm (wpick E (List.range E.length)) := h.filterMap _
  rw [wpick_all] at h1
  exact h1
theorem wsplit (E rest : va_W) {is js : List Nat} {wc wr : va_W} (h : (is ++ js).Perm (List.range E.length)) (hc : wpick E is = wc) (hr : wpick E js = wr) : (E ++ rest).Perm (wc ++ (wr ++ rest)) := by
  subst hc
  subst hr
  have h1 := wpick_perm E h
  have h2 : wpick E (is ++ js) = wpick E is ++ wpick E js := List.filterMap_append
  rw [h2] at h1
  rw [← List.append_assoc]
  exact (h1.symm).append_right rest
end
section
-- ROWS over whole numbers
section RW
variable {p : Program} {l : Launch} {e : Env} {R : Room} {s : State} {m : MethodId} {args : Array Value} {below : List Frame} {meth : Method} {c : Code} {H : Heap} {locs : List Loc} {cells slots : Nat} {Q : State → Prop}
variable {cc : ByteArray} {pc : Nat} {ls : Array Slot} {rest : List Value}
theorem r_const (hx : p.tables.exec = Jvm.exec) (hb : c.code = cc) {n : Int} (d : decode cc pc = .ok (.iconst n, 1)) (k : W p l e R s m args below meth c H locs cells slots Q (F0 m (pc + 1) ls (.int (iv n) :: rest))) : W p l e R s m args below meth c H locs cells slots Q (F0 m pc ls rest) := lv_iconst hx hb d rfl k
theorem r_add (hx : p.tables.exec = Jvm.exec) (hb : c.code = cc) {a b : Int} (d : decode cc pc = .ok (.iadd, 1)) (k : W p l e R s m args below meth c H locs cells slots Q (F0 m (pc + 1) ls (.int (iv (a + b)) :: rest))) : W p l e R s m args below meth c H locs cells slots Q (F0 m pc ls (.int (iv b) :: .int (iv a) :: rest)) := lv_iadd hx hb d (by rw [iv_add]; exact k)
theorem r_sub (hx : p.tables.exec = Jvm.exec) (hb : c.code = cc) {a b : Int} (d : decode cc pc = .ok (.isub, 1)) (k : W p l e R s m args below meth c H locs cells slots Q (F0 m (pc + 1) ls (.int (iv (a - b)) :: rest))) : W p l e R s m args below meth c H locs cells slots Q (F0 m pc ls (.int (iv b) :: .int (iv a) :: rest)) := lv_isub hx hb d (by rw [iv_sub]; exact k)
theorem r_mul (hx : p.tables.exec = Jvm.exec) (hb : c.code = cc) {a b : Int} (d : decode cc pc = .ok (.imul, 1)) (k : W p l e R s m args below meth c H locs cells slots Q (F0 m (pc + 1) ls (.int (iv (a * b)) :: rest))) : W p l e R s m args below meth c H locs cells slots Q (F0 m pc ls (.int (iv b) :: .int (iv a) :: rest)) := lv_imul hx hb d (by rw [iv_mul]; exact k)
theorem r_div (hx : p.tables.exec = Jvm.exec) (hb : c.code = cc) {a b : Int} (d : decode cc pc = .ok (.idiv, 1)) (ha : 0 ≤ a ∧ a < 2147483648) (hc : 0 < b ∧ b < 2147483648) (k : W p l e R s m args below meth c H locs cells slots Q (F0 m (pc + 1) ls (.int (iv (a / b)) :: rest))) : W p l e R s m args below meth c H locs cells slots Q (F0 m pc ls (.int (iv b) :: .int (iv a) :: rest)) := lv_idiv hx hb d (fun q => by have := iv_inj (a := b) (b := 0) (by omega) (by omega) (q.trans iv_zero); omega) (by rw [iv_div ha hc]; exact k)
theorem r_rem (hx : p.tables.exec = Jvm.exec) (hb : c.code = cc) {a b : Int} (d : decode cc pc = .ok (.irem, 1)) (ha : 0 ≤ a ∧ a < 2147483648) (hc : 0 < b ∧ b < 2147483648) (k : W p l e R s m args below meth c H locs cells slots Q (F0 m (pc + 1) ls (.int (iv (a % b)) :: rest))) : W p l e R s m args below meth c H locs cells slots Q (F0 m pc ls (.int (iv b) :: .int (iv a) :: rest)) := lv_irem hx hb d (fun q => by have := iv_inj (a := b) (b := 0) (by omega) (by omega) (q.trans iv_zero); omega) (by rw [iv_rem ha hc]; exact k)
theorem r_iinc (hx : p.tables.exec = Jvm.exec) (hb : c.code = cc) {i nL k : Nat} {n a : Int} {lv lv' : List (Nat × Value)} (d : decode cc pc = .ok (.iinc i n, 3)) (h : lv_has ls nL lv) (hk : lv[k]? = some (i, .int (iv a))) (hn : i < nL) (hl : (i, Value.int (iv (a + n))) :: lv.filter (fun q => !(q.1 == i) && !(q.1 + 1 == i && q.2.category == 2)) = lv') (kk : ∀ ls' : Array Slot, lv_has ls' nL lv' → W p l e R s m args below meth c H locs cells slots Q (F0 m (pc + 3) ls' rest)) : W p l e R s m args below meth c H locs cells slots Q (F0 m pc ls rest) := lv_iinc hx hb d h hk (by rw [show Int32.ofInt n = iv n from rfl, iv_add]) hn hl kk
theorem r_goto (hx : p.tables.exec = Jvm.exec) (hb : c.code = cc) {off : Int} (tgt : Nat) (d : decode cc pc = .ok (.goto off, 3)) (ht : (pc : Int) + off = (tgt : Int)) (k : W p l e R s m args below meth c H locs cells slots Q (F0 m tgt ls rest)) : W p l e R s m args below meth c H locs cells slots Q (F0 m pc ls rest) := lv_goto hx hb d ht k
theorem r_icmp_lt (hx : p.tables.exec = Jvm.exec) (hb : c.code = cc) {a b : Int} {off : Int} (tgt : Nat) (d : decode cc pc = .ok (.if_icmp .lt off, 3)) (ht : (pc : Int) + off = (tgt : Int)) (ha : -2147483648 ≤ a ∧ a < 2147483648) (hc : -2147483648 ≤ b ∧ b < 2147483648) (kt : a < b → W p l e R s m args below meth c H locs cells slots Q (F0 m tgt ls rest)) (kf : b ≤ a → W p l e R s m args below meth c H locs cells slots Q (F0 m (pc + 3) ls rest)) : W p l e R s m args below meth c H locs cells slots Q (F0 m pc ls (.int (iv b) :: .int (iv a) :: rest)) := lv_icmp_lt hx hb d ht (fun q => kt ((iv_lt ha hc).mp q)) (fun q => kf (Int.not_lt.mp fun z => q ((iv_lt ha hc).mpr z)))
theorem r_icmp_ge (hx : p.tables.exec = Jvm.exec) (hb : c.code = cc) {a b : Int} {off : Int} (tgt : Nat) (d : decode cc pc = .ok (.if_icmp .ge off, 3)) (ht : (pc : Int) + off = (tgt : Int)) (ha : -2147483648 ≤ a ∧ a < 2147483648) (hc : -2147483648 ≤ b ∧ b < 2147483648) (kt : b ≤ a → W p l e R s m args below meth c H locs cells slots Q (F0 m tgt ls rest)) (kf : a < b → W p l e R s m args below meth c H locs cells slots Q (F0 m (pc + 3) ls rest)) : W p l e R s m args below meth c H locs cells slots Q (F0 m pc ls (.int (iv b) :: .int (iv a) :: rest)) := lv_icmp_ge hx hb d ht (fun q => kt ((iv_le hc ha).mp q)) (fun q => kf (Int.not_le.mp fun z => q ((iv_le hc ha).mpr z)))
theorem r_icmp_gt (hx : p.tables.exec = Jvm.exec) (hb : c.code = cc) {a b : Int} {off : Int} (tgt : Nat) (d : decode cc pc = .ok (.if_icmp .gt off, 3)) (ht : (pc : Int) + off = (tgt : Int)) (ha : -2147483648 ≤ a ∧ a < 2147483648) (hc : -2147483648 ≤ b ∧ b < 2147483648) (kt : b < a → W p l e R s m args below meth c H locs cells slots Q (F0 m tgt ls rest)) (kf : a ≤ b → W p l e R s m args below meth c H locs cells slots Q (F0 m (pc + 3) ls rest)) : W p l e R s m args below meth c H locs cells slots Q (F0 m pc ls (.int (iv b) :: .int (iv a) :: rest)) := lv_icmp_gt hx hb d ht (fun q => kt ((iv_lt hc ha).mp q)) (fun q => kf (Int.not_lt.mp fun z => q ((iv_lt hc ha).mpr z)))
theorem r_icmp_le (hx : p.tables.exec = Jvm.exec) (hb : c.code = cc) {a b : Int} {off : Int} (tgt : Nat) (d : decode cc pc = .ok (.if_icmp .le off, 3)) (ht : (pc : Int) + off = (tgt : Int)) (ha : -2147483648 ≤ a ∧ a < 2147483648) (hc : -2147483648 ≤ b ∧ b < 2147483648) (kt : a ≤ b → W p l e R s m args below meth c H locs cells slots Q (F0 m tgt ls rest)) (kf : b < a → W p l e R s m args below meth c H locs cells slots Q (F0 m (pc + 3) ls rest)) : W p l e R s m args below meth c H locs cells slots Q (F0 m pc ls (.int (iv b) :: .int (iv a) :: rest)) := lv_icmp_le hx hb d ht (fun q => kt ((iv_le ha hc).mp q)) (fun q => kf (Int.not_le.mp fun z => q ((iv_le ha hc).mpr z)))
theorem r_icmp_eq (hx : p.tables.exec = Jvm.exec) (hb : c.code = cc) {a b : Int} {off : Int} (tgt : Nat) (d : decode cc pc = .ok (.if_icmp .eq off, 3)) (ht : (pc : Int) + off = (tgt : Int)) (ha : -2147483648 ≤ a ∧ a < 2147483648) (hc : -2147483648 ≤ b ∧ b < 2147483648) (kt : a = b → W p l e R s m args below meth c H locs cells slots Q (F0 m tgt ls rest)) (kf : ¬ a = b → W p l e R s m args below meth c H locs cells slots Q (F0 m (pc + 3) ls rest)) : W p l e R s m args below meth c H locs cells slots Q (F0 m pc ls (.int (iv b) :: .int (iv a) :: rest)) := lv_icmp_eq hx hb d ht (fun q => kt (iv_inj ha hc q)) (fun q => kf fun z => q (congrArg iv z))
theorem r_icmp_ne (hx : p.tables.exec = Jvm.exec) (hb : c.code = cc) {a b : Int} {off : Int} (tgt : Nat) (d : decode cc pc = .ok (.if_icmp .ne off, 3)) (ht : (pc : Int) + off = (tgt : Int)) (ha : -2147483648 ≤ a ∧ a < 2147483648) (hc : -2147483648 ≤ b ∧ b < 2147483648) (kt : ¬ a = b → W p l e R s m args below meth c H locs cells slots Q (F0 m tgt ls rest)) (kf : a = b → W p l e R s m args below meth c H locs cells slots Q (F0 m (pc + 3) ls rest)) : W p l e R s m args below meth c H locs cells slots Q (F0 m pc ls (.int (iv b) :: .int (iv a) :: rest)) := lv_icmp_ne hx hb d ht (fun q => kt fun z => q (congrArg iv z)) (fun q => kf (iv_inj ha hc q))
theorem r_if_lt (hx : p.tables.exec = Jvm.exec) (hb : c.code = cc) {a : Int} {off : Int} (tgt : Nat) (d : decode cc pc = .ok (.ifCond .lt off, 3)) (ht : (pc : Int) + off = (tgt : Int)) (ha : -2147483648 ≤ a ∧ a < 2147483648) (kt : a < 0 → W p l e R s m args below meth c H locs cells slots Q (F0 m tgt ls rest)) (kf : 0 ≤ a → W p l e R s m args below meth c H locs cells slots Q (F0 m (pc + 3) ls rest)) : W p l e R s m args below meth c H locs cells slots Q (F0 m pc ls (.int (iv a) :: rest)) := lv_if_lt hx hb d ht (fun q => kt ((iv_lt ha (by decide)).mp q)) (fun q => kf (Int.not_lt.mp fun z => q ((iv_lt ha (by decide)).mpr z)))
theorem r_if_ge (hx : p.tables.exec = Jvm.exec) (hb : c.code = cc) {a : Int} {off : Int} (tgt : Nat) (d : decode cc pc = .ok (.ifCond .ge off, 3)) (ht : (pc : Int) + off = (tgt : Int)) (ha : -2147483648 ≤ a ∧ a < 2147483648) (kt : 0 ≤ a → W p l e R s m args below meth c H locs cells slots Q (F0 m tgt ls rest)) (kf : a < 0 → W p l e R s m args below meth c H locs cells slots Q (F0 m (pc + 3) ls rest)) : W p l e R s m args below meth c H locs cells slots Q (F0 m pc ls (.int (iv a) :: rest)) := lv_if_ge hx hb d ht (fun q => kt ((iv_le (by decide) ha).mp q)) (fun q => kf (Int.not_le.mp fun z => q ((iv_le (by decide) ha).mpr z)))
theorem r_if_gt (hx : p.tables.exec = Jvm.exec) (hb : c.code = cc) {a : Int} {off : Int} (tgt : Nat) (d : decode cc pc = .ok (.ifCond .gt off, 3)) (ht : (pc : Int) + off = (tgt : Int)) (ha : -2147483648 ≤ a ∧ a < 2147483648) (kt : 0 < a → W p l e R s m args below meth c H locs cells slots Q (F0 m tgt ls rest)) (kf : a ≤ 0 → W p l e R s m args below meth c H locs cells slots Q (F0 m (pc + 3) ls rest)) : W p l e R s m args below meth c H locs cells slots Q (F0 m pc ls (.int (iv a) :: rest)) := lv_if_gt hx hb d ht (fun q => kt ((iv_lt (by decide) ha).mp q)) (fun q => kf (Int.not_lt.mp fun z => q ((iv_lt (by decide) ha).mpr z)))
theorem r_if_le (hx : p.tables.exec = Jvm.exec) (hb : c.code = cc) {a : Int} {off : Int} (tgt : Nat) (d : decode cc pc = .ok (.ifCond .le off, 3)) (ht : (pc : Int) + off = (tgt : Int)) (ha : -2147483648 ≤ a ∧ a < 2147483648) (kt : a ≤ 0 → W p l e R s m args below meth c H locs cells slots Q (F0 m tgt ls rest)) (kf : 0 < a → W p l e R s m args below meth c H locs cells slots Q (F0 m (pc + 3) ls rest)) : W p l e R s m args below meth c H locs cells slots Q (F0 m pc ls (.int (iv a) :: rest)) := lv_if_le hx hb d ht (fun q => kt ((iv_le ha (by decide)).mp q)) (fun q => kf (Int.not_le.mp fun z => q ((iv_le ha (by decide)).mpr z)))
theorem r_if_eq (hx : p.tables.exec = Jvm.exec) (hb : c.code = cc) {a : Int} {off : Int} (tgt : Nat) (d : decode cc pc = .ok (.ifCond .eq off, 3)) (ht : (pc : Int) + off = (tgt : Int)) (ha : -2147483648 ≤ a ∧ a < 2147483648) (kt : a = 0 → W p l e R s m args below meth c H locs cells slots Q (F0 m tgt ls rest)) (kf : ¬ a = 0 → W p l e R s m args below meth c H locs cells slots Q (F0 m (pc + 3) ls rest)) : W p l e R s m args below meth c H locs cells slots Q (F0 m pc ls (.int (iv a) :: rest)) := lv_if_eq hx hb d ht (fun q => kt (iv_inj ha (by decide) q)) (fun q => kf fun z => q (congrArg iv z))
theorem r_if_ne (hx : p.tables.exec = Jvm.exec) (hb : c.code = cc) {a : Int} {off : Int} (tgt : Nat) (d : decode cc pc = .ok (.ifCond .ne off, 3)) (ht : (pc : Int) + off = (tgt : Int)) (ha : -2147483648 ≤ a ∧ a < 2147483648) (kt : ¬ a = 0 → W p l e R s m args below meth c H locs cells slots Q (F0 m tgt ls rest)) (kf : a = 0 → W p l e R s m args below meth c H locs cells slots Q (F0 m (pc + 3) ls rest)) : W p l e R s m args below meth c H locs cells slots Q (F0 m pc ls (.int (iv a) :: rest)) := lv_if_ne hx hb d ht (fun q => kt fun z => q (congrArg iv z)) (fun q => kf (iv_inj ha (by decide) q))
theorem r_bool_eq (hx : p.tables.exec = Jvm.exec) (hb : c.code = cc) {a : Bool} {off : Int} (tgt : Nat) (d : decode cc pc = .ok (.ifCond .eq off, 3)) (ht : (pc : Int) + off = (tgt : Int)) (kt : a = false → W p l e R s m args below meth c H locs cells slots Q (F0 m tgt ls rest)) (kf : a = true → W p l e R s m args below meth c H locs cells slots Q (F0 m (pc + 3) ls rest)) : W p l e R s m args below meth c H locs cells slots Q (F0 m pc ls (.int (iv (b2i a)) :: rest)) := r_if_eq hx hb tgt d ht (by have := b2i_rng a; omega) (fun q => kt (by cases a; rfl; exact absurd q (by decide))) (fun q => kf (by cases a; exact absurd rfl q; rfl))
theorem r_bool_ne (hx : p.tables.exec = Jvm.exec) (hb : c.code = cc) {a : Bool} {off : Int} (tgt : Nat) (d : decode cc pc = .ok (.ifCond .ne off, 3)) (ht : (pc : Int) + off = (tgt : Int)) (kt : a = true → W p l e R s m args below meth c H locs cells slots Q (F0 m tgt ls rest)) (kf : a = false → W p l e R s m args below meth c H locs cells slots Q (F0 m (pc + 3) ls rest)) : W p l e R s m args below meth c H locs cells slots Q (F0 m pc ls (.int (iv (b2i a)) :: rest)) := r_if_ne hx hb tgt d ht (by have := b2i_rng a; omega) (fun q => kt (by cases a; exact absurd rfl q; rfl)) (fun q => kf (by cases a; rfl; exact absurd q (by decide)))
theorem r_iald {D : va_G} {tys : List (ClassId × FieldType)} {ws : va_W} {a : Nat} (hx : p.tables.exec = Jvm.exec) (hb : c.code = cc) (hK : va_K D vwCl tys s) (hP : va_P D vwCl ws H) (q0 t0 : Nat) {cA : ClassId} {n : Nat} {F : Nat → Int} (ha : ws[q0]? = some (a, .inl (cA, n, .inl (fun j => iv (F j))))) (ht : tys[t0]? = some (cA, .int)) {z : Int} (k : Nat) (hz : z = (k : Int)) (hk : k < n) (hn : n < 2147483648) (d : decode cc pc = .ok (.iaload, 1)) (kk : W p l e R s m args below meth c H locs cells slots Q (F0 m (pc + 1) ls (.int (iv (F k)) :: rest))) : W p l e R s m args below meth c H locs cells slots Q (F0 m pc ls (.int (iv z) :: .ref a :: rest)) := by
  obtain ⟨h1, h2⟩ := iv_ix hz hk hn
  refine va_iald hx hb hK hP q0 t0 ha ht h1 d ?_
  rw [h2]
  exact kk
theorem r_zald {D : va_G} {tys : List (ClassId × FieldType)} {ws : va_W} {a : Nat} (hx : p.tables.exec = Jvm.exec) (hb : c.code = cc) (hK : va_K D vwCl tys s) (hP : va_P D vwCl ws H) (q0 t0 : Nat) {cA : ClassId} {n : Nat} {F : Nat → Int} (ha : ws[q0]? = some (a, .inl (cA, n, .inl (fun j => iv (F j))))) (ht : tys[t0]? = some (cA, .boolean)) {z : Int} (k : Nat) (hz : z = (k : Int)) (hk : k < n) (hn : n < 2147483648) (d : decode cc pc = .ok (.baload, 1)) (kk : W p l e R s m args below meth c H locs cells slots Q (F0 m (pc + 1) ls (.int (iv (F k)) :: rest))) : W p l e R s m args below meth c H locs cells slots Q (F0 m pc ls (.int (iv z) :: .ref a :: rest)) := by
  obtain ⟨h1, h2⟩ := iv_ix hz hk hn
  refine va_zald hx hb hK hP q0 t0 ha ht h1 d ?_
  rw [h2]
  exact kk
theorem r_iast {D : va_G} {A : Nat → Prop} {H0 : Heap} {tys : List (ClassId × FieldType)} {ws : va_W} {a : Nat} (hx : p.tables.exec = Jvm.exec) (hb : c.code = cc) (hK : va_K D vwCl tys s) (hP : va_P D vwCl ws H) (hD : va_D A ws) (hS : va_S A H0 H locs) (q0 t0 : Nat) {cA : ClassId} {n : Nat} {F : Nat → Int} (ha : ws[q0]? = some (a, .inl (cA, n, .inl (fun j => iv (F j))))) (ht : tys[t0]? = some (cA, .int)) {z x : Int} (k : Nat) (hz : z = (k : Int)) (hk : k < n) (hn : n < 2147483648) (d : decode cc pc = .ok (.iastore, 1)) (kk : ∀ (H1 : Heap) (locs1 : List Loc), va_P D vwCl (ws.set q0 (a, .inl (cA, n, .inl (fun j => iv (updI F k x j))))) H1 → va_D A (ws.set q0 (a, .inl (cA, n, .inl (fun j => iv (updI F k x j))))) → va_S A H0 H1 locs1 → W p l e R s m args below meth c H1 locs1 cells slots Q (F0 m (pc + 1) ls rest)) : W p l e R s m args below meth c H locs cells slots Q (F0 m pc ls (.int (iv x) :: .int (iv z) :: .ref a :: rest)) := by
  obtain ⟨h1, h2⟩ := iv_ix hz hk hn
  refine va_iast hx hb hK hP hD hS q0 t0 ha ht h1 d (fun H1 locs1 g1 g2 g3 => ?_)
  rw [h2, iv_upd] at g1 g2
  exact kk H1 locs1 g1 g2 g3
theorem r_zast {D : va_G} {A : Nat → Prop} {H0 : Heap} {tys : List (ClassId × FieldType)} {ws : va_W} {a : Nat} (hx : p.tables.exec = Jvm.exec) (hb : c.code = cc) (hK : va_K D vwCl tys s) (hP : va_P D vwCl ws H) (hD : va_D A ws) (hS : va_S A H0 H locs) (q0 t0 : Nat) {cA : ClassId} {n : Nat} {F : Nat → Int} (ha : ws[q0]? = some (a, .inl (cA, n, .inl (fun j => iv (F j))))) (ht : tys[t0]? = some (cA, .boolean)) {z x : Int} (k : Nat) (hz : z = (k : Int)) (hk : k < n) (hn : n < 2147483648) (hx01 : x = 0 ∨ x = 1) (d : decode cc pc = .ok (.bastore, 1)) (kk : ∀ (H1 : Heap) (locs1 : List Loc), va_P D vwCl (ws.set q0 (a, .inl (cA, n, .inl (fun j => iv (updI F k x j))))) H1 → va_D A (ws.set q0 (a, .inl (cA, n, .inl (fun j => iv (updI F k x j))))) → va_S A H0 H1 locs1 → W p l e R s m args below meth c H1 locs1 cells slots Q (F0 m (pc + 1) ls rest)) : W p l e R s m args below meth c H locs cells slots Q (F0 m pc ls (.int (iv x) :: .int (iv z) :: .ref a :: rest)) := by
  obtain ⟨h1, h2⟩ := iv_ix hz hk hn
  have hnar : vp_nar .boolean (iv x) = iv x := by rcases hx01 with rfl | rfl <;> decide
  refine va_zast hx hb hK hP hD hS q0 t0 ha ht h1 d (fun H1 locs1 g1 g2 g3 => ?_)
  rw [h2, hnar, iv_upd] at g1 g2
  exact kk H1 locs1 g1 g2 g3
theorem r_max {own : String} {index : Nat} (hx : p.tables.exec = Jvm.exec) (hb : c.code = cc) (hml : c.maxLocals = ls.size) (hown : s.vm.findClass own = some m.cls) (hlink : (Cond.methodLink own index Lib.Math.max.name).before args s = true) (hstat : (Cond.static Lib.Math.max.name).before args s = true) (hini : (Cond.initialized "java/lang/Math").before args s = true) (hcode : (Cond.code Lib.Math.max.name Lib.Math.max.code 2 (some .int)).before args s = true) (hframes : 1 ≤ R.frames) (hlocals : (rest.map fun v => v.category).sum + 13 ≤ R.locals) (hc : cells ≤ R.cells) (hs : slots ≤ R.slots) {a b : Int} (ha : -2147483648 ≤ a ∧ a < 2147483648) (hb2 : -2147483648 ≤ b ∧ b < 2147483648) (d : decode cc pc = .ok (.invokestatic index, 3)) (k : W p l e R s m args below meth c H locs cells slots Q (F0 m (pc + 3) ls (.int (iv (max a b)) :: rest))) : W p l e R s m args below meth c H locs cells slots Q (F0 m pc ls (.int (iv b) :: .int (iv a) :: rest)) := va_mmax hx hb hml hown hlink hstat hini hcode hframes hlocals hc hs d (by rw [iv_max ha hb2]; exact k)
theorem r_min {own : String} {index : Nat} (hx : p.tables.exec = Jvm.exec) (hb : c.code = cc) (hml : c.maxLocals = ls.size) (hown : s.vm.findClass own = some m.cls) (hlink : (Cond.methodLink own index Lib.Math.min.name).before args s = true) (hstat : (Cond.static Lib.Math.min.name).before args s = true) (hini : (Cond.initialized "java/lang/Math").before args s = true) (hcode : (Cond.code Lib.Math.min.name Lib.Math.min.code 2 (some .int)).before args s = true) (hframes : 1 ≤ R.frames) (hlocals : (rest.map fun v => v.category).sum + 13 ≤ R.locals) (hc : cells ≤ R.cells) (hs : slots ≤ R.slots) {a b : Int} (ha : -2147483648 ≤ a ∧ a < 2147483648) (hb2 : -2147483648 ≤ b ∧ b < 2147483648) (d : decode cc pc = .ok (.invokestatic index, 3)) (k : W p l e R s m args below meth c H locs cells slots Q (F0 m (pc + 3) ls (.int (iv (min a b)) :: rest))) : W p l e R s m args below meth c H locs cells slots Q (F0 m pc ls (.int (iv b) :: .int (iv a) :: rest)) := va_mmin hx hb hml hown hlink hstat hini hcode hframes hlocals hc hs d (by
    have h : ∀ t f : Int32, (if iv b < iv a then t else f) = if b < a then t else f := fun t f => by
      by_cases q : b < a
      · rw [if_pos q, if_pos ((iv_lt hb2 ha).mpr q)]
      · rw [if_neg q, if_neg (fun z => q ((iv_lt hb2 ha).mp z))]
    have h' : ∀ t f : Int32, (if iv a < iv b then t else f) = if a < b then t else f := fun t f => by
      by_cases q : a < b
      · rw [if_pos q, if_pos ((iv_lt ha hb2).mpr q)]
      · rw [if_neg q, if_neg (fun z => q ((iv_lt ha hb2).mp z))]
    have e : (if iv b < iv a then iv b else iv a) = iv (min a b) := by
      rw [h]
      by_cases q : b < a
      · rw [if_pos q, show min a b = b by omega]
      · rw [if_neg q, show min a b = a by omega]
    first | (rw [e]; exact k) | (rw [h']; by_cases q : a < b; (rw [if_pos q]; rw [show min a b = a by omega] at k; exact k); (rw [if_neg q]; rw [show min a b = b by omega] at k; exact k)))
theorem r_abs {own : String} {index : Nat} (hx : p.tables.exec = Jvm.exec) (hb : c.code = cc) (hml : c.maxLocals = ls.size) (hown : s.vm.findClass own = some m.cls) (hlink : (Cond.methodLink own index Lib.Math.abs.name).before args s = true) (hstat : (Cond.static Lib.Math.abs.name).before args s = true) (hini : (Cond.initialized "java/lang/Math").before args s = true) (hcode : (Cond.code Lib.Math.abs.name Lib.Math.abs.code 1 (some .int)).before args s = true) (hframes : 1 ≤ R.frames) (hlocals : (rest.map fun v => v.category).sum + 13 ≤ R.locals) (hc : cells ≤ R.cells) (hs : slots ≤ R.slots) {a : Int} (ha : -2147483648 ≤ a ∧ a < 2147483648) (d : decode cc pc = .ok (.invokestatic index, 3)) (k : W p l e R s m args below meth c H locs cells slots Q (F0 m (pc + 3) ls (.int (iv (max a (-a))) :: rest))) : W p l e R s m args below meth c H locs cells slots Q (F0 m pc ls (.int (iv a) :: rest)) := va_mabs hx hb hml hown hlink hstat hini hcode hframes hlocals hc hs d (by
    by_cases q : 0 ≤ a
    · rw [if_pos (show (0 : Int32) ≤ iv a from (iv_le (by decide) ha).mpr q)]
      rw [show max a (-a) = a by omega] at k
      exact k
    · rw [if_neg (show ¬ (0 : Int32) ≤ iv a from fun z => q ((iv_le (by decide) ha).mp (show iv 0 ≤ iv a from z))), iv_zero, iv_sub]
      rw [show max a (-a) = 0 - a by omega] at k
      exact k)
end RW
end
section
-- CONTRACTS in one form: a world in, a world out
abbrev wPre (D : va_G) (tys : List (ClassId × FieldType)) (av : List Value) (w : va_W) (sz : Nat) : Array Value → State → Prop := va_Pc av (fun U => U.heap.size = sz ∧ va_P D vwCl w U.heap ∧ va_K D vwCl tys U ∧ va_D (fun _ => True) w)
def wB (D : va_G) (A : Nat → Prop) (u : va_W) (t : State) : Prop := va_P D vwCl u t.heap ∧ va_D A u
abbrev rmOf (f lc mc ms : Nat) : Room := { frames := f, cells := mc, slots := ms, locals := lc }
abbrev QcT : Type := (Nat → Prop) → Array Value → State → Outcome → State → Prop
def qI (D : va_G) (post : Int32 → va_W → Prop) : QcT := fun A => va_Qi post (wB D A) A
def qL (D : va_G) (post : Int64 → va_W → Prop) : QcT := fun A => va_Ql post (wB D A) A
def qD (D : va_G) (post : UInt64 → va_W → Prop) : QcT := fun A => va_Qd post (wB D A) A
def qV (D : va_G) (post : va_W → Prop) : QcT := fun A => va_Qv post (wB D A) A
def qR (D : va_G) (post : Nat → va_W → Prop) : QcT := fun A => va_Qr (S := va_W) (fun _ => True) (fun u a t => post a u ∧ wB D A u t) A
def MtG (l : Launch) (y : MethodName) (ws : List Cond) (f lc mc ms : Nat) (D : va_G) (tys : List (ClassId × FieldType)) (av : List Value) (w : va_W) (qc : QcT) : Prop := ∀ sz, Met l y ws (rmOf f lc mc ms) (wPre D tys av w sz) (qc (va_A w sz)) mc ms (va_A w sz)
theorem MtG.mk {l : Launch} {y : MethodName} {ws ws' : List Cond} {f lc mc ms : Nat} {D : va_G} {tys : List (ClassId × FieldType)} {av : List Value} {w : va_W} {qc : QcT} {cc : ByteArray} {maxL : Nat} {ret : Option FieldType} (hy : plainName y.cls = true) (hw : ws = Cond.code y cc maxL ret :: ws') (hL : (lg_sl av).length ≤ maxL)
    (body : ∀ (p : Program) (e : Env) (s : State) (m : MethodId) (below : List Frame) (meth : Method) (c : Code) (A : Nat → Prop) (ls : Array Slot), p.tables.exec = Jvm.exec → c.code = cc → meth.sig.returnType = ret → meth.locks = false → c.maxLocals = maxL → s.vm.findClass y.cls = some m.cls → meth.name = y.name → (∀ w ∈ ws, w.before av.toArray s = true) → va_K D vwCl tys s → (∀ q, s.heap.size ≤ q → A q) → va_P D vwCl w s.heap → va_D A w → va_S A s.heap s.heap [] → lv_has ls maxL (lv_args 0 av) →
      W p l e (rmOf f lc mc ms) s m av.toArray below meth c s.heap [] 0 0 (MQ below (qc A) av.toArray s mc ms A) (F0 m 0 ls [])) : MtG l y ws f lc mc ms D tys av w qc := by
  intro sz
  refine Met.ofW (cc := cc) (maxL := maxL) (ret := ret) hy hw ?_
  intro p e s m args below meth c s₁ B hml hv
  obtain ⟨rfl, hsz, hP, hK, hD0⟩ := hv
  have hts := atoms_spec (ws := ws) B.pre
  have hown : s.vm.findClass y.cls = some m.cls := findClass_of_methodNamed B.named
  have hin : meth.name = y.name := (name_of_methodNamed B.named B.method).1
  subst hsz
  have hl := lv_entry av (n := maxL) hL
  rw [lg_entry_eq]
  exact body p e s m below meth c (va_A w s.heap.size) _ B.exec B.bytes B.returns B.notSynchronized hml hown hin hts hK (fun q h => Or.inr h) hP hD0.self va_S.rf hl
section ENDS
variable {p : Program} {l : Launch} {e : Env} {R : Room} {s : State} {m : MethodId} {args : Array Value} {below : List Frame} {meth : Method} {c : Code} {H : Heap} {locs : List Loc} {cells slots mc ms : Nat} {cc : ByteArray} {pc : Nat} {ls : Array Slot} {D : va_G} {A : Nat → Prop}
theorem e_int {post : Int32 → va_W → Prop} {u : va_W} {v : Int32} (hx : p.tables.exec = Jvm.exec) (hb : c.code = cc) (hr : meth.sig.returnType = some .int) (hlk : meth.locks = false) (d : decode cc pc = .ok (.ireturn, 1)) (hS : va_S A s.heap H locs) (hP : va_P D vwCl u H) (hD : va_D A u) (hc : cells ≤ mc) (hs : slots ≤ ms) (hp : post v u) : W p l e R s m args below meth c H locs cells slots (MQ below (qI D post A) args s mc ms A) (F0 m pc ls [.int v]) :=
  W.widen hc hs (W.iret hx hb hr (fun t ht _ => ⟨⟨v, u, rfl, hp, by rw [ht]; exact hP, hD⟩, hS.F ht⟩) hS.2.2 d (hlocks := hlk))
theorem e_bool {post : Int32 → va_W → Prop} {u : va_W} {v : Bool} (hx : p.tables.exec = Jvm.exec) (hb : c.code = cc) (hr : meth.sig.returnType = some .boolean) (hlk : meth.locks = false) (d : decode cc pc = .ok (.ireturn, 1)) (hS : va_S A s.heap H locs) (hP : va_P D vwCl u H) (hD : va_D A u) (hc : cells ≤ mc) (hs : slots ≤ ms) (hp : post (iv (b2i v)) u) : W p l e R s m args below meth c H locs cells slots (MQ below (qI D post A) args s mc ms A) (F0 m pc ls [.int (iv (b2i v))]) :=
  W.widen hc hs (W.zret hx hb hr (by cases v <;> decide) (fun t ht _ => ⟨⟨_, u, rfl, hp, by rw [ht]; exact hP, hD⟩, hS.F ht⟩) hS.2.2 d (hlocks := hlk))
theorem e_long {post : Int64 → va_W → Prop} {u : va_W} {v : Int64} (hx : p.tables.exec = Jvm.exec) (hb : c.code = cc) (hr : meth.sig.returnType = some .long) (hlk : meth.locks = false) (d : decode cc pc = .ok (.lreturn, 1)) (hS : va_S A s.heap H locs) (hP : va_P D vwCl u H) (hD : va_D A u) (hc : cells ≤ mc) (hs : slots ≤ ms) (hp : post v u) : W p l e R s m args below meth c H locs cells slots (MQ below (qL D post A) args s mc ms A) (F0 m pc ls [.long v]) :=
  W.widen hc hs (W.lret hx hb hr (fun t ht _ => ⟨⟨v, u, rfl, hp, by rw [ht]; exact hP, hD⟩, hS.F ht⟩) hS.2.2 d (hlocks := hlk))
theorem e_void {post : va_W → Prop} {u : va_W} (hx : p.tables.exec = Jvm.exec) (hb : c.code = cc) (hr : meth.sig.returnType = none) (hlk : meth.locks = false) (d : decode cc pc = .ok (.return_, 1)) (hS : va_S A s.heap H locs) (hP : va_P D vwCl u H) (hD : va_D A u) (hc : cells ≤ mc) (hs : slots ≤ ms) (hp : post u) : W p l e R s m args below meth c H locs cells slots (MQ below (qV D post A) args s mc ms A) (F0 m pc ls []) :=
  W.widen hc hs (W.vret hx hb hr (fun t ht _ => ⟨⟨u, rfl, hp, by rw [ht]; exact hP, hD⟩, hS.F ht⟩) hS.2.2 d (hlocks := hlk))
theorem e_ref {post : Nat → va_W → Prop} {u : va_W} {a : Nat} {rt : FieldType} (hx : p.tables.exec = Jvm.exec) (hb : c.code = cc) (hr : meth.sig.returnType = some rt) (hrt : (∃ n, rt = .object n) ∨ ∃ t, rt = .array t) (hlk : meth.locks = false) (d : decode cc pc = .ok (.areturn, 1)) (hS : va_S A s.heap H locs) (hP : va_P D vwCl u H) (hD : va_D A u) (hc : cells ≤ mc) (hs : slots ≤ ms) (hp : post a u) : W p l e R s m args below meth c H locs cells slots (MQ below (qR D post A) args s mc ms A) (F0 m pc ls [.ref a]) :=
  W.widen hc hs (W.aret hx hb hr hrt (Or.inr ⟨a, rfl⟩) (fun t ht _ => ⟨⟨u, a, rfl, trivial, hp, by rw [ht]; exact hP, hD⟩, hS.F ht⟩) hS.2.2 d (hlocks := hlk))
end ENDS
section CALLS
variable {p : Program} {l : Launch} {e : Env} {R : Room} {s : State} {m : MethodId} {args : Array Value} {below : List Frame} {meth : Method} {c : Code} {H : Heap} {locs : List Loc} {cells slots mc ms : Nat} {cc : ByteArray} {pc : Nat} {ls : Array Slot} {D : va_G} {A : Nat → Prop} {Q : State → Prop}
variable {tys : List (ClassId × FieldType)} {ws wc wr : va_W} {H0 : Heap} {As rest st0 : List Value} {f lc : Nat}
theorem w_blind (D : va_G) (tys : List (ClassId × FieldType)) (av : List Value) (w : va_W) (sz : Nat) : FrameBlind (wPre D tys av w sz) := fun a U g mk q => by
  obtain ⟨q0, q1, qP, qK, qD⟩ := q
  exact ⟨q0, q1, qP, va_K.moved (u := U) (U := U.calling g mk a) (Vm.Alike.refl U.vm) qK, qD⟩
theorem w_pre (hK : va_K D vwCl tys s) (hP : va_P D vwCl ws H) (hD : va_D A ws) (hp : ws.Perm (wc ++ wr)) (av : List Value) : ∀ U : State, U.heap = H → s.WarmedH U.vm → wPre D tys av wc H.size av.toArray U := fun U hU hW =>
  ⟨rfl, by rw [hU], by rw [hU]; exact (wP_app.mp (wP_perm hP hp)).1, va_K.moved hW.alike hK, (wD_app1 (wD_perm hD hp)).weaken (fun _ _ _ _ => trivial)⟩
theorem w_recv {b q0 ci : Nat} {fs : List Value} {r : vw_C} (hK : va_K D vwCl tys s) (hP : va_P D vwCl ws H) (hc : vwCl[ci]? = some r) (he : ws[q0]? = some (b, .inr (ci, fs))) : ∃ cell : Cell, H[b]? = some cell ∧ cell.vm.isStatics = false ∧ s.vm.findClass r.1 = some cell.cls := va_recv hK hP hc he
theorem g_V {Ts ws1 : List Cond} {nL maxL n index : Nat} {own C : String} {y : MethodName} {bytes : ByteArray} {ret : Option FieldType} {qc : QcT} {b q0 ci : Nat} {fs : List Value} {r : vw_C} (S : CallFix p m c cc nL s args Ts own) (hM : MtG l y ws1 f lc mc ms D tys (.ref b :: As) wc qc) (cw : CallW R s args own C index y bytes maxL ret ws1 (rmOf f lc mc ms) mc ms n) (hK : va_K D vwCl tys s) (hP : va_P D vwCl ws H) (hD : va_D A ws) (hp : ws.Perm (wc ++ wr)) (he : ws[q0]? = some (b, .inr (ci, fs))) (hc : vwCl[ci]? = some r) (hC : r.1 = C) (hn : As.length = n) (hsize : ls.size = nL) (hst : st0 = As.reverse ++ .ref b :: rest) (hW : (rest.map fun v => v.category).sum ≤ 8) (d : decode cc pc = .ok (.invokevirtual index, 3)) (hf : cells + mc ≤ R.cells ∧ slots + ms ≤ R.slots) : va_Run p l e R s m args below meth c H locs cells slots mc ms (F0 m pc ls st0) rest (qc (va_A wc H.size) (Value.ref b :: As).toArray) (va_A wc H.size) := by
  subst hC
  exact va_runV (g := F0 m pc ls st0) S (hM H.size) cw ⟨w_blind _ _ _ _ _, w_recv hK hP hc he, w_pre hK hP hD hp _⟩ rfl hn hsize hst (by simpa [JFrame.monitorRoom] using hW) d hf
theorem g_S {Ts ws1 : List Cond} {nL maxL n index : Nat} {own : String} {y : MethodName} {bytes : ByteArray} {ret : Option FieldType} {qc : QcT} (S : CallFix p m c cc nL s args Ts own) (hM : MtG l y ws1 f lc mc ms D tys As wc qc) (cw : CallB R s args own index y bytes maxL ret ws1 (rmOf f lc mc ms) mc ms n ∧ (Cond.static y).before args s = true) (hK : va_K D vwCl tys s) (hP : va_P D vwCl ws H) (hD : va_D A ws) (hp : ws.Perm (wc ++ wr)) (hn : As.length = n) (hsize : ls.size = nL) (hst : st0 = As.reverse ++ rest) (hW : (rest.map fun v => v.category).sum ≤ 8) (d : decode cc pc = .ok (.invokestatic index, 3)) (hf : cells + mc ≤ R.cells ∧ slots + ms ≤ R.slots) : va_Run p l e R s m args below meth c H locs cells slots mc ms (F0 m pc ls st0) rest (qc (va_A wc H.size) As.toArray) (va_A wc H.size) :=
  va_runS (g := F0 m pc ls st0) S (hM H.size) cw ⟨w_blind _ _ _ _ _, w_pre hK hP hD hp _⟩ rfl hn hsize hst (by simpa [JFrame.monitorRoom] using hW) d hf
theorem g_I {Ts ws1 : List Cond} {nL maxL n index : Nat} {own : String} {y : MethodName} {bytes : ByteArray} {qc : QcT} {b : Nat} (S : CallFix p m c cc nL s args Ts own) (hM : MtG l y ws1 f lc mc ms D tys (.ref b :: As) wc qc) (cw : CallB R s args own index y bytes maxL none ws1 (rmOf f lc mc ms) mc ms n ∧ y.name = "<init>" ∧ (Cond.instanceMethod y).before args s = true) (hK : va_K D vwCl tys s) (hP : va_P D vwCl ws H) (hD : va_D A ws) (hp : ws.Perm (wc ++ wr)) (hn : As.length = n) (hsize : ls.size = nL) (hst : st0 = As.reverse ++ .ref b :: rest) (hW : (rest.map fun v => v.category).sum ≤ 8) (d : decode cc pc = .ok (.invokespecial index, 3)) (hf : cells + mc ≤ R.cells ∧ slots + ms ≤ R.slots) : va_Run p l e R s m args below meth c H locs cells slots mc ms (F0 m pc ls st0) rest (qc (va_A wc H.size) (Value.ref b :: As).toArray) (va_A wc H.size) :=
  va_runI (g := F0 m pc ls st0) S (hM H.size) cw ⟨w_blind _ _ _ _ _, w_pre hK hP hD hp _⟩ rfl hn hsize hst (by simpa [JFrame.monitorRoom] using hW) d hf
theorem k_int {post : Int32 → va_W → Prop} {a : Array Value} (hr : va_Run p l e R s m args below meth c H locs cells slots mc ms (F0 m pc ls st0) rest (qI D post (va_A wc H.size) a) (va_A wc H.size)) (hP : va_P D vwCl ws H) (hD : va_D A ws) (hS : va_S A H0 H locs) (hA : ∀ q, H0.size ≤ q → A q) (hp : ws.Perm (wc ++ wr))
    (kk : ∀ (v : Int32) (u : va_W) (H1 : Heap) (locs1 : List Loc), post v u → va_P D vwCl (u ++ wr) H1 → va_D A (u ++ wr) → va_S A H0 H1 locs1 → W p l e R s m args below meth c H1 locs1 (cells + mc) (slots + ms) Q (F0 m (pc + 3) ls (.int v :: rest))) : W p l e R s m args below meth c H locs cells slots Q (F0 m pc ls st0) := by
  have hF := wF hD hS hA hp
  refine va_calli hr hS (fun q _ h => hF q h) hF (fun v u t H1 locs1 ht _ hw hB _ hk hS1 => ?_)
  obtain ⟨hP1, hD1⟩ := hB
  rw [ht] at hP1
  obtain ⟨g1, g2⟩ := wJ hP hD hp hk hF hP1 hD1
  exact kk v u H1 locs1 hw g1 g2 hS1
theorem k_long {post : Int64 → va_W → Prop} {a : Array Value} (hr : va_Run p l e R s m args below meth c H locs cells slots mc ms (F0 m pc ls st0) rest (qL D post (va_A wc H.size) a) (va_A wc H.size)) (hP : va_P D vwCl ws H) (hD : va_D A ws) (hS : va_S A H0 H locs) (hA : ∀ q, H0.size ≤ q → A q) (hp : ws.Perm (wc ++ wr))
    (kk : ∀ (v : Int64) (u : va_W) (H1 : Heap) (locs1 : List Loc), post v u → va_P D vwCl (u ++ wr) H1 → va_D A (u ++ wr) → va_S A H0 H1 locs1 → W p l e R s m args below meth c H1 locs1 (cells + mc) (slots + ms) Q (F0 m (pc + 3) ls (.long v :: rest))) : W p l e R s m args below meth c H locs cells slots Q (F0 m pc ls st0) := by
  have hF := wF hD hS hA hp
  refine va_calll hr hS (fun q _ h => hF q h) hF (fun v u t H1 locs1 ht _ hw hB _ hk hS1 => ?_)
  obtain ⟨hP1, hD1⟩ := hB
  rw [ht] at hP1
  obtain ⟨g1, g2⟩ := wJ hP hD hp hk hF hP1 hD1
  exact kk v u H1 locs1 hw g1 g2 hS1
theorem k_void {post : va_W → Prop} {a : Array Value} (hr : va_Run p l e R s m args below meth c H locs cells slots mc ms (F0 m pc ls st0) rest (qV D post (va_A wc H.size) a) (va_A wc H.size)) (hP : va_P D vwCl ws H) (hD : va_D A ws) (hS : va_S A H0 H locs) (hA : ∀ q, H0.size ≤ q → A q) (hp : ws.Perm (wc ++ wr))
    (kk : ∀ (u : va_W) (H1 : Heap) (locs1 : List Loc), post u → va_P D vwCl (u ++ wr) H1 → va_D A (u ++ wr) → va_S A H0 H1 locs1 → W p l e R s m args below meth c H1 locs1 (cells + mc) (slots + ms) Q (F0 m (pc + 3) ls rest)) : W p l e R s m args below meth c H locs cells slots Q (F0 m pc ls st0) := by
  have hF := wF hD hS hA hp
  refine va_callv hr hS (fun q _ h => hF q h) hF (fun u t H1 locs1 ht _ hw hB _ hk hS1 => ?_)
  obtain ⟨hP1, hD1⟩ := hB
  rw [ht] at hP1
  obtain ⟨g1, g2⟩ := wJ hP hD hp hk hF hP1 hD1
  exact kk u H1 locs1 hw g1 g2 hS1
theorem k_ref {post : Nat → va_W → Prop} {a : Array Value} (hr : va_Run p l e R s m args below meth c H locs cells slots mc ms (F0 m pc ls st0) rest (qR D post (va_A wc H.size) a) (va_A wc H.size)) (hP : va_P D vwCl ws H) (hD : va_D A ws) (hS : va_S A H0 H locs) (hA : ∀ q, H0.size ≤ q → A q) (hp : ws.Perm (wc ++ wr))
    (kk : ∀ (v : Nat) (u : va_W) (H1 : Heap) (locs1 : List Loc), post v u → va_P D vwCl (u ++ wr) H1 → va_D A (u ++ wr) → va_S A H0 H1 locs1 → W p l e R s m args below meth c H1 locs1 (cells + mc) (slots + ms) Q (F0 m (pc + 3) ls (.ref v :: rest))) : W p l e R s m args below meth c H locs cells slots Q (F0 m pc ls st0) := by
  have hF := wF hD hS hA hp
  refine va_callr hr hS (fun q _ h => hF q h) hF (fun u v t H1 locs1 ht _ _ hB _ hk hS1 => ?_)
  obtain ⟨hw, hP1, hD1⟩ := hB
  rw [ht] at hP1
  obtain ⟨g1, g2⟩ := wJ hP hD hp hk hF hP1 hD1
  exact kk v u H1 locs1 hw g1 g2 hS1
end CALLS
end
section
-- THE STATE, in one form for the class and for the reference
abbrev DS : Type := (Nat → Int) × (Nat → Int) × (Nat → Int) × (Nat → Int) × (Nat → Int) × Int × Int × Int × Int
abbrev dA (s : DS) : Nat → Int := s.1
abbrev dW (s : DS) : Nat → Int := s.2.1
abbrev dQ (s : DS) : Nat → Int := s.2.2.1
abbrev dO (s : DS) : Nat → Int := s.2.2.2.1
abbrev dU (s : DS) : Nat → Int := s.2.2.2.2.1
abbrev dg (s : DS) : Int := s.2.2.2.2.2.1
abbrev dv (s : DS) : Int := s.2.2.2.2.2.2.1
abbrev dn (s : DS) : Int := s.2.2.2.2.2.2.2.1
abbrev dt (s : DS) : Int := s.2.2.2.2.2.2.2.2
/-- the classes of arrays: 0 int, 1 boolean, 2 dolls, 3 poses, 4 rows of ints, 5 long -/
abbrev TY (G : Nat → ClassId) : List (ClassId × FieldType) := [(G 0, .int), (G 1, .boolean), (G 2, .object RX0), (G 3, .object RX1), (G 4, .array .int), (G 5, .long)]
def wDoll (G : Nat → ClassId) (a : Nat → Nat) (s : DS) : va_W := [(a 0, .inr (0, [.ref (a 1), .ref (a 2), .ref (a 3), .ref (a 4), .ref (a 5), .int (iv (dg s)), .int (iv (dv s)), .int (iv (dn s)), .int (iv (dt s))])), (a 1, .inl (G 0, 6, .inl (fun j => iv (dA s j)))), (a 2, .inl (G 0, 6, .inl (fun j => iv (dW s j)))), (a 3, .inl (G 0, 6, .inl (fun j => iv (dQ s j)))), (a 4, .inl (G 1, 2, .inl (fun j => iv (dO s j)))), (a 5, .inl (G 0, 2, .inl (fun j => iv (dU s j))))]
def wPose (G : Nat → ClassId) (a : Nat → Nat) (P : Nat → Int) : va_W := [(a 0, .inr (1, [.ref (a 1)])), (a 1, .inl (G 0, 6, .inl (fun j => iv (P j))))]
/-- what holds of a doll at any time -/
def okD (s : DS) : Prop := (∀ j, j < 6 → (0 ≤ dA s j ∧ dA s j ≤ 90) ∧ (0 ≤ dW s j ∧ dW s j ≤ 100) ∧ (0 ≤ dQ s j ∧ dQ s j ≤ 20)) ∧ (∀ j, j < 2 → (0 ≤ dO s j ∧ dO s j ≤ 1) ∧ (0 ≤ dU s j ∧ dU s j ≤ 9)) ∧ (-1 ≤ dg s ∧ dg s ≤ 9) ∧ (0 ≤ dv s ∧ dv s ≤ 9) ∧ (0 ≤ dn s ∧ dn s ≤ 12) ∧ (dv s = 0 → dn s = 0) ∧ dv s ≤ dn s
def okP (P : Nat → Int) : Prop := ∀ j, j < 6 → 0 ≤ P j ∧ P j ≤ 90
theorem okD_A {s : DS} (h : okD s) : ∀ j, j < 6 → 0 ≤ dA s j ∧ dA s j ≤ 90 := fun j hj => (h.1 j hj).1
theorem okD_W {s : DS} (h : okD s) : ∀ j, j < 6 → 0 ≤ dW s j ∧ dW s j ≤ 100 := fun j hj => (h.1 j hj).2.1
theorem okD_Q {s : DS} (h : okD s) : ∀ j, j < 6 → 0 ≤ dQ s j ∧ dQ s j ≤ 20 := fun j hj => (h.1 j hj).2.2
theorem okD_O {s : DS} (h : okD s) : ∀ j, j < 2 → 0 ≤ dO s j ∧ dO s j ≤ 1 := fun j hj => (h.2.1 j hj).1
theorem okD_U {s : DS} (h : okD s) : ∀ j, j < 2 → 0 ≤ dU s j ∧ dU s j ≤ 9 := fun j hj => (h.2.1 j hj).2
-- sums and counts
def sm (f : Nat → Int) : Nat → Int
  | 0 => 0
  | n + 1 => sm f n + f n
def cnt (f : Nat → Bool) (n : Nat) : Int := sm (fun j => b2i (f j)) n
theorem sm_bound {f : Nat → Int} {c : Int} : ∀ {n : Nat}, (∀ j, j < n → 0 ≤ f j ∧ f j ≤ c) → 0 ≤ sm f n ∧ sm f n ≤ n * c
  | 0, _ => by simp [sm]
  | n + 1, h => by
    have h1 := sm_bound (n := n) (fun j hj => h j (by omega))
    have h2 := h n (by omega)
    have e : ((n + 1 : Nat) : Int) * c = n * c + c := by rw [Int.natCast_add, Int.add_mul]; simp
    rw [e]
    unfold sm
    omega
theorem cnt_bound (f : Nat → Bool) (n : Nat) : 0 ≤ cnt f n ∧ cnt f n ≤ n := by
  have h := sm_bound (f := fun j => b2i (f j)) (c := 1) (n := n) (fun j _ => b2i_rng (f j))
  unfold cnt
  omega
theorem sm_congr {f g : Nat → Int} : ∀ {n : Nat}, (∀ j, j < n → f j = g j) → sm f n = sm g n
  | 0, _ => rfl
  | n + 1, h => by
    unfold sm
    rw [sm_congr (n := n) (fun j hj => h j (by omega)), h n (by omega)]
-- the dolls' turns
def wearMore (q d : Int) : Int := if 0 < q then d / 20 else d / 10 + 1
def wearBT (w q d : Int) : Int := min 100 (w + wearMore q d)
def dset (s : DS) (i : Nat) (a w q : Int) : DS := (updI (dA s) i a, updI (dW s) i w, updI (dQ s) i q, dO s, dU s, dg s, dv s, dn s, dt s)
def turn1 (P : Nat → Int) (i : Nat) (s : DS) : DS := if dA s i = P i ∨ 100 ≤ dW s i then s else dset s i (P i) (wearBT (dW s i) (dQ s i) (max (P i - dA s i) (-(P i - dA s i)))) (max 0 (dQ s i - 1))
def turnN (P : Nat → Int) : Nat → DS → DS
  | 0, s => s
  | i + 1, s => turn1 P i (turnN P i s)
def allB (f : Nat → Bool) : Nat → Bool
  | 0 => true
  | n + 1 => allB f n && f n
theorem allB_iff {f : Nat → Bool} : ∀ {n : Nat}, allB f n = true ↔ ∀ j, j < n → f j = true
  | 0 => ⟨fun _ j h => absurd h (Nat.not_lt_zero j), fun _ => rfl⟩
  | n + 1 => by
    unfold allB
    rw [Bool.and_eq_true, allB_iff (n := n)]
    constructor
    · intro h j hj
      by_cases e : j = n
      · rw [e]; exact h.2
      · exact h.1 j (by omega)
    · intro h
      exact ⟨fun j hj => h j (by omega), h n (by omega)⟩
theorem allB_no {f : Nat → Bool} {n j : Nat} (hj : j < n) (h : f j = false) : allB f n = false := by
  cases e : allB f n
  · rfl
  · have := allB_iff.mp e j hj
    rw [h] at this
    cases this
def canT (P : Nat → Int) (s : DS) : Bool := allB (fun j => decide (dW s j < 100 ∨ dA s j = P j)) 6
theorem canT_at {P : Nat → Int} {s : DS} (h : canT P s = true) {j : Nat} (hj : j < 6) : dW s j < 100 ∨ dA s j = P j := of_decide_eq_true (allB_iff.mp h j hj)
theorem canT_no {P : Nat → Int} {s : DS} {j : Nat} (hj : j < 6) (h1 : 100 ≤ dW s j) (h2 : ¬ dA s j = P j) : false = canT P s := (allB_no hj (decide_eq_false (by omega))).symm
theorem canT_yes {P : Nat → Int} {s : DS} (h : ∀ j, j < 6 → dW s j < 100 ∨ dA s j = P j) : true = canT P s := (allB_iff.mpr fun j hj => decide_eq_true (h j hj)).symm
theorem wearBT_rng {w q d : Int} (hw : 0 ≤ w ∧ w ≤ 100) (hd : 0 ≤ d ∧ d ≤ 90) : 0 ≤ wearBT w q d ∧ wearBT w q d ≤ 100 := by
  unfold wearBT wearMore
  split <;> omega
theorem dset_ok {s : DS} {i : Nat} {a w q : Int} (h : okD s) (ha : 0 ≤ a ∧ a ≤ 90) (hw : 0 ≤ w ∧ w ≤ 100) (hq : 0 ≤ q ∧ q ≤ 20) : okD (dset s i a w q) := by
  obtain ⟨h1, h2⟩ := h
  refine ⟨fun j hj => ?_, h2⟩
  have h3 := h1 j hj
  by_cases e : j = i
  · subst e
    simp only [dset, dA, dW, dQ, updI_s]
    exact ⟨ha, hw, hq⟩
  · simp only [dset, dA, dW, dQ, updI_n _ _ e]
    exact h3
theorem turn1_ok {P : Nat → Int} {i : Nat} {s : DS} (hP : okP P) (hi : i < 6) (h : okD s) : okD (turn1 P i s) := by
  unfold turn1
  split
  · exact h
  · have h1 := hP i hi
    have h2 := okD_A h i hi
    have h3 := okD_W h i hi
    have h4 := okD_Q h i hi
    exact dset_ok h h1 (wearBT_rng h3 (by omega)) (by omega)
theorem turnN_ok {P : Nat → Int} {s : DS} (hP : okP P) (h : okD s) : ∀ i, i ≤ 6 → okD (turnN P i s)
  | 0, _ => h
  | i + 1, hi => turn1_ok hP (by omega) (turnN_ok hP h i (by omega))
-- what is told of a doll
def cntW (least : Int) (s : DS) : Int := cnt (fun j => decide (least ≤ dW s j)) 6
def cntU (least : Int) (s : DS) : Int := cnt (fun j => decide (least ≤ dU s j)) 2
def cntQ (s : DS) : Int := cnt (fun j => decide (dQ s j = 0)) 6
def tally (what : Int) (s : DS) : Int := if what = 4 then cntW 100 s else if what = 5 then (if dg s = -1 then 0 else 1) else if what = 6 then (if dv s = 0 then 0 else 1) else cntU 9 s
def wants (kind : Int) (s : DS) : Int := if kind = 0 then cntW 50 s else if kind = 1 then cntQ s else if kind = 2 then (if dv s = 0 then 0 else 12 - dn s) else if kind = 3 then (if 0 < cntU 5 s then 1 else 0) else (if dg s = -1 ∨ 5 ≤ dg s then 1 else 0)
def wantsAll (s : DS) : Int := sm (fun k => wants (k : Int) s) 5
theorem tally_rng {what : Int} {s : DS} : 0 ≤ tally what s ∧ tally what s ≤ 6 := by
  unfold tally cntW cntU
  have h1 := cnt_bound (fun j => decide (100 ≤ dW s j)) 6
  have h2 := cnt_bound (fun j => decide (9 ≤ dU s j)) 2
  split
  · omega
  · split
    · split <;> omega
    · split
      · split <;> omega
      · omega
theorem wants_rng {kind : Int} {s : DS} (h : okD s) : 0 ≤ wants kind s ∧ wants kind s ≤ 12 := by
  obtain ⟨-, -, -, -, h5, -, -⟩ := h
  unfold wants cntW cntQ
  have h1 := cnt_bound (fun j => decide (50 ≤ dW s j)) 6
  have h2 := cnt_bound (fun j => decide (dQ s j = 0)) 6
  split
  · omega
  · split
    · omega
    · split
      · split <;> omega
      · split
        · split <;> omega
        · split <;> omega
theorem wantsAll_rng {s : DS} (h : okD s) : 0 ≤ wantsAll s ∧ wantsAll s ≤ 60 := by
  have := sm_bound (f := fun k => wants (k : Int) s) (c := 12) (n := 5) (fun j _ => wants_rng h)
  unfold wantsAll
  omega
-- a day of a doll
def dsetR (s : DS) (g v n : Int) : DS := (dA s, dW s, dQ s, dO s, dU s, g, v, n, dt s)
def eatW (moths : Int) (s : DS) : DS := if dg s = -1 then s else dsetR s (if 10 ≤ dg s + moths then -1 else dg s + moths) (dv s) (dn s)
def loosen (s : DS) : DS := if dv s = 0 ∨ dW s 5 < 50 then s else if max 0 (dn s - 1) < dv s then dsetR s (dg s) 0 0 else dsetR s (dg s) (dv s) (max 0 (dn s - 1))
def dryN : Nat → DS → DS
  | 0, s => s
  | i + 1, s => dset (dryN i s) i (dA (dryN i s) i) (dW (dryN i s) i) (max 0 (dQ (dryN i s) i - 1))
def dsetU (s : DS) (i : Nat) (u : Int) : DS := (dA s, dW s, dQ s, dO s, updI (dU s) i u, dg s, dv s, dn s, dt s)
def gatN : Nat → DS → DS
  | 0, s => s
  | i + 1, s => if dO (gatN i s) i = 0 then gatN i s else dsetU (gatN i s) i (min 9 (dU (gatN i s) i + 1))
def has (s : DS) : Int := tally 5 s + tally 6 s
def day1 (day moths : Int) (s : DS) : DS := gatN 2 (if day % 3 = 0 then dryN 6 (loosen (eatW moths s)) else loosen (eatW moths s))
def dayN (moths : Int) (day : Int) : Nat → DS → DS
  | 0, s => s
  | i + 1, s => day1 (day + i) moths (dayN moths day i s)
theorem cnt_yes {f : Nat → Bool} {i : Nat} (h : f i = true) : cnt f i + 1 = cnt f (i + 1) := by
  show _ = sm (fun j => b2i (f j)) i + b2i (f i)
  rw [h]
  rfl
theorem cnt_no {f : Nat → Bool} {i : Nat} (h : f i = false) : cnt f i = cnt f (i + 1) := by
  show _ = sm (fun j => b2i (f j)) i + b2i (f i)
  rw [h]
  exact (Int.add_zero _).symm
theorem sm_s {f : Nat → Int} {i : Nat} {x y : Int} (h : x = sm f i) (hy : y = f i) : x + y = sm f (i + 1) := by rw [h, hy]; rfl
section MORE
variable {p : Program} {l : Launch} {e : Env} {R : Room} {s : State} {m : MethodId} {args : Array Value} {below : List Frame} {meth : Method} {c : Code} {H : Heap} {locs : List Loc} {cells slots mc ms : Nat} {cc : ByteArray} {pc : Nat} {ls : Array Slot} {D : va_G} {A : Nat → Prop} {Q : State → Prop} {rest : List Value}
theorem e_b01 {post : Int32 → va_W → Prop} {u : va_W} {v : Int} (hx : p.tables.exec = Jvm.exec) (hb : c.code = cc) (hr : meth.sig.returnType = some .boolean) (hv : 0 ≤ v ∧ v ≤ 1) (hlk : meth.locks = false) (d : decode cc pc = .ok (.ireturn, 1)) (hS : va_S A s.heap H locs) (hP : va_P D vwCl u H) (hD : va_D A u) (hc : cells ≤ mc) (hs : slots ≤ ms) (hp : post (iv v) u) : W p l e R s m args below meth c H locs cells slots (MQ below (qI D post A) args s mc ms A) (F0 m pc ls [.int (iv v)]) :=
  W.widen hc hs (W.zret hx hb hr (by rcases (show v = 0 ∨ v = 1 by omega) with rfl | rfl <;> decide) (fun t ht _ => ⟨⟨_, u, rfl, hp, by rw [ht]; exact hP, hD⟩, hS.F ht⟩) hS.2.2 d (hlocks := hlk))
theorem r_aald {tys : List (ClassId × FieldType)} {ws : va_W} {a : Nat} (hx : p.tables.exec = Jvm.exec) (hb : c.code = cc) (hK : va_K D vwCl tys s) (hP : va_P D vwCl ws H) (q0 t0 : Nat) {cA : ClassId} {C : String} {n : Nat} {F : Nat → Option Nat} (ha : ws[q0]? = some (a, .inl (cA, n, .inr (.inr (.inr (.inr F)))))) (ht : tys[t0]? = some (cA, .object C)) {z : Int} (k : Nat) (hz : z = (k : Int)) (hk : k < n) (hn : n < 2147483648) (d : decode cc pc = .ok (.aaload, 1)) (kk : W p l e R s m args below meth c H locs cells slots Q (F0 m (pc + 1) ls (va_rf (F k) :: rest))) : W p l e R s m args below meth c H locs cells slots Q (F0 m pc ls (.int (iv z) :: .ref a :: rest)) := by
  obtain ⟨h1, h2⟩ := iv_ix hz hk hn
  refine va_aldq hx hb hK hP q0 t0 ha ht h1 d ?_
  rw [h2]
  exact kk
end MORE
end
section
-- pure rows of a doll's ways
abbrev zz : Nat → Int := fun _ => 0
theorem turn1_t {P : Nat → Int} {i : Nat} {s : DS} (h : dA s i = P i ∨ 100 ≤ dW s i) : s = turn1 P i s := by
  unfold turn1
  rw [if_pos h]
theorem turn1_f {P : Nat → Int} {i : Nat} {s : DS} (h : ¬ (dA s i = P i ∨ 100 ≤ dW s i)) : dset s i (P i) (wearBT (dW s i) (dQ s i) (max (P i - dA s i) (-(P i - dA s i)))) (max 0 (dQ s i - 1)) = turn1 P i s := by
  unfold turn1
  rw [if_neg h]
theorem eatW_ok {mo : Int} {s : DS} (hm : 0 ≤ mo ∧ mo ≤ 3) (h : okD s) : okD (eatW mo s) := by
  unfold eatW
  split
  · exact h
  · obtain ⟨h1, h2, h3, h4, h5, h6, h7⟩ := h
    refine ⟨h1, h2, ?_, h4, h5, h6, h7⟩
    show -1 ≤ (if 10 ≤ dg s + mo then (-1 : Int) else dg s + mo) ∧ (if 10 ≤ dg s + mo then (-1 : Int) else dg s + mo) ≤ 9
    split <;> omega
theorem loosen_ok {s : DS} (h : okD s) : okD (loosen s) := by
  unfold loosen
  split
  · exact h
  · rename_i c1
    obtain ⟨h1, h2, h3, h4, h5, h6, h7⟩ := h
    split
    · exact ⟨h1, h2, h3, by show (0:Int) ≤ 0 ∧ (0:Int) ≤ 9; omega, by show (0:Int) ≤ 0 ∧ (0:Int) ≤ 12; omega, fun _ => rfl, by show (0:Int) ≤ 0; omega⟩
    · refine ⟨h1, h2, h3, h4, ?_, ?_, ?_⟩
      · show 0 ≤ max 0 (dn s - 1) ∧ max 0 (dn s - 1) ≤ 12
        omega
      · intro q
        exact absurd (Or.inl q) c1
      · show dv s ≤ max 0 (dn s - 1)
        omega
theorem dryN_ok {s : DS} (h : okD s) : ∀ i, i ≤ 6 → okD (dryN i s)
  | 0, _ => h
  | i + 1, hi => by
    have ih := dryN_ok h i (by omega)
    have h1 := okD_Q ih i (by omega)
    exact dset_ok ih (okD_A ih i (by omega)) (okD_W ih i (by omega)) (by omega)
theorem dsetU_ok {s : DS} {i : Nat} {u : Int} (h : okD s) (hu : 0 ≤ u ∧ u ≤ 9) : okD (dsetU s i u) := by
  obtain ⟨h1, h2, h3⟩ := h
  refine ⟨h1, fun j hj => ⟨(h2 j hj).1, ?_⟩, h3⟩
  by_cases e : j = i
  · subst e
    simp only [dsetU, dU, updI_s]
    exact hu
  · simp only [dsetU, dU, updI_n _ _ e]
    exact (h2 j hj).2
theorem gatN_ok {s : DS} (h : okD s) : ∀ i, i ≤ 2 → okD (gatN i s)
  | 0, _ => h
  | i + 1, hi => by
    have ih := gatN_ok h i (by omega)
    unfold gatN
    split
    · exact ih
    · have h1 := okD_U ih i (by omega)
      exact dsetU_ok ih (by omega)
theorem day1_ok {day mo : Int} {s : DS} (hm : 0 ≤ mo ∧ mo ≤ 3) (h : okD s) : okD (day1 day mo s) := by
  unfold day1
  have h1 := loosen_ok (eatW_ok hm h)
  split
  · exact gatN_ok (dryN_ok h1 6 (by omega)) 2 (by omega)
  · exact gatN_ok h1 2 (by omega)
theorem dayN_ok {mo day : Int} {s : DS} (hm : 0 ≤ mo ∧ mo ≤ 3) (h : okD s) : ∀ i, okD (dayN mo day i s)
  | 0 => h
  | i + 1 => day1_ok hm (dayN_ok hm h i)
theorem has_rng {s : DS} : 0 ≤ has s ∧ has s ≤ 2 := by
  unfold has tally
  rw [if_neg (show ¬ (5 : Int) = 4 by decide), if_pos rfl, if_neg (show ¬ (6 : Int) = 4 by decide), if_neg (show ¬ (6 : Int) = 5 by decide), if_pos rfl]
  split <;> split <;> omega
theorem dryN_s {s st : DS} {i : Nat} (h : st = dryN i s) : dset st i (dA st i) (dW st i) (max 0 (dQ st i - 1)) = dryN (i + 1) s := by
  subst h
  rfl
theorem updI_same (F : Nat → Int) (i : Nat) : updI F i (F i) = F := by
  funext j
  unfold updI
  split
  · rename_i h; rw [h]
  · rfl
theorem dset_same {s : DS} {i : Nat} {q : Int} : (dA s, dW s, updI (dQ s) i q, dO s, dU s, dg s, dv s, dn s, dt s) = dset s i (dA s i) (dW s i) q := by
  unfold dset
  rw [updI_same, updI_same]
theorem gatN_0 {s st : DS} {i : Nat} (h : st = gatN i s) (c : dO st i = 0) : st = gatN (i + 1) s := by
  subst h
  show _ = if dO (gatN i s) i = 0 then gatN i s else _
  rw [if_pos c]
theorem gatN_1 {s st : DS} {i : Nat} (h : st = gatN i s) (c : ¬ dO st i = 0) : dsetU st i (min 9 (dU st i + 1)) = gatN (i + 1) s := by
  subst h
  show _ = if dO (gatN i s) i = 0 then gatN i s else _
  rw [if_neg c]
-- a fold of numbers into a long
def dg64 (f : Nat → Int) (d : Int64) : Nat → Int64
  | 0 => d
  | n + 1 => dg64 f d n * 31 + (iv (f n)).toInt64
-- a new doll
def dNew : DS := (fun _ => 0, fun _ => 0, fun _ => 0, fun _ => 1, fun _ => 0, 0, 0, 0, 0)
theorem dNew_ok : okD dNew := ⟨fun j _ => by simp [dNew, dA, dW, dQ], fun j _ => by simp [dNew, dO, dU], by simp [dNew, dg], by simp [dNew, dv], by simp [dNew, dn], fun _ => rfl, by simp [dNew, dv, dn]⟩
-- cells that hold the same
theorem cell_ext {D : va_G} {a n : Nat} {cA : ClassId} {F F' : Nat → Int} {H : Heap} (h : ∀ j, j < n → F j = F' j) (k : va_at D vwCl (a, .inl (cA, n, .inl (fun j => iv (F j)))) H) : va_at D vwCl (a, .inl (cA, n, .inl (fun j => iv (F' j)))) H := by
  have e : vp_cell cA (n, .inl (fun j => iv (F j))) = vp_cell cA (n, .inl (fun j => iv (F' j))) := by
    rw [vp_cell_i, vp_cell_i]
    unfold arrV
    congr 1
    apply Array.ext
    · simp
    · intro i h1 h2
      have hi : i < n := by simpa using h1
      simp [h i hi]
  show H[a]? = some (vp_cell cA (n, .inl (fun j => iv (F' j))))
  rw [← e]
  exact k
/-- an array's content put in other words -/
theorem wP_say {D : va_G} {ws : va_W} {H : Heap} (k : Nat) {a n : Nat} {cA : ClassId} {F : Nat → Int} (F' : Nat → Int) (hP : va_P D vwCl ws H) (he : ws[k]? = some (a, .inl (cA, n, .inl (fun j => iv (F j))))) (h : ∀ j, j < n → F j = F' j) : va_P D vwCl (ws.set k (a, .inl (cA, n, .inl (fun j => iv (F' j))))) H := by
  intro i q hq
  by_cases e : i = k
  · subst e
    rw [List.getElem?_set_self (List.getElem?_eq_some_iff.mp he).1] at hq
    cases hq
    exact cell_ext h (hP i _ he)
  · rw [List.getElem?_set_ne (Ne.symm e)] at hq
    exact hP i q hq
theorem wD_say {A : Nat → Prop} {ws : va_W} (k : Nat) {a : Nat} {x : va_E} (y : va_E) (hD : va_D A ws) (he : ws[k]? = some (a, x)) : va_D A (ws.set k (a, y)) := hD.set he
section NEWS
variable {p : Program} {l : Launch} {e : Env} {R : Room} {s : State} {m : MethodId} {args : Array Value} {below : List Frame} {meth : Method} {c : Code} {H : Heap} {locs : List Loc} {cells slots mc ms : Nat} {cc : ByteArray} {pc : Nat} {ls : Array Slot} {D : va_G} {A : Nat → Prop} {Q : State → Prop} {rest : List Value}
theorem r_newI {G : Nat → ClassId} {ws : va_W} {H0 : Heap} (hx : p.tables.exec = Jvm.exec) (hb : c.code = cc) (harr : (Cond.arrayClass .int).before args s = true) (hK : va_K D vwCl (TY G) s) (hP : va_P D vwCl ws H) (hD : va_D A ws) (hS : va_S A H0 H locs) (hA : ∀ q, H0.size ≤ q → A q) (N : Nat) {z : Int} (hz : z = (N : Int)) (hN : N < 1000) (hcells : cells + 1 ≤ R.cells) (hslots : slots + N ≤ R.slots) (d : decode cc pc = .ok (.newarray .int, 2)) (kk : ∀ (q : Nat) (H : Heap), va_P D vwCl (ws ++ [(q, .inl (G 0, N, .inl (fun j => iv (zz j))))]) H → va_D A (ws ++ [(q, .inl (G 0, N, .inl (fun j => iv (zz j))))]) → va_S A H0 H locs → W p l e R s m args below meth c H locs (cells + 1) (slots + N) Q (F0 m (pc + 2) ls (.ref q :: rest))) : W p l e R s m args below meth c H locs cells slots Q (F0 m pc ls (.int (iv z) :: rest)) := by
  subst hz
  have h2 : (iv (N : Int)).toNatClampNeg = N := (iv_ix rfl (Nat.lt_succ_self N) (by omega)).2
  have h3 : ¬ iv (N : Int) < 0 := fun q => by have := (iv_lt (a := (N : Int)) (b := 0) (by omega) (by decide)).mp q; omega
  refine va_newa (atype := .int) (ty := .int) (a0 := (N, .inl (fun j => iv (zz j)))) hx hb harr rfl hK hP hD hS hA (fun cA => rfl) h3 h2 (by simp [componentBytes]; omega) hcells hslots d (fun q cA H1 k1 g1 g2 g3 => ?_)
  have r1 := (k1.2 6 (cA, .int) rfl).2
  have r0 := (hK.2 0 (G 0, .int) rfl).2
  have e1 : cA = G 0 := Option.some.inj (Eq.trans (Eq.symm r1) r0)
  subst e1
  exact kk q H1 g1 g2 g3
theorem r_newZ {G : Nat → ClassId} {ws : va_W} {H0 : Heap} (hx : p.tables.exec = Jvm.exec) (hb : c.code = cc) (harr : (Cond.arrayClass .boolean).before args s = true) (hK : va_K D vwCl (TY G) s) (hP : va_P D vwCl ws H) (hD : va_D A ws) (hS : va_S A H0 H locs) (hA : ∀ q, H0.size ≤ q → A q) (N : Nat) {z : Int} (hz : z = (N : Int)) (hN : N < 1000) (hcells : cells + 1 ≤ R.cells) (hslots : slots + N ≤ R.slots) (d : decode cc pc = .ok (.newarray .boolean, 2)) (kk : ∀ (q : Nat) (H : Heap), va_P D vwCl (ws ++ [(q, .inl (G 1, N, .inl (fun j => iv (zz j))))]) H → va_D A (ws ++ [(q, .inl (G 1, N, .inl (fun j => iv (zz j))))]) → va_S A H0 H locs → W p l e R s m args below meth c H locs (cells + 1) (slots + N) Q (F0 m (pc + 2) ls (.ref q :: rest))) : W p l e R s m args below meth c H locs cells slots Q (F0 m pc ls (.int (iv z) :: rest)) := by
  subst hz
  have h2 : (iv (N : Int)).toNatClampNeg = N := (iv_ix rfl (Nat.lt_succ_self N) (by omega)).2
  have h3 : ¬ iv (N : Int) < 0 := fun q => by have := (iv_lt (a := (N : Int)) (b := 0) (by omega) (by decide)).mp q; omega
  refine va_newa (atype := .boolean) (ty := .boolean) (a0 := (N, .inl (fun j => iv (zz j)))) hx hb harr rfl hK hP hD hS hA (fun cA => rfl) h3 h2 (by simp [componentBytes]; omega) hcells hslots d (fun q cA H1 k1 g1 g2 g3 => ?_)
  have r1 := (k1.2 6 (cA, .boolean) rfl).2
  have r0 := (hK.2 1 (G 1, .boolean) rfl).2
  have e1 : cA = G 1 := Option.some.inj (Eq.trans (Eq.symm r1) r0)
  subst e1
  exact kk q H1 g1 g2 g3
end NEWS
/-- an explicit head of n cells, cut in two -/
theorem wsp (E rest : va_W) (n : Nat) {is js : List Nat} {wc wr : va_W} (h : (is ++ js).Perm (List.range n)) (hn : E.length = n) (hc : wpick E is = wc) (hr : wpick E js = wr) : (E ++ rest).Perm (wc ++ (wr ++ rest)) := wsplit E rest (by rw [hn]; exact h) hc hr
theorem upd_step {F f : Nat → Int} {i : Nat} (h : ∀ j, j < i → F j = f j) : ∀ j, j < i + 1 → updI F i (f i) j = f j := fun j hj => by
  by_cases q : j = i
  · rw [q, updI_s]
  · rw [updI_n _ _ q]
    exact h j (by omega)
theorem upd_step1 {F : Nat → Int} {i : Nat} {x : Int} (h : ∀ j, j < i → F j = x) : ∀ j, j < i + 1 → updI F i x j = x := fun j hj => by
  by_cases q : j = i
  · rw [q, updI_s]
  · rw [updI_n _ _ q]
    exact h j (by omega)
end
section
set_option maxHeartbeats 4000000 in
set_option maxRecDepth 100000 in
theorem c_X0_wearBehindTurn (l : Launch) (D : va_G) (G : Nat → ClassId) (w q d : Int) (hw : 0 ≤ w ∧ w ≤ 100) (hq : 0 ≤ q ∧ q ≤ 20) (hd : 0 ≤ d ∧ d ≤ 90) : MtG l yX0_wearBehindTurn wsX0_wearBehindTurn 1 40 0 0 D (TY G) [.int (iv w), .int (iv q), .int (iv d)] ([]) (qI D (fun r u => r = iv (wearBT w q d) ∧ u = [])) := by
  refine MtG.mk (cc := cX0_wearBehindTurn) (maxL := 4) (ret := some .int) (by decide) rfl (Nat.le_of_ble_eq_true rfl) ?_
  intro p e s m below meth c A ls hx hb hr hlk hml hown hin hts hK hA hP hD hS hl
  replace hown : s.vm.findClass RX0 = some m.cls := hown
  have hl : lv_has ls 4 [(0, .int (iv w)), (1, .int (iv q)), (2, .int (iv d))] := hl
  skip
  have hP : va_P D vwCl ([]) s.heap := hP
  have hD : va_D A ([]) := hD
  refine lv_iload_n hx hb dX0_wearBehindTurn_0 rfl (lv_at hl 1 rfl) ?_
  refine r_if_le hx hb 11 dX0_wearBehindTurn_1 (by decide) (by omega) (fun c_1 => ?_) (fun c_1 => ?_)
  · skip
    refine lv_iload_n hx hb dX0_wearBehindTurn_11 rfl (lv_at hl 2 rfl) ?_
    refine lv_bipush (v := iv 10) hx hb dX0_wearBehindTurn_12 (by decide) ?_
    refine r_div hx hb dX0_wearBehindTurn_14 (by omega) (by omega) ?_
    refine r_const hx hb dX0_wearBehindTurn_15 ?_
    refine r_add hx hb dX0_wearBehindTurn_16 ?_
    refine lv_istore_n (lv' := [(3, .int (iv ((d / 10) + 1))), (0, .int (iv w)), (1, .int (iv q)), (2, .int (iv d))]) hx hb dX0_wearBehindTurn_17 rfl hl (by decide) rfl (fun ls hl => ?_)
    refine lv_bipush (v := iv 100) hx hb dX0_wearBehindTurn_18 (by decide) ?_
    refine lv_iload_n hx hb dX0_wearBehindTurn_20 rfl (lv_at hl 1 rfl) ?_
    refine lv_iload_n hx hb dX0_wearBehindTurn_21 rfl (lv_at hl 0 rfl) ?_
    refine r_add hx hb dX0_wearBehindTurn_22 ?_
    refine r_min hx hb (hml.trans hl.1.symm) hown (hts (.methodLink RX0 58 Lib.Math.min.name) (by decide +kernel)) (hts (.static Lib.Math.min.name) (by decide +kernel)) (hts (.initialized "java/lang/Math") (by decide +kernel)) (hts (.code Lib.Math.min.name Lib.Math.min.code 2 (some .int)) (by decide +kernel)) (Nat.le_of_ble_eq_true rfl) (Nat.le_of_ble_eq_true rfl) (Nat.le_of_ble_eq_true rfl) (Nat.le_of_ble_eq_true rfl) (by omega) (by omega) dX0_wearBehindTurn_23 ?_
    exact e_int hx hb hr hlk dX0_wearBehindTurn_26 hS hP hD (by decide) (by decide) (⟨by unfold wearBT wearMore; first | rw [if_pos (by omega)] | rw [if_neg (by omega)], rfl⟩)
  · skip
    refine lv_iload_n hx hb dX0_wearBehindTurn_4 rfl (lv_at hl 2 rfl) ?_
    refine lv_bipush (v := iv 20) hx hb dX0_wearBehindTurn_5 (by decide) ?_
    refine r_div hx hb dX0_wearBehindTurn_7 (by omega) (by omega) ?_
    refine r_goto hx hb 17 dX0_wearBehindTurn_8 (by decide) ?_
    refine lv_istore_n (lv' := [(3, .int (iv (d / 20))), (0, .int (iv w)), (1, .int (iv q)), (2, .int (iv d))]) hx hb dX0_wearBehindTurn_17 rfl hl (by decide) rfl (fun ls hl => ?_)
    refine lv_bipush (v := iv 100) hx hb dX0_wearBehindTurn_18 (by decide) ?_
    refine lv_iload_n hx hb dX0_wearBehindTurn_20 rfl (lv_at hl 1 rfl) ?_
    refine lv_iload_n hx hb dX0_wearBehindTurn_21 rfl (lv_at hl 0 rfl) ?_
    refine r_add hx hb dX0_wearBehindTurn_22 ?_
    refine r_min hx hb (hml.trans hl.1.symm) hown (hts (.methodLink RX0 58 Lib.Math.min.name) (by decide +kernel)) (hts (.static Lib.Math.min.name) (by decide +kernel)) (hts (.initialized "java/lang/Math") (by decide +kernel)) (hts (.code Lib.Math.min.name Lib.Math.min.code 2 (some .int)) (by decide +kernel)) (Nat.le_of_ble_eq_true rfl) (Nat.le_of_ble_eq_true rfl) (Nat.le_of_ble_eq_true rfl) (Nat.le_of_ble_eq_true rfl) (by omega) (by omega) dX0_wearBehindTurn_23 ?_
    exact e_int hx hb hr hlk dX0_wearBehindTurn_26 hS hP hD (by decide) (by decide) (⟨by unfold wearBT wearMore; first | rw [if_pos (by omega)] | rw [if_neg (by omega)], rfl⟩)
set_option maxHeartbeats 4000000 in
set_option maxRecDepth 100000 in
theorem c_X0_jointsWornBy (l : Launch) (D : va_G) (G : Nat → ClassId) (a : Nat → Nat) (ds : DS) (hok : okD ds) (least : Int) (hle : 0 ≤ least ∧ least ≤ 100) : MtG l yX0_jointsWornBy wsX0_jointsWornBy 0 0 0 0 D (TY G) [.ref (a 0), .int (iv least)] (wDoll G a ds) (qI D (fun r u => r = iv (cntW least ds) ∧ u = wDoll G a ds)) := by
  refine MtG.mk (cc := cX0_jointsWornBy) (maxL := 7) (ret := some .int) (by decide) rfl (Nat.le_of_ble_eq_true rfl) ?_
  intro p e s m below meth c A ls hx hb hr hlk hml hown hin hts hK hA hP hD hS hl
  replace hown : s.vm.findClass RX0 = some m.cls := hown
  have hl : lv_has ls 7 [(0, .ref (a 0)), (1, .int (iv least))] := hl
  skip
  have hP : va_P D vwCl ([(a 0, .inr (0, [.ref (a 1), .ref (a 2), .ref (a 3), .ref (a 4), .ref (a 5), .int (iv (dg ds)), .int (iv (dv ds)), .int (iv (dn ds)), .int (iv (dt ds))])), (a 1, .inl (G 0, 6, .inl (fun j => iv (dA ds j)))), (a 2, .inl (G 0, 6, .inl (fun j => iv (dW ds j)))), (a 3, .inl (G 0, 6, .inl (fun j => iv (dQ ds j)))), (a 4, .inl (G 1, 2, .inl (fun j => iv (dO ds j)))), (a 5, .inl (G 0, 2, .inl (fun j => iv (dU ds j))))]) s.heap := hP
  have hD : va_D A ([(a 0, .inr (0, [.ref (a 1), .ref (a 2), .ref (a 3), .ref (a 4), .ref (a 5), .int (iv (dg ds)), .int (iv (dv ds)), .int (iv (dn ds)), .int (iv (dt ds))])), (a 1, .inl (G 0, 6, .inl (fun j => iv (dA ds j)))), (a 2, .inl (G 0, 6, .inl (fun j => iv (dW ds j)))), (a 3, .inl (G 0, 6, .inl (fun j => iv (dQ ds j)))), (a 4, .inl (G 1, 2, .inl (fun j => iv (dO ds j)))), (a 5, .inl (G 0, 2, .inl (fun j => iv (dU ds j))))]) := hD
  have lk15 := hts (.fieldLink RX0 15 "DollCitadel$Doll" "wears" "[I") (by decide +kernel)
  have in_X0 : ∀ w ∈ u_ws RX0 TX0 9, w ∈ wsX0_jointsWornBy := by decide +kernel
  have hx6 : (0 : Int) ≤ 0 := by decide
  refine r_const hx hb dX0_jointsWornBy_0 ?_
  refine lv_istore_n (lv' := [(2, .int (iv 0)), (0, .ref (a 0)), (1, .int (iv least))]) hx hb dX0_jointsWornBy_1 rfl hl (by decide) rfl (fun ls hl => ?_)
  refine lv_aload_n hx hb dX0_jointsWornBy_2 rfl (lv_at hl 1 rfl) ?_
  refine va_get (D := D) (ci := 0) (v := .ref (a 2)) (C := RX0) (T := TX0) (N := 9) hx hb hts in_X0 hown hK hP 0 rfl rfl 1 (by decide) lk15 (fun _ h9 => h9) rfl dX0_jointsWornBy_3 ?_
  refine lv_astore_n (lv' := [(3, .ref (a 2)), (2, .int (iv 0)), (0, .ref (a 0)), (1, .int (iv least))]) hx hb dX0_jointsWornBy_6 rfl hl (by decide) rfl (fun ls hl => ?_)
  refine lv_aload_n hx hb dX0_jointsWornBy_7 rfl (lv_at hl 0 rfl) ?_
  refine va_alen (v := iv 6) hx hb hK hP 2 0 rfl (ty := _) rfl rfl dX0_jointsWornBy_8 ?_
  refine lv_istore (lv' := [(4, .int (iv 6)), (3, .ref (a 2)), (2, .int (iv 0)), (0, .ref (a 0)), (1, .int (iv least))]) hx hb dX0_jointsWornBy_9 hl (by decide) rfl (fun ls hl => ?_)
  refine r_const hx hb dX0_jointsWornBy_11 ?_
  refine lv_istore (lv' := [(5, .int (iv 0)), (4, .int (iv 6)), (3, .ref (a 2)), (2, .int (iv 0)), (0, .ref (a 0)), (1, .int (iv least))]) hx hb dX0_jointsWornBy_12 hl (by decide) rfl (fun ls hl => ?_)
  have K14 : ∀ (n i : Nat) (x : Int), i ≤ 6 → 6 < i + n → x = cnt (fun j => decide (least ≤ dW ds j)) i → ∀ (H : Heap) (locs : List Loc), va_P D vwCl ([(a 0, .inr (0, [.ref (a 1), .ref (a 2), .ref (a 3), .ref (a 4), .ref (a 5), .int (iv (dg ds)), .int (iv (dv ds)), .int (iv (dn ds)), .int (iv (dt ds))])), (a 1, .inl (G 0, 6, .inl (fun j => iv (dA ds j)))), (a 2, .inl (G 0, 6, .inl (fun j => iv (dW ds j)))), (a 3, .inl (G 0, 6, .inl (fun j => iv (dQ ds j)))), (a 4, .inl (G 1, 2, .inl (fun j => iv (dO ds j)))), (a 5, .inl (G 0, 2, .inl (fun j => iv (dU ds j))))]) H → va_D A ([(a 0, .inr (0, [.ref (a 1), .ref (a 2), .ref (a 3), .ref (a 4), .ref (a 5), .int (iv (dg ds)), .int (iv (dv ds)), .int (iv (dn ds)), .int (iv (dt ds))])), (a 1, .inl (G 0, 6, .inl (fun j => iv (dA ds j)))), (a 2, .inl (G 0, 6, .inl (fun j => iv (dW ds j)))), (a 3, .inl (G 0, 6, .inl (fun j => iv (dQ ds j)))), (a 4, .inl (G 1, 2, .inl (fun j => iv (dO ds j)))), (a 5, .inl (G 0, 2, .inl (fun j => iv (dU ds j))))]) → va_S A s.heap H locs → ∀ (ls : Array Slot), lv_has ls 7 [(0, .ref (a 0)), (1, .int (iv least)), (2, .int (iv x)), (3, .ref (a 2)), (4, .int (iv 6)), (5, .int (iv (i : Int)))] → W p l e (rmOf 0 0 0 0) s m ([.ref (a 0), .int (iv least)] : List Value).toArray below meth c H locs 0 0 (MQ below (qI D (fun r u => r = iv (cntW least ds) ∧ u = wDoll G a ds) A) ([.ref (a 0), .int (iv least)] : List Value).toArray s 0 0 A) (F0 m 14 ls []) := by
    intro n
    induction n with
    | zero => intro i x h1 h2; exact absurd h2 (by omega)
    | succ n ih14 =>
      intro i x hi_14 hn_14 ex H locs hP hD hS ls hl
      refine lv_iload hx hb dX0_jointsWornBy_14 (lv_at hl 5 rfl) ?_
      refine lv_iload hx hb dX0_jointsWornBy_16 (lv_at hl 4 rfl) ?_
      refine r_icmp_ge hx hb 42 dX0_jointsWornBy_18 (by decide) (by omega) (by omega) (fun c_18 => ?_) (fun c_18 => ?_)
      · skip
        refine lv_iload_n hx hb dX0_jointsWornBy_42 rfl (lv_at hl 2 rfl) ?_
        exact e_int hx hb hr hlk dX0_jointsWornBy_43 hS hP hD (by decide) (by decide) (⟨by rw [ex, show i = 6 by omega]; rfl, rfl⟩)
      · skip
        refine lv_aload_n hx hb dX0_jointsWornBy_21 rfl (lv_at hl 3 rfl) ?_
        refine lv_iload hx hb dX0_jointsWornBy_22 (lv_at hl 5 rfl) ?_
        refine r_iald (F := dW ds) hx hb hK hP 2 0 rfl rfl i (by omega) (by omega) (by decide) dX0_jointsWornBy_24 ?_
        have b_24 := okD_W hok i (by omega)
        refine lv_istore (lv' := [(6, .int (iv (dW ds i))), (0, .ref (a 0)), (1, .int (iv least)), (2, .int (iv x)), (3, .ref (a 2)), (4, .int (iv 6)), (5, .int (iv (i : Int)))]) hx hb dX0_jointsWornBy_25 hl (by decide) rfl (fun ls hl => ?_)
        refine lv_iload hx hb dX0_jointsWornBy_27 (lv_at hl 0 rfl) ?_
        refine lv_iload_n hx hb dX0_jointsWornBy_29 rfl (lv_at hl 2 rfl) ?_
        refine r_icmp_lt hx hb 36 dX0_jointsWornBy_30 (by decide) (by omega) (by omega) (fun c_30 => ?_) (fun c_30 => ?_)
        · skip
          refine r_iinc (k := 6) (lv' := [(5, .int (iv ((i : Int) + 1))), (6, .int (iv (dW ds i))), (0, .ref (a 0)), (1, .int (iv least)), (2, .int (iv x)), (3, .ref (a 2)), (4, .int (iv 6))]) hx hb dX0_jointsWornBy_36 hl rfl (by decide) rfl (fun ls hl => ?_)
          refine r_goto hx hb 14 dX0_jointsWornBy_39 (by decide) ?_
          exact ih14 (i + 1) x (by omega) (by omega) (ex ▸ cnt_no (decide_eq_false (by omega))) _ _ hP hD hS _ (lv_sub hl [2, 3, 4, 5, 6, 0] rfl)
        · skip
          refine r_iinc (k := 3) (lv' := [(2, .int (iv (x + 1))), (6, .int (iv (dW ds i))), (0, .ref (a 0)), (1, .int (iv least)), (3, .ref (a 2)), (4, .int (iv 6)), (5, .int (iv (i : Int)))]) hx hb dX0_jointsWornBy_33 hl rfl (by decide) rfl (fun ls hl => ?_)
          refine r_iinc (k := 6) (lv' := [(5, .int (iv ((i : Int) + 1))), (2, .int (iv (x + 1))), (6, .int (iv (dW ds i))), (0, .ref (a 0)), (1, .int (iv least)), (3, .ref (a 2)), (4, .int (iv 6))]) hx hb dX0_jointsWornBy_36 hl rfl (by decide) rfl (fun ls hl => ?_)
          refine r_goto hx hb 14 dX0_jointsWornBy_39 (by decide) ?_
          exact ih14 (i + 1) (x + 1) (by omega) (by omega) (ex ▸ cnt_yes (decide_eq_true c_30)) _ _ hP hD hS _ (lv_sub hl [3, 4, 1, 5, 6, 0] rfl)
  exact K14 7 0 0 (by omega) (by omega) rfl _ _ hP hD hS _ (lv_sub hl [4, 5, 3, 2, 1, 0] rfl)
set_option maxHeartbeats 4000000 in
set_option maxRecDepth 100000 in
theorem c_X0_eyesWithDust (l : Launch) (D : va_G) (G : Nat → ClassId) (a : Nat → Nat) (ds : DS) (hok : okD ds) (least : Int) (hle : 0 ≤ least ∧ least ≤ 100) : MtG l yX0_eyesWithDust wsX0_eyesWithDust 0 0 0 0 D (TY G) [.ref (a 0), .int (iv least)] (wDoll G a ds) (qI D (fun r u => r = iv (cntU least ds) ∧ u = wDoll G a ds)) := by
  refine MtG.mk (cc := cX0_eyesWithDust) (maxL := 7) (ret := some .int) (by decide) rfl (Nat.le_of_ble_eq_true rfl) ?_
  intro p e s m below meth c A ls hx hb hr hlk hml hown hin hts hK hA hP hD hS hl
  replace hown : s.vm.findClass RX0 = some m.cls := hown
  have hl : lv_has ls 7 [(0, .ref (a 0)), (1, .int (iv least))] := hl
  skip
  have hP : va_P D vwCl ([(a 0, .inr (0, [.ref (a 1), .ref (a 2), .ref (a 3), .ref (a 4), .ref (a 5), .int (iv (dg ds)), .int (iv (dv ds)), .int (iv (dn ds)), .int (iv (dt ds))])), (a 1, .inl (G 0, 6, .inl (fun j => iv (dA ds j)))), (a 2, .inl (G 0, 6, .inl (fun j => iv (dW ds j)))), (a 3, .inl (G 0, 6, .inl (fun j => iv (dQ ds j)))), (a 4, .inl (G 1, 2, .inl (fun j => iv (dO ds j)))), (a 5, .inl (G 0, 2, .inl (fun j => iv (dU ds j))))]) s.heap := hP
  have hD : va_D A ([(a 0, .inr (0, [.ref (a 1), .ref (a 2), .ref (a 3), .ref (a 4), .ref (a 5), .int (iv (dg ds)), .int (iv (dv ds)), .int (iv (dn ds)), .int (iv (dt ds))])), (a 1, .inl (G 0, 6, .inl (fun j => iv (dA ds j)))), (a 2, .inl (G 0, 6, .inl (fun j => iv (dW ds j)))), (a 3, .inl (G 0, 6, .inl (fun j => iv (dQ ds j)))), (a 4, .inl (G 1, 2, .inl (fun j => iv (dO ds j)))), (a 5, .inl (G 0, 2, .inl (fun j => iv (dU ds j))))]) := hD
  have lk25 := hts (.fieldLink RX0 25 "DollCitadel$Doll" "dusts" "[I") (by decide +kernel)
  have in_X0 : ∀ w ∈ u_ws RX0 TX0 9, w ∈ wsX0_eyesWithDust := by decide +kernel
  have hx6 : (0 : Int) ≤ 0 := by decide
  refine r_const hx hb dX0_eyesWithDust_0 ?_
  refine lv_istore_n (lv' := [(2, .int (iv 0)), (0, .ref (a 0)), (1, .int (iv least))]) hx hb dX0_eyesWithDust_1 rfl hl (by decide) rfl (fun ls hl => ?_)
  refine lv_aload_n hx hb dX0_eyesWithDust_2 rfl (lv_at hl 1 rfl) ?_
  refine va_get (D := D) (ci := 0) (v := .ref (a 5)) (C := RX0) (T := TX0) (N := 9) hx hb hts in_X0 hown hK hP 0 rfl rfl 4 (by decide) lk25 (fun _ h9 => h9) rfl dX0_eyesWithDust_3 ?_
  refine lv_astore_n (lv' := [(3, .ref (a 5)), (2, .int (iv 0)), (0, .ref (a 0)), (1, .int (iv least))]) hx hb dX0_eyesWithDust_6 rfl hl (by decide) rfl (fun ls hl => ?_)
  refine lv_aload_n hx hb dX0_eyesWithDust_7 rfl (lv_at hl 0 rfl) ?_
  refine va_alen (v := iv 2) hx hb hK hP 5 0 rfl (ty := _) rfl rfl dX0_eyesWithDust_8 ?_
  refine lv_istore (lv' := [(4, .int (iv 2)), (3, .ref (a 5)), (2, .int (iv 0)), (0, .ref (a 0)), (1, .int (iv least))]) hx hb dX0_eyesWithDust_9 hl (by decide) rfl (fun ls hl => ?_)
  refine r_const hx hb dX0_eyesWithDust_11 ?_
  refine lv_istore (lv' := [(5, .int (iv 0)), (4, .int (iv 2)), (3, .ref (a 5)), (2, .int (iv 0)), (0, .ref (a 0)), (1, .int (iv least))]) hx hb dX0_eyesWithDust_12 hl (by decide) rfl (fun ls hl => ?_)
  have K14 : ∀ (n i : Nat) (x : Int), i ≤ 2 → 2 < i + n → x = cnt (fun j => decide (least ≤ dU ds j)) i → ∀ (H : Heap) (locs : List Loc), va_P D vwCl ([(a 0, .inr (0, [.ref (a 1), .ref (a 2), .ref (a 3), .ref (a 4), .ref (a 5), .int (iv (dg ds)), .int (iv (dv ds)), .int (iv (dn ds)), .int (iv (dt ds))])), (a 1, .inl (G 0, 6, .inl (fun j => iv (dA ds j)))), (a 2, .inl (G 0, 6, .inl (fun j => iv (dW ds j)))), (a 3, .inl (G 0, 6, .inl (fun j => iv (dQ ds j)))), (a 4, .inl (G 1, 2, .inl (fun j => iv (dO ds j)))), (a 5, .inl (G 0, 2, .inl (fun j => iv (dU ds j))))]) H → va_D A ([(a 0, .inr (0, [.ref (a 1), .ref (a 2), .ref (a 3), .ref (a 4), .ref (a 5), .int (iv (dg ds)), .int (iv (dv ds)), .int (iv (dn ds)), .int (iv (dt ds))])), (a 1, .inl (G 0, 6, .inl (fun j => iv (dA ds j)))), (a 2, .inl (G 0, 6, .inl (fun j => iv (dW ds j)))), (a 3, .inl (G 0, 6, .inl (fun j => iv (dQ ds j)))), (a 4, .inl (G 1, 2, .inl (fun j => iv (dO ds j)))), (a 5, .inl (G 0, 2, .inl (fun j => iv (dU ds j))))]) → va_S A s.heap H locs → ∀ (ls : Array Slot), lv_has ls 7 [(0, .ref (a 0)), (1, .int (iv least)), (2, .int (iv x)), (3, .ref (a 5)), (4, .int (iv 2)), (5, .int (iv (i : Int)))] → W p l e (rmOf 0 0 0 0) s m ([.ref (a 0), .int (iv least)] : List Value).toArray below meth c H locs 0 0 (MQ below (qI D (fun r u => r = iv (cntU least ds) ∧ u = wDoll G a ds) A) ([.ref (a 0), .int (iv least)] : List Value).toArray s 0 0 A) (F0 m 14 ls []) := by
    intro n
    induction n with
    | zero => intro i x h1 h2; exact absurd h2 (by omega)
    | succ n ih14 =>
      intro i x hi_14 hn_14 ex H locs hP hD hS ls hl
      refine lv_iload hx hb dX0_eyesWithDust_14 (lv_at hl 5 rfl) ?_
      refine lv_iload hx hb dX0_eyesWithDust_16 (lv_at hl 4 rfl) ?_
      refine r_icmp_ge hx hb 42 dX0_eyesWithDust_18 (by decide) (by omega) (by omega) (fun c_18 => ?_) (fun c_18 => ?_)
      · skip
        refine lv_iload_n hx hb dX0_eyesWithDust_42 rfl (lv_at hl 2 rfl) ?_
        exact e_int hx hb hr hlk dX0_eyesWithDust_43 hS hP hD (by decide) (by decide) (⟨by rw [ex, show i = 2 by omega]; rfl, rfl⟩)
      · skip
        refine lv_aload_n hx hb dX0_eyesWithDust_21 rfl (lv_at hl 3 rfl) ?_
        refine lv_iload hx hb dX0_eyesWithDust_22 (lv_at hl 5 rfl) ?_
        refine r_iald (F := dU ds) hx hb hK hP 5 0 rfl rfl i (by omega) (by omega) (by decide) dX0_eyesWithDust_24 ?_
        have b_24 := okD_U hok i (by omega)
        refine lv_istore (lv' := [(6, .int (iv (dU ds i))), (0, .ref (a 0)), (1, .int (iv least)), (2, .int (iv x)), (3, .ref (a 5)), (4, .int (iv 2)), (5, .int (iv (i : Int)))]) hx hb dX0_eyesWithDust_25 hl (by decide) rfl (fun ls hl => ?_)
        refine lv_iload hx hb dX0_eyesWithDust_27 (lv_at hl 0 rfl) ?_
        refine lv_iload_n hx hb dX0_eyesWithDust_29 rfl (lv_at hl 2 rfl) ?_
        refine r_icmp_lt hx hb 36 dX0_eyesWithDust_30 (by decide) (by omega) (by omega) (fun c_30 => ?_) (fun c_30 => ?_)
        · skip
          refine r_iinc (k := 6) (lv' := [(5, .int (iv ((i : Int) + 1))), (6, .int (iv (dU ds i))), (0, .ref (a 0)), (1, .int (iv least)), (2, .int (iv x)), (3, .ref (a 5)), (4, .int (iv 2))]) hx hb dX0_eyesWithDust_36 hl rfl (by decide) rfl (fun ls hl => ?_)
          refine r_goto hx hb 14 dX0_eyesWithDust_39 (by decide) ?_
          exact ih14 (i + 1) x (by omega) (by omega) (ex ▸ cnt_no (decide_eq_false (by omega))) _ _ hP hD hS _ (lv_sub hl [2, 3, 4, 5, 6, 0] rfl)
        · skip
          refine r_iinc (k := 3) (lv' := [(2, .int (iv (x + 1))), (6, .int (iv (dU ds i))), (0, .ref (a 0)), (1, .int (iv least)), (3, .ref (a 5)), (4, .int (iv 2)), (5, .int (iv (i : Int)))]) hx hb dX0_eyesWithDust_33 hl rfl (by decide) rfl (fun ls hl => ?_)
          refine r_iinc (k := 6) (lv' := [(5, .int (iv ((i : Int) + 1))), (2, .int (iv (x + 1))), (6, .int (iv (dU ds i))), (0, .ref (a 0)), (1, .int (iv least)), (3, .ref (a 5)), (4, .int (iv 2))]) hx hb dX0_eyesWithDust_36 hl rfl (by decide) rfl (fun ls hl => ?_)
          refine r_goto hx hb 14 dX0_eyesWithDust_39 (by decide) ?_
          exact ih14 (i + 1) (x + 1) (by omega) (by omega) (ex ▸ cnt_yes (decide_eq_true c_30)) _ _ hP hD hS _ (lv_sub hl [3, 4, 1, 5, 6, 0] rfl)
  exact K14 3 0 0 (by omega) (by omega) rfl _ _ hP hD hS _ (lv_sub hl [4, 5, 3, 2, 1, 0] rfl)
set_option maxHeartbeats 4000000 in
set_option maxRecDepth 100000 in
theorem c_X0_jointsWithoutLacquer (l : Launch) (D : va_G) (G : Nat → ClassId) (a : Nat → Nat) (ds : DS) (hok : okD ds)  : MtG l yX0_jointsWithoutLacquer wsX0_jointsWithoutLacquer 0 0 0 0 D (TY G) [.ref (a 0)] (wDoll G a ds) (qI D (fun r u => r = iv (cntQ ds) ∧ u = wDoll G a ds)) := by
  refine MtG.mk (cc := cX0_jointsWithoutLacquer) (maxL := 6) (ret := some .int) (by decide) rfl (Nat.le_of_ble_eq_true rfl) ?_
  intro p e s m below meth c A ls hx hb hr hlk hml hown hin hts hK hA hP hD hS hl
  replace hown : s.vm.findClass RX0 = some m.cls := hown
  have hl : lv_has ls 6 [(0, .ref (a 0))] := hl
  skip
  have hP : va_P D vwCl ([(a 0, .inr (0, [.ref (a 1), .ref (a 2), .ref (a 3), .ref (a 4), .ref (a 5), .int (iv (dg ds)), .int (iv (dv ds)), .int (iv (dn ds)), .int (iv (dt ds))])), (a 1, .inl (G 0, 6, .inl (fun j => iv (dA ds j)))), (a 2, .inl (G 0, 6, .inl (fun j => iv (dW ds j)))), (a 3, .inl (G 0, 6, .inl (fun j => iv (dQ ds j)))), (a 4, .inl (G 1, 2, .inl (fun j => iv (dO ds j)))), (a 5, .inl (G 0, 2, .inl (fun j => iv (dU ds j))))]) s.heap := hP
  have hD : va_D A ([(a 0, .inr (0, [.ref (a 1), .ref (a 2), .ref (a 3), .ref (a 4), .ref (a 5), .int (iv (dg ds)), .int (iv (dv ds)), .int (iv (dn ds)), .int (iv (dt ds))])), (a 1, .inl (G 0, 6, .inl (fun j => iv (dA ds j)))), (a 2, .inl (G 0, 6, .inl (fun j => iv (dW ds j)))), (a 3, .inl (G 0, 6, .inl (fun j => iv (dQ ds j)))), (a 4, .inl (G 1, 2, .inl (fun j => iv (dO ds j)))), (a 5, .inl (G 0, 2, .inl (fun j => iv (dU ds j))))]) := hD
  have lk18 := hts (.fieldLink RX0 18 "DollCitadel$Doll" "lacquers" "[I") (by decide +kernel)
  have in_X0 : ∀ w ∈ u_ws RX0 TX0 9, w ∈ wsX0_jointsWithoutLacquer := by decide +kernel
  have hx6 : (0 : Int) ≤ 0 := by decide
  refine r_const hx hb dX0_jointsWithoutLacquer_0 ?_
  refine lv_istore_n (lv' := [(1, .int (iv 0)), (0, .ref (a 0))]) hx hb dX0_jointsWithoutLacquer_1 rfl hl (by decide) rfl (fun ls hl => ?_)
  refine lv_aload_n hx hb dX0_jointsWithoutLacquer_2 rfl (lv_at hl 1 rfl) ?_
  refine va_get (D := D) (ci := 0) (v := .ref (a 3)) (C := RX0) (T := TX0) (N := 9) hx hb hts in_X0 hown hK hP 0 rfl rfl 2 (by decide) lk18 (fun _ h9 => h9) rfl dX0_jointsWithoutLacquer_3 ?_
  refine lv_astore_n (lv' := [(2, .ref (a 3)), (1, .int (iv 0)), (0, .ref (a 0))]) hx hb dX0_jointsWithoutLacquer_6 rfl hl (by decide) rfl (fun ls hl => ?_)
  refine lv_aload_n hx hb dX0_jointsWithoutLacquer_7 rfl (lv_at hl 0 rfl) ?_
  refine va_alen (v := iv 6) hx hb hK hP 3 0 rfl (ty := _) rfl rfl dX0_jointsWithoutLacquer_8 ?_
  refine lv_istore_n (lv' := [(3, .int (iv 6)), (2, .ref (a 3)), (1, .int (iv 0)), (0, .ref (a 0))]) hx hb dX0_jointsWithoutLacquer_9 rfl hl (by decide) rfl (fun ls hl => ?_)
  refine r_const hx hb dX0_jointsWithoutLacquer_10 ?_
  refine lv_istore (lv' := [(4, .int (iv 0)), (3, .int (iv 6)), (2, .ref (a 3)), (1, .int (iv 0)), (0, .ref (a 0))]) hx hb dX0_jointsWithoutLacquer_11 hl (by decide) rfl (fun ls hl => ?_)
  have K13 : ∀ (n i : Nat) (x : Int), i ≤ 6 → 6 < i + n → x = cnt (fun j => decide (dQ ds j = 0)) i → ∀ (H : Heap) (locs : List Loc), va_P D vwCl ([(a 0, .inr (0, [.ref (a 1), .ref (a 2), .ref (a 3), .ref (a 4), .ref (a 5), .int (iv (dg ds)), .int (iv (dv ds)), .int (iv (dn ds)), .int (iv (dt ds))])), (a 1, .inl (G 0, 6, .inl (fun j => iv (dA ds j)))), (a 2, .inl (G 0, 6, .inl (fun j => iv (dW ds j)))), (a 3, .inl (G 0, 6, .inl (fun j => iv (dQ ds j)))), (a 4, .inl (G 1, 2, .inl (fun j => iv (dO ds j)))), (a 5, .inl (G 0, 2, .inl (fun j => iv (dU ds j))))]) H → va_D A ([(a 0, .inr (0, [.ref (a 1), .ref (a 2), .ref (a 3), .ref (a 4), .ref (a 5), .int (iv (dg ds)), .int (iv (dv ds)), .int (iv (dn ds)), .int (iv (dt ds))])), (a 1, .inl (G 0, 6, .inl (fun j => iv (dA ds j)))), (a 2, .inl (G 0, 6, .inl (fun j => iv (dW ds j)))), (a 3, .inl (G 0, 6, .inl (fun j => iv (dQ ds j)))), (a 4, .inl (G 1, 2, .inl (fun j => iv (dO ds j)))), (a 5, .inl (G 0, 2, .inl (fun j => iv (dU ds j))))]) → va_S A s.heap H locs → ∀ (ls : Array Slot), lv_has ls 6 [(0, .ref (a 0)), (1, .int (iv x)), (2, .ref (a 3)), (3, .int (iv 6)), (4, .int (iv (i : Int)))] → W p l e (rmOf 0 0 0 0) s m ([.ref (a 0)] : List Value).toArray below meth c H locs 0 0 (MQ below (qI D (fun r u => r = iv (cntQ ds) ∧ u = wDoll G a ds) A) ([.ref (a 0)] : List Value).toArray s 0 0 A) (F0 m 13 ls []) := by
    intro n
    induction n with
    | zero => intro i x h1 h2; exact absurd h2 (by omega)
    | succ n ih13 =>
      intro i x hi_13 hn_13 ex H locs hP hD hS ls hl
      refine lv_iload hx hb dX0_jointsWithoutLacquer_13 (lv_at hl 4 rfl) ?_
      refine lv_iload_n hx hb dX0_jointsWithoutLacquer_15 rfl (lv_at hl 3 rfl) ?_
      refine r_icmp_ge hx hb 39 dX0_jointsWithoutLacquer_16 (by decide) (by omega) (by omega) (fun c_16 => ?_) (fun c_16 => ?_)
      · skip
        refine lv_iload_n hx hb dX0_jointsWithoutLacquer_39 rfl (lv_at hl 1 rfl) ?_
        exact e_int hx hb hr hlk dX0_jointsWithoutLacquer_40 hS hP hD (by decide) (by decide) (⟨by rw [ex, show i = 6 by omega]; rfl, rfl⟩)
      · skip
        refine lv_aload_n hx hb dX0_jointsWithoutLacquer_19 rfl (lv_at hl 2 rfl) ?_
        refine lv_iload hx hb dX0_jointsWithoutLacquer_20 (lv_at hl 4 rfl) ?_
        refine r_iald (F := dQ ds) hx hb hK hP 3 0 rfl rfl i (by omega) (by omega) (by decide) dX0_jointsWithoutLacquer_22 ?_
        have b_22 := okD_Q hok i (by omega)
        refine lv_istore (lv' := [(5, .int (iv (dQ ds i))), (0, .ref (a 0)), (1, .int (iv x)), (2, .ref (a 3)), (3, .int (iv 6)), (4, .int (iv (i : Int)))]) hx hb dX0_jointsWithoutLacquer_23 hl (by decide) rfl (fun ls hl => ?_)
        refine lv_iload hx hb dX0_jointsWithoutLacquer_25 (lv_at hl 0 rfl) ?_
        refine r_if_ne hx hb 33 dX0_jointsWithoutLacquer_27 (by decide) (by omega) (fun c_27 => ?_) (fun c_27 => ?_)
        · skip
          refine r_iinc (k := 5) (lv' := [(4, .int (iv ((i : Int) + 1))), (5, .int (iv (dQ ds i))), (0, .ref (a 0)), (1, .int (iv x)), (2, .ref (a 3)), (3, .int (iv 6))]) hx hb dX0_jointsWithoutLacquer_33 hl rfl (by decide) rfl (fun ls hl => ?_)
          refine r_goto hx hb 13 dX0_jointsWithoutLacquer_36 (by decide) ?_
          exact ih13 (i + 1) x (by omega) (by omega) (ex ▸ cnt_no (decide_eq_false (by omega))) _ _ hP hD hS _ (lv_sub hl [2, 3, 4, 5, 0] rfl)
        · skip
          refine r_iinc (k := 2) (lv' := [(1, .int (iv (x + 1))), (5, .int (iv (dQ ds i))), (0, .ref (a 0)), (2, .ref (a 3)), (3, .int (iv 6)), (4, .int (iv (i : Int)))]) hx hb dX0_jointsWithoutLacquer_30 hl rfl (by decide) rfl (fun ls hl => ?_)
          refine r_iinc (k := 5) (lv' := [(4, .int (iv ((i : Int) + 1))), (1, .int (iv (x + 1))), (5, .int (iv (dQ ds i))), (0, .ref (a 0)), (2, .ref (a 3)), (3, .int (iv 6))]) hx hb dX0_jointsWithoutLacquer_33 hl rfl (by decide) rfl (fun ls hl => ?_)
          refine r_goto hx hb 13 dX0_jointsWithoutLacquer_36 (by decide) ?_
          exact ih13 (i + 1) (x + 1) (by omega) (by omega) (ex ▸ cnt_yes (decide_eq_true c_27)) _ _ hP hD hS _ (lv_sub hl [3, 1, 4, 5, 0] rfl)
  exact K13 7 0 0 (by omega) (by omega) rfl _ _ hP hD hS _ (lv_sub hl [4, 3, 2, 1, 0] rfl)
set_option maxHeartbeats 4000000 in
set_option maxRecDepth 100000 in
theorem c_X0_brokenJoints (l : Launch) (D : va_G) (G : Nat → ClassId) (a : Nat → Nat) (ds : DS) (hok : okD ds)  : MtG l yX0_brokenJoints wsX0_brokenJoints 1 40 0 0 D (TY G) [.ref (a 0)] (wDoll G a ds) (qI D (fun r u => r = iv (cntW 100 ds) ∧ u = wDoll G a ds)) := by
  refine MtG.mk (cc := cX0_brokenJoints) (maxL := 1) (ret := some .int) (by decide) rfl (Nat.le_of_ble_eq_true rfl) ?_
  intro p e s m below meth c A ls hx hb hr hlk hml hown hin hts hK hA hP hD hS hl
  replace hown : s.vm.findClass RX0 = some m.cls := hown
  have hl : lv_has ls 1 [(0, .ref (a 0))] := hl
  skip
  have hP : va_P D vwCl ([(a 0, .inr (0, [.ref (a 1), .ref (a 2), .ref (a 3), .ref (a 4), .ref (a 5), .int (iv (dg ds)), .int (iv (dv ds)), .int (iv (dn ds)), .int (iv (dt ds))])), (a 1, .inl (G 0, 6, .inl (fun j => iv (dA ds j)))), (a 2, .inl (G 0, 6, .inl (fun j => iv (dW ds j)))), (a 3, .inl (G 0, 6, .inl (fun j => iv (dQ ds j)))), (a 4, .inl (G 1, 2, .inl (fun j => iv (dO ds j)))), (a 5, .inl (G 0, 2, .inl (fun j => iv (dU ds j))))]) s.heap := hP
  have hD : va_D A ([(a 0, .inr (0, [.ref (a 1), .ref (a 2), .ref (a 3), .ref (a 4), .ref (a 5), .int (iv (dg ds)), .int (iv (dv ds)), .int (iv (dn ds)), .int (iv (dt ds))])), (a 1, .inl (G 0, 6, .inl (fun j => iv (dA ds j)))), (a 2, .inl (G 0, 6, .inl (fun j => iv (dW ds j)))), (a 3, .inl (G 0, 6, .inl (fun j => iv (dQ ds j)))), (a 4, .inl (G 1, 2, .inl (fun j => iv (dO ds j)))), (a 5, .inl (G 0, 2, .inl (fun j => iv (dU ds j))))]) := hD
  refine lv_aload_n hx hb dX0_brokenJoints_0 rfl (lv_at hl 0 rfl) ?_
  refine lv_bipush (v := iv 100) hx hb dX0_brokenJoints_1 (by decide) ?_
  have hp := wsp ([(a 0, .inr (0, [.ref (a 1), .ref (a 2), .ref (a 3), .ref (a 4), .ref (a 5), .int (iv (dg ds)), .int (iv (dv ds)), .int (iv (dn ds)), .int (iv (dt ds))])), (a 1, .inl (G 0, 6, .inl (fun j => iv (dA ds j)))), (a 2, .inl (G 0, 6, .inl (fun j => iv (dW ds j)))), (a 3, .inl (G 0, 6, .inl (fun j => iv (dQ ds j)))), (a 4, .inl (G 1, 2, .inl (fun j => iv (dO ds j)))), (a 5, .inl (G 0, 2, .inl (fun j => iv (dU ds j))))]) ([]) 6 (is := [0, 1, 2, 3, 4, 5]) (js := []) (wc := wDoll G a ds) (wr := []) (by decide) rfl rfl rfl
  skip
  refine k_int (g_V (As := [.int (iv 100)]) (rest := []) (q0 := 0) (ci := 0) ⟨hx, hb, hml, hown, hts⟩ (c_X0_jointsWornBy l D G a ds hok 100 (by decide)) (cwV 1 hts gX0_brokenJoints_X0_jointsWornBy rfl rfl rfl (by decide +kernel) ⟨Nat.le_of_ble_eq_true rfl, Nat.le_of_ble_eq_true rfl⟩) hK hP hD hp rfl rfl rfl rfl hl.1 rfl (Nat.le_of_ble_eq_true rfl) dX0_brokenJoints_3 ⟨by decide, by decide⟩) hP hD hS hA hp (fun v u H locs hw hP hD hS => ?_)
  obtain ⟨rfl, rfl⟩ := hw
  have hP : va_P D vwCl ([(a 0, .inr (0, [.ref (a 1), .ref (a 2), .ref (a 3), .ref (a 4), .ref (a 5), .int (iv (dg ds)), .int (iv (dv ds)), .int (iv (dn ds)), .int (iv (dt ds))])), (a 1, .inl (G 0, 6, .inl (fun j => iv (dA ds j)))), (a 2, .inl (G 0, 6, .inl (fun j => iv (dW ds j)))), (a 3, .inl (G 0, 6, .inl (fun j => iv (dQ ds j)))), (a 4, .inl (G 1, 2, .inl (fun j => iv (dO ds j)))), (a 5, .inl (G 0, 2, .inl (fun j => iv (dU ds j))))]) H := hP
  have hD : va_D A ([(a 0, .inr (0, [.ref (a 1), .ref (a 2), .ref (a 3), .ref (a 4), .ref (a 5), .int (iv (dg ds)), .int (iv (dv ds)), .int (iv (dn ds)), .int (iv (dt ds))])), (a 1, .inl (G 0, 6, .inl (fun j => iv (dA ds j)))), (a 2, .inl (G 0, 6, .inl (fun j => iv (dW ds j)))), (a 3, .inl (G 0, 6, .inl (fun j => iv (dQ ds j)))), (a 4, .inl (G 1, 2, .inl (fun j => iv (dO ds j)))), (a 5, .inl (G 0, 2, .inl (fun j => iv (dU ds j))))]) := hD
  exact e_int hx hb hr hlk dX0_brokenJoints_6 hS hP hD (by decide) (by decide) (⟨rfl, rfl⟩)
set_option maxHeartbeats 4000000 in
set_option maxRecDepth 100000 in
theorem c_X0_hasRoomForPin (l : Launch) (D : va_G) (G : Nat → ClassId) (a : Nat → Nat) (ds : DS) (hok : okD ds)  : MtG l yX0_hasRoomForPin wsX0_hasRoomForPin 0 0 0 0 D (TY G) [.ref (a 0)] (wDoll G a ds) (qI D (fun r u => r = iv (b2i (decide (¬ dv ds = 0 ∧ dn ds < 12))) ∧ u = wDoll G a ds)) := by
  refine MtG.mk (cc := cX0_hasRoomForPin) (maxL := 1) (ret := some .boolean) (by decide) rfl (Nat.le_of_ble_eq_true rfl) ?_
  intro p e s m below meth c A ls hx hb hr hlk hml hown hin hts hK hA hP hD hS hl
  replace hown : s.vm.findClass RX0 = some m.cls := hown
  have hl : lv_has ls 1 [(0, .ref (a 0))] := hl
  skip
  have hP : va_P D vwCl ([(a 0, .inr (0, [.ref (a 1), .ref (a 2), .ref (a 3), .ref (a 4), .ref (a 5), .int (iv (dg ds)), .int (iv (dv ds)), .int (iv (dn ds)), .int (iv (dt ds))])), (a 1, .inl (G 0, 6, .inl (fun j => iv (dA ds j)))), (a 2, .inl (G 0, 6, .inl (fun j => iv (dW ds j)))), (a 3, .inl (G 0, 6, .inl (fun j => iv (dQ ds j)))), (a 4, .inl (G 1, 2, .inl (fun j => iv (dO ds j)))), (a 5, .inl (G 0, 2, .inl (fun j => iv (dU ds j))))]) s.heap := hP
  have hD : va_D A ([(a 0, .inr (0, [.ref (a 1), .ref (a 2), .ref (a 3), .ref (a 4), .ref (a 5), .int (iv (dg ds)), .int (iv (dv ds)), .int (iv (dn ds)), .int (iv (dt ds))])), (a 1, .inl (G 0, 6, .inl (fun j => iv (dA ds j)))), (a 2, .inl (G 0, 6, .inl (fun j => iv (dW ds j)))), (a 3, .inl (G 0, 6, .inl (fun j => iv (dQ ds j)))), (a 4, .inl (G 1, 2, .inl (fun j => iv (dO ds j)))), (a 5, .inl (G 0, 2, .inl (fun j => iv (dU ds j))))]) := hD
  have lk32 := hts (.fieldLink RX0 32 "DollCitadel$Doll" "weight" "I") (by decide +kernel)
  have in_X0 : ∀ w ∈ u_ws RX0 TX0 9, w ∈ wsX0_hasRoomForPin := by decide +kernel
  have lk35 := hts (.fieldLink RX0 35 "DollCitadel$Doll" "pins" "I") (by decide +kernel)
  obtain ⟨-, -, og, ov, on, ovn, ovn2⟩ := id hok
  refine lv_aload_n hx hb dX0_hasRoomForPin_0 rfl (lv_at hl 0 rfl) ?_
  refine va_get (D := D) (ci := 0) (v := .int (iv (dv ds))) (C := RX0) (T := TX0) (N := 9) hx hb hts in_X0 hown hK hP 0 rfl rfl 6 (by decide) lk32 (fun _ h9 => h9) rfl dX0_hasRoomForPin_1 ?_
  refine r_if_eq hx hb 20 dX0_hasRoomForPin_4 (by decide) (by omega) (fun c_4 => ?_) (fun c_4 => ?_)
  · skip
    refine r_const hx hb dX0_hasRoomForPin_20 ?_
    exact e_b01 hx hb hr (by omega) hlk dX0_hasRoomForPin_21 hS hP hD (by decide) (by decide) (⟨by rw [show decide (¬ dv ds = 0 ∧ dn ds < 12) = false from decide_eq_false (by omega)]; rfl, rfl⟩)
  · skip
    refine lv_aload_n hx hb dX0_hasRoomForPin_7 rfl (lv_at hl 0 rfl) ?_
    refine va_get (D := D) (ci := 0) (v := .int (iv (dn ds))) (C := RX0) (T := TX0) (N := 9) hx hb hts in_X0 hown hK hP 0 rfl rfl 7 (by decide) lk35 (fun _ h9 => h9) rfl dX0_hasRoomForPin_8 ?_
    refine lv_bipush (v := iv 12) hx hb dX0_hasRoomForPin_11 (by decide) ?_
    refine r_icmp_ge hx hb 20 dX0_hasRoomForPin_13 (by decide) (by omega) (by omega) (fun c_13 => ?_) (fun c_13 => ?_)
    · skip
      refine r_const hx hb dX0_hasRoomForPin_20 ?_
      exact e_b01 hx hb hr (by omega) hlk dX0_hasRoomForPin_21 hS hP hD (by decide) (by decide) (⟨by rw [show decide (¬ dv ds = 0 ∧ dn ds < 12) = false from decide_eq_false (by omega)]; rfl, rfl⟩)
    · skip
      refine r_const hx hb dX0_hasRoomForPin_16 ?_
      refine r_goto hx hb 21 dX0_hasRoomForPin_17 (by decide) ?_
      exact e_b01 hx hb hr (by omega) hlk dX0_hasRoomForPin_21 hS hP hD (by decide) (by decide) (⟨by rw [show decide (¬ dv ds = 0 ∧ dn ds < 12) = true from decide_eq_true (by omega)]; rfl, rfl⟩)
set_option maxHeartbeats 4000000 in
set_option maxRecDepth 100000 in
theorem c_X0_tally (l : Launch) (D : va_G) (G : Nat → ClassId) (a : Nat → Nat) (ds : DS) (hok : okD ds) (what : Int) (hwh : 4 ≤ what ∧ what ≤ 7) : MtG l yX0_tally wsX0_tally 2 80 0 0 D (TY G) [.ref (a 0), .int (iv what)] (wDoll G a ds) (qI D (fun r u => r = iv (tally what ds) ∧ u = wDoll G a ds)) := by
  refine MtG.mk (cc := cX0_tally) (maxL := 2) (ret := some .int) (by decide) rfl (Nat.le_of_ble_eq_true rfl) ?_
  intro p e s m below meth c A ls hx hb hr hlk hml hown hin hts hK hA hP hD hS hl
  replace hown : s.vm.findClass RX0 = some m.cls := hown
  have hl : lv_has ls 2 [(0, .ref (a 0)), (1, .int (iv what))] := hl
  skip
  have hP : va_P D vwCl ([(a 0, .inr (0, [.ref (a 1), .ref (a 2), .ref (a 3), .ref (a 4), .ref (a 5), .int (iv (dg ds)), .int (iv (dv ds)), .int (iv (dn ds)), .int (iv (dt ds))])), (a 1, .inl (G 0, 6, .inl (fun j => iv (dA ds j)))), (a 2, .inl (G 0, 6, .inl (fun j => iv (dW ds j)))), (a 3, .inl (G 0, 6, .inl (fun j => iv (dQ ds j)))), (a 4, .inl (G 1, 2, .inl (fun j => iv (dO ds j)))), (a 5, .inl (G 0, 2, .inl (fun j => iv (dU ds j))))]) s.heap := hP
  have hD : va_D A ([(a 0, .inr (0, [.ref (a 1), .ref (a 2), .ref (a 3), .ref (a 4), .ref (a 5), .int (iv (dg ds)), .int (iv (dv ds)), .int (iv (dn ds)), .int (iv (dt ds))])), (a 1, .inl (G 0, 6, .inl (fun j => iv (dA ds j)))), (a 2, .inl (G 0, 6, .inl (fun j => iv (dW ds j)))), (a 3, .inl (G 0, 6, .inl (fun j => iv (dQ ds j)))), (a 4, .inl (G 1, 2, .inl (fun j => iv (dO ds j)))), (a 5, .inl (G 0, 2, .inl (fun j => iv (dU ds j))))]) := hD
  have lk28 := hts (.fieldLink RX0 28 "DollCitadel$Doll" "wigEaten" "I") (by decide +kernel)
  have in_X0 : ∀ w ∈ u_ws RX0 TX0 9, w ∈ wsX0_tally := by decide +kernel
  have lk32 := hts (.fieldLink RX0 32 "DollCitadel$Doll" "weight" "I") (by decide +kernel)
  obtain ⟨-, -, og, ov, on, ovn, ovn2⟩ := id hok
  refine lv_iload_n hx hb dX0_tally_0 rfl (lv_at hl 1 rfl) ?_
  rcases (show what = 4 ∨ what = 5 ∨ what = 6 ∨ what = 7 by omega) with rfl | rfl | rfl | rfl
  · skip
    refine lv_tableIn (off := 27) (tgt := 28) hx hb dX0_tally_1 (by decide) (by decide) (by decide) (by decide) ?_
    refine lv_aload_n hx hb dX0_tally_28 rfl (lv_at hl 0 rfl) ?_
    have hp := wsp ([(a 0, .inr (0, [.ref (a 1), .ref (a 2), .ref (a 3), .ref (a 4), .ref (a 5), .int (iv (dg ds)), .int (iv (dv ds)), .int (iv (dn ds)), .int (iv (dt ds))])), (a 1, .inl (G 0, 6, .inl (fun j => iv (dA ds j)))), (a 2, .inl (G 0, 6, .inl (fun j => iv (dW ds j)))), (a 3, .inl (G 0, 6, .inl (fun j => iv (dQ ds j)))), (a 4, .inl (G 1, 2, .inl (fun j => iv (dO ds j)))), (a 5, .inl (G 0, 2, .inl (fun j => iv (dU ds j))))]) ([]) 6 (is := [0, 1, 2, 3, 4, 5]) (js := []) (wc := wDoll G a ds) (wr := []) (by decide) rfl rfl rfl
    skip
    refine k_int (g_V (As := []) (rest := []) (q0 := 0) (ci := 0) ⟨hx, hb, hml, hown, hts⟩ (c_X0_brokenJoints l D G a ds hok ) (cwV 0 hts gX0_tally_X0_brokenJoints rfl rfl rfl (by decide +kernel) ⟨Nat.le_of_ble_eq_true rfl, Nat.le_of_ble_eq_true rfl⟩) hK hP hD hp rfl rfl rfl rfl hl.1 rfl (Nat.le_of_ble_eq_true rfl) dX0_tally_29 ⟨by decide, by decide⟩) hP hD hS hA hp (fun v u H locs hw hP hD hS => ?_)
    obtain ⟨rfl, rfl⟩ := hw
    have hP : va_P D vwCl ([(a 0, .inr (0, [.ref (a 1), .ref (a 2), .ref (a 3), .ref (a 4), .ref (a 5), .int (iv (dg ds)), .int (iv (dv ds)), .int (iv (dn ds)), .int (iv (dt ds))])), (a 1, .inl (G 0, 6, .inl (fun j => iv (dA ds j)))), (a 2, .inl (G 0, 6, .inl (fun j => iv (dW ds j)))), (a 3, .inl (G 0, 6, .inl (fun j => iv (dQ ds j)))), (a 4, .inl (G 1, 2, .inl (fun j => iv (dO ds j)))), (a 5, .inl (G 0, 2, .inl (fun j => iv (dU ds j))))]) H := hP
    have hD : va_D A ([(a 0, .inr (0, [.ref (a 1), .ref (a 2), .ref (a 3), .ref (a 4), .ref (a 5), .int (iv (dg ds)), .int (iv (dv ds)), .int (iv (dn ds)), .int (iv (dt ds))])), (a 1, .inl (G 0, 6, .inl (fun j => iv (dA ds j)))), (a 2, .inl (G 0, 6, .inl (fun j => iv (dW ds j)))), (a 3, .inl (G 0, 6, .inl (fun j => iv (dQ ds j)))), (a 4, .inl (G 1, 2, .inl (fun j => iv (dO ds j)))), (a 5, .inl (G 0, 2, .inl (fun j => iv (dU ds j))))]) := hD
    exact e_int hx hb hr hlk dX0_tally_32 hS hP hD (by decide) (by decide) (⟨by unfold tally; simp only [reduceIte, show ¬ (5 : Int) = 4 by decide, show ¬ (6 : Int) = 4 by decide, show ¬ (6 : Int) = 5 by decide, show ¬ (7 : Int) = 4 by decide, show ¬ (7 : Int) = 5 by decide, show ¬ (7 : Int) = 6 by decide, show ¬ (1 : Int) = 0 by decide, show ¬ (2 : Int) = 0 by decide, show ¬ (2 : Int) = 1 by decide, show ¬ (3 : Int) = 0 by decide, show ¬ (3 : Int) = 1 by decide, show ¬ (3 : Int) = 2 by decide, show ¬ (4 : Int) = 0 by decide, show ¬ (4 : Int) = 1 by decide, show ¬ (4 : Int) = 2 by decide, show ¬ (4 : Int) = 3 by decide, if_true, if_false]; try first | rfl | (rw [if_pos (by omega)]) | (rw [if_neg (by omega)]) | (rw [if_neg (by omega), if_neg (by omega)]), rfl⟩)
  · skip
    refine lv_tableIn (off := 32) (tgt := 33) hx hb dX0_tally_1 (by decide) (by decide) (by decide) (by decide) ?_
    refine lv_aload_n hx hb dX0_tally_33 rfl (lv_at hl 0 rfl) ?_
    refine va_get (D := D) (ci := 0) (v := .int (iv (dg ds))) (C := RX0) (T := TX0) (N := 9) hx hb hts in_X0 hown hK hP 0 rfl rfl 5 (by decide) lk28 (fun _ h9 => h9) rfl dX0_tally_34 ?_
    refine r_const hx hb dX0_tally_37 ?_
    refine r_icmp_ne hx hb 45 dX0_tally_38 (by decide) (by omega) (by omega) (fun c_38 => ?_) (fun c_38 => ?_)
    · skip
      refine r_const hx hb dX0_tally_45 ?_
      exact e_int hx hb hr hlk dX0_tally_46 hS hP hD (by decide) (by decide) (⟨by unfold tally; simp only [reduceIte, show ¬ (5 : Int) = 4 by decide, show ¬ (6 : Int) = 4 by decide, show ¬ (6 : Int) = 5 by decide, show ¬ (7 : Int) = 4 by decide, show ¬ (7 : Int) = 5 by decide, show ¬ (7 : Int) = 6 by decide, show ¬ (1 : Int) = 0 by decide, show ¬ (2 : Int) = 0 by decide, show ¬ (2 : Int) = 1 by decide, show ¬ (3 : Int) = 0 by decide, show ¬ (3 : Int) = 1 by decide, show ¬ (3 : Int) = 2 by decide, show ¬ (4 : Int) = 0 by decide, show ¬ (4 : Int) = 1 by decide, show ¬ (4 : Int) = 2 by decide, show ¬ (4 : Int) = 3 by decide, if_true, if_false]; try first | rfl | (rw [if_pos (by omega)]) | (rw [if_neg (by omega)]) | (rw [if_neg (by omega), if_neg (by omega)]), rfl⟩)
    · skip
      refine r_const hx hb dX0_tally_41 ?_
      refine r_goto hx hb 46 dX0_tally_42 (by decide) ?_
      exact e_int hx hb hr hlk dX0_tally_46 hS hP hD (by decide) (by decide) (⟨by unfold tally; simp only [reduceIte, show ¬ (5 : Int) = 4 by decide, show ¬ (6 : Int) = 4 by decide, show ¬ (6 : Int) = 5 by decide, show ¬ (7 : Int) = 4 by decide, show ¬ (7 : Int) = 5 by decide, show ¬ (7 : Int) = 6 by decide, show ¬ (1 : Int) = 0 by decide, show ¬ (2 : Int) = 0 by decide, show ¬ (2 : Int) = 1 by decide, show ¬ (3 : Int) = 0 by decide, show ¬ (3 : Int) = 1 by decide, show ¬ (3 : Int) = 2 by decide, show ¬ (4 : Int) = 0 by decide, show ¬ (4 : Int) = 1 by decide, show ¬ (4 : Int) = 2 by decide, show ¬ (4 : Int) = 3 by decide, if_true, if_false]; try first | rfl | (rw [if_pos (by omega)]) | (rw [if_neg (by omega)]) | (rw [if_neg (by omega), if_neg (by omega)]), rfl⟩)
  · skip
    refine lv_tableIn (off := 46) (tgt := 47) hx hb dX0_tally_1 (by decide) (by decide) (by decide) (by decide) ?_
    refine lv_aload_n hx hb dX0_tally_47 rfl (lv_at hl 0 rfl) ?_
    refine va_get (D := D) (ci := 0) (v := .int (iv (dv ds))) (C := RX0) (T := TX0) (N := 9) hx hb hts in_X0 hown hK hP 0 rfl rfl 6 (by decide) lk32 (fun _ h9 => h9) rfl dX0_tally_48 ?_
    refine r_if_ne hx hb 58 dX0_tally_51 (by decide) (by omega) (fun c_51 => ?_) (fun c_51 => ?_)
    · skip
      refine r_const hx hb dX0_tally_58 ?_
      exact e_int hx hb hr hlk dX0_tally_59 hS hP hD (by decide) (by decide) (⟨by unfold tally; simp only [reduceIte, show ¬ (5 : Int) = 4 by decide, show ¬ (6 : Int) = 4 by decide, show ¬ (6 : Int) = 5 by decide, show ¬ (7 : Int) = 4 by decide, show ¬ (7 : Int) = 5 by decide, show ¬ (7 : Int) = 6 by decide, show ¬ (1 : Int) = 0 by decide, show ¬ (2 : Int) = 0 by decide, show ¬ (2 : Int) = 1 by decide, show ¬ (3 : Int) = 0 by decide, show ¬ (3 : Int) = 1 by decide, show ¬ (3 : Int) = 2 by decide, show ¬ (4 : Int) = 0 by decide, show ¬ (4 : Int) = 1 by decide, show ¬ (4 : Int) = 2 by decide, show ¬ (4 : Int) = 3 by decide, if_true, if_false]; try first | rfl | (rw [if_pos (by omega)]) | (rw [if_neg (by omega)]) | (rw [if_neg (by omega), if_neg (by omega)]), rfl⟩)
    · skip
      refine r_const hx hb dX0_tally_54 ?_
      refine r_goto hx hb 59 dX0_tally_55 (by decide) ?_
      exact e_int hx hb hr hlk dX0_tally_59 hS hP hD (by decide) (by decide) (⟨by unfold tally; simp only [reduceIte, show ¬ (5 : Int) = 4 by decide, show ¬ (6 : Int) = 4 by decide, show ¬ (6 : Int) = 5 by decide, show ¬ (7 : Int) = 4 by decide, show ¬ (7 : Int) = 5 by decide, show ¬ (7 : Int) = 6 by decide, show ¬ (1 : Int) = 0 by decide, show ¬ (2 : Int) = 0 by decide, show ¬ (2 : Int) = 1 by decide, show ¬ (3 : Int) = 0 by decide, show ¬ (3 : Int) = 1 by decide, show ¬ (3 : Int) = 2 by decide, show ¬ (4 : Int) = 0 by decide, show ¬ (4 : Int) = 1 by decide, show ¬ (4 : Int) = 2 by decide, show ¬ (4 : Int) = 3 by decide, if_true, if_false]; try first | rfl | (rw [if_pos (by omega)]) | (rw [if_neg (by omega)]) | (rw [if_neg (by omega), if_neg (by omega)]), rfl⟩)
  · skip
    refine lv_tableOut (tgt := 60) hx hb dX0_tally_1 (by decide) (by decide) ?_
    refine lv_aload_n hx hb dX0_tally_60 rfl (lv_at hl 0 rfl) ?_
    refine lv_bipush (v := iv 9) hx hb dX0_tally_61 (by decide) ?_
    have hp := wsp ([(a 0, .inr (0, [.ref (a 1), .ref (a 2), .ref (a 3), .ref (a 4), .ref (a 5), .int (iv (dg ds)), .int (iv (dv ds)), .int (iv (dn ds)), .int (iv (dt ds))])), (a 1, .inl (G 0, 6, .inl (fun j => iv (dA ds j)))), (a 2, .inl (G 0, 6, .inl (fun j => iv (dW ds j)))), (a 3, .inl (G 0, 6, .inl (fun j => iv (dQ ds j)))), (a 4, .inl (G 1, 2, .inl (fun j => iv (dO ds j)))), (a 5, .inl (G 0, 2, .inl (fun j => iv (dU ds j))))]) ([]) 6 (is := [0, 1, 2, 3, 4, 5]) (js := []) (wc := wDoll G a ds) (wr := []) (by decide) rfl rfl rfl
    skip
    refine k_int (g_V (As := [.int (iv 9)]) (rest := []) (q0 := 0) (ci := 0) ⟨hx, hb, hml, hown, hts⟩ (c_X0_eyesWithDust l D G a ds hok 9 (by decide)) (cwV 1 hts gX0_tally_X0_eyesWithDust rfl rfl rfl (by decide +kernel) ⟨Nat.le_of_ble_eq_true rfl, Nat.le_of_ble_eq_true rfl⟩) hK hP hD hp rfl rfl rfl rfl hl.1 rfl (Nat.le_of_ble_eq_true rfl) dX0_tally_63 ⟨by decide, by decide⟩) hP hD hS hA hp (fun v u H locs hw hP hD hS => ?_)
    obtain ⟨rfl, rfl⟩ := hw
    have hP : va_P D vwCl ([(a 0, .inr (0, [.ref (a 1), .ref (a 2), .ref (a 3), .ref (a 4), .ref (a 5), .int (iv (dg ds)), .int (iv (dv ds)), .int (iv (dn ds)), .int (iv (dt ds))])), (a 1, .inl (G 0, 6, .inl (fun j => iv (dA ds j)))), (a 2, .inl (G 0, 6, .inl (fun j => iv (dW ds j)))), (a 3, .inl (G 0, 6, .inl (fun j => iv (dQ ds j)))), (a 4, .inl (G 1, 2, .inl (fun j => iv (dO ds j)))), (a 5, .inl (G 0, 2, .inl (fun j => iv (dU ds j))))]) H := hP
    have hD : va_D A ([(a 0, .inr (0, [.ref (a 1), .ref (a 2), .ref (a 3), .ref (a 4), .ref (a 5), .int (iv (dg ds)), .int (iv (dv ds)), .int (iv (dn ds)), .int (iv (dt ds))])), (a 1, .inl (G 0, 6, .inl (fun j => iv (dA ds j)))), (a 2, .inl (G 0, 6, .inl (fun j => iv (dW ds j)))), (a 3, .inl (G 0, 6, .inl (fun j => iv (dQ ds j)))), (a 4, .inl (G 1, 2, .inl (fun j => iv (dO ds j)))), (a 5, .inl (G 0, 2, .inl (fun j => iv (dU ds j))))]) := hD
    exact e_int hx hb hr hlk dX0_tally_66 hS hP hD (by decide) (by decide) (⟨by unfold tally; simp only [reduceIte, show ¬ (5 : Int) = 4 by decide, show ¬ (6 : Int) = 4 by decide, show ¬ (6 : Int) = 5 by decide, show ¬ (7 : Int) = 4 by decide, show ¬ (7 : Int) = 5 by decide, show ¬ (7 : Int) = 6 by decide, show ¬ (1 : Int) = 0 by decide, show ¬ (2 : Int) = 0 by decide, show ¬ (2 : Int) = 1 by decide, show ¬ (3 : Int) = 0 by decide, show ¬ (3 : Int) = 1 by decide, show ¬ (3 : Int) = 2 by decide, show ¬ (4 : Int) = 0 by decide, show ¬ (4 : Int) = 1 by decide, show ¬ (4 : Int) = 2 by decide, show ¬ (4 : Int) = 3 by decide, if_true, if_false]; try first | rfl | (rw [if_pos (by omega)]) | (rw [if_neg (by omega)]) | (rw [if_neg (by omega), if_neg (by omega)]), rfl⟩)
set_option maxHeartbeats 4000000 in
set_option maxRecDepth 100000 in
theorem c_X0_wants (l : Launch) (D : va_G) (G : Nat → ClassId) (a : Nat → Nat) (ds : DS) (hok : okD ds) (kind : Int) (hki : 0 ≤ kind ∧ kind ≤ 4) : MtG l yX0_wants wsX0_wants 1 40 0 0 D (TY G) [.ref (a 0), .int (iv kind)] (wDoll G a ds) (qI D (fun r u => r = iv (wants kind ds) ∧ u = wDoll G a ds)) := by
  refine MtG.mk (cc := cX0_wants) (maxL := 2) (ret := some .int) (by decide) rfl (Nat.le_of_ble_eq_true rfl) ?_
  intro p e s m below meth c A ls hx hb hr hlk hml hown hin hts hK hA hP hD hS hl
  replace hown : s.vm.findClass RX0 = some m.cls := hown
  have hl : lv_has ls 2 [(0, .ref (a 0)), (1, .int (iv kind))] := hl
  skip
  have hP : va_P D vwCl ([(a 0, .inr (0, [.ref (a 1), .ref (a 2), .ref (a 3), .ref (a 4), .ref (a 5), .int (iv (dg ds)), .int (iv (dv ds)), .int (iv (dn ds)), .int (iv (dt ds))])), (a 1, .inl (G 0, 6, .inl (fun j => iv (dA ds j)))), (a 2, .inl (G 0, 6, .inl (fun j => iv (dW ds j)))), (a 3, .inl (G 0, 6, .inl (fun j => iv (dQ ds j)))), (a 4, .inl (G 1, 2, .inl (fun j => iv (dO ds j)))), (a 5, .inl (G 0, 2, .inl (fun j => iv (dU ds j))))]) s.heap := hP
  have hD : va_D A ([(a 0, .inr (0, [.ref (a 1), .ref (a 2), .ref (a 3), .ref (a 4), .ref (a 5), .int (iv (dg ds)), .int (iv (dv ds)), .int (iv (dn ds)), .int (iv (dt ds))])), (a 1, .inl (G 0, 6, .inl (fun j => iv (dA ds j)))), (a 2, .inl (G 0, 6, .inl (fun j => iv (dW ds j)))), (a 3, .inl (G 0, 6, .inl (fun j => iv (dQ ds j)))), (a 4, .inl (G 1, 2, .inl (fun j => iv (dO ds j)))), (a 5, .inl (G 0, 2, .inl (fun j => iv (dU ds j))))]) := hD
  have lk32 := hts (.fieldLink RX0 32 "DollCitadel$Doll" "weight" "I") (by decide +kernel)
  have in_X0 : ∀ w ∈ u_ws RX0 TX0 9, w ∈ wsX0_wants := by decide +kernel
  have lk35 := hts (.fieldLink RX0 35 "DollCitadel$Doll" "pins" "I") (by decide +kernel)
  have lk28 := hts (.fieldLink RX0 28 "DollCitadel$Doll" "wigEaten" "I") (by decide +kernel)
  obtain ⟨-, -, og, ov, on, ovn, ovn2⟩ := id hok
  have bq := cnt_bound (fun j => decide (5 ≤ dU ds j)) 2
  replace bq : 0 ≤ cntU 5 ds ∧ cntU 5 ds ≤ 2 := bq
  refine lv_iload_n hx hb dX0_wants_0 rfl (lv_at hl 1 rfl) ?_
  rcases (show kind = 0 ∨ kind = 1 ∨ kind = 2 ∨ kind = 3 ∨ kind = 4 by omega) with rfl | rfl | rfl | rfl | rfl
  · skip
    refine lv_tableIn (off := 31) (tgt := 32) hx hb dX0_wants_1 (by decide) (by decide) (by decide) (by decide) ?_
    refine lv_aload_n hx hb dX0_wants_32 rfl (lv_at hl 0 rfl) ?_
    refine lv_bipush (v := iv 50) hx hb dX0_wants_33 (by decide) ?_
    have hp := wsp ([(a 0, .inr (0, [.ref (a 1), .ref (a 2), .ref (a 3), .ref (a 4), .ref (a 5), .int (iv (dg ds)), .int (iv (dv ds)), .int (iv (dn ds)), .int (iv (dt ds))])), (a 1, .inl (G 0, 6, .inl (fun j => iv (dA ds j)))), (a 2, .inl (G 0, 6, .inl (fun j => iv (dW ds j)))), (a 3, .inl (G 0, 6, .inl (fun j => iv (dQ ds j)))), (a 4, .inl (G 1, 2, .inl (fun j => iv (dO ds j)))), (a 5, .inl (G 0, 2, .inl (fun j => iv (dU ds j))))]) ([]) 6 (is := [0, 1, 2, 3, 4, 5]) (js := []) (wc := wDoll G a ds) (wr := []) (by decide) rfl rfl rfl
    skip
    refine k_int (g_V (As := [.int (iv 50)]) (rest := []) (q0 := 0) (ci := 0) ⟨hx, hb, hml, hown, hts⟩ (c_X0_jointsWornBy l D G a ds hok 50 (by decide)) (cwV 1 hts gX0_wants_X0_jointsWornBy rfl rfl rfl (by decide +kernel) ⟨Nat.le_of_ble_eq_true rfl, Nat.le_of_ble_eq_true rfl⟩) hK hP hD hp rfl rfl rfl rfl hl.1 rfl (Nat.le_of_ble_eq_true rfl) dX0_wants_35 ⟨by decide, by decide⟩) hP hD hS hA hp (fun v u H locs hw hP hD hS => ?_)
    obtain ⟨rfl, rfl⟩ := hw
    have hP : va_P D vwCl ([(a 0, .inr (0, [.ref (a 1), .ref (a 2), .ref (a 3), .ref (a 4), .ref (a 5), .int (iv (dg ds)), .int (iv (dv ds)), .int (iv (dn ds)), .int (iv (dt ds))])), (a 1, .inl (G 0, 6, .inl (fun j => iv (dA ds j)))), (a 2, .inl (G 0, 6, .inl (fun j => iv (dW ds j)))), (a 3, .inl (G 0, 6, .inl (fun j => iv (dQ ds j)))), (a 4, .inl (G 1, 2, .inl (fun j => iv (dO ds j)))), (a 5, .inl (G 0, 2, .inl (fun j => iv (dU ds j))))]) H := hP
    have hD : va_D A ([(a 0, .inr (0, [.ref (a 1), .ref (a 2), .ref (a 3), .ref (a 4), .ref (a 5), .int (iv (dg ds)), .int (iv (dv ds)), .int (iv (dn ds)), .int (iv (dt ds))])), (a 1, .inl (G 0, 6, .inl (fun j => iv (dA ds j)))), (a 2, .inl (G 0, 6, .inl (fun j => iv (dW ds j)))), (a 3, .inl (G 0, 6, .inl (fun j => iv (dQ ds j)))), (a 4, .inl (G 1, 2, .inl (fun j => iv (dO ds j)))), (a 5, .inl (G 0, 2, .inl (fun j => iv (dU ds j))))]) := hD
    exact e_int hx hb hr hlk dX0_wants_38 hS hP hD (by decide) (by decide) (⟨by unfold wants; simp only [reduceIte, show ¬ (5 : Int) = 4 by decide, show ¬ (6 : Int) = 4 by decide, show ¬ (6 : Int) = 5 by decide, show ¬ (7 : Int) = 4 by decide, show ¬ (7 : Int) = 5 by decide, show ¬ (7 : Int) = 6 by decide, show ¬ (1 : Int) = 0 by decide, show ¬ (2 : Int) = 0 by decide, show ¬ (2 : Int) = 1 by decide, show ¬ (3 : Int) = 0 by decide, show ¬ (3 : Int) = 1 by decide, show ¬ (3 : Int) = 2 by decide, show ¬ (4 : Int) = 0 by decide, show ¬ (4 : Int) = 1 by decide, show ¬ (4 : Int) = 2 by decide, show ¬ (4 : Int) = 3 by decide, if_true, if_false]; try first | rfl | (rw [if_pos (by omega)]) | (rw [if_neg (by omega)]) | (rw [if_neg (by omega), if_neg (by omega)]), rfl⟩)
  · skip
    refine lv_tableIn (off := 38) (tgt := 39) hx hb dX0_wants_1 (by decide) (by decide) (by decide) (by decide) ?_
    refine lv_aload_n hx hb dX0_wants_39 rfl (lv_at hl 0 rfl) ?_
    have hp := wsp ([(a 0, .inr (0, [.ref (a 1), .ref (a 2), .ref (a 3), .ref (a 4), .ref (a 5), .int (iv (dg ds)), .int (iv (dv ds)), .int (iv (dn ds)), .int (iv (dt ds))])), (a 1, .inl (G 0, 6, .inl (fun j => iv (dA ds j)))), (a 2, .inl (G 0, 6, .inl (fun j => iv (dW ds j)))), (a 3, .inl (G 0, 6, .inl (fun j => iv (dQ ds j)))), (a 4, .inl (G 1, 2, .inl (fun j => iv (dO ds j)))), (a 5, .inl (G 0, 2, .inl (fun j => iv (dU ds j))))]) ([]) 6 (is := [0, 1, 2, 3, 4, 5]) (js := []) (wc := wDoll G a ds) (wr := []) (by decide) rfl rfl rfl
    skip
    refine k_int (g_V (As := []) (rest := []) (q0 := 0) (ci := 0) ⟨hx, hb, hml, hown, hts⟩ (c_X0_jointsWithoutLacquer l D G a ds hok ) (cwV 0 hts gX0_wants_X0_jointsWithoutLacquer rfl rfl rfl (by decide +kernel) ⟨Nat.le_of_ble_eq_true rfl, Nat.le_of_ble_eq_true rfl⟩) hK hP hD hp rfl rfl rfl rfl hl.1 rfl (Nat.le_of_ble_eq_true rfl) dX0_wants_40 ⟨by decide, by decide⟩) hP hD hS hA hp (fun v u H locs hw hP hD hS => ?_)
    obtain ⟨rfl, rfl⟩ := hw
    have hP : va_P D vwCl ([(a 0, .inr (0, [.ref (a 1), .ref (a 2), .ref (a 3), .ref (a 4), .ref (a 5), .int (iv (dg ds)), .int (iv (dv ds)), .int (iv (dn ds)), .int (iv (dt ds))])), (a 1, .inl (G 0, 6, .inl (fun j => iv (dA ds j)))), (a 2, .inl (G 0, 6, .inl (fun j => iv (dW ds j)))), (a 3, .inl (G 0, 6, .inl (fun j => iv (dQ ds j)))), (a 4, .inl (G 1, 2, .inl (fun j => iv (dO ds j)))), (a 5, .inl (G 0, 2, .inl (fun j => iv (dU ds j))))]) H := hP
    have hD : va_D A ([(a 0, .inr (0, [.ref (a 1), .ref (a 2), .ref (a 3), .ref (a 4), .ref (a 5), .int (iv (dg ds)), .int (iv (dv ds)), .int (iv (dn ds)), .int (iv (dt ds))])), (a 1, .inl (G 0, 6, .inl (fun j => iv (dA ds j)))), (a 2, .inl (G 0, 6, .inl (fun j => iv (dW ds j)))), (a 3, .inl (G 0, 6, .inl (fun j => iv (dQ ds j)))), (a 4, .inl (G 1, 2, .inl (fun j => iv (dO ds j)))), (a 5, .inl (G 0, 2, .inl (fun j => iv (dU ds j))))]) := hD
    exact e_int hx hb hr hlk dX0_wants_43 hS hP hD (by decide) (by decide) (⟨by unfold wants; simp only [reduceIte, show ¬ (5 : Int) = 4 by decide, show ¬ (6 : Int) = 4 by decide, show ¬ (6 : Int) = 5 by decide, show ¬ (7 : Int) = 4 by decide, show ¬ (7 : Int) = 5 by decide, show ¬ (7 : Int) = 6 by decide, show ¬ (1 : Int) = 0 by decide, show ¬ (2 : Int) = 0 by decide, show ¬ (2 : Int) = 1 by decide, show ¬ (3 : Int) = 0 by decide, show ¬ (3 : Int) = 1 by decide, show ¬ (3 : Int) = 2 by decide, show ¬ (4 : Int) = 0 by decide, show ¬ (4 : Int) = 1 by decide, show ¬ (4 : Int) = 2 by decide, show ¬ (4 : Int) = 3 by decide, if_true, if_false]; try first | rfl | (rw [if_pos (by omega)]) | (rw [if_neg (by omega)]) | (rw [if_neg (by omega), if_neg (by omega)]), rfl⟩)
  · skip
    refine lv_tableIn (off := 43) (tgt := 44) hx hb dX0_wants_1 (by decide) (by decide) (by decide) (by decide) ?_
    refine lv_aload_n hx hb dX0_wants_44 rfl (lv_at hl 0 rfl) ?_
    refine va_get (D := D) (ci := 0) (v := .int (iv (dv ds))) (C := RX0) (T := TX0) (N := 9) hx hb hts in_X0 hown hK hP 0 rfl rfl 6 (by decide) lk32 (fun _ h9 => h9) rfl dX0_wants_45 ?_
    refine r_if_ne hx hb 55 dX0_wants_48 (by decide) (by omega) (fun c_48 => ?_) (fun c_48 => ?_)
    · skip
      refine lv_bipush (v := iv 12) hx hb dX0_wants_55 (by decide) ?_
      refine lv_aload_n hx hb dX0_wants_57 rfl (lv_at hl 0 rfl) ?_
      refine va_get (D := D) (ci := 0) (v := .int (iv (dn ds))) (C := RX0) (T := TX0) (N := 9) hx hb hts in_X0 hown hK hP 0 rfl rfl 7 (by decide) lk35 (fun _ h9 => h9) rfl dX0_wants_58 ?_
      refine r_sub hx hb dX0_wants_61 ?_
      exact e_int hx hb hr hlk dX0_wants_62 hS hP hD (by decide) (by decide) (⟨by unfold wants; simp only [reduceIte, show ¬ (5 : Int) = 4 by decide, show ¬ (6 : Int) = 4 by decide, show ¬ (6 : Int) = 5 by decide, show ¬ (7 : Int) = 4 by decide, show ¬ (7 : Int) = 5 by decide, show ¬ (7 : Int) = 6 by decide, show ¬ (1 : Int) = 0 by decide, show ¬ (2 : Int) = 0 by decide, show ¬ (2 : Int) = 1 by decide, show ¬ (3 : Int) = 0 by decide, show ¬ (3 : Int) = 1 by decide, show ¬ (3 : Int) = 2 by decide, show ¬ (4 : Int) = 0 by decide, show ¬ (4 : Int) = 1 by decide, show ¬ (4 : Int) = 2 by decide, show ¬ (4 : Int) = 3 by decide, if_true, if_false]; try first | rfl | (rw [if_pos (by omega)]) | (rw [if_neg (by omega)]) | (rw [if_neg (by omega), if_neg (by omega)]), rfl⟩)
    · skip
      refine r_const hx hb dX0_wants_51 ?_
      refine r_goto hx hb 62 dX0_wants_52 (by decide) ?_
      exact e_int hx hb hr hlk dX0_wants_62 hS hP hD (by decide) (by decide) (⟨by unfold wants; simp only [reduceIte, show ¬ (5 : Int) = 4 by decide, show ¬ (6 : Int) = 4 by decide, show ¬ (6 : Int) = 5 by decide, show ¬ (7 : Int) = 4 by decide, show ¬ (7 : Int) = 5 by decide, show ¬ (7 : Int) = 6 by decide, show ¬ (1 : Int) = 0 by decide, show ¬ (2 : Int) = 0 by decide, show ¬ (2 : Int) = 1 by decide, show ¬ (3 : Int) = 0 by decide, show ¬ (3 : Int) = 1 by decide, show ¬ (3 : Int) = 2 by decide, show ¬ (4 : Int) = 0 by decide, show ¬ (4 : Int) = 1 by decide, show ¬ (4 : Int) = 2 by decide, show ¬ (4 : Int) = 3 by decide, if_true, if_false]; try first | rfl | (rw [if_pos (by omega)]) | (rw [if_neg (by omega)]) | (rw [if_neg (by omega), if_neg (by omega)]), rfl⟩)
  · skip
    refine lv_tableIn (off := 62) (tgt := 63) hx hb dX0_wants_1 (by decide) (by decide) (by decide) (by decide) ?_
    refine lv_aload_n hx hb dX0_wants_63 rfl (lv_at hl 0 rfl) ?_
    refine r_const hx hb dX0_wants_64 ?_
    have hp := wsp ([(a 0, .inr (0, [.ref (a 1), .ref (a 2), .ref (a 3), .ref (a 4), .ref (a 5), .int (iv (dg ds)), .int (iv (dv ds)), .int (iv (dn ds)), .int (iv (dt ds))])), (a 1, .inl (G 0, 6, .inl (fun j => iv (dA ds j)))), (a 2, .inl (G 0, 6, .inl (fun j => iv (dW ds j)))), (a 3, .inl (G 0, 6, .inl (fun j => iv (dQ ds j)))), (a 4, .inl (G 1, 2, .inl (fun j => iv (dO ds j)))), (a 5, .inl (G 0, 2, .inl (fun j => iv (dU ds j))))]) ([]) 6 (is := [0, 1, 2, 3, 4, 5]) (js := []) (wc := wDoll G a ds) (wr := []) (by decide) rfl rfl rfl
    skip
    refine k_int (g_V (As := [.int (iv 5)]) (rest := []) (q0 := 0) (ci := 0) ⟨hx, hb, hml, hown, hts⟩ (c_X0_eyesWithDust l D G a ds hok 5 (by decide)) (cwV 1 hts gX0_wants_X0_eyesWithDust rfl rfl rfl (by decide +kernel) ⟨Nat.le_of_ble_eq_true rfl, Nat.le_of_ble_eq_true rfl⟩) hK hP hD hp rfl rfl rfl rfl hl.1 rfl (Nat.le_of_ble_eq_true rfl) dX0_wants_65 ⟨by decide, by decide⟩) hP hD hS hA hp (fun v u H locs hw hP hD hS => ?_)
    obtain ⟨rfl, rfl⟩ := hw
    have hP : va_P D vwCl ([(a 0, .inr (0, [.ref (a 1), .ref (a 2), .ref (a 3), .ref (a 4), .ref (a 5), .int (iv (dg ds)), .int (iv (dv ds)), .int (iv (dn ds)), .int (iv (dt ds))])), (a 1, .inl (G 0, 6, .inl (fun j => iv (dA ds j)))), (a 2, .inl (G 0, 6, .inl (fun j => iv (dW ds j)))), (a 3, .inl (G 0, 6, .inl (fun j => iv (dQ ds j)))), (a 4, .inl (G 1, 2, .inl (fun j => iv (dO ds j)))), (a 5, .inl (G 0, 2, .inl (fun j => iv (dU ds j))))]) H := hP
    have hD : va_D A ([(a 0, .inr (0, [.ref (a 1), .ref (a 2), .ref (a 3), .ref (a 4), .ref (a 5), .int (iv (dg ds)), .int (iv (dv ds)), .int (iv (dn ds)), .int (iv (dt ds))])), (a 1, .inl (G 0, 6, .inl (fun j => iv (dA ds j)))), (a 2, .inl (G 0, 6, .inl (fun j => iv (dW ds j)))), (a 3, .inl (G 0, 6, .inl (fun j => iv (dQ ds j)))), (a 4, .inl (G 1, 2, .inl (fun j => iv (dO ds j)))), (a 5, .inl (G 0, 2, .inl (fun j => iv (dU ds j))))]) := hD
    refine r_if_le hx hb 75 dX0_wants_68 (by decide) (by omega) (fun c_68 => ?_) (fun c_68 => ?_)
    · skip
      refine r_const hx hb dX0_wants_75 ?_
      exact e_int hx hb hr hlk dX0_wants_76 hS hP hD (by decide) (by decide) (⟨by unfold wants; simp only [reduceIte, show ¬ (5 : Int) = 4 by decide, show ¬ (6 : Int) = 4 by decide, show ¬ (6 : Int) = 5 by decide, show ¬ (7 : Int) = 4 by decide, show ¬ (7 : Int) = 5 by decide, show ¬ (7 : Int) = 6 by decide, show ¬ (1 : Int) = 0 by decide, show ¬ (2 : Int) = 0 by decide, show ¬ (2 : Int) = 1 by decide, show ¬ (3 : Int) = 0 by decide, show ¬ (3 : Int) = 1 by decide, show ¬ (3 : Int) = 2 by decide, show ¬ (4 : Int) = 0 by decide, show ¬ (4 : Int) = 1 by decide, show ¬ (4 : Int) = 2 by decide, show ¬ (4 : Int) = 3 by decide, if_true, if_false]; try first | rfl | (rw [if_pos (by omega)]) | (rw [if_neg (by omega)]) | (rw [if_neg (by omega), if_neg (by omega)]), rfl⟩)
    · skip
      refine r_const hx hb dX0_wants_71 ?_
      refine r_goto hx hb 76 dX0_wants_72 (by decide) ?_
      exact e_int hx hb hr hlk dX0_wants_76 hS hP hD (by decide) (by decide) (⟨by unfold wants; simp only [reduceIte, show ¬ (5 : Int) = 4 by decide, show ¬ (6 : Int) = 4 by decide, show ¬ (6 : Int) = 5 by decide, show ¬ (7 : Int) = 4 by decide, show ¬ (7 : Int) = 5 by decide, show ¬ (7 : Int) = 6 by decide, show ¬ (1 : Int) = 0 by decide, show ¬ (2 : Int) = 0 by decide, show ¬ (2 : Int) = 1 by decide, show ¬ (3 : Int) = 0 by decide, show ¬ (3 : Int) = 1 by decide, show ¬ (3 : Int) = 2 by decide, show ¬ (4 : Int) = 0 by decide, show ¬ (4 : Int) = 1 by decide, show ¬ (4 : Int) = 2 by decide, show ¬ (4 : Int) = 3 by decide, if_true, if_false]; try first | rfl | (rw [if_pos (by omega)]) | (rw [if_neg (by omega)]) | (rw [if_neg (by omega), if_neg (by omega)]), rfl⟩)
  · skip
    refine lv_tableOut (tgt := 77) hx hb dX0_wants_1 (by decide) (by decide) ?_
    refine lv_aload_n hx hb dX0_wants_77 rfl (lv_at hl 0 rfl) ?_
    refine va_get (D := D) (ci := 0) (v := .int (iv (dg ds))) (C := RX0) (T := TX0) (N := 9) hx hb hts in_X0 hown hK hP 0 rfl rfl 5 (by decide) lk28 (fun _ h9 => h9) rfl dX0_wants_78 ?_
    refine r_const hx hb dX0_wants_81 ?_
    refine r_icmp_eq hx hb 93 dX0_wants_82 (by decide) (by omega) (by omega) (fun c_82 => ?_) (fun c_82 => ?_)
    · skip
      refine r_const hx hb dX0_wants_93 ?_
      refine r_goto hx hb 98 dX0_wants_94 (by decide) ?_
      exact e_int hx hb hr hlk dX0_wants_98 hS hP hD (by decide) (by decide) (⟨by unfold wants; simp only [reduceIte, show ¬ (5 : Int) = 4 by decide, show ¬ (6 : Int) = 4 by decide, show ¬ (6 : Int) = 5 by decide, show ¬ (7 : Int) = 4 by decide, show ¬ (7 : Int) = 5 by decide, show ¬ (7 : Int) = 6 by decide, show ¬ (1 : Int) = 0 by decide, show ¬ (2 : Int) = 0 by decide, show ¬ (2 : Int) = 1 by decide, show ¬ (3 : Int) = 0 by decide, show ¬ (3 : Int) = 1 by decide, show ¬ (3 : Int) = 2 by decide, show ¬ (4 : Int) = 0 by decide, show ¬ (4 : Int) = 1 by decide, show ¬ (4 : Int) = 2 by decide, show ¬ (4 : Int) = 3 by decide, if_true, if_false]; try first | rfl | (rw [if_pos (by omega)]) | (rw [if_neg (by omega)]) | (rw [if_neg (by omega), if_neg (by omega)]), rfl⟩)
    · skip
      refine lv_aload_n hx hb dX0_wants_85 rfl (lv_at hl 0 rfl) ?_
      refine va_get (D := D) (ci := 0) (v := .int (iv (dg ds))) (C := RX0) (T := TX0) (N := 9) hx hb hts in_X0 hown hK hP 0 rfl rfl 5 (by decide) lk28 (fun _ h9 => h9) rfl dX0_wants_86 ?_
      refine r_const hx hb dX0_wants_89 ?_
      refine r_icmp_lt hx hb 97 dX0_wants_90 (by decide) (by omega) (by omega) (fun c_90 => ?_) (fun c_90 => ?_)
      · skip
        refine r_const hx hb dX0_wants_97 ?_
        exact e_int hx hb hr hlk dX0_wants_98 hS hP hD (by decide) (by decide) (⟨by unfold wants; simp only [reduceIte, show ¬ (5 : Int) = 4 by decide, show ¬ (6 : Int) = 4 by decide, show ¬ (6 : Int) = 5 by decide, show ¬ (7 : Int) = 4 by decide, show ¬ (7 : Int) = 5 by decide, show ¬ (7 : Int) = 6 by decide, show ¬ (1 : Int) = 0 by decide, show ¬ (2 : Int) = 0 by decide, show ¬ (2 : Int) = 1 by decide, show ¬ (3 : Int) = 0 by decide, show ¬ (3 : Int) = 1 by decide, show ¬ (3 : Int) = 2 by decide, show ¬ (4 : Int) = 0 by decide, show ¬ (4 : Int) = 1 by decide, show ¬ (4 : Int) = 2 by decide, show ¬ (4 : Int) = 3 by decide, if_true, if_false]; try first | rfl | (rw [if_pos (by omega)]) | (rw [if_neg (by omega)]) | (rw [if_neg (by omega), if_neg (by omega)]), rfl⟩)
      · skip
        refine r_const hx hb dX0_wants_93 ?_
        refine r_goto hx hb 98 dX0_wants_94 (by decide) ?_
        exact e_int hx hb hr hlk dX0_wants_98 hS hP hD (by decide) (by decide) (⟨by unfold wants; simp only [reduceIte, show ¬ (5 : Int) = 4 by decide, show ¬ (6 : Int) = 4 by decide, show ¬ (6 : Int) = 5 by decide, show ¬ (7 : Int) = 4 by decide, show ¬ (7 : Int) = 5 by decide, show ¬ (7 : Int) = 6 by decide, show ¬ (1 : Int) = 0 by decide, show ¬ (2 : Int) = 0 by decide, show ¬ (2 : Int) = 1 by decide, show ¬ (3 : Int) = 0 by decide, show ¬ (3 : Int) = 1 by decide, show ¬ (3 : Int) = 2 by decide, show ¬ (4 : Int) = 0 by decide, show ¬ (4 : Int) = 1 by decide, show ¬ (4 : Int) = 2 by decide, show ¬ (4 : Int) = 3 by decide, if_true, if_false]; try first | rfl | (rw [if_pos (by omega)]) | (rw [if_neg (by omega)]) | (rw [if_neg (by omega), if_neg (by omega)]), rfl⟩)
set_option maxHeartbeats 4000000 in
set_option maxRecDepth 100000 in
theorem c_X0_turnTo (l : Launch) (D : va_G) (G : Nat → ClassId) (a : Nat → Nat) (ds : DS) (hok : okD ds) (b : Nat → Nat) (P : Nat → Int) (hP0 : okP P) : MtG l yX0_turnTo wsX0_turnTo 2 80 0 0 D (TY G) [.ref (a 0), .ref (b 0)] (wDoll G a ds ++ wPose G b P) (qV D (fun u => u = wDoll G a (turnN P 6 ds) ++ wPose G b P)) := by
  refine MtG.mk (cc := cX0_turnTo) (maxL := 4) (ret := none) (by decide) rfl (Nat.le_of_ble_eq_true rfl) ?_
  intro p e s m below meth c A ls hx hb hr hlk hml hown hin hts hK hA hP hD hS hl
  replace hown : s.vm.findClass RX0 = some m.cls := hown
  have hl : lv_has ls 4 [(0, .ref (a 0)), (1, .ref (b 0))] := hl
  skip
  have hP : va_P D vwCl ([(a 0, .inr (0, [.ref (a 1), .ref (a 2), .ref (a 3), .ref (a 4), .ref (a 5), .int (iv (dg ds)), .int (iv (dv ds)), .int (iv (dn ds)), .int (iv (dt ds))])), (a 1, .inl (G 0, 6, .inl (fun j => iv (dA ds j)))), (a 2, .inl (G 0, 6, .inl (fun j => iv (dW ds j)))), (a 3, .inl (G 0, 6, .inl (fun j => iv (dQ ds j)))), (a 4, .inl (G 1, 2, .inl (fun j => iv (dO ds j)))), (a 5, .inl (G 0, 2, .inl (fun j => iv (dU ds j)))), (b 0, .inr (1, [.ref (b 1)])), (b 1, .inl (G 0, 6, .inl (fun j => iv (P j))))]) s.heap := hP
  have hD : va_D A ([(a 0, .inr (0, [.ref (a 1), .ref (a 2), .ref (a 3), .ref (a 4), .ref (a 5), .int (iv (dg ds)), .int (iv (dv ds)), .int (iv (dn ds)), .int (iv (dt ds))])), (a 1, .inl (G 0, 6, .inl (fun j => iv (dA ds j)))), (a 2, .inl (G 0, 6, .inl (fun j => iv (dW ds j)))), (a 3, .inl (G 0, 6, .inl (fun j => iv (dQ ds j)))), (a 4, .inl (G 1, 2, .inl (fun j => iv (dO ds j)))), (a 5, .inl (G 0, 2, .inl (fun j => iv (dU ds j)))), (b 0, .inr (1, [.ref (b 1)])), (b 1, .inl (G 0, 6, .inl (fun j => iv (P j))))]) := hD
  have lk41 := hts (.fieldLink RX0 41 "DollCitadel$Pose" "angles" "[I") (by decide +kernel)
  have in_X1 : ∀ w ∈ u_ws RX1 TX1 1, w ∈ wsX0_turnTo := by decide +kernel
  have lk9 := hts (.fieldLink RX0 9 "DollCitadel$Doll" "angles" "[I") (by decide +kernel)
  have in_X0 : ∀ w ∈ u_ws RX0 TX0 9, w ∈ wsX0_turnTo := by decide +kernel
  have lk15 := hts (.fieldLink RX0 15 "DollCitadel$Doll" "wears" "[I") (by decide +kernel)
  have lk18 := hts (.fieldLink RX0 18 "DollCitadel$Doll" "lacquers" "[I") (by decide +kernel)
  refine r_const hx hb dX0_turnTo_0 ?_
  refine lv_istore_n (lv' := [(2, .int (iv 0)), (0, .ref (a 0)), (1, .ref (b 0))]) hx hb dX0_turnTo_1 rfl hl (by decide) rfl (fun ls hl => ?_)
  have K2 : ∀ (n i : Nat) (st : DS), i ≤ 6 → 6 < i + n → st = turnN P i ds → ∀ (H : Heap) (locs : List Loc), va_P D vwCl ([(a 0, .inr (0, [.ref (a 1), .ref (a 2), .ref (a 3), .ref (a 4), .ref (a 5), .int (iv (dg st)), .int (iv (dv st)), .int (iv (dn st)), .int (iv (dt st))])), (a 1, .inl (G 0, 6, .inl (fun j => iv (dA st j)))), (a 2, .inl (G 0, 6, .inl (fun j => iv (dW st j)))), (a 3, .inl (G 0, 6, .inl (fun j => iv (dQ st j)))), (a 4, .inl (G 1, 2, .inl (fun j => iv (dO st j)))), (a 5, .inl (G 0, 2, .inl (fun j => iv (dU st j)))), (b 0, .inr (1, [.ref (b 1)])), (b 1, .inl (G 0, 6, .inl (fun j => iv (P j))))]) H → va_D A ([(a 0, .inr (0, [.ref (a 1), .ref (a 2), .ref (a 3), .ref (a 4), .ref (a 5), .int (iv (dg st)), .int (iv (dv st)), .int (iv (dn st)), .int (iv (dt st))])), (a 1, .inl (G 0, 6, .inl (fun j => iv (dA st j)))), (a 2, .inl (G 0, 6, .inl (fun j => iv (dW st j)))), (a 3, .inl (G 0, 6, .inl (fun j => iv (dQ st j)))), (a 4, .inl (G 1, 2, .inl (fun j => iv (dO st j)))), (a 5, .inl (G 0, 2, .inl (fun j => iv (dU st j)))), (b 0, .inr (1, [.ref (b 1)])), (b 1, .inl (G 0, 6, .inl (fun j => iv (P j))))]) → va_S A s.heap H locs → ∀ (ls : Array Slot), lv_has ls 4 [(0, .ref (a 0)), (1, .ref (b 0)), (2, .int (iv (i : Int)))] → W p l e (rmOf 2 80 0 0) s m ([.ref (a 0), .ref (b 0)] : List Value).toArray below meth c H locs 0 0 (MQ below (qV D (fun u => u = wDoll G a (turnN P 6 ds) ++ wPose G b P) A) ([.ref (a 0), .ref (b 0)] : List Value).toArray s 0 0 A) (F0 m 2 ls []) := by
    intro n
    induction n with
    | zero => intro i st h1 h2; exact absurd h2 (by omega)
    | succ n ih2 =>
      intro i st hi_2 hn_2 es H locs hP hD hS ls hl
      have oks : okD st := by rw [es]; exact turnN_ok hP0 hok i (by omega)
      refine lv_iload_n hx hb dX0_turnTo_2 rfl (lv_at hl 2 rfl) ?_
      refine lv_bipush (v := iv 6) hx hb dX0_turnTo_3 (by decide) ?_
      refine r_icmp_ge hx hb 98 dX0_turnTo_5 (by decide) (by omega) (by omega) (fun c_5 => ?_) (fun c_5 => ?_)
      · skip
        obtain rfl : i = 6 := by omega
        subst es
        exact e_void hx hb hr hlk dX0_turnTo_98 hS hP hD (by decide) (by decide) rfl
      · skip
        refine lv_aload_n hx hb dX0_turnTo_8 rfl (lv_at hl 1 rfl) ?_
        refine va_get (D := D) (ci := 1) (v := .ref (b 1)) (C := RX1) (T := TX1) (N := 1) hx hb hts in_X1 hown hK hP 6 rfl rfl 0 (by decide) lk41 (fun _ h9 => h9) rfl dX0_turnTo_9 ?_
        refine lv_iload_n hx hb dX0_turnTo_12 rfl (lv_at hl 2 rfl) ?_
        refine r_iald (F := P) hx hb hK hP 7 0 rfl rfl i (by omega) (by omega) (by decide) dX0_turnTo_13 ?_
        have b_13 := hP0 i (by omega)
        refine lv_aload_n hx hb dX0_turnTo_14 rfl (lv_at hl 0 rfl) ?_
        refine va_get (D := D) (ci := 0) (v := .ref (a 1)) (C := RX0) (T := TX0) (N := 9) hx hb hts in_X0 hown hK hP 0 rfl rfl 0 (by decide) lk9 (fun _ h9 => h9) rfl dX0_turnTo_15 ?_
        refine lv_iload_n hx hb dX0_turnTo_18 rfl (lv_at hl 2 rfl) ?_
        refine r_iald (F := dA st) hx hb hK hP 1 0 rfl rfl i (by omega) (by omega) (by decide) dX0_turnTo_19 ?_
        have b_19 := okD_A oks i (by omega)
        refine r_sub hx hb dX0_turnTo_20 ?_
        refine r_abs hx hb (hml.trans hl.1.symm) hown (hts (.methodLink RX0 44 Lib.Math.abs.name) (by decide +kernel)) (hts (.static Lib.Math.abs.name) (by decide +kernel)) (hts (.initialized "java/lang/Math") (by decide +kernel)) (hts (.code Lib.Math.abs.name Lib.Math.abs.code 1 (some .int)) (by decide +kernel)) (Nat.le_of_ble_eq_true rfl) (Nat.le_of_ble_eq_true rfl) (Nat.le_of_ble_eq_true rfl) (Nat.le_of_ble_eq_true rfl) (by omega) dX0_turnTo_21 ?_
        refine lv_istore_n (lv' := [(3, .int (iv (max ((P i) - (dA st i)) (-((P i) - (dA st i)))))), (0, .ref (a 0)), (1, .ref (b 0)), (2, .int (iv (i : Int)))]) hx hb dX0_turnTo_24 rfl hl (by decide) rfl (fun ls hl => ?_)
        refine lv_iload_n hx hb dX0_turnTo_25 rfl (lv_at hl 0 rfl) ?_
        refine r_if_le hx hb 92 dX0_turnTo_26 (by decide) (by omega) (fun c_26 => ?_) (fun c_26 => ?_)
        · skip
          refine r_iinc (k := 3) (lv' := [(2, .int (iv ((i : Int) + 1))), (3, .int (iv (max ((P i) - (dA st i)) (-((P i) - (dA st i)))))), (0, .ref (a 0)), (1, .ref (b 0))]) hx hb dX0_turnTo_92 hl rfl (by decide) rfl (fun ls hl => ?_)
          refine r_goto hx hb 2 dX0_turnTo_95 (by decide) ?_
          exact ih2 (i + 1) st (by omega) (by omega) (by show _ = turn1 P i (turnN P i ds); rw [← es]; exact turn1_t (by omega)) _ _ hP hD hS _ (lv_sub hl [2, 3, 0] rfl)
        · skip
          refine lv_aload_n hx hb dX0_turnTo_29 rfl (lv_at hl 1 rfl) ?_
          refine va_get (D := D) (ci := 0) (v := .ref (a 2)) (C := RX0) (T := TX0) (N := 9) hx hb hts in_X0 hown hK hP 0 rfl rfl 1 (by decide) lk15 (fun _ h9 => h9) rfl dX0_turnTo_30 ?_
          refine lv_iload_n hx hb dX0_turnTo_33 rfl (lv_at hl 3 rfl) ?_
          refine r_iald (F := dW st) hx hb hK hP 2 0 rfl rfl i (by omega) (by omega) (by decide) dX0_turnTo_34 ?_
          have b_34 := okD_W oks i (by omega)
          refine lv_bipush (v := iv 100) hx hb dX0_turnTo_35 (by decide) ?_
          refine r_icmp_ge hx hb 92 dX0_turnTo_37 (by decide) (by omega) (by omega) (fun c_37 => ?_) (fun c_37 => ?_)
          · skip
            refine r_iinc (k := 3) (lv' := [(2, .int (iv ((i : Int) + 1))), (3, .int (iv (max ((P i) - (dA st i)) (-((P i) - (dA st i)))))), (0, .ref (a 0)), (1, .ref (b 0))]) hx hb dX0_turnTo_92 hl rfl (by decide) rfl (fun ls hl => ?_)
            refine r_goto hx hb 2 dX0_turnTo_95 (by decide) ?_
            exact ih2 (i + 1) st (by omega) (by omega) (by show _ = turn1 P i (turnN P i ds); rw [← es]; exact turn1_t (by omega)) _ _ hP hD hS _ (lv_sub hl [2, 3, 0] rfl)
          · skip
            refine lv_aload_n hx hb dX0_turnTo_40 rfl (lv_at hl 1 rfl) ?_
            refine va_get (D := D) (ci := 0) (v := .ref (a 2)) (C := RX0) (T := TX0) (N := 9) hx hb hts in_X0 hown hK hP 0 rfl rfl 1 (by decide) lk15 (fun _ h9 => h9) rfl dX0_turnTo_41 ?_
            refine lv_iload_n hx hb dX0_turnTo_44 rfl (lv_at hl 3 rfl) ?_
            refine lv_aload_n hx hb dX0_turnTo_45 rfl (lv_at hl 1 rfl) ?_
            refine va_get (D := D) (ci := 0) (v := .ref (a 2)) (C := RX0) (T := TX0) (N := 9) hx hb hts in_X0 hown hK hP 0 rfl rfl 1 (by decide) lk15 (fun _ h9 => h9) rfl dX0_turnTo_46 ?_
            refine lv_iload_n hx hb dX0_turnTo_49 rfl (lv_at hl 3 rfl) ?_
            refine r_iald (F := dW st) hx hb hK hP 2 0 rfl rfl i (by omega) (by omega) (by decide) dX0_turnTo_50 ?_
            have b_50 := okD_W oks i (by omega)
            refine lv_aload_n hx hb dX0_turnTo_51 rfl (lv_at hl 1 rfl) ?_
            refine va_get (D := D) (ci := 0) (v := .ref (a 3)) (C := RX0) (T := TX0) (N := 9) hx hb hts in_X0 hown hK hP 0 rfl rfl 2 (by decide) lk18 (fun _ h9 => h9) rfl dX0_turnTo_52 ?_
            refine lv_iload_n hx hb dX0_turnTo_55 rfl (lv_at hl 3 rfl) ?_
            refine r_iald (F := dQ st) hx hb hK hP 3 0 rfl rfl i (by omega) (by omega) (by decide) dX0_turnTo_56 ?_
            have b_56 := okD_Q oks i (by omega)
            refine lv_iload_n hx hb dX0_turnTo_57 rfl (lv_at hl 0 rfl) ?_
            have hp := wsp ([(a 0, .inr (0, [.ref (a 1), .ref (a 2), .ref (a 3), .ref (a 4), .ref (a 5), .int (iv (dg st)), .int (iv (dv st)), .int (iv (dn st)), .int (iv (dt st))])), (a 1, .inl (G 0, 6, .inl (fun j => iv (dA st j)))), (a 2, .inl (G 0, 6, .inl (fun j => iv (dW st j)))), (a 3, .inl (G 0, 6, .inl (fun j => iv (dQ st j)))), (a 4, .inl (G 1, 2, .inl (fun j => iv (dO st j)))), (a 5, .inl (G 0, 2, .inl (fun j => iv (dU st j)))), (b 0, .inr (1, [.ref (b 1)])), (b 1, .inl (G 0, 6, .inl (fun j => iv (P j))))]) ([]) 8 (is := []) (js := [0, 1, 2, 3, 4, 5, 6, 7]) (wc := []) (wr := [(a 0, .inr (0, [.ref (a 1), .ref (a 2), .ref (a 3), .ref (a 4), .ref (a 5), .int (iv (dg st)), .int (iv (dv st)), .int (iv (dn st)), .int (iv (dt st))])), (a 1, .inl (G 0, 6, .inl (fun j => iv (dA st j)))), (a 2, .inl (G 0, 6, .inl (fun j => iv (dW st j)))), (a 3, .inl (G 0, 6, .inl (fun j => iv (dQ st j)))), (a 4, .inl (G 1, 2, .inl (fun j => iv (dO st j)))), (a 5, .inl (G 0, 2, .inl (fun j => iv (dU st j)))), (b 0, .inr (1, [.ref (b 1)])), (b 1, .inl (G 0, 6, .inl (fun j => iv (P j))))]) (by decide) rfl rfl rfl
            skip
            refine k_int (g_S (As := [.int (iv (dW st i)), .int (iv (dQ st i)), .int (iv (max ((P i) - (dA st i)) (-((P i) - (dA st i)))))]) (rest := [.int (iv (i : Int)), .ref (a 2)]) ⟨hx, hb, hml, hown, hts⟩ (c_X0_wearBehindTurn l D G (dW st i) (dQ st i) (max ((P i) - (dA st i)) (-((P i) - (dA st i)))) (by omega) (by omega) (by omega)) (va_cwS 3 hts gX0_turnTo_X0_wearBehindTurn rfl rfl rfl (by decide +kernel) ⟨Nat.le_of_ble_eq_true rfl, Nat.le_of_ble_eq_true rfl⟩) hK hP hD hp rfl hl.1 rfl (Nat.le_of_ble_eq_true rfl) dX0_turnTo_58 ⟨by decide, by decide⟩) hP hD hS hA hp (fun v u H locs hw hP hD hS => ?_)
            obtain ⟨rfl, rfl⟩ := hw
            have hP : va_P D vwCl ([(a 0, .inr (0, [.ref (a 1), .ref (a 2), .ref (a 3), .ref (a 4), .ref (a 5), .int (iv (dg st)), .int (iv (dv st)), .int (iv (dn st)), .int (iv (dt st))])), (a 1, .inl (G 0, 6, .inl (fun j => iv (dA st j)))), (a 2, .inl (G 0, 6, .inl (fun j => iv (dW st j)))), (a 3, .inl (G 0, 6, .inl (fun j => iv (dQ st j)))), (a 4, .inl (G 1, 2, .inl (fun j => iv (dO st j)))), (a 5, .inl (G 0, 2, .inl (fun j => iv (dU st j)))), (b 0, .inr (1, [.ref (b 1)])), (b 1, .inl (G 0, 6, .inl (fun j => iv (P j))))]) H := hP
            have hD : va_D A ([(a 0, .inr (0, [.ref (a 1), .ref (a 2), .ref (a 3), .ref (a 4), .ref (a 5), .int (iv (dg st)), .int (iv (dv st)), .int (iv (dn st)), .int (iv (dt st))])), (a 1, .inl (G 0, 6, .inl (fun j => iv (dA st j)))), (a 2, .inl (G 0, 6, .inl (fun j => iv (dW st j)))), (a 3, .inl (G 0, 6, .inl (fun j => iv (dQ st j)))), (a 4, .inl (G 1, 2, .inl (fun j => iv (dO st j)))), (a 5, .inl (G 0, 2, .inl (fun j => iv (dU st j)))), (b 0, .inr (1, [.ref (b 1)])), (b 1, .inl (G 0, 6, .inl (fun j => iv (P j))))]) := hD
            refine r_iast (F := dW st) hx hb hK hP hD hS 2 0 rfl rfl i (by omega) (by omega) (by decide) dX0_turnTo_61 (fun H locs hP hD hS => ?_)
            have hP : va_P D vwCl ([(a 0, .inr (0, [.ref (a 1), .ref (a 2), .ref (a 3), .ref (a 4), .ref (a 5), .int (iv (dg st)), .int (iv (dv st)), .int (iv (dn st)), .int (iv (dt st))])), (a 1, .inl (G 0, 6, .inl (fun j => iv (dA st j)))), (a 2, .inl (G 0, 6, .inl (fun j => iv (updI (dW st) i (wearBT (dW st i) (dQ st i) (max ((P i) - (dA st i)) (-((P i) - (dA st i))))) j)))), (a 3, .inl (G 0, 6, .inl (fun j => iv (dQ st j)))), (a 4, .inl (G 1, 2, .inl (fun j => iv (dO st j)))), (a 5, .inl (G 0, 2, .inl (fun j => iv (dU st j)))), (b 0, .inr (1, [.ref (b 1)])), (b 1, .inl (G 0, 6, .inl (fun j => iv (P j))))]) H := hP
            have hD : va_D A ([(a 0, .inr (0, [.ref (a 1), .ref (a 2), .ref (a 3), .ref (a 4), .ref (a 5), .int (iv (dg st)), .int (iv (dv st)), .int (iv (dn st)), .int (iv (dt st))])), (a 1, .inl (G 0, 6, .inl (fun j => iv (dA st j)))), (a 2, .inl (G 0, 6, .inl (fun j => iv (updI (dW st) i (wearBT (dW st i) (dQ st i) (max ((P i) - (dA st i)) (-((P i) - (dA st i))))) j)))), (a 3, .inl (G 0, 6, .inl (fun j => iv (dQ st j)))), (a 4, .inl (G 1, 2, .inl (fun j => iv (dO st j)))), (a 5, .inl (G 0, 2, .inl (fun j => iv (dU st j)))), (b 0, .inr (1, [.ref (b 1)])), (b 1, .inl (G 0, 6, .inl (fun j => iv (P j))))]) := hD
            refine lv_aload_n hx hb dX0_turnTo_62 rfl (lv_at hl 1 rfl) ?_
            refine va_get (D := D) (ci := 0) (v := .ref (a 3)) (C := RX0) (T := TX0) (N := 9) hx hb hts in_X0 hown hK hP 0 rfl rfl 2 (by decide) lk18 (fun _ h9 => h9) rfl dX0_turnTo_63 ?_
            refine lv_iload_n hx hb dX0_turnTo_66 rfl (lv_at hl 3 rfl) ?_
            refine r_const hx hb dX0_turnTo_67 ?_
            refine lv_aload_n hx hb dX0_turnTo_68 rfl (lv_at hl 1 rfl) ?_
            refine va_get (D := D) (ci := 0) (v := .ref (a 3)) (C := RX0) (T := TX0) (N := 9) hx hb hts in_X0 hown hK hP 0 rfl rfl 2 (by decide) lk18 (fun _ h9 => h9) rfl dX0_turnTo_69 ?_
            refine lv_iload_n hx hb dX0_turnTo_72 rfl (lv_at hl 3 rfl) ?_
            refine r_iald (F := dQ st) hx hb hK hP 3 0 rfl rfl i (by omega) (by omega) (by decide) dX0_turnTo_73 ?_
            have b_73 := okD_Q oks i (by omega)
            refine r_const hx hb dX0_turnTo_74 ?_
            refine r_sub hx hb dX0_turnTo_75 ?_
            refine r_max hx hb (hml.trans hl.1.symm) hown (hts (.methodLink RX0 54 Lib.Math.max.name) (by decide +kernel)) (hts (.static Lib.Math.max.name) (by decide +kernel)) (hts (.initialized "java/lang/Math") (by decide +kernel)) (hts (.code Lib.Math.max.name Lib.Math.max.code 2 (some .int)) (by decide +kernel)) (Nat.le_of_ble_eq_true rfl) (Nat.le_of_ble_eq_true rfl) (Nat.le_of_ble_eq_true rfl) (Nat.le_of_ble_eq_true rfl) (by omega) (by omega) dX0_turnTo_76 ?_
            refine r_iast (F := dQ st) hx hb hK hP hD hS 3 0 rfl rfl i (by omega) (by omega) (by decide) dX0_turnTo_79 (fun H locs hP hD hS => ?_)
            have hP : va_P D vwCl ([(a 0, .inr (0, [.ref (a 1), .ref (a 2), .ref (a 3), .ref (a 4), .ref (a 5), .int (iv (dg st)), .int (iv (dv st)), .int (iv (dn st)), .int (iv (dt st))])), (a 1, .inl (G 0, 6, .inl (fun j => iv (dA st j)))), (a 2, .inl (G 0, 6, .inl (fun j => iv (updI (dW st) i (wearBT (dW st i) (dQ st i) (max ((P i) - (dA st i)) (-((P i) - (dA st i))))) j)))), (a 3, .inl (G 0, 6, .inl (fun j => iv (updI (dQ st) i (max 0 ((dQ st i) - 1)) j)))), (a 4, .inl (G 1, 2, .inl (fun j => iv (dO st j)))), (a 5, .inl (G 0, 2, .inl (fun j => iv (dU st j)))), (b 0, .inr (1, [.ref (b 1)])), (b 1, .inl (G 0, 6, .inl (fun j => iv (P j))))]) H := hP
            have hD : va_D A ([(a 0, .inr (0, [.ref (a 1), .ref (a 2), .ref (a 3), .ref (a 4), .ref (a 5), .int (iv (dg st)), .int (iv (dv st)), .int (iv (dn st)), .int (iv (dt st))])), (a 1, .inl (G 0, 6, .inl (fun j => iv (dA st j)))), (a 2, .inl (G 0, 6, .inl (fun j => iv (updI (dW st) i (wearBT (dW st i) (dQ st i) (max ((P i) - (dA st i)) (-((P i) - (dA st i))))) j)))), (a 3, .inl (G 0, 6, .inl (fun j => iv (updI (dQ st) i (max 0 ((dQ st i) - 1)) j)))), (a 4, .inl (G 1, 2, .inl (fun j => iv (dO st j)))), (a 5, .inl (G 0, 2, .inl (fun j => iv (dU st j)))), (b 0, .inr (1, [.ref (b 1)])), (b 1, .inl (G 0, 6, .inl (fun j => iv (P j))))]) := hD
            refine lv_aload_n hx hb dX0_turnTo_80 rfl (lv_at hl 1 rfl) ?_
            refine va_get (D := D) (ci := 0) (v := .ref (a 1)) (C := RX0) (T := TX0) (N := 9) hx hb hts in_X0 hown hK hP 0 rfl rfl 0 (by decide) lk9 (fun _ h9 => h9) rfl dX0_turnTo_81 ?_
            refine lv_iload_n hx hb dX0_turnTo_84 rfl (lv_at hl 3 rfl) ?_
            refine lv_aload_n hx hb dX0_turnTo_85 rfl (lv_at hl 2 rfl) ?_
            refine va_get (D := D) (ci := 1) (v := .ref (b 1)) (C := RX1) (T := TX1) (N := 1) hx hb hts in_X1 hown hK hP 6 rfl rfl 0 (by decide) lk41 (fun _ h9 => h9) rfl dX0_turnTo_86 ?_
            refine lv_iload_n hx hb dX0_turnTo_89 rfl (lv_at hl 3 rfl) ?_
            refine r_iald (F := P) hx hb hK hP 7 0 rfl rfl i (by omega) (by omega) (by decide) dX0_turnTo_90 ?_
            have b_90 := hP0 i (by omega)
            refine r_iast (F := dA st) hx hb hK hP hD hS 1 0 rfl rfl i (by omega) (by omega) (by decide) dX0_turnTo_91 (fun H locs hP hD hS => ?_)
            have hP : va_P D vwCl ([(a 0, .inr (0, [.ref (a 1), .ref (a 2), .ref (a 3), .ref (a 4), .ref (a 5), .int (iv (dg st)), .int (iv (dv st)), .int (iv (dn st)), .int (iv (dt st))])), (a 1, .inl (G 0, 6, .inl (fun j => iv (updI (dA st) i (P i) j)))), (a 2, .inl (G 0, 6, .inl (fun j => iv (updI (dW st) i (wearBT (dW st i) (dQ st i) (max ((P i) - (dA st i)) (-((P i) - (dA st i))))) j)))), (a 3, .inl (G 0, 6, .inl (fun j => iv (updI (dQ st) i (max 0 ((dQ st i) - 1)) j)))), (a 4, .inl (G 1, 2, .inl (fun j => iv (dO st j)))), (a 5, .inl (G 0, 2, .inl (fun j => iv (dU st j)))), (b 0, .inr (1, [.ref (b 1)])), (b 1, .inl (G 0, 6, .inl (fun j => iv (P j))))]) H := hP
            have hD : va_D A ([(a 0, .inr (0, [.ref (a 1), .ref (a 2), .ref (a 3), .ref (a 4), .ref (a 5), .int (iv (dg st)), .int (iv (dv st)), .int (iv (dn st)), .int (iv (dt st))])), (a 1, .inl (G 0, 6, .inl (fun j => iv (updI (dA st) i (P i) j)))), (a 2, .inl (G 0, 6, .inl (fun j => iv (updI (dW st) i (wearBT (dW st i) (dQ st i) (max ((P i) - (dA st i)) (-((P i) - (dA st i))))) j)))), (a 3, .inl (G 0, 6, .inl (fun j => iv (updI (dQ st) i (max 0 ((dQ st i) - 1)) j)))), (a 4, .inl (G 1, 2, .inl (fun j => iv (dO st j)))), (a 5, .inl (G 0, 2, .inl (fun j => iv (dU st j)))), (b 0, .inr (1, [.ref (b 1)])), (b 1, .inl (G 0, 6, .inl (fun j => iv (P j))))]) := hD
            refine r_iinc (k := 3) (lv' := [(2, .int (iv ((i : Int) + 1))), (3, .int (iv (max ((P i) - (dA st i)) (-((P i) - (dA st i)))))), (0, .ref (a 0)), (1, .ref (b 0))]) hx hb dX0_turnTo_92 hl rfl (by decide) rfl (fun ls hl => ?_)
            refine r_goto hx hb 2 dX0_turnTo_95 (by decide) ?_
            exact ih2 (i + 1) (dset st i (P i) (wearBT (dW st i) (dQ st i) (max (P i - dA st i) (-(P i - dA st i)))) (max 0 (dQ st i - 1))) (by omega) (by omega) (by show _ = turn1 P i (turnN P i ds); rw [← es]; exact turn1_f (by omega)) _ _ hP hD hS _ (lv_sub hl [2, 3, 0] rfl)
  exact K2 7 0 ds (by omega) (by omega) rfl _ _ hP hD hS _ (lv_sub hl [1, 2, 0] rfl)
set_option maxHeartbeats 4000000 in
set_option maxRecDepth 100000 in
theorem c_X0_dryLacquer (l : Launch) (D : va_G) (G : Nat → ClassId) (a : Nat → Nat) (ds : DS) (hok : okD ds)  : MtG l yX0_dryLacquer wsX0_dryLacquer 1 40 0 0 D (TY G) [.ref (a 0)] (wDoll G a ds) (qV D (fun u => u = wDoll G a (dryN 6 ds))) := by
  refine MtG.mk (cc := cX0_dryLacquer) (maxL := 2) (ret := none) (by decide) rfl (Nat.le_of_ble_eq_true rfl) ?_
  intro p e s m below meth c A ls hx hb hr hlk hml hown hin hts hK hA hP hD hS hl
  replace hown : s.vm.findClass RX0 = some m.cls := hown
  have hl : lv_has ls 2 [(0, .ref (a 0))] := hl
  skip
  have hP : va_P D vwCl ([(a 0, .inr (0, [.ref (a 1), .ref (a 2), .ref (a 3), .ref (a 4), .ref (a 5), .int (iv (dg ds)), .int (iv (dv ds)), .int (iv (dn ds)), .int (iv (dt ds))])), (a 1, .inl (G 0, 6, .inl (fun j => iv (dA ds j)))), (a 2, .inl (G 0, 6, .inl (fun j => iv (dW ds j)))), (a 3, .inl (G 0, 6, .inl (fun j => iv (dQ ds j)))), (a 4, .inl (G 1, 2, .inl (fun j => iv (dO ds j)))), (a 5, .inl (G 0, 2, .inl (fun j => iv (dU ds j))))]) s.heap := hP
  have hD : va_D A ([(a 0, .inr (0, [.ref (a 1), .ref (a 2), .ref (a 3), .ref (a 4), .ref (a 5), .int (iv (dg ds)), .int (iv (dv ds)), .int (iv (dn ds)), .int (iv (dt ds))])), (a 1, .inl (G 0, 6, .inl (fun j => iv (dA ds j)))), (a 2, .inl (G 0, 6, .inl (fun j => iv (dW ds j)))), (a 3, .inl (G 0, 6, .inl (fun j => iv (dQ ds j)))), (a 4, .inl (G 1, 2, .inl (fun j => iv (dO ds j)))), (a 5, .inl (G 0, 2, .inl (fun j => iv (dU ds j))))]) := hD
  have lk18 := hts (.fieldLink RX0 18 "DollCitadel$Doll" "lacquers" "[I") (by decide +kernel)
  have in_X0 : ∀ w ∈ u_ws RX0 TX0 9, w ∈ wsX0_dryLacquer := by decide +kernel
  refine r_const hx hb dX0_dryLacquer_0 ?_
  refine lv_istore_n (lv' := [(1, .int (iv 0)), (0, .ref (a 0))]) hx hb dX0_dryLacquer_1 rfl hl (by decide) rfl (fun ls hl => ?_)
  have K2 : ∀ (n i : Nat) (st : DS), i ≤ 6 → 6 < i + n → st = dryN i ds → ∀ (H : Heap) (locs : List Loc), va_P D vwCl ([(a 0, .inr (0, [.ref (a 1), .ref (a 2), .ref (a 3), .ref (a 4), .ref (a 5), .int (iv (dg st)), .int (iv (dv st)), .int (iv (dn st)), .int (iv (dt st))])), (a 1, .inl (G 0, 6, .inl (fun j => iv (dA st j)))), (a 2, .inl (G 0, 6, .inl (fun j => iv (dW st j)))), (a 3, .inl (G 0, 6, .inl (fun j => iv (dQ st j)))), (a 4, .inl (G 1, 2, .inl (fun j => iv (dO st j)))), (a 5, .inl (G 0, 2, .inl (fun j => iv (dU st j))))]) H → va_D A ([(a 0, .inr (0, [.ref (a 1), .ref (a 2), .ref (a 3), .ref (a 4), .ref (a 5), .int (iv (dg st)), .int (iv (dv st)), .int (iv (dn st)), .int (iv (dt st))])), (a 1, .inl (G 0, 6, .inl (fun j => iv (dA st j)))), (a 2, .inl (G 0, 6, .inl (fun j => iv (dW st j)))), (a 3, .inl (G 0, 6, .inl (fun j => iv (dQ st j)))), (a 4, .inl (G 1, 2, .inl (fun j => iv (dO st j)))), (a 5, .inl (G 0, 2, .inl (fun j => iv (dU st j))))]) → va_S A s.heap H locs → ∀ (ls : Array Slot), lv_has ls 2 [(0, .ref (a 0)), (1, .int (iv (i : Int)))] → W p l e (rmOf 1 40 0 0) s m ([.ref (a 0)] : List Value).toArray below meth c H locs 0 0 (MQ below (qV D (fun u => u = wDoll G a (dryN 6 ds)) A) ([.ref (a 0)] : List Value).toArray s 0 0 A) (F0 m 2 ls []) := by
    intro n
    induction n with
    | zero => intro i st h1 h2; exact absurd h2 (by omega)
    | succ n ih2 =>
      intro i st hi_2 hn_2 es H locs hP hD hS ls hl
      have oks : okD st := by rw [es]; exact dryN_ok hok i (by omega)
      refine lv_iload_n hx hb dX0_dryLacquer_2 rfl (lv_at hl 1 rfl) ?_
      refine lv_bipush (v := iv 6) hx hb dX0_dryLacquer_3 (by decide) ?_
      refine r_icmp_ge hx hb 32 dX0_dryLacquer_5 (by decide) (by omega) (by omega) (fun c_5 => ?_) (fun c_5 => ?_)
      · skip
        obtain rfl : i = 6 := by omega
        subst es
        exact e_void hx hb hr hlk dX0_dryLacquer_32 hS hP hD (by decide) (by decide) rfl
      · skip
        refine lv_aload_n hx hb dX0_dryLacquer_8 rfl (lv_at hl 0 rfl) ?_
        refine va_get (D := D) (ci := 0) (v := .ref (a 3)) (C := RX0) (T := TX0) (N := 9) hx hb hts in_X0 hown hK hP 0 rfl rfl 2 (by decide) lk18 (fun _ h9 => h9) rfl dX0_dryLacquer_9 ?_
        refine lv_iload_n hx hb dX0_dryLacquer_12 rfl (lv_at hl 1 rfl) ?_
        refine r_const hx hb dX0_dryLacquer_13 ?_
        refine lv_aload_n hx hb dX0_dryLacquer_14 rfl (lv_at hl 0 rfl) ?_
        refine va_get (D := D) (ci := 0) (v := .ref (a 3)) (C := RX0) (T := TX0) (N := 9) hx hb hts in_X0 hown hK hP 0 rfl rfl 2 (by decide) lk18 (fun _ h9 => h9) rfl dX0_dryLacquer_15 ?_
        refine lv_iload_n hx hb dX0_dryLacquer_18 rfl (lv_at hl 1 rfl) ?_
        refine r_iald (F := dQ st) hx hb hK hP 3 0 rfl rfl i (by omega) (by omega) (by decide) dX0_dryLacquer_19 ?_
        have b_19 := okD_Q oks i (by omega)
        refine r_const hx hb dX0_dryLacquer_20 ?_
        refine r_sub hx hb dX0_dryLacquer_21 ?_
        refine r_max hx hb (hml.trans hl.1.symm) hown (hts (.methodLink RX0 54 Lib.Math.max.name) (by decide +kernel)) (hts (.static Lib.Math.max.name) (by decide +kernel)) (hts (.initialized "java/lang/Math") (by decide +kernel)) (hts (.code Lib.Math.max.name Lib.Math.max.code 2 (some .int)) (by decide +kernel)) (Nat.le_of_ble_eq_true rfl) (Nat.le_of_ble_eq_true rfl) (Nat.le_of_ble_eq_true rfl) (Nat.le_of_ble_eq_true rfl) (by omega) (by omega) dX0_dryLacquer_22 ?_
        refine r_iast (F := dQ st) hx hb hK hP hD hS 3 0 rfl rfl i (by omega) (by omega) (by decide) dX0_dryLacquer_25 (fun H locs hP hD hS => ?_)
        have hP : va_P D vwCl ([(a 0, .inr (0, [.ref (a 1), .ref (a 2), .ref (a 3), .ref (a 4), .ref (a 5), .int (iv (dg st)), .int (iv (dv st)), .int (iv (dn st)), .int (iv (dt st))])), (a 1, .inl (G 0, 6, .inl (fun j => iv (dA st j)))), (a 2, .inl (G 0, 6, .inl (fun j => iv (dW st j)))), (a 3, .inl (G 0, 6, .inl (fun j => iv (updI (dQ st) i (max 0 ((dQ st i) - 1)) j)))), (a 4, .inl (G 1, 2, .inl (fun j => iv (dO st j)))), (a 5, .inl (G 0, 2, .inl (fun j => iv (dU st j))))]) H := hP
        have hD : va_D A ([(a 0, .inr (0, [.ref (a 1), .ref (a 2), .ref (a 3), .ref (a 4), .ref (a 5), .int (iv (dg st)), .int (iv (dv st)), .int (iv (dn st)), .int (iv (dt st))])), (a 1, .inl (G 0, 6, .inl (fun j => iv (dA st j)))), (a 2, .inl (G 0, 6, .inl (fun j => iv (dW st j)))), (a 3, .inl (G 0, 6, .inl (fun j => iv (updI (dQ st) i (max 0 ((dQ st i) - 1)) j)))), (a 4, .inl (G 1, 2, .inl (fun j => iv (dO st j)))), (a 5, .inl (G 0, 2, .inl (fun j => iv (dU st j))))]) := hD
        refine r_iinc (k := 1) (lv' := [(1, .int (iv ((i : Int) + 1))), (0, .ref (a 0))]) hx hb dX0_dryLacquer_26 hl rfl (by decide) rfl (fun ls hl => ?_)
        refine r_goto hx hb 2 dX0_dryLacquer_29 (by decide) ?_
        exact ih2 (i + 1) (dA st, dW st, updI (dQ st) i (max 0 (dQ st i - 1)), dO st, dU st, dg st, dv st, dn st, dt st) (by omega) (by omega) (dset_same.trans (dryN_s es)) _ _ hP hD hS _ (lv_sub hl [1, 0] rfl)
  exact K2 7 0 ds (by omega) (by omega) rfl _ _ hP hD hS _ (lv_sub hl [1, 0] rfl)
set_option maxHeartbeats 4000000 in
set_option maxRecDepth 100000 in
theorem c_X0_gatherDust (l : Launch) (D : va_G) (G : Nat → ClassId) (a : Nat → Nat) (ds : DS) (hok : okD ds)  : MtG l yX0_gatherDust wsX0_gatherDust 1 40 0 0 D (TY G) [.ref (a 0)] (wDoll G a ds) (qV D (fun u => u = wDoll G a (gatN 2 ds))) := by
  refine MtG.mk (cc := cX0_gatherDust) (maxL := 2) (ret := none) (by decide) rfl (Nat.le_of_ble_eq_true rfl) ?_
  intro p e s m below meth c A ls hx hb hr hlk hml hown hin hts hK hA hP hD hS hl
  replace hown : s.vm.findClass RX0 = some m.cls := hown
  have hl : lv_has ls 2 [(0, .ref (a 0))] := hl
  skip
  have hP : va_P D vwCl ([(a 0, .inr (0, [.ref (a 1), .ref (a 2), .ref (a 3), .ref (a 4), .ref (a 5), .int (iv (dg ds)), .int (iv (dv ds)), .int (iv (dn ds)), .int (iv (dt ds))])), (a 1, .inl (G 0, 6, .inl (fun j => iv (dA ds j)))), (a 2, .inl (G 0, 6, .inl (fun j => iv (dW ds j)))), (a 3, .inl (G 0, 6, .inl (fun j => iv (dQ ds j)))), (a 4, .inl (G 1, 2, .inl (fun j => iv (dO ds j)))), (a 5, .inl (G 0, 2, .inl (fun j => iv (dU ds j))))]) s.heap := hP
  have hD : va_D A ([(a 0, .inr (0, [.ref (a 1), .ref (a 2), .ref (a 3), .ref (a 4), .ref (a 5), .int (iv (dg ds)), .int (iv (dv ds)), .int (iv (dn ds)), .int (iv (dt ds))])), (a 1, .inl (G 0, 6, .inl (fun j => iv (dA ds j)))), (a 2, .inl (G 0, 6, .inl (fun j => iv (dW ds j)))), (a 3, .inl (G 0, 6, .inl (fun j => iv (dQ ds j)))), (a 4, .inl (G 1, 2, .inl (fun j => iv (dO ds j)))), (a 5, .inl (G 0, 2, .inl (fun j => iv (dU ds j))))]) := hD
  have lk21 := hts (.fieldLink RX0 21 "DollCitadel$Doll" "open" "[Z") (by decide +kernel)
  have in_X0 : ∀ w ∈ u_ws RX0 TX0 9, w ∈ wsX0_gatherDust := by decide +kernel
  have lk25 := hts (.fieldLink RX0 25 "DollCitadel$Doll" "dusts" "[I") (by decide +kernel)
  refine r_const hx hb dX0_gatherDust_0 ?_
  refine lv_istore_n (lv' := [(1, .int (iv 0)), (0, .ref (a 0))]) hx hb dX0_gatherDust_1 rfl hl (by decide) rfl (fun ls hl => ?_)
  have K2 : ∀ (n i : Nat) (st : DS), i ≤ 2 → 2 < i + n → st = gatN i ds → ∀ (H : Heap) (locs : List Loc), va_P D vwCl ([(a 0, .inr (0, [.ref (a 1), .ref (a 2), .ref (a 3), .ref (a 4), .ref (a 5), .int (iv (dg st)), .int (iv (dv st)), .int (iv (dn st)), .int (iv (dt st))])), (a 1, .inl (G 0, 6, .inl (fun j => iv (dA st j)))), (a 2, .inl (G 0, 6, .inl (fun j => iv (dW st j)))), (a 3, .inl (G 0, 6, .inl (fun j => iv (dQ st j)))), (a 4, .inl (G 1, 2, .inl (fun j => iv (dO st j)))), (a 5, .inl (G 0, 2, .inl (fun j => iv (dU st j))))]) H → va_D A ([(a 0, .inr (0, [.ref (a 1), .ref (a 2), .ref (a 3), .ref (a 4), .ref (a 5), .int (iv (dg st)), .int (iv (dv st)), .int (iv (dn st)), .int (iv (dt st))])), (a 1, .inl (G 0, 6, .inl (fun j => iv (dA st j)))), (a 2, .inl (G 0, 6, .inl (fun j => iv (dW st j)))), (a 3, .inl (G 0, 6, .inl (fun j => iv (dQ st j)))), (a 4, .inl (G 1, 2, .inl (fun j => iv (dO st j)))), (a 5, .inl (G 0, 2, .inl (fun j => iv (dU st j))))]) → va_S A s.heap H locs → ∀ (ls : Array Slot), lv_has ls 2 [(0, .ref (a 0)), (1, .int (iv (i : Int)))] → W p l e (rmOf 1 40 0 0) s m ([.ref (a 0)] : List Value).toArray below meth c H locs 0 0 (MQ below (qV D (fun u => u = wDoll G a (gatN 2 ds)) A) ([.ref (a 0)] : List Value).toArray s 0 0 A) (F0 m 2 ls []) := by
    intro n
    induction n with
    | zero => intro i st h1 h2; exact absurd h2 (by omega)
    | succ n ih2 =>
      intro i st hi_2 hn_2 es H locs hP hD hS ls hl
      have oks : okD st := by rw [es]; exact gatN_ok hok i (by omega)
      refine lv_iload_n hx hb dX0_gatherDust_2 rfl (lv_at hl 1 rfl) ?_
      refine r_const hx hb dX0_gatherDust_3 ?_
      refine r_icmp_ge hx hb 41 dX0_gatherDust_4 (by decide) (by omega) (by omega) (fun c_4 => ?_) (fun c_4 => ?_)
      · skip
        obtain rfl : i = 2 := by omega
        subst es
        exact e_void hx hb hr hlk dX0_gatherDust_41 hS hP hD (by decide) (by decide) rfl
      · skip
        refine lv_aload_n hx hb dX0_gatherDust_7 rfl (lv_at hl 0 rfl) ?_
        refine va_get (D := D) (ci := 0) (v := .ref (a 4)) (C := RX0) (T := TX0) (N := 9) hx hb hts in_X0 hown hK hP 0 rfl rfl 3 (by decide) lk21 (fun _ h9 => h9) rfl dX0_gatherDust_8 ?_
        refine lv_iload_n hx hb dX0_gatherDust_11 rfl (lv_at hl 1 rfl) ?_
        refine r_zald (F := dO st) hx hb hK hP 4 1 rfl rfl i (by omega) (by omega) (by decide) dX0_gatherDust_12 ?_
        have b_12 := okD_O oks i (by omega)
        refine r_if_eq hx hb 35 dX0_gatherDust_13 (by decide) (by omega) (fun c_13 => ?_) (fun c_13 => ?_)
        · skip
          refine r_iinc (k := 1) (lv' := [(1, .int (iv ((i : Int) + 1))), (0, .ref (a 0))]) hx hb dX0_gatherDust_35 hl rfl (by decide) rfl (fun ls hl => ?_)
          refine r_goto hx hb 2 dX0_gatherDust_38 (by decide) ?_
          exact ih2 (i + 1) st (by omega) (by omega) (gatN_0 es c_13) _ _ hP hD hS _ (lv_sub hl [1, 0] rfl)
        · skip
          refine lv_aload_n hx hb dX0_gatherDust_16 rfl (lv_at hl 0 rfl) ?_
          refine va_get (D := D) (ci := 0) (v := .ref (a 5)) (C := RX0) (T := TX0) (N := 9) hx hb hts in_X0 hown hK hP 0 rfl rfl 4 (by decide) lk25 (fun _ h9 => h9) rfl dX0_gatherDust_17 ?_
          refine lv_iload_n hx hb dX0_gatherDust_20 rfl (lv_at hl 1 rfl) ?_
          refine lv_bipush (v := iv 9) hx hb dX0_gatherDust_21 (by decide) ?_
          refine lv_aload_n hx hb dX0_gatherDust_23 rfl (lv_at hl 0 rfl) ?_
          refine va_get (D := D) (ci := 0) (v := .ref (a 5)) (C := RX0) (T := TX0) (N := 9) hx hb hts in_X0 hown hK hP 0 rfl rfl 4 (by decide) lk25 (fun _ h9 => h9) rfl dX0_gatherDust_24 ?_
          refine lv_iload_n hx hb dX0_gatherDust_27 rfl (lv_at hl 1 rfl) ?_
          refine r_iald (F := dU st) hx hb hK hP 5 0 rfl rfl i (by omega) (by omega) (by decide) dX0_gatherDust_28 ?_
          have b_28 := okD_U oks i (by omega)
          refine r_const hx hb dX0_gatherDust_29 ?_
          refine r_add hx hb dX0_gatherDust_30 ?_
          refine r_min hx hb (hml.trans hl.1.symm) hown (hts (.methodLink RX0 58 Lib.Math.min.name) (by decide +kernel)) (hts (.static Lib.Math.min.name) (by decide +kernel)) (hts (.initialized "java/lang/Math") (by decide +kernel)) (hts (.code Lib.Math.min.name Lib.Math.min.code 2 (some .int)) (by decide +kernel)) (Nat.le_of_ble_eq_true rfl) (Nat.le_of_ble_eq_true rfl) (Nat.le_of_ble_eq_true rfl) (Nat.le_of_ble_eq_true rfl) (by omega) (by omega) dX0_gatherDust_31 ?_
          refine r_iast (F := dU st) hx hb hK hP hD hS 5 0 rfl rfl i (by omega) (by omega) (by decide) dX0_gatherDust_34 (fun H locs hP hD hS => ?_)
          have hP : va_P D vwCl ([(a 0, .inr (0, [.ref (a 1), .ref (a 2), .ref (a 3), .ref (a 4), .ref (a 5), .int (iv (dg st)), .int (iv (dv st)), .int (iv (dn st)), .int (iv (dt st))])), (a 1, .inl (G 0, 6, .inl (fun j => iv (dA st j)))), (a 2, .inl (G 0, 6, .inl (fun j => iv (dW st j)))), (a 3, .inl (G 0, 6, .inl (fun j => iv (dQ st j)))), (a 4, .inl (G 1, 2, .inl (fun j => iv (dO st j)))), (a 5, .inl (G 0, 2, .inl (fun j => iv (updI (dU st) i (min 9 ((dU st i) + 1)) j))))]) H := hP
          have hD : va_D A ([(a 0, .inr (0, [.ref (a 1), .ref (a 2), .ref (a 3), .ref (a 4), .ref (a 5), .int (iv (dg st)), .int (iv (dv st)), .int (iv (dn st)), .int (iv (dt st))])), (a 1, .inl (G 0, 6, .inl (fun j => iv (dA st j)))), (a 2, .inl (G 0, 6, .inl (fun j => iv (dW st j)))), (a 3, .inl (G 0, 6, .inl (fun j => iv (dQ st j)))), (a 4, .inl (G 1, 2, .inl (fun j => iv (dO st j)))), (a 5, .inl (G 0, 2, .inl (fun j => iv (updI (dU st) i (min 9 ((dU st i) + 1)) j))))]) := hD
          refine r_iinc (k := 1) (lv' := [(1, .int (iv ((i : Int) + 1))), (0, .ref (a 0))]) hx hb dX0_gatherDust_35 hl rfl (by decide) rfl (fun ls hl => ?_)
          refine r_goto hx hb 2 dX0_gatherDust_38 (by decide) ?_
          exact ih2 (i + 1) (dsetU st i (min 9 (dU st i + 1))) (by omega) (by omega) (gatN_1 es c_13) _ _ hP hD hS _ (lv_sub hl [1, 0] rfl)
  exact K2 3 0 ds (by omega) (by omega) rfl _ _ hP hD hS _ (lv_sub hl [1, 0] rfl)
set_option maxHeartbeats 4000000 in
set_option maxRecDepth 100000 in
theorem c_X0_canTurnTo (l : Launch) (D : va_G) (G : Nat → ClassId) (a : Nat → Nat) (ds : DS) (hok : okD ds) (b : Nat → Nat) (P : Nat → Int) (hP0 : okP P) : MtG l yX0_canTurnTo wsX0_canTurnTo 0 0 0 0 D (TY G) [.ref (a 0), .ref (b 0)] (wDoll G a ds ++ wPose G b P) (qI D (fun r u => r = iv (b2i (canT P ds)) ∧ u = wDoll G a ds ++ wPose G b P)) := by
  refine MtG.mk (cc := cX0_canTurnTo) (maxL := 3) (ret := some .boolean) (by decide) rfl (Nat.le_of_ble_eq_true rfl) ?_
  intro p e s m below meth c A ls hx hb hr hlk hml hown hin hts hK hA hP hD hS hl
  replace hown : s.vm.findClass RX0 = some m.cls := hown
  have hl : lv_has ls 3 [(0, .ref (a 0)), (1, .ref (b 0))] := hl
  skip
  have hP : va_P D vwCl ([(a 0, .inr (0, [.ref (a 1), .ref (a 2), .ref (a 3), .ref (a 4), .ref (a 5), .int (iv (dg ds)), .int (iv (dv ds)), .int (iv (dn ds)), .int (iv (dt ds))])), (a 1, .inl (G 0, 6, .inl (fun j => iv (dA ds j)))), (a 2, .inl (G 0, 6, .inl (fun j => iv (dW ds j)))), (a 3, .inl (G 0, 6, .inl (fun j => iv (dQ ds j)))), (a 4, .inl (G 1, 2, .inl (fun j => iv (dO ds j)))), (a 5, .inl (G 0, 2, .inl (fun j => iv (dU ds j)))), (b 0, .inr (1, [.ref (b 1)])), (b 1, .inl (G 0, 6, .inl (fun j => iv (P j))))]) s.heap := hP
  have hD : va_D A ([(a 0, .inr (0, [.ref (a 1), .ref (a 2), .ref (a 3), .ref (a 4), .ref (a 5), .int (iv (dg ds)), .int (iv (dv ds)), .int (iv (dn ds)), .int (iv (dt ds))])), (a 1, .inl (G 0, 6, .inl (fun j => iv (dA ds j)))), (a 2, .inl (G 0, 6, .inl (fun j => iv (dW ds j)))), (a 3, .inl (G 0, 6, .inl (fun j => iv (dQ ds j)))), (a 4, .inl (G 1, 2, .inl (fun j => iv (dO ds j)))), (a 5, .inl (G 0, 2, .inl (fun j => iv (dU ds j)))), (b 0, .inr (1, [.ref (b 1)])), (b 1, .inl (G 0, 6, .inl (fun j => iv (P j))))]) := hD
  have lk15 := hts (.fieldLink RX0 15 "DollCitadel$Doll" "wears" "[I") (by decide +kernel)
  have in_X0 : ∀ w ∈ u_ws RX0 TX0 9, w ∈ wsX0_canTurnTo := by decide +kernel
  have lk9 := hts (.fieldLink RX0 9 "DollCitadel$Doll" "angles" "[I") (by decide +kernel)
  have lk41 := hts (.fieldLink RX0 41 "DollCitadel$Pose" "angles" "[I") (by decide +kernel)
  have in_X1 : ∀ w ∈ u_ws RX1 TX1 1, w ∈ wsX0_canTurnTo := by decide +kernel
  refine r_const hx hb dX0_canTurnTo_0 ?_
  refine lv_istore_n (lv' := [(2, .int (iv 0)), (0, .ref (a 0)), (1, .ref (b 0))]) hx hb dX0_canTurnTo_1 rfl hl (by decide) rfl (fun ls hl => ?_)
  have K2 : ∀ (n i : Nat), i ≤ 6 → 6 < i + n → (∀ j, j < i → dW ds j < 100 ∨ dA ds j = P j) → ∀ (H : Heap) (locs : List Loc), va_P D vwCl ([(a 0, .inr (0, [.ref (a 1), .ref (a 2), .ref (a 3), .ref (a 4), .ref (a 5), .int (iv (dg ds)), .int (iv (dv ds)), .int (iv (dn ds)), .int (iv (dt ds))])), (a 1, .inl (G 0, 6, .inl (fun j => iv (dA ds j)))), (a 2, .inl (G 0, 6, .inl (fun j => iv (dW ds j)))), (a 3, .inl (G 0, 6, .inl (fun j => iv (dQ ds j)))), (a 4, .inl (G 1, 2, .inl (fun j => iv (dO ds j)))), (a 5, .inl (G 0, 2, .inl (fun j => iv (dU ds j)))), (b 0, .inr (1, [.ref (b 1)])), (b 1, .inl (G 0, 6, .inl (fun j => iv (P j))))]) H → va_D A ([(a 0, .inr (0, [.ref (a 1), .ref (a 2), .ref (a 3), .ref (a 4), .ref (a 5), .int (iv (dg ds)), .int (iv (dv ds)), .int (iv (dn ds)), .int (iv (dt ds))])), (a 1, .inl (G 0, 6, .inl (fun j => iv (dA ds j)))), (a 2, .inl (G 0, 6, .inl (fun j => iv (dW ds j)))), (a 3, .inl (G 0, 6, .inl (fun j => iv (dQ ds j)))), (a 4, .inl (G 1, 2, .inl (fun j => iv (dO ds j)))), (a 5, .inl (G 0, 2, .inl (fun j => iv (dU ds j)))), (b 0, .inr (1, [.ref (b 1)])), (b 1, .inl (G 0, 6, .inl (fun j => iv (P j))))]) → va_S A s.heap H locs → ∀ (ls : Array Slot), lv_has ls 3 [(0, .ref (a 0)), (1, .ref (b 0)), (2, .int (iv (i : Int)))] → W p l e (rmOf 0 0 0 0) s m ([.ref (a 0), .ref (b 0)] : List Value).toArray below meth c H locs 0 0 (MQ below (qI D (fun r u => r = iv (b2i (canT P ds)) ∧ u = wDoll G a ds ++ wPose G b P) A) ([.ref (a 0), .ref (b 0)] : List Value).toArray s 0 0 A) (F0 m 2 ls []) := by
    intro n
    induction n with
    | zero => intro i h1 h2; exact absurd h2 (by omega)
    | succ n ih2 =>
      intro i hi_2 hn_2 hc H locs hP hD hS ls hl
      refine lv_iload_n hx hb dX0_canTurnTo_2 rfl (lv_at hl 2 rfl) ?_
      refine lv_bipush (v := iv 6) hx hb dX0_canTurnTo_3 (by decide) ?_
      refine r_icmp_ge hx hb 42 dX0_canTurnTo_5 (by decide) (by omega) (by omega) (fun c_5 => ?_) (fun c_5 => ?_)
      · skip
        refine r_const hx hb dX0_canTurnTo_42 ?_
        exact e_b01 hx hb hr (by omega) hlk dX0_canTurnTo_43 hS hP hD (by decide) (by decide) (⟨by rw [← canT_yes (fun j hj => hc j (by omega))]; rfl, rfl⟩)
      · skip
        refine lv_aload_n hx hb dX0_canTurnTo_8 rfl (lv_at hl 0 rfl) ?_
        refine va_get (D := D) (ci := 0) (v := .ref (a 2)) (C := RX0) (T := TX0) (N := 9) hx hb hts in_X0 hown hK hP 0 rfl rfl 1 (by decide) lk15 (fun _ h9 => h9) rfl dX0_canTurnTo_9 ?_
        refine lv_iload_n hx hb dX0_canTurnTo_12 rfl (lv_at hl 2 rfl) ?_
        refine r_iald (F := dW ds) hx hb hK hP 2 0 rfl rfl i (by omega) (by omega) (by decide) dX0_canTurnTo_13 ?_
        have b_13 := okD_W hok i (by omega)
        refine lv_bipush (v := iv 100) hx hb dX0_canTurnTo_14 (by decide) ?_
        refine r_icmp_lt hx hb 36 dX0_canTurnTo_16 (by decide) (by omega) (by omega) (fun c_16 => ?_) (fun c_16 => ?_)
        · skip
          refine r_iinc (k := 2) (lv' := [(2, .int (iv ((i : Int) + 1))), (0, .ref (a 0)), (1, .ref (b 0))]) hx hb dX0_canTurnTo_36 hl rfl (by decide) rfl (fun ls hl => ?_)
          refine r_goto hx hb 2 dX0_canTurnTo_39 (by decide) ?_
          exact ih2 (i + 1) (by omega) (by omega) (lt_s hc (by omega)) _ _ hP hD hS _ (lv_sub hl [1, 2, 0] rfl)
        · skip
          refine lv_aload_n hx hb dX0_canTurnTo_19 rfl (lv_at hl 0 rfl) ?_
          refine va_get (D := D) (ci := 0) (v := .ref (a 1)) (C := RX0) (T := TX0) (N := 9) hx hb hts in_X0 hown hK hP 0 rfl rfl 0 (by decide) lk9 (fun _ h9 => h9) rfl dX0_canTurnTo_20 ?_
          refine lv_iload_n hx hb dX0_canTurnTo_23 rfl (lv_at hl 2 rfl) ?_
          refine r_iald (F := dA ds) hx hb hK hP 1 0 rfl rfl i (by omega) (by omega) (by decide) dX0_canTurnTo_24 ?_
          have b_24 := okD_A hok i (by omega)
          refine lv_aload_n hx hb dX0_canTurnTo_25 rfl (lv_at hl 1 rfl) ?_
          refine va_get (D := D) (ci := 1) (v := .ref (b 1)) (C := RX1) (T := TX1) (N := 1) hx hb hts in_X1 hown hK hP 6 rfl rfl 0 (by decide) lk41 (fun _ h9 => h9) rfl dX0_canTurnTo_26 ?_
          refine lv_iload_n hx hb dX0_canTurnTo_29 rfl (lv_at hl 2 rfl) ?_
          refine r_iald (F := P) hx hb hK hP 7 0 rfl rfl i (by omega) (by omega) (by decide) dX0_canTurnTo_30 ?_
          have b_30 := hP0 i (by omega)
          refine r_icmp_eq hx hb 36 dX0_canTurnTo_31 (by decide) (by omega) (by omega) (fun c_31 => ?_) (fun c_31 => ?_)
          · skip
            refine r_iinc (k := 2) (lv' := [(2, .int (iv ((i : Int) + 1))), (0, .ref (a 0)), (1, .ref (b 0))]) hx hb dX0_canTurnTo_36 hl rfl (by decide) rfl (fun ls hl => ?_)
            refine r_goto hx hb 2 dX0_canTurnTo_39 (by decide) ?_
            exact ih2 (i + 1) (by omega) (by omega) (lt_s hc (by omega)) _ _ hP hD hS _ (lv_sub hl [1, 2, 0] rfl)
          · skip
            refine r_const hx hb dX0_canTurnTo_34 ?_
            exact e_b01 hx hb hr (by omega) hlk dX0_canTurnTo_35 hS hP hD (by decide) (by decide) (⟨by rw [← canT_no (j := i) (by omega) c_16 c_31]; rfl, rfl⟩)
  exact K2 7 0 (by omega) (by omega) lt_0 _ _ hP hD hS _ (lv_sub hl [1, 2, 0] rfl)
set_option maxHeartbeats 4000000 in
set_option maxRecDepth 100000 in
theorem c_X0_wearOfAllJoints (l : Launch) (D : va_G) (G : Nat → ClassId) (a : Nat → Nat) (ds : DS) (hok : okD ds)  : MtG l yX0_wearOfAllJoints wsX0_wearOfAllJoints 0 0 0 0 D (TY G) [.ref (a 0)] (wDoll G a ds) (qI D (fun r u => r = iv (sm (dW ds) 6) ∧ u = wDoll G a ds)) := by
  refine MtG.mk (cc := cX0_wearOfAllJoints) (maxL := 6) (ret := some .int) (by decide) rfl (Nat.le_of_ble_eq_true rfl) ?_
  intro p e s m below meth c A ls hx hb hr hlk hml hown hin hts hK hA hP hD hS hl
  replace hown : s.vm.findClass RX0 = some m.cls := hown
  have hl : lv_has ls 6 [(0, .ref (a 0))] := hl
  skip
  have hP : va_P D vwCl ([(a 0, .inr (0, [.ref (a 1), .ref (a 2), .ref (a 3), .ref (a 4), .ref (a 5), .int (iv (dg ds)), .int (iv (dv ds)), .int (iv (dn ds)), .int (iv (dt ds))])), (a 1, .inl (G 0, 6, .inl (fun j => iv (dA ds j)))), (a 2, .inl (G 0, 6, .inl (fun j => iv (dW ds j)))), (a 3, .inl (G 0, 6, .inl (fun j => iv (dQ ds j)))), (a 4, .inl (G 1, 2, .inl (fun j => iv (dO ds j)))), (a 5, .inl (G 0, 2, .inl (fun j => iv (dU ds j))))]) s.heap := hP
  have hD : va_D A ([(a 0, .inr (0, [.ref (a 1), .ref (a 2), .ref (a 3), .ref (a 4), .ref (a 5), .int (iv (dg ds)), .int (iv (dv ds)), .int (iv (dn ds)), .int (iv (dt ds))])), (a 1, .inl (G 0, 6, .inl (fun j => iv (dA ds j)))), (a 2, .inl (G 0, 6, .inl (fun j => iv (dW ds j)))), (a 3, .inl (G 0, 6, .inl (fun j => iv (dQ ds j)))), (a 4, .inl (G 1, 2, .inl (fun j => iv (dO ds j)))), (a 5, .inl (G 0, 2, .inl (fun j => iv (dU ds j))))]) := hD
  have lk15 := hts (.fieldLink RX0 15 "DollCitadel$Doll" "wears" "[I") (by decide +kernel)
  have in_X0 : ∀ w ∈ u_ws RX0 TX0 9, w ∈ wsX0_wearOfAllJoints := by decide +kernel
  refine r_const hx hb dX0_wearOfAllJoints_0 ?_
  refine lv_istore_n (lv' := [(1, .int (iv 0)), (0, .ref (a 0))]) hx hb dX0_wearOfAllJoints_1 rfl hl (by decide) rfl (fun ls hl => ?_)
  refine lv_aload_n hx hb dX0_wearOfAllJoints_2 rfl (lv_at hl 1 rfl) ?_
  refine va_get (D := D) (ci := 0) (v := .ref (a 2)) (C := RX0) (T := TX0) (N := 9) hx hb hts in_X0 hown hK hP 0 rfl rfl 1 (by decide) lk15 (fun _ h9 => h9) rfl dX0_wearOfAllJoints_3 ?_
  refine lv_astore_n (lv' := [(2, .ref (a 2)), (1, .int (iv 0)), (0, .ref (a 0))]) hx hb dX0_wearOfAllJoints_6 rfl hl (by decide) rfl (fun ls hl => ?_)
  refine lv_aload_n hx hb dX0_wearOfAllJoints_7 rfl (lv_at hl 0 rfl) ?_
  refine va_alen (v := iv 6) hx hb hK hP 2 0 rfl (ty := _) rfl rfl dX0_wearOfAllJoints_8 ?_
  refine lv_istore_n (lv' := [(3, .int (iv 6)), (2, .ref (a 2)), (1, .int (iv 0)), (0, .ref (a 0))]) hx hb dX0_wearOfAllJoints_9 rfl hl (by decide) rfl (fun ls hl => ?_)
  refine r_const hx hb dX0_wearOfAllJoints_10 ?_
  refine lv_istore (lv' := [(4, .int (iv 0)), (3, .int (iv 6)), (2, .ref (a 2)), (1, .int (iv 0)), (0, .ref (a 0))]) hx hb dX0_wearOfAllJoints_11 hl (by decide) rfl (fun ls hl => ?_)
  have K13 : ∀ (n i : Nat) (x : Int), i ≤ 6 → 6 < i + n → x = sm (dW ds) i → ∀ (H : Heap) (locs : List Loc), va_P D vwCl ([(a 0, .inr (0, [.ref (a 1), .ref (a 2), .ref (a 3), .ref (a 4), .ref (a 5), .int (iv (dg ds)), .int (iv (dv ds)), .int (iv (dn ds)), .int (iv (dt ds))])), (a 1, .inl (G 0, 6, .inl (fun j => iv (dA ds j)))), (a 2, .inl (G 0, 6, .inl (fun j => iv (dW ds j)))), (a 3, .inl (G 0, 6, .inl (fun j => iv (dQ ds j)))), (a 4, .inl (G 1, 2, .inl (fun j => iv (dO ds j)))), (a 5, .inl (G 0, 2, .inl (fun j => iv (dU ds j))))]) H → va_D A ([(a 0, .inr (0, [.ref (a 1), .ref (a 2), .ref (a 3), .ref (a 4), .ref (a 5), .int (iv (dg ds)), .int (iv (dv ds)), .int (iv (dn ds)), .int (iv (dt ds))])), (a 1, .inl (G 0, 6, .inl (fun j => iv (dA ds j)))), (a 2, .inl (G 0, 6, .inl (fun j => iv (dW ds j)))), (a 3, .inl (G 0, 6, .inl (fun j => iv (dQ ds j)))), (a 4, .inl (G 1, 2, .inl (fun j => iv (dO ds j)))), (a 5, .inl (G 0, 2, .inl (fun j => iv (dU ds j))))]) → va_S A s.heap H locs → ∀ (ls : Array Slot), lv_has ls 6 [(0, .ref (a 0)), (1, .int (iv x)), (2, .ref (a 2)), (3, .int (iv 6)), (4, .int (iv (i : Int)))] → W p l e (rmOf 0 0 0 0) s m ([.ref (a 0)] : List Value).toArray below meth c H locs 0 0 (MQ below (qI D (fun r u => r = iv (sm (dW ds) 6) ∧ u = wDoll G a ds) A) ([.ref (a 0)] : List Value).toArray s 0 0 A) (F0 m 13 ls []) := by
    intro n
    induction n with
    | zero => intro i x h1 h2; exact absurd h2 (by omega)
    | succ n ih13 =>
      intro i x hi_13 hn_13 ex H locs hP hD hS ls hl
      refine lv_iload hx hb dX0_wearOfAllJoints_13 (lv_at hl 4 rfl) ?_
      refine lv_iload_n hx hb dX0_wearOfAllJoints_15 rfl (lv_at hl 3 rfl) ?_
      refine r_icmp_ge hx hb 36 dX0_wearOfAllJoints_16 (by decide) (by omega) (by omega) (fun c_16 => ?_) (fun c_16 => ?_)
      · skip
        refine lv_iload_n hx hb dX0_wearOfAllJoints_36 rfl (lv_at hl 1 rfl) ?_
        exact e_int hx hb hr hlk dX0_wearOfAllJoints_37 hS hP hD (by decide) (by decide) (⟨by rw [ex, show i = 6 by omega], rfl⟩)
      · skip
        refine lv_aload_n hx hb dX0_wearOfAllJoints_19 rfl (lv_at hl 2 rfl) ?_
        refine lv_iload hx hb dX0_wearOfAllJoints_20 (lv_at hl 4 rfl) ?_
        refine r_iald (F := dW ds) hx hb hK hP 2 0 rfl rfl i (by omega) (by omega) (by decide) dX0_wearOfAllJoints_22 ?_
        have b_22 := okD_W hok i (by omega)
        refine lv_istore (lv' := [(5, .int (iv (dW ds i))), (0, .ref (a 0)), (1, .int (iv x)), (2, .ref (a 2)), (3, .int (iv 6)), (4, .int (iv (i : Int)))]) hx hb dX0_wearOfAllJoints_23 hl (by decide) rfl (fun ls hl => ?_)
        refine lv_iload_n hx hb dX0_wearOfAllJoints_25 rfl (lv_at hl 2 rfl) ?_
        refine lv_iload hx hb dX0_wearOfAllJoints_26 (lv_at hl 0 rfl) ?_
        refine r_add hx hb dX0_wearOfAllJoints_28 ?_
        refine lv_istore_n (lv' := [(1, .int (iv (x + (dW ds i)))), (5, .int (iv (dW ds i))), (0, .ref (a 0)), (2, .ref (a 2)), (3, .int (iv 6)), (4, .int (iv (i : Int)))]) hx hb dX0_wearOfAllJoints_29 rfl hl (by decide) rfl (fun ls hl => ?_)
        refine r_iinc (k := 5) (lv' := [(4, .int (iv ((i : Int) + 1))), (1, .int (iv (x + (dW ds i)))), (5, .int (iv (dW ds i))), (0, .ref (a 0)), (2, .ref (a 2)), (3, .int (iv 6))]) hx hb dX0_wearOfAllJoints_30 hl rfl (by decide) rfl (fun ls hl => ?_)
        refine r_goto hx hb 13 dX0_wearOfAllJoints_33 (by decide) ?_
        exact ih13 (i + 1) (x + dW ds i) (by omega) (by omega) (sm_s ex rfl) _ _ hP hD hS _ (lv_sub hl [3, 1, 4, 5, 0] rfl)
  exact K13 7 0 0 (by omega) (by omega) rfl _ _ hP hD hS _ (lv_sub hl [4, 3, 2, 1, 0] rfl)
set_option maxHeartbeats 4000000 in
set_option maxRecDepth 100000 in
theorem c_X0_wantsInAll (l : Launch) (D : va_G) (G : Nat → ClassId) (a : Nat → Nat) (ds : DS) (hok : okD ds)  : MtG l yX0_wantsInAll wsX0_wantsInAll 2 80 0 0 D (TY G) [.ref (a 0)] (wDoll G a ds) (qI D (fun r u => r = iv (wantsAll ds) ∧ u = wDoll G a ds)) := by
  refine MtG.mk (cc := cX0_wantsInAll) (maxL := 3) (ret := some .int) (by decide) rfl (Nat.le_of_ble_eq_true rfl) ?_
  intro p e s m below meth c A ls hx hb hr hlk hml hown hin hts hK hA hP hD hS hl
  replace hown : s.vm.findClass RX0 = some m.cls := hown
  have hl : lv_has ls 3 [(0, .ref (a 0))] := hl
  skip
  have hP : va_P D vwCl ([(a 0, .inr (0, [.ref (a 1), .ref (a 2), .ref (a 3), .ref (a 4), .ref (a 5), .int (iv (dg ds)), .int (iv (dv ds)), .int (iv (dn ds)), .int (iv (dt ds))])), (a 1, .inl (G 0, 6, .inl (fun j => iv (dA ds j)))), (a 2, .inl (G 0, 6, .inl (fun j => iv (dW ds j)))), (a 3, .inl (G 0, 6, .inl (fun j => iv (dQ ds j)))), (a 4, .inl (G 1, 2, .inl (fun j => iv (dO ds j)))), (a 5, .inl (G 0, 2, .inl (fun j => iv (dU ds j))))]) s.heap := hP
  have hD : va_D A ([(a 0, .inr (0, [.ref (a 1), .ref (a 2), .ref (a 3), .ref (a 4), .ref (a 5), .int (iv (dg ds)), .int (iv (dv ds)), .int (iv (dn ds)), .int (iv (dt ds))])), (a 1, .inl (G 0, 6, .inl (fun j => iv (dA ds j)))), (a 2, .inl (G 0, 6, .inl (fun j => iv (dW ds j)))), (a 3, .inl (G 0, 6, .inl (fun j => iv (dQ ds j)))), (a 4, .inl (G 1, 2, .inl (fun j => iv (dO ds j)))), (a 5, .inl (G 0, 2, .inl (fun j => iv (dU ds j))))]) := hD
  refine r_const hx hb dX0_wantsInAll_0 ?_
  refine lv_istore_n (lv' := [(1, .int (iv 0)), (0, .ref (a 0))]) hx hb dX0_wantsInAll_1 rfl hl (by decide) rfl (fun ls hl => ?_)
  refine r_const hx hb dX0_wantsInAll_2 ?_
  refine lv_istore_n (lv' := [(2, .int (iv 0)), (1, .int (iv 0)), (0, .ref (a 0))]) hx hb dX0_wantsInAll_3 rfl hl (by decide) rfl (fun ls hl => ?_)
  have K4 : ∀ (n i : Nat) (x : Int), i ≤ 5 → 5 < i + n → x = sm (fun k => wants (k : Int) ds) i → ∀ (H : Heap) (locs : List Loc), va_P D vwCl ([(a 0, .inr (0, [.ref (a 1), .ref (a 2), .ref (a 3), .ref (a 4), .ref (a 5), .int (iv (dg ds)), .int (iv (dv ds)), .int (iv (dn ds)), .int (iv (dt ds))])), (a 1, .inl (G 0, 6, .inl (fun j => iv (dA ds j)))), (a 2, .inl (G 0, 6, .inl (fun j => iv (dW ds j)))), (a 3, .inl (G 0, 6, .inl (fun j => iv (dQ ds j)))), (a 4, .inl (G 1, 2, .inl (fun j => iv (dO ds j)))), (a 5, .inl (G 0, 2, .inl (fun j => iv (dU ds j))))]) H → va_D A ([(a 0, .inr (0, [.ref (a 1), .ref (a 2), .ref (a 3), .ref (a 4), .ref (a 5), .int (iv (dg ds)), .int (iv (dv ds)), .int (iv (dn ds)), .int (iv (dt ds))])), (a 1, .inl (G 0, 6, .inl (fun j => iv (dA ds j)))), (a 2, .inl (G 0, 6, .inl (fun j => iv (dW ds j)))), (a 3, .inl (G 0, 6, .inl (fun j => iv (dQ ds j)))), (a 4, .inl (G 1, 2, .inl (fun j => iv (dO ds j)))), (a 5, .inl (G 0, 2, .inl (fun j => iv (dU ds j))))]) → va_S A s.heap H locs → ∀ (ls : Array Slot), lv_has ls 3 [(0, .ref (a 0)), (1, .int (iv x)), (2, .int (iv (i : Int)))] → W p l e (rmOf 2 80 0 0) s m ([.ref (a 0)] : List Value).toArray below meth c H locs 0 0 (MQ below (qI D (fun r u => r = iv (wantsAll ds) ∧ u = wDoll G a ds) A) ([.ref (a 0)] : List Value).toArray s 0 0 A) (F0 m 4 ls []) := by
    intro n
    induction n with
    | zero => intro i x h1 h2; exact absurd h2 (by omega)
    | succ n ih4 =>
      intro i x hi_4 hn_4 ex H locs hP hD hS ls hl
      refine lv_iload_n hx hb dX0_wantsInAll_4 rfl (lv_at hl 2 rfl) ?_
      refine r_const hx hb dX0_wantsInAll_5 ?_
      refine r_icmp_ge hx hb 23 dX0_wantsInAll_6 (by decide) (by omega) (by omega) (fun c_6 => ?_) (fun c_6 => ?_)
      · skip
        refine lv_iload_n hx hb dX0_wantsInAll_23 rfl (lv_at hl 1 rfl) ?_
        exact e_int hx hb hr hlk dX0_wantsInAll_24 hS hP hD (by decide) (by decide) (⟨by rw [ex, show i = 5 by omega]; rfl, rfl⟩)
      · skip
        refine lv_iload_n hx hb dX0_wantsInAll_9 rfl (lv_at hl 1 rfl) ?_
        refine lv_aload_n hx hb dX0_wantsInAll_10 rfl (lv_at hl 0 rfl) ?_
        refine lv_iload_n hx hb dX0_wantsInAll_11 rfl (lv_at hl 2 rfl) ?_
        have hp := wsp ([(a 0, .inr (0, [.ref (a 1), .ref (a 2), .ref (a 3), .ref (a 4), .ref (a 5), .int (iv (dg ds)), .int (iv (dv ds)), .int (iv (dn ds)), .int (iv (dt ds))])), (a 1, .inl (G 0, 6, .inl (fun j => iv (dA ds j)))), (a 2, .inl (G 0, 6, .inl (fun j => iv (dW ds j)))), (a 3, .inl (G 0, 6, .inl (fun j => iv (dQ ds j)))), (a 4, .inl (G 1, 2, .inl (fun j => iv (dO ds j)))), (a 5, .inl (G 0, 2, .inl (fun j => iv (dU ds j))))]) ([]) 6 (is := [0, 1, 2, 3, 4, 5]) (js := []) (wc := wDoll G a ds) (wr := []) (by decide) rfl rfl rfl
        skip
        refine k_int (g_V (As := [.int (iv (i : Int))]) (rest := [.int (iv x)]) (q0 := 0) (ci := 0) ⟨hx, hb, hml, hown, hts⟩ (c_X0_wants l D G a ds hok (i : Int) (by omega)) (cwV 1 hts gX0_wantsInAll_X0_wants rfl rfl rfl (by decide +kernel) ⟨Nat.le_of_ble_eq_true rfl, Nat.le_of_ble_eq_true rfl⟩) hK hP hD hp rfl rfl rfl rfl hl.1 rfl (Nat.le_of_ble_eq_true rfl) dX0_wantsInAll_12 ⟨by decide, by decide⟩) hP hD hS hA hp (fun v u H locs hw hP hD hS => ?_)
        obtain ⟨rfl, rfl⟩ := hw
        have hP : va_P D vwCl ([(a 0, .inr (0, [.ref (a 1), .ref (a 2), .ref (a 3), .ref (a 4), .ref (a 5), .int (iv (dg ds)), .int (iv (dv ds)), .int (iv (dn ds)), .int (iv (dt ds))])), (a 1, .inl (G 0, 6, .inl (fun j => iv (dA ds j)))), (a 2, .inl (G 0, 6, .inl (fun j => iv (dW ds j)))), (a 3, .inl (G 0, 6, .inl (fun j => iv (dQ ds j)))), (a 4, .inl (G 1, 2, .inl (fun j => iv (dO ds j)))), (a 5, .inl (G 0, 2, .inl (fun j => iv (dU ds j))))]) H := hP
        have hD : va_D A ([(a 0, .inr (0, [.ref (a 1), .ref (a 2), .ref (a 3), .ref (a 4), .ref (a 5), .int (iv (dg ds)), .int (iv (dv ds)), .int (iv (dn ds)), .int (iv (dt ds))])), (a 1, .inl (G 0, 6, .inl (fun j => iv (dA ds j)))), (a 2, .inl (G 0, 6, .inl (fun j => iv (dW ds j)))), (a 3, .inl (G 0, 6, .inl (fun j => iv (dQ ds j)))), (a 4, .inl (G 1, 2, .inl (fun j => iv (dO ds j)))), (a 5, .inl (G 0, 2, .inl (fun j => iv (dU ds j))))]) := hD
        refine r_add hx hb dX0_wantsInAll_15 ?_
        refine lv_istore_n (lv' := [(1, .int (iv (x + (wants (i : Int) ds)))), (0, .ref (a 0)), (2, .int (iv (i : Int)))]) hx hb dX0_wantsInAll_16 rfl hl (by decide) rfl (fun ls hl => ?_)
        refine r_iinc (k := 2) (lv' := [(2, .int (iv ((i : Int) + 1))), (1, .int (iv (x + (wants (i : Int) ds)))), (0, .ref (a 0))]) hx hb dX0_wantsInAll_17 hl rfl (by decide) rfl (fun ls hl => ?_)
        refine r_goto hx hb 4 dX0_wantsInAll_20 (by decide) ?_
        exact ih4 (i + 1) (x + wants (i : Int) ds) (by omega) (by omega) (sm_s ex rfl) _ _ hP hD hS _ (lv_sub hl [2, 1, 0] rfl)
  exact K4 6 0 0 (by omega) (by omega) rfl _ _ hP hD hS _ (lv_sub hl [2, 1, 0] rfl)
set_option maxHeartbeats 4000000 in
set_option maxRecDepth 100000 in
theorem c_X0_eatWig (l : Launch) (D : va_G) (G : Nat → ClassId) (a : Nat → Nat) (ds : DS) (hok : okD ds) (mo : Int) (hmo : 0 ≤ mo ∧ mo ≤ 3) : MtG l yX0_eatWig wsX0_eatWig 0 0 0 0 D (TY G) [.ref (a 0), .int (iv mo)] (wDoll G a ds) (qV D (fun u => u = wDoll G a (eatW mo ds))) := by
  refine MtG.mk (cc := cX0_eatWig) (maxL := 2) (ret := none) (by decide) rfl (Nat.le_of_ble_eq_true rfl) ?_
  intro p e s m below meth c A ls hx hb hr hlk hml hown hin hts hK hA hP hD hS hl
  replace hown : s.vm.findClass RX0 = some m.cls := hown
  have hl : lv_has ls 2 [(0, .ref (a 0)), (1, .int (iv mo))] := hl
  skip
  have hP : va_P D vwCl ([(a 0, .inr (0, [.ref (a 1), .ref (a 2), .ref (a 3), .ref (a 4), .ref (a 5), .int (iv (dg ds)), .int (iv (dv ds)), .int (iv (dn ds)), .int (iv (dt ds))])), (a 1, .inl (G 0, 6, .inl (fun j => iv (dA ds j)))), (a 2, .inl (G 0, 6, .inl (fun j => iv (dW ds j)))), (a 3, .inl (G 0, 6, .inl (fun j => iv (dQ ds j)))), (a 4, .inl (G 1, 2, .inl (fun j => iv (dO ds j)))), (a 5, .inl (G 0, 2, .inl (fun j => iv (dU ds j))))]) s.heap := hP
  have hD : va_D A ([(a 0, .inr (0, [.ref (a 1), .ref (a 2), .ref (a 3), .ref (a 4), .ref (a 5), .int (iv (dg ds)), .int (iv (dv ds)), .int (iv (dn ds)), .int (iv (dt ds))])), (a 1, .inl (G 0, 6, .inl (fun j => iv (dA ds j)))), (a 2, .inl (G 0, 6, .inl (fun j => iv (dW ds j)))), (a 3, .inl (G 0, 6, .inl (fun j => iv (dQ ds j)))), (a 4, .inl (G 1, 2, .inl (fun j => iv (dO ds j)))), (a 5, .inl (G 0, 2, .inl (fun j => iv (dU ds j))))]) := hD
  have lk28 := hts (.fieldLink RX0 28 "DollCitadel$Doll" "wigEaten" "I") (by decide +kernel)
  have in_X0 : ∀ w ∈ u_ws RX0 TX0 9, w ∈ wsX0_eatWig := by decide +kernel
  obtain ⟨-, -, og, ov, on, ovn, ovn2⟩ := id hok
  refine lv_aload_n hx hb dX0_eatWig_0 rfl (lv_at hl 0 rfl) ?_
  refine va_get (D := D) (ci := 0) (v := .int (iv (dg ds))) (C := RX0) (T := TX0) (N := 9) hx hb hts in_X0 hown hK hP 0 rfl rfl 5 (by decide) lk28 (fun _ h9 => h9) rfl dX0_eatWig_1 ?_
  refine r_const hx hb dX0_eatWig_4 ?_
  refine r_icmp_ne hx hb 9 dX0_eatWig_5 (by decide) (by omega) (by omega) (fun c_5 => ?_) (fun c_5 => ?_)
  · skip
    refine lv_aload_n hx hb dX0_eatWig_9 rfl (lv_at hl 0 rfl) ?_
    refine lv_dup hx hb dX0_eatWig_10 rfl ?_
    refine va_get (D := D) (ci := 0) (v := .int (iv (dg ds))) (C := RX0) (T := TX0) (N := 9) hx hb hts in_X0 hown hK hP 0 rfl rfl 5 (by decide) lk28 (fun _ h9 => h9) rfl dX0_eatWig_11 ?_
    refine lv_iload_n hx hb dX0_eatWig_14 rfl (lv_at hl 1 rfl) ?_
    refine r_add hx hb dX0_eatWig_15 ?_
    refine va_put (D := D) (ci := 0) (v := .int (iv ((dg ds) + mo))) (ty := .int) (C := RX0) (T := TX0) (N := 9) hx hb hts in_X0 tyX0 tyX0_ok nmX0 hown hK hP hD hS 0 rfl rfl 5 (by decide) lk28 (fun _ h9 => h9) rfl (by decide +kernel) rfl rfl (Nat.le_of_ble_eq_true rfl) dX0_eatWig_16 (fun H locs hP hD hS => ?_)
    have hP : va_P D vwCl ([(a 0, .inr (0, [.ref (a 1), .ref (a 2), .ref (a 3), .ref (a 4), .ref (a 5), .int (iv ((dg ds) + mo)), .int (iv (dv ds)), .int (iv (dn ds)), .int (iv (dt ds))])), (a 1, .inl (G 0, 6, .inl (fun j => iv (dA ds j)))), (a 2, .inl (G 0, 6, .inl (fun j => iv (dW ds j)))), (a 3, .inl (G 0, 6, .inl (fun j => iv (dQ ds j)))), (a 4, .inl (G 1, 2, .inl (fun j => iv (dO ds j)))), (a 5, .inl (G 0, 2, .inl (fun j => iv (dU ds j))))]) H := hP
    have hD : va_D A ([(a 0, .inr (0, [.ref (a 1), .ref (a 2), .ref (a 3), .ref (a 4), .ref (a 5), .int (iv ((dg ds) + mo)), .int (iv (dv ds)), .int (iv (dn ds)), .int (iv (dt ds))])), (a 1, .inl (G 0, 6, .inl (fun j => iv (dA ds j)))), (a 2, .inl (G 0, 6, .inl (fun j => iv (dW ds j)))), (a 3, .inl (G 0, 6, .inl (fun j => iv (dQ ds j)))), (a 4, .inl (G 1, 2, .inl (fun j => iv (dO ds j)))), (a 5, .inl (G 0, 2, .inl (fun j => iv (dU ds j))))]) := hD
    refine lv_aload_n hx hb dX0_eatWig_19 rfl (lv_at hl 0 rfl) ?_
    refine va_get (D := D) (ci := 0) (v := .int (iv ((dg ds) + mo))) (C := RX0) (T := TX0) (N := 9) hx hb hts in_X0 hown hK hP 0 rfl rfl 5 (by decide) lk28 (fun _ h9 => h9) rfl dX0_eatWig_20 ?_
    refine lv_bipush (v := iv 10) hx hb dX0_eatWig_23 (by decide) ?_
    refine r_icmp_lt hx hb 33 dX0_eatWig_25 (by decide) (by omega) (by omega) (fun c_25 => ?_) (fun c_25 => ?_)
    · skip
      exact e_void hx hb hr hlk dX0_eatWig_33 hS hP hD (by decide) (by decide) (by unfold eatW; rw [if_neg c_5, if_neg (by omega)]; rfl)
    · skip
      refine lv_aload_n hx hb dX0_eatWig_28 rfl (lv_at hl 0 rfl) ?_
      refine r_const hx hb dX0_eatWig_29 ?_
      refine va_put (D := D) (ci := 0) (v := .int (iv (-1))) (ty := .int) (C := RX0) (T := TX0) (N := 9) hx hb hts in_X0 tyX0 tyX0_ok nmX0 hown hK hP hD hS 0 rfl rfl 5 (by decide) lk28 (fun _ h9 => h9) rfl (by decide +kernel) rfl rfl (Nat.le_of_ble_eq_true rfl) dX0_eatWig_30 (fun H locs hP hD hS => ?_)
      have hP : va_P D vwCl ([(a 0, .inr (0, [.ref (a 1), .ref (a 2), .ref (a 3), .ref (a 4), .ref (a 5), .int (iv (-1)), .int (iv (dv ds)), .int (iv (dn ds)), .int (iv (dt ds))])), (a 1, .inl (G 0, 6, .inl (fun j => iv (dA ds j)))), (a 2, .inl (G 0, 6, .inl (fun j => iv (dW ds j)))), (a 3, .inl (G 0, 6, .inl (fun j => iv (dQ ds j)))), (a 4, .inl (G 1, 2, .inl (fun j => iv (dO ds j)))), (a 5, .inl (G 0, 2, .inl (fun j => iv (dU ds j))))]) H := hP
      have hD : va_D A ([(a 0, .inr (0, [.ref (a 1), .ref (a 2), .ref (a 3), .ref (a 4), .ref (a 5), .int (iv (-1)), .int (iv (dv ds)), .int (iv (dn ds)), .int (iv (dt ds))])), (a 1, .inl (G 0, 6, .inl (fun j => iv (dA ds j)))), (a 2, .inl (G 0, 6, .inl (fun j => iv (dW ds j)))), (a 3, .inl (G 0, 6, .inl (fun j => iv (dQ ds j)))), (a 4, .inl (G 1, 2, .inl (fun j => iv (dO ds j)))), (a 5, .inl (G 0, 2, .inl (fun j => iv (dU ds j))))]) := hD
      exact e_void hx hb hr hlk dX0_eatWig_33 hS hP hD (by decide) (by decide) (by unfold eatW; rw [if_neg c_5, if_pos (by omega)]; rfl)
  · skip
    exact e_void hx hb hr hlk dX0_eatWig_8 hS hP hD (by decide) (by decide) (by unfold eatW; rw [if_pos c_5]; rfl)
set_option maxHeartbeats 4000000 in
set_option maxRecDepth 100000 in
theorem c_X0_loosenDress (l : Launch) (D : va_G) (G : Nat → ClassId) (a : Nat → Nat) (ds : DS) (hok : okD ds)  : MtG l yX0_loosenDress wsX0_loosenDress 1 40 0 0 D (TY G) [.ref (a 0)] (wDoll G a ds) (qV D (fun u => u = wDoll G a (loosen ds))) := by
  refine MtG.mk (cc := cX0_loosenDress) (maxL := 1) (ret := none) (by decide) rfl (Nat.le_of_ble_eq_true rfl) ?_
  intro p e s m below meth c A ls hx hb hr hlk hml hown hin hts hK hA hP hD hS hl
  replace hown : s.vm.findClass RX0 = some m.cls := hown
  have hl : lv_has ls 1 [(0, .ref (a 0))] := hl
  skip
  have hP : va_P D vwCl ([(a 0, .inr (0, [.ref (a 1), .ref (a 2), .ref (a 3), .ref (a 4), .ref (a 5), .int (iv (dg ds)), .int (iv (dv ds)), .int (iv (dn ds)), .int (iv (dt ds))])), (a 1, .inl (G 0, 6, .inl (fun j => iv (dA ds j)))), (a 2, .inl (G 0, 6, .inl (fun j => iv (dW ds j)))), (a 3, .inl (G 0, 6, .inl (fun j => iv (dQ ds j)))), (a 4, .inl (G 1, 2, .inl (fun j => iv (dO ds j)))), (a 5, .inl (G 0, 2, .inl (fun j => iv (dU ds j))))]) s.heap := hP
  have hD : va_D A ([(a 0, .inr (0, [.ref (a 1), .ref (a 2), .ref (a 3), .ref (a 4), .ref (a 5), .int (iv (dg ds)), .int (iv (dv ds)), .int (iv (dn ds)), .int (iv (dt ds))])), (a 1, .inl (G 0, 6, .inl (fun j => iv (dA ds j)))), (a 2, .inl (G 0, 6, .inl (fun j => iv (dW ds j)))), (a 3, .inl (G 0, 6, .inl (fun j => iv (dQ ds j)))), (a 4, .inl (G 1, 2, .inl (fun j => iv (dO ds j)))), (a 5, .inl (G 0, 2, .inl (fun j => iv (dU ds j))))]) := hD
  have lk32 := hts (.fieldLink RX0 32 "DollCitadel$Doll" "weight" "I") (by decide +kernel)
  have in_X0 : ∀ w ∈ u_ws RX0 TX0 9, w ∈ wsX0_loosenDress := by decide +kernel
  have lk15 := hts (.fieldLink RX0 15 "DollCitadel$Doll" "wears" "[I") (by decide +kernel)
  have lk35 := hts (.fieldLink RX0 35 "DollCitadel$Doll" "pins" "I") (by decide +kernel)
  obtain ⟨-, -, og, ov, on, ovn, ovn2⟩ := id hok
  refine lv_aload_n hx hb dX0_loosenDress_0 rfl (lv_at hl 0 rfl) ?_
  refine va_get (D := D) (ci := 0) (v := .int (iv (dv ds))) (C := RX0) (T := TX0) (N := 9) hx hb hts in_X0 hown hK hP 0 rfl rfl 6 (by decide) lk32 (fun _ h9 => h9) rfl dX0_loosenDress_1 ?_
  refine r_if_eq hx hb 18 dX0_loosenDress_4 (by decide) (by omega) (fun c_4 => ?_) (fun c_4 => ?_)
  · skip
    exact e_void hx hb hr hlk dX0_loosenDress_18 hS hP hD (by decide) (by decide) (by unfold loosen; rw [if_pos (by omega)]; rfl)
  · skip
    refine lv_aload_n hx hb dX0_loosenDress_7 rfl (lv_at hl 0 rfl) ?_
    refine va_get (D := D) (ci := 0) (v := .ref (a 2)) (C := RX0) (T := TX0) (N := 9) hx hb hts in_X0 hown hK hP 0 rfl rfl 1 (by decide) lk15 (fun _ h9 => h9) rfl dX0_loosenDress_8 ?_
    refine r_const hx hb dX0_loosenDress_11 ?_
    refine r_iald (F := dW ds) hx hb hK hP 2 0 rfl rfl 5 (by omega) (by omega) (by decide) dX0_loosenDress_12 ?_
    have b_12 := okD_W hok 5 (by omega)
    refine lv_bipush (v := iv 50) hx hb dX0_loosenDress_13 (by decide) ?_
    refine r_icmp_ge hx hb 19 dX0_loosenDress_15 (by decide) (by omega) (by omega) (fun c_15 => ?_) (fun c_15 => ?_)
    · skip
      refine lv_aload_n hx hb dX0_loosenDress_19 rfl (lv_at hl 0 rfl) ?_
      refine r_const hx hb dX0_loosenDress_20 ?_
      refine lv_aload_n hx hb dX0_loosenDress_21 rfl (lv_at hl 0 rfl) ?_
      refine va_get (D := D) (ci := 0) (v := .int (iv (dn ds))) (C := RX0) (T := TX0) (N := 9) hx hb hts in_X0 hown hK hP 0 rfl rfl 7 (by decide) lk35 (fun _ h9 => h9) rfl dX0_loosenDress_22 ?_
      refine r_const hx hb dX0_loosenDress_25 ?_
      refine r_sub hx hb dX0_loosenDress_26 ?_
      refine r_max hx hb (hml.trans hl.1.symm) hown (hts (.methodLink RX0 54 Lib.Math.max.name) (by decide +kernel)) (hts (.static Lib.Math.max.name) (by decide +kernel)) (hts (.initialized "java/lang/Math") (by decide +kernel)) (hts (.code Lib.Math.max.name Lib.Math.max.code 2 (some .int)) (by decide +kernel)) (Nat.le_of_ble_eq_true rfl) (Nat.le_of_ble_eq_true rfl) (Nat.le_of_ble_eq_true rfl) (Nat.le_of_ble_eq_true rfl) (by omega) (by omega) dX0_loosenDress_27 ?_
      refine va_put (D := D) (ci := 0) (v := .int (iv (max 0 ((dn ds) - 1)))) (ty := .int) (C := RX0) (T := TX0) (N := 9) hx hb hts in_X0 tyX0 tyX0_ok nmX0 hown hK hP hD hS 0 rfl rfl 7 (by decide) lk35 (fun _ h9 => h9) rfl (by decide +kernel) rfl rfl (Nat.le_of_ble_eq_true rfl) dX0_loosenDress_30 (fun H locs hP hD hS => ?_)
      have hP : va_P D vwCl ([(a 0, .inr (0, [.ref (a 1), .ref (a 2), .ref (a 3), .ref (a 4), .ref (a 5), .int (iv (dg ds)), .int (iv (dv ds)), .int (iv (max 0 ((dn ds) - 1))), .int (iv (dt ds))])), (a 1, .inl (G 0, 6, .inl (fun j => iv (dA ds j)))), (a 2, .inl (G 0, 6, .inl (fun j => iv (dW ds j)))), (a 3, .inl (G 0, 6, .inl (fun j => iv (dQ ds j)))), (a 4, .inl (G 1, 2, .inl (fun j => iv (dO ds j)))), (a 5, .inl (G 0, 2, .inl (fun j => iv (dU ds j))))]) H := hP
      have hD : va_D A ([(a 0, .inr (0, [.ref (a 1), .ref (a 2), .ref (a 3), .ref (a 4), .ref (a 5), .int (iv (dg ds)), .int (iv (dv ds)), .int (iv (max 0 ((dn ds) - 1))), .int (iv (dt ds))])), (a 1, .inl (G 0, 6, .inl (fun j => iv (dA ds j)))), (a 2, .inl (G 0, 6, .inl (fun j => iv (dW ds j)))), (a 3, .inl (G 0, 6, .inl (fun j => iv (dQ ds j)))), (a 4, .inl (G 1, 2, .inl (fun j => iv (dO ds j)))), (a 5, .inl (G 0, 2, .inl (fun j => iv (dU ds j))))]) := hD
      refine lv_aload_n hx hb dX0_loosenDress_33 rfl (lv_at hl 0 rfl) ?_
      refine va_get (D := D) (ci := 0) (v := .int (iv (max 0 ((dn ds) - 1)))) (C := RX0) (T := TX0) (N := 9) hx hb hts in_X0 hown hK hP 0 rfl rfl 7 (by decide) lk35 (fun _ h9 => h9) rfl dX0_loosenDress_34 ?_
      refine lv_aload_n hx hb dX0_loosenDress_37 rfl (lv_at hl 0 rfl) ?_
      refine va_get (D := D) (ci := 0) (v := .int (iv (dv ds))) (C := RX0) (T := TX0) (N := 9) hx hb hts in_X0 hown hK hP 0 rfl rfl 6 (by decide) lk32 (fun _ h9 => h9) rfl dX0_loosenDress_38 ?_
      refine r_icmp_ge hx hb 54 dX0_loosenDress_41 (by decide) (by omega) (by omega) (fun c_41 => ?_) (fun c_41 => ?_)
      · skip
        exact e_void hx hb hr hlk dX0_loosenDress_54 hS hP hD (by decide) (by decide) (by unfold loosen; rw [if_neg (by omega), if_neg (by omega)]; rfl)
      · skip
        refine lv_aload_n hx hb dX0_loosenDress_44 rfl (lv_at hl 0 rfl) ?_
        refine r_const hx hb dX0_loosenDress_45 ?_
        refine va_put (D := D) (ci := 0) (v := .int (iv 0)) (ty := .int) (C := RX0) (T := TX0) (N := 9) hx hb hts in_X0 tyX0 tyX0_ok nmX0 hown hK hP hD hS 0 rfl rfl 6 (by decide) lk32 (fun _ h9 => h9) rfl (by decide +kernel) rfl rfl (Nat.le_of_ble_eq_true rfl) dX0_loosenDress_46 (fun H locs hP hD hS => ?_)
        have hP : va_P D vwCl ([(a 0, .inr (0, [.ref (a 1), .ref (a 2), .ref (a 3), .ref (a 4), .ref (a 5), .int (iv (dg ds)), .int (iv 0), .int (iv (max 0 ((dn ds) - 1))), .int (iv (dt ds))])), (a 1, .inl (G 0, 6, .inl (fun j => iv (dA ds j)))), (a 2, .inl (G 0, 6, .inl (fun j => iv (dW ds j)))), (a 3, .inl (G 0, 6, .inl (fun j => iv (dQ ds j)))), (a 4, .inl (G 1, 2, .inl (fun j => iv (dO ds j)))), (a 5, .inl (G 0, 2, .inl (fun j => iv (dU ds j))))]) H := hP
        have hD : va_D A ([(a 0, .inr (0, [.ref (a 1), .ref (a 2), .ref (a 3), .ref (a 4), .ref (a 5), .int (iv (dg ds)), .int (iv 0), .int (iv (max 0 ((dn ds) - 1))), .int (iv (dt ds))])), (a 1, .inl (G 0, 6, .inl (fun j => iv (dA ds j)))), (a 2, .inl (G 0, 6, .inl (fun j => iv (dW ds j)))), (a 3, .inl (G 0, 6, .inl (fun j => iv (dQ ds j)))), (a 4, .inl (G 1, 2, .inl (fun j => iv (dO ds j)))), (a 5, .inl (G 0, 2, .inl (fun j => iv (dU ds j))))]) := hD
        refine lv_aload_n hx hb dX0_loosenDress_49 rfl (lv_at hl 0 rfl) ?_
        refine r_const hx hb dX0_loosenDress_50 ?_
        refine va_put (D := D) (ci := 0) (v := .int (iv 0)) (ty := .int) (C := RX0) (T := TX0) (N := 9) hx hb hts in_X0 tyX0 tyX0_ok nmX0 hown hK hP hD hS 0 rfl rfl 7 (by decide) lk35 (fun _ h9 => h9) rfl (by decide +kernel) rfl rfl (Nat.le_of_ble_eq_true rfl) dX0_loosenDress_51 (fun H locs hP hD hS => ?_)
        have hP : va_P D vwCl ([(a 0, .inr (0, [.ref (a 1), .ref (a 2), .ref (a 3), .ref (a 4), .ref (a 5), .int (iv (dg ds)), .int (iv 0), .int (iv 0), .int (iv (dt ds))])), (a 1, .inl (G 0, 6, .inl (fun j => iv (dA ds j)))), (a 2, .inl (G 0, 6, .inl (fun j => iv (dW ds j)))), (a 3, .inl (G 0, 6, .inl (fun j => iv (dQ ds j)))), (a 4, .inl (G 1, 2, .inl (fun j => iv (dO ds j)))), (a 5, .inl (G 0, 2, .inl (fun j => iv (dU ds j))))]) H := hP
        have hD : va_D A ([(a 0, .inr (0, [.ref (a 1), .ref (a 2), .ref (a 3), .ref (a 4), .ref (a 5), .int (iv (dg ds)), .int (iv 0), .int (iv 0), .int (iv (dt ds))])), (a 1, .inl (G 0, 6, .inl (fun j => iv (dA ds j)))), (a 2, .inl (G 0, 6, .inl (fun j => iv (dW ds j)))), (a 3, .inl (G 0, 6, .inl (fun j => iv (dQ ds j)))), (a 4, .inl (G 1, 2, .inl (fun j => iv (dO ds j)))), (a 5, .inl (G 0, 2, .inl (fun j => iv (dU ds j))))]) := hD
        exact e_void hx hb hr hlk dX0_loosenDress_54 hS hP hD (by decide) (by decide) (by unfold loosen; rw [if_neg (by omega), if_pos (by omega)]; rfl)
    · skip
      exact e_void hx hb hr hlk dX0_loosenDress_18 hS hP hD (by decide) (by decide) (by unfold loosen; rw [if_pos (by omega)]; rfl)
set_option maxHeartbeats 4000000 in
set_option maxRecDepth 100000 in
theorem c_X0_wipeEyes (l : Launch) (D : va_G) (G : Nat → ClassId) (a : Nat → Nat) (ds : DS) (hok : okD ds)  : MtG l yX0_wipeEyes wsX0_wipeEyes 0 0 0 0 D (TY G) [.ref (a 0)] (wDoll G a ds) (qV D (fun u => u = wDoll G a (dA ds, dW ds, dQ ds, dO ds, zz, dg ds, dv ds, dn ds, dt ds))) := by
  refine MtG.mk (cc := cX0_wipeEyes) (maxL := 2) (ret := none) (by decide) rfl (Nat.le_of_ble_eq_true rfl) ?_
  intro p e s m below meth c A ls hx hb hr hlk hml hown hin hts hK hA hP hD hS hl
  replace hown : s.vm.findClass RX0 = some m.cls := hown
  have hl : lv_has ls 2 [(0, .ref (a 0))] := hl
  skip
  have hP : va_P D vwCl ([(a 0, .inr (0, [.ref (a 1), .ref (a 2), .ref (a 3), .ref (a 4), .ref (a 5), .int (iv (dg ds)), .int (iv (dv ds)), .int (iv (dn ds)), .int (iv (dt ds))])), (a 1, .inl (G 0, 6, .inl (fun j => iv (dA ds j)))), (a 2, .inl (G 0, 6, .inl (fun j => iv (dW ds j)))), (a 3, .inl (G 0, 6, .inl (fun j => iv (dQ ds j)))), (a 4, .inl (G 1, 2, .inl (fun j => iv (dO ds j)))), (a 5, .inl (G 0, 2, .inl (fun j => iv (dU ds j))))]) s.heap := hP
  have hD : va_D A ([(a 0, .inr (0, [.ref (a 1), .ref (a 2), .ref (a 3), .ref (a 4), .ref (a 5), .int (iv (dg ds)), .int (iv (dv ds)), .int (iv (dn ds)), .int (iv (dt ds))])), (a 1, .inl (G 0, 6, .inl (fun j => iv (dA ds j)))), (a 2, .inl (G 0, 6, .inl (fun j => iv (dW ds j)))), (a 3, .inl (G 0, 6, .inl (fun j => iv (dQ ds j)))), (a 4, .inl (G 1, 2, .inl (fun j => iv (dO ds j)))), (a 5, .inl (G 0, 2, .inl (fun j => iv (dU ds j))))]) := hD
  have lk25 := hts (.fieldLink RX0 25 "DollCitadel$Doll" "dusts" "[I") (by decide +kernel)
  have in_X0 : ∀ w ∈ u_ws RX0 TX0 9, w ∈ wsX0_wipeEyes := by decide +kernel
  refine r_const hx hb dX0_wipeEyes_0 ?_
  refine lv_istore_n (lv' := [(1, .int (iv 0)), (0, .ref (a 0))]) hx hb dX0_wipeEyes_1 rfl hl (by decide) rfl (fun ls hl => ?_)
  have K2 : ∀ (n i : Nat) (FU : Nat → Int), i ≤ 2 → 2 < i + n → (∀ j, j < i → FU j = 0) → ∀ (H : Heap) (locs : List Loc), va_P D vwCl ([(a 0, .inr (0, [.ref (a 1), .ref (a 2), .ref (a 3), .ref (a 4), .ref (a 5), .int (iv (dg ds)), .int (iv (dv ds)), .int (iv (dn ds)), .int (iv (dt ds))])), (a 1, .inl (G 0, 6, .inl (fun j => iv (dA ds j)))), (a 2, .inl (G 0, 6, .inl (fun j => iv (dW ds j)))), (a 3, .inl (G 0, 6, .inl (fun j => iv (dQ ds j)))), (a 4, .inl (G 1, 2, .inl (fun j => iv (dO ds j)))), (a 5, .inl (G 0, 2, .inl (fun j => iv (FU j))))]) H → va_D A ([(a 0, .inr (0, [.ref (a 1), .ref (a 2), .ref (a 3), .ref (a 4), .ref (a 5), .int (iv (dg ds)), .int (iv (dv ds)), .int (iv (dn ds)), .int (iv (dt ds))])), (a 1, .inl (G 0, 6, .inl (fun j => iv (dA ds j)))), (a 2, .inl (G 0, 6, .inl (fun j => iv (dW ds j)))), (a 3, .inl (G 0, 6, .inl (fun j => iv (dQ ds j)))), (a 4, .inl (G 1, 2, .inl (fun j => iv (dO ds j)))), (a 5, .inl (G 0, 2, .inl (fun j => iv (FU j))))]) → va_S A s.heap H locs → ∀ (ls : Array Slot), lv_has ls 2 [(0, .ref (a 0)), (1, .int (iv (i : Int)))] → W p l e (rmOf 0 0 0 0) s m ([.ref (a 0)] : List Value).toArray below meth c H locs 0 0 (MQ below (qV D (fun u => u = wDoll G a (dA ds, dW ds, dQ ds, dO ds, zz, dg ds, dv ds, dn ds, dt ds)) A) ([.ref (a 0)] : List Value).toArray s 0 0 A) (F0 m 2 ls []) := by
    intro n
    induction n with
    | zero => intro i FU h1 h2; exact absurd h2 (by omega)
    | succ n ih2 =>
      intro i FU hi_2 hn_2 hu H locs hP hD hS ls hl
      refine lv_iload_n hx hb dX0_wipeEyes_2 rfl (lv_at hl 1 rfl) ?_
      refine r_const hx hb dX0_wipeEyes_3 ?_
      refine r_icmp_ge hx hb 20 dX0_wipeEyes_4 (by decide) (by omega) (by omega) (fun c_4 => ?_) (fun c_4 => ?_)
      · skip
        have hP := wP_say 5 zz hP rfl (fun j hj => hu j (by omega))
        have hD := wD_say 5 (.inl (G 0, 2, .inl (fun j => iv (zz j)))) hD rfl
        exact e_void hx hb hr hlk dX0_wipeEyes_20 hS hP hD (by decide) (by decide) rfl
      · skip
        refine lv_aload_n hx hb dX0_wipeEyes_7 rfl (lv_at hl 0 rfl) ?_
        refine va_get (D := D) (ci := 0) (v := .ref (a 5)) (C := RX0) (T := TX0) (N := 9) hx hb hts in_X0 hown hK hP 0 rfl rfl 4 (by decide) lk25 (fun _ h9 => h9) rfl dX0_wipeEyes_8 ?_
        refine lv_iload_n hx hb dX0_wipeEyes_11 rfl (lv_at hl 1 rfl) ?_
        refine r_const hx hb dX0_wipeEyes_12 ?_
        refine r_iast (F := FU) hx hb hK hP hD hS 5 0 rfl rfl i (by omega) (by omega) (by decide) dX0_wipeEyes_13 (fun H locs hP hD hS => ?_)
        have hP : va_P D vwCl ([(a 0, .inr (0, [.ref (a 1), .ref (a 2), .ref (a 3), .ref (a 4), .ref (a 5), .int (iv (dg ds)), .int (iv (dv ds)), .int (iv (dn ds)), .int (iv (dt ds))])), (a 1, .inl (G 0, 6, .inl (fun j => iv (dA ds j)))), (a 2, .inl (G 0, 6, .inl (fun j => iv (dW ds j)))), (a 3, .inl (G 0, 6, .inl (fun j => iv (dQ ds j)))), (a 4, .inl (G 1, 2, .inl (fun j => iv (dO ds j)))), (a 5, .inl (G 0, 2, .inl (fun j => iv (updI FU i 0 j))))]) H := hP
        have hD : va_D A ([(a 0, .inr (0, [.ref (a 1), .ref (a 2), .ref (a 3), .ref (a 4), .ref (a 5), .int (iv (dg ds)), .int (iv (dv ds)), .int (iv (dn ds)), .int (iv (dt ds))])), (a 1, .inl (G 0, 6, .inl (fun j => iv (dA ds j)))), (a 2, .inl (G 0, 6, .inl (fun j => iv (dW ds j)))), (a 3, .inl (G 0, 6, .inl (fun j => iv (dQ ds j)))), (a 4, .inl (G 1, 2, .inl (fun j => iv (dO ds j)))), (a 5, .inl (G 0, 2, .inl (fun j => iv (updI FU i 0 j))))]) := hD
        refine r_iinc (k := 1) (lv' := [(1, .int (iv ((i : Int) + 1))), (0, .ref (a 0))]) hx hb dX0_wipeEyes_14 hl rfl (by decide) rfl (fun ls hl => ?_)
        refine r_goto hx hb 2 dX0_wipeEyes_17 (by decide) ?_
        exact ih2 (i + 1) (updI FU i 0) (by omega) (by omega) (fun j hj => by by_cases q : j = i; (rw [q, updI_s]); (rw [updI_n _ _ q]; exact hu j (by omega))) _ _ hP hD hS _ (lv_sub hl [1, 0] rfl)
  exact K2 3 0 (dU ds) (by omega) (by omega) lt_0 _ _ hP hD hS _ (lv_sub hl [1, 0] rfl)
set_option maxHeartbeats 4000000 in
set_option maxRecDepth 100000 in
theorem c_X1_digestInto (l : Launch) (D : va_G) (G : Nat → ClassId) (a : Nat → Nat) (P : Nat → Int) (d : Int64) : MtG l yX1_digestInto wsX1_digestInto 0 0 0 0 D (TY G) [.ref (a 0), .long d] (wPose G a P) (qL D (fun r u => r = dg64 P d 6 ∧ u = wPose G a P)) := by
  refine MtG.mk (cc := cX1_digestInto) (maxL := 9) (ret := some .long) (by decide) rfl (Nat.le_of_ble_eq_true rfl) ?_
  intro p e s m below meth c A ls hx hb hr hlk hml hown hin hts hK hA hP hD hS hl
  replace hown : s.vm.findClass RX1 = some m.cls := hown
  have hl : lv_has ls 9 [(0, .ref (a 0)), (1, .long d)] := hl
  skip
  have hP : va_P D vwCl ([(a 0, .inr (1, [.ref (a 1)])), (a 1, .inl (G 0, 6, .inl (fun j => iv (P j))))]) s.heap := hP
  have hD : va_D A ([(a 0, .inr (1, [.ref (a 1)])), (a 1, .inl (G 0, 6, .inl (fun j => iv (P j))))]) := hD
  have lk9 := hts (.fieldLink RX1 9 "DollCitadel$Pose" "angles" "[I") (by decide +kernel)
  have in_X1 : ∀ w ∈ u_ws RX1 TX1 1, w ∈ wsX1_digestInto := by decide +kernel
  refine lv_lload_n hx hb dX1_digestInto_0 rfl (lv_at hl 1 rfl) ?_
  refine lv_lstore_n (lv' := [(3, .long d), (0, .ref (a 0)), (1, .long d)]) hx hb dX1_digestInto_1 rfl hl (by decide) rfl (fun ls hl => ?_)
  refine lv_aload_n hx hb dX1_digestInto_2 rfl (lv_at hl 1 rfl) ?_
  refine va_get (D := D) (ci := 1) (v := .ref (a 1)) (C := RX1) (T := TX1) (N := 1) hx hb hts in_X1 hown hK hP 0 rfl rfl 0 (by decide) lk9 (fun _ h9 => h9) rfl dX1_digestInto_3 ?_
  refine lv_astore (lv' := [(5, .ref (a 1)), (3, .long d), (0, .ref (a 0)), (1, .long d)]) hx hb dX1_digestInto_6 hl (by decide) rfl (fun ls hl => ?_)
  refine lv_aload hx hb dX1_digestInto_8 (lv_at hl 0 rfl) ?_
  refine va_alen (v := iv 6) hx hb hK hP 1 0 rfl (ty := _) rfl rfl dX1_digestInto_10 ?_
  refine lv_istore (lv' := [(6, .int (iv 6)), (5, .ref (a 1)), (3, .long d), (0, .ref (a 0)), (1, .long d)]) hx hb dX1_digestInto_11 hl (by decide) rfl (fun ls hl => ?_)
  refine r_const hx hb dX1_digestInto_13 ?_
  refine lv_istore (lv' := [(7, .int (iv 0)), (6, .int (iv 6)), (5, .ref (a 1)), (3, .long d), (0, .ref (a 0)), (1, .long d)]) hx hb dX1_digestInto_14 hl (by decide) rfl (fun ls hl => ?_)
  have K16 : ∀ (n i : Nat) (x : Int64), i ≤ 6 → 6 < i + n → x = dg64 P d i → ∀ (H : Heap) (locs : List Loc), va_P D vwCl ([(a 0, .inr (1, [.ref (a 1)])), (a 1, .inl (G 0, 6, .inl (fun j => iv (P j))))]) H → va_D A ([(a 0, .inr (1, [.ref (a 1)])), (a 1, .inl (G 0, 6, .inl (fun j => iv (P j))))]) → va_S A s.heap H locs → ∀ (ls : Array Slot), lv_has ls 9 [(0, .ref (a 0)), (1, .long d), (3, .long x), (5, .ref (a 1)), (6, .int (iv 6)), (7, .int (iv (i : Int)))] → W p l e (rmOf 0 0 0 0) s m ([.ref (a 0), .long d] : List Value).toArray below meth c H locs 0 0 (MQ below (qL D (fun r u => r = dg64 P d 6 ∧ u = wPose G a P) A) ([.ref (a 0), .long d] : List Value).toArray s 0 0 A) (F0 m 16 ls []) := by
    intro n
    induction n with
    | zero => intro i x h1 h2; exact absurd h2 (by omega)
    | succ n ih16 =>
      intro i x hi_16 hn_16 ex H locs hP hD hS ls hl
      refine lv_iload hx hb dX1_digestInto_16 (lv_at hl 5 rfl) ?_
      refine lv_iload hx hb dX1_digestInto_18 (lv_at hl 4 rfl) ?_
      refine r_icmp_ge hx hb 46 dX1_digestInto_20 (by decide) (by omega) (by omega) (fun c_20 => ?_) (fun c_20 => ?_)
      · skip
        refine lv_lload_n hx hb dX1_digestInto_46 rfl (lv_at hl 2 rfl) ?_
        exact e_long hx hb hr hlk dX1_digestInto_47 hS hP hD (by decide) (by decide) (⟨by rw [ex, show i = 6 by omega], rfl⟩)
      · skip
        refine lv_aload hx hb dX1_digestInto_23 (lv_at hl 3 rfl) ?_
        refine lv_iload hx hb dX1_digestInto_25 (lv_at hl 5 rfl) ?_
        refine r_iald (F := P) hx hb hK hP 1 0 rfl rfl i (by omega) (by omega) (by decide) dX1_digestInto_27 ?_
        refine lv_istore (lv' := [(8, .int (iv (P i))), (0, .ref (a 0)), (1, .long d), (3, .long x), (5, .ref (a 1)), (6, .int (iv 6)), (7, .int (iv (i : Int)))]) hx hb dX1_digestInto_28 hl (by decide) rfl (fun ls hl => ?_)
        refine lv_lload_n hx hb dX1_digestInto_30 rfl (lv_at hl 3 rfl) ?_
        refine lv_ldc2 hx hb hown (hts (.constantLong RX1 15 (31)) (by decide +kernel)) dX1_digestInto_31 ?_
        refine lv_lmul hx hb dX1_digestInto_34 ?_
        refine lv_iload hx hb dX1_digestInto_35 (lv_at hl 0 rfl) ?_
        refine lv_i2l (v := ((iv (P i))).toInt64) hx hb dX1_digestInto_37 rfl ?_
        refine lv_ladd hx hb dX1_digestInto_38 ?_
        refine lv_lstore_n (lv' := [(3, .long ((x * (31 : Int64)) + (((iv (P i))).toInt64))), (8, .int (iv (P i))), (0, .ref (a 0)), (1, .long d), (5, .ref (a 1)), (6, .int (iv 6)), (7, .int (iv (i : Int)))]) hx hb dX1_digestInto_39 rfl hl (by decide) rfl (fun ls hl => ?_)
        refine r_iinc (k := 6) (lv' := [(7, .int (iv ((i : Int) + 1))), (3, .long ((x * (31 : Int64)) + (((iv (P i))).toInt64))), (8, .int (iv (P i))), (0, .ref (a 0)), (1, .long d), (5, .ref (a 1)), (6, .int (iv 6))]) hx hb dX1_digestInto_40 hl rfl (by decide) rfl (fun ls hl => ?_)
        refine r_goto hx hb 16 dX1_digestInto_43 (by decide) ?_
        exact ih16 (i + 1) (x * 31 + (iv (P i)).toInt64) (by omega) (by omega) (by rw [ex]; rfl) _ _ hP hD hS _ (lv_sub hl [3, 4, 1, 5, 6, 0] rfl)
  exact K16 7 0 d (by omega) (by omega) rfl _ _ hP hD hS _ (lv_sub hl [4, 5, 3, 2, 1, 0] rfl)
end
section
set_option maxHeartbeats 4000000 in
set_option maxRecDepth 100000 in
theorem c_X0_liveOneDay (l : Launch) (D : va_G) (G : Nat → ClassId) (a : Nat → Nat) (ds : DS) (hok : okD ds) (d mo : Int) (hd0 : 0 ≤ d ∧ d < 2000000000) (hmo : 0 ≤ mo ∧ mo ≤ 3) : MtG l yX0_liveOneDay wsX0_liveOneDay 3 130 0 0 D (TY G) [.ref (a 0), .int (iv d), .int (iv mo)] (wDoll G a ds) (qI D (fun r u => r = iv (has ds - has (day1 d mo ds)) ∧ u = wDoll G a (day1 d mo ds))) := by
  refine MtG.mk (cc := cX0_liveOneDay) (maxL := 5) (ret := some .int) (by decide) rfl (Nat.le_of_ble_eq_true rfl) ?_
  intro p e s m below meth c A ls hx hb hr hlk hml hown hin hts hK hA hP hD hS hl
  replace hown : s.vm.findClass RX0 = some m.cls := hown
  have hl : lv_has ls 5 [(0, .ref (a 0)), (1, .int (iv d)), (2, .int (iv mo))] := hl
  skip
  have hP : va_P D vwCl ([(a 0, .inr (0, [.ref (a 1), .ref (a 2), .ref (a 3), .ref (a 4), .ref (a 5), .int (iv (dg ds)), .int (iv (dv ds)), .int (iv (dn ds)), .int (iv (dt ds))])), (a 1, .inl (G 0, 6, .inl (fun j => iv (dA ds j)))), (a 2, .inl (G 0, 6, .inl (fun j => iv (dW ds j)))), (a 3, .inl (G 0, 6, .inl (fun j => iv (dQ ds j)))), (a 4, .inl (G 1, 2, .inl (fun j => iv (dO ds j)))), (a 5, .inl (G 0, 2, .inl (fun j => iv (dU ds j))))]) s.heap := hP
  have hD : va_D A ([(a 0, .inr (0, [.ref (a 1), .ref (a 2), .ref (a 3), .ref (a 4), .ref (a 5), .int (iv (dg ds)), .int (iv (dv ds)), .int (iv (dn ds)), .int (iv (dt ds))])), (a 1, .inl (G 0, 6, .inl (fun j => iv (dA ds j)))), (a 2, .inl (G 0, 6, .inl (fun j => iv (dW ds j)))), (a 3, .inl (G 0, 6, .inl (fun j => iv (dQ ds j)))), (a 4, .inl (G 1, 2, .inl (fun j => iv (dO ds j)))), (a 5, .inl (G 0, 2, .inl (fun j => iv (dU ds j))))]) := hD
  refine lv_aload_n hx hb dX0_liveOneDay_0 rfl (lv_at hl 0 rfl) ?_
  refine r_const hx hb dX0_liveOneDay_1 ?_
  have hp := wsp ([(a 0, .inr (0, [.ref (a 1), .ref (a 2), .ref (a 3), .ref (a 4), .ref (a 5), .int (iv (dg ds)), .int (iv (dv ds)), .int (iv (dn ds)), .int (iv (dt ds))])), (a 1, .inl (G 0, 6, .inl (fun j => iv (dA ds j)))), (a 2, .inl (G 0, 6, .inl (fun j => iv (dW ds j)))), (a 3, .inl (G 0, 6, .inl (fun j => iv (dQ ds j)))), (a 4, .inl (G 1, 2, .inl (fun j => iv (dO ds j)))), (a 5, .inl (G 0, 2, .inl (fun j => iv (dU ds j))))]) ([]) 6 (is := [0, 1, 2, 3, 4, 5]) (js := []) (wc := wDoll G a ds) (wr := []) (by decide) rfl rfl rfl
  skip
  refine k_int (g_V (As := [.int (iv 5)]) (rest := []) (q0 := 0) (ci := 0) ⟨hx, hb, hml, hown, hts⟩ (c_X0_tally l D G a ds hok 5 (by decide)) (cwV 1 hts gX0_liveOneDay_X0_tally rfl rfl rfl (by decide +kernel) ⟨Nat.le_of_ble_eq_true rfl, Nat.le_of_ble_eq_true rfl⟩) hK hP hD hp rfl rfl rfl rfl hl.1 rfl (Nat.le_of_ble_eq_true rfl) dX0_liveOneDay_2 ⟨by decide, by decide⟩) hP hD hS hA hp (fun v u H locs hw hP hD hS => ?_)
  obtain ⟨rfl, rfl⟩ := hw
  have hP : va_P D vwCl ([(a 0, .inr (0, [.ref (a 1), .ref (a 2), .ref (a 3), .ref (a 4), .ref (a 5), .int (iv (dg ds)), .int (iv (dv ds)), .int (iv (dn ds)), .int (iv (dt ds))])), (a 1, .inl (G 0, 6, .inl (fun j => iv (dA ds j)))), (a 2, .inl (G 0, 6, .inl (fun j => iv (dW ds j)))), (a 3, .inl (G 0, 6, .inl (fun j => iv (dQ ds j)))), (a 4, .inl (G 1, 2, .inl (fun j => iv (dO ds j)))), (a 5, .inl (G 0, 2, .inl (fun j => iv (dU ds j))))]) H := hP
  have hD : va_D A ([(a 0, .inr (0, [.ref (a 1), .ref (a 2), .ref (a 3), .ref (a 4), .ref (a 5), .int (iv (dg ds)), .int (iv (dv ds)), .int (iv (dn ds)), .int (iv (dt ds))])), (a 1, .inl (G 0, 6, .inl (fun j => iv (dA ds j)))), (a 2, .inl (G 0, 6, .inl (fun j => iv (dW ds j)))), (a 3, .inl (G 0, 6, .inl (fun j => iv (dQ ds j)))), (a 4, .inl (G 1, 2, .inl (fun j => iv (dO ds j)))), (a 5, .inl (G 0, 2, .inl (fun j => iv (dU ds j))))]) := hD
  refine lv_istore_n (lv' := [(3, .int (iv (tally 5 ds))), (0, .ref (a 0)), (1, .int (iv d)), (2, .int (iv mo))]) hx hb dX0_liveOneDay_5 rfl hl (by decide) rfl (fun ls hl => ?_)
  refine lv_aload_n hx hb dX0_liveOneDay_6 rfl (lv_at hl 1 rfl) ?_
  refine lv_bipush (v := iv 6) hx hb dX0_liveOneDay_7 (by decide) ?_
  have hp := wsp ([(a 0, .inr (0, [.ref (a 1), .ref (a 2), .ref (a 3), .ref (a 4), .ref (a 5), .int (iv (dg ds)), .int (iv (dv ds)), .int (iv (dn ds)), .int (iv (dt ds))])), (a 1, .inl (G 0, 6, .inl (fun j => iv (dA ds j)))), (a 2, .inl (G 0, 6, .inl (fun j => iv (dW ds j)))), (a 3, .inl (G 0, 6, .inl (fun j => iv (dQ ds j)))), (a 4, .inl (G 1, 2, .inl (fun j => iv (dO ds j)))), (a 5, .inl (G 0, 2, .inl (fun j => iv (dU ds j))))]) ([]) 6 (is := [0, 1, 2, 3, 4, 5]) (js := []) (wc := wDoll G a ds) (wr := []) (by decide) rfl rfl rfl
  skip
  refine k_int (g_V (As := [.int (iv 6)]) (rest := []) (q0 := 0) (ci := 0) ⟨hx, hb, hml, hown, hts⟩ (c_X0_tally l D G a ds hok 6 (by decide)) (cwV 1 hts gX0_liveOneDay_X0_tally rfl rfl rfl (by decide +kernel) ⟨Nat.le_of_ble_eq_true rfl, Nat.le_of_ble_eq_true rfl⟩) hK hP hD hp rfl rfl rfl rfl hl.1 rfl (Nat.le_of_ble_eq_true rfl) dX0_liveOneDay_9 ⟨by decide, by decide⟩) hP hD hS hA hp (fun v u H locs hw hP hD hS => ?_)
  obtain ⟨rfl, rfl⟩ := hw
  have hP : va_P D vwCl ([(a 0, .inr (0, [.ref (a 1), .ref (a 2), .ref (a 3), .ref (a 4), .ref (a 5), .int (iv (dg ds)), .int (iv (dv ds)), .int (iv (dn ds)), .int (iv (dt ds))])), (a 1, .inl (G 0, 6, .inl (fun j => iv (dA ds j)))), (a 2, .inl (G 0, 6, .inl (fun j => iv (dW ds j)))), (a 3, .inl (G 0, 6, .inl (fun j => iv (dQ ds j)))), (a 4, .inl (G 1, 2, .inl (fun j => iv (dO ds j)))), (a 5, .inl (G 0, 2, .inl (fun j => iv (dU ds j))))]) H := hP
  have hD : va_D A ([(a 0, .inr (0, [.ref (a 1), .ref (a 2), .ref (a 3), .ref (a 4), .ref (a 5), .int (iv (dg ds)), .int (iv (dv ds)), .int (iv (dn ds)), .int (iv (dt ds))])), (a 1, .inl (G 0, 6, .inl (fun j => iv (dA ds j)))), (a 2, .inl (G 0, 6, .inl (fun j => iv (dW ds j)))), (a 3, .inl (G 0, 6, .inl (fun j => iv (dQ ds j)))), (a 4, .inl (G 1, 2, .inl (fun j => iv (dO ds j)))), (a 5, .inl (G 0, 2, .inl (fun j => iv (dU ds j))))]) := hD
  refine lv_istore (lv' := [(4, .int (iv (tally 6 ds))), (3, .int (iv (tally 5 ds))), (0, .ref (a 0)), (1, .int (iv d)), (2, .int (iv mo))]) hx hb dX0_liveOneDay_12 hl (by decide) rfl (fun ls hl => ?_)
  refine lv_aload_n hx hb dX0_liveOneDay_14 rfl (lv_at hl 2 rfl) ?_
  refine lv_iload_n hx hb dX0_liveOneDay_15 rfl (lv_at hl 4 rfl) ?_
  have hp := wsp ([(a 0, .inr (0, [.ref (a 1), .ref (a 2), .ref (a 3), .ref (a 4), .ref (a 5), .int (iv (dg ds)), .int (iv (dv ds)), .int (iv (dn ds)), .int (iv (dt ds))])), (a 1, .inl (G 0, 6, .inl (fun j => iv (dA ds j)))), (a 2, .inl (G 0, 6, .inl (fun j => iv (dW ds j)))), (a 3, .inl (G 0, 6, .inl (fun j => iv (dQ ds j)))), (a 4, .inl (G 1, 2, .inl (fun j => iv (dO ds j)))), (a 5, .inl (G 0, 2, .inl (fun j => iv (dU ds j))))]) ([]) 6 (is := [0, 1, 2, 3, 4, 5]) (js := []) (wc := wDoll G a ds) (wr := []) (by decide) rfl rfl rfl
  skip
  refine k_void (g_V (As := [.int (iv mo)]) (rest := []) (q0 := 0) (ci := 0) ⟨hx, hb, hml, hown, hts⟩ (c_X0_eatWig l D G a ds hok mo hmo) (cwV 1 hts gX0_liveOneDay_X0_eatWig rfl rfl rfl (by decide +kernel) ⟨Nat.le_of_ble_eq_true rfl, Nat.le_of_ble_eq_true rfl⟩) hK hP hD hp rfl rfl rfl rfl hl.1 rfl (Nat.le_of_ble_eq_true rfl) dX0_liveOneDay_16 ⟨by decide, by decide⟩) hP hD hS hA hp (fun u H locs hw hP hD hS => ?_)
  subst hw
  have hP : va_P D vwCl ([(a 0, .inr (0, [.ref (a 1), .ref (a 2), .ref (a 3), .ref (a 4), .ref (a 5), .int (iv (dg (eatW mo ds))), .int (iv (dv (eatW mo ds))), .int (iv (dn (eatW mo ds))), .int (iv (dt (eatW mo ds)))])), (a 1, .inl (G 0, 6, .inl (fun j => iv (dA (eatW mo ds) j)))), (a 2, .inl (G 0, 6, .inl (fun j => iv (dW (eatW mo ds) j)))), (a 3, .inl (G 0, 6, .inl (fun j => iv (dQ (eatW mo ds) j)))), (a 4, .inl (G 1, 2, .inl (fun j => iv (dO (eatW mo ds) j)))), (a 5, .inl (G 0, 2, .inl (fun j => iv (dU (eatW mo ds) j))))]) H := hP
  have hD : va_D A ([(a 0, .inr (0, [.ref (a 1), .ref (a 2), .ref (a 3), .ref (a 4), .ref (a 5), .int (iv (dg (eatW mo ds))), .int (iv (dv (eatW mo ds))), .int (iv (dn (eatW mo ds))), .int (iv (dt (eatW mo ds)))])), (a 1, .inl (G 0, 6, .inl (fun j => iv (dA (eatW mo ds) j)))), (a 2, .inl (G 0, 6, .inl (fun j => iv (dW (eatW mo ds) j)))), (a 3, .inl (G 0, 6, .inl (fun j => iv (dQ (eatW mo ds) j)))), (a 4, .inl (G 1, 2, .inl (fun j => iv (dO (eatW mo ds) j)))), (a 5, .inl (G 0, 2, .inl (fun j => iv (dU (eatW mo ds) j))))]) := hD
  refine lv_aload_n hx hb dX0_liveOneDay_19 rfl (lv_at hl 2 rfl) ?_
  have hp := wsp ([(a 0, .inr (0, [.ref (a 1), .ref (a 2), .ref (a 3), .ref (a 4), .ref (a 5), .int (iv (dg (eatW mo ds))), .int (iv (dv (eatW mo ds))), .int (iv (dn (eatW mo ds))), .int (iv (dt (eatW mo ds)))])), (a 1, .inl (G 0, 6, .inl (fun j => iv (dA (eatW mo ds) j)))), (a 2, .inl (G 0, 6, .inl (fun j => iv (dW (eatW mo ds) j)))), (a 3, .inl (G 0, 6, .inl (fun j => iv (dQ (eatW mo ds) j)))), (a 4, .inl (G 1, 2, .inl (fun j => iv (dO (eatW mo ds) j)))), (a 5, .inl (G 0, 2, .inl (fun j => iv (dU (eatW mo ds) j))))]) ([]) 6 (is := [0, 1, 2, 3, 4, 5]) (js := []) (wc := wDoll G a (eatW mo ds)) (wr := []) (by decide) rfl rfl rfl
  skip
  refine k_void (g_V (As := []) (rest := []) (q0 := 0) (ci := 0) ⟨hx, hb, hml, hown, hts⟩ (c_X0_loosenDress l D G a (eatW mo ds) (eatW_ok hmo hok) ) (cwV 0 hts gX0_liveOneDay_X0_loosenDress rfl rfl rfl (by decide +kernel) ⟨Nat.le_of_ble_eq_true rfl, Nat.le_of_ble_eq_true rfl⟩) hK hP hD hp rfl rfl rfl rfl hl.1 rfl (Nat.le_of_ble_eq_true rfl) dX0_liveOneDay_20 ⟨by decide, by decide⟩) hP hD hS hA hp (fun u H locs hw hP hD hS => ?_)
  subst hw
  have hP : va_P D vwCl ([(a 0, .inr (0, [.ref (a 1), .ref (a 2), .ref (a 3), .ref (a 4), .ref (a 5), .int (iv (dg (loosen (eatW mo ds)))), .int (iv (dv (loosen (eatW mo ds)))), .int (iv (dn (loosen (eatW mo ds)))), .int (iv (dt (loosen (eatW mo ds))))])), (a 1, .inl (G 0, 6, .inl (fun j => iv (dA (loosen (eatW mo ds)) j)))), (a 2, .inl (G 0, 6, .inl (fun j => iv (dW (loosen (eatW mo ds)) j)))), (a 3, .inl (G 0, 6, .inl (fun j => iv (dQ (loosen (eatW mo ds)) j)))), (a 4, .inl (G 1, 2, .inl (fun j => iv (dO (loosen (eatW mo ds)) j)))), (a 5, .inl (G 0, 2, .inl (fun j => iv (dU (loosen (eatW mo ds)) j))))]) H := hP
  have hD : va_D A ([(a 0, .inr (0, [.ref (a 1), .ref (a 2), .ref (a 3), .ref (a 4), .ref (a 5), .int (iv (dg (loosen (eatW mo ds)))), .int (iv (dv (loosen (eatW mo ds)))), .int (iv (dn (loosen (eatW mo ds)))), .int (iv (dt (loosen (eatW mo ds))))])), (a 1, .inl (G 0, 6, .inl (fun j => iv (dA (loosen (eatW mo ds)) j)))), (a 2, .inl (G 0, 6, .inl (fun j => iv (dW (loosen (eatW mo ds)) j)))), (a 3, .inl (G 0, 6, .inl (fun j => iv (dQ (loosen (eatW mo ds)) j)))), (a 4, .inl (G 1, 2, .inl (fun j => iv (dO (loosen (eatW mo ds)) j)))), (a 5, .inl (G 0, 2, .inl (fun j => iv (dU (loosen (eatW mo ds)) j))))]) := hD
  refine lv_iload_n hx hb dX0_liveOneDay_23 rfl (lv_at hl 3 rfl) ?_
  refine r_const hx hb dX0_liveOneDay_24 ?_
  refine r_rem hx hb dX0_liveOneDay_25 (by omega) (by omega) ?_
  refine r_if_ne hx hb 33 dX0_liveOneDay_26 (by decide) (by omega) (fun c_26 => ?_) (fun c_26 => ?_)
  · skip
    refine lv_aload_n hx hb dX0_liveOneDay_33 rfl (lv_at hl 2 rfl) ?_
    have hp := wsp ([(a 0, .inr (0, [.ref (a 1), .ref (a 2), .ref (a 3), .ref (a 4), .ref (a 5), .int (iv (dg (loosen (eatW mo ds)))), .int (iv (dv (loosen (eatW mo ds)))), .int (iv (dn (loosen (eatW mo ds)))), .int (iv (dt (loosen (eatW mo ds))))])), (a 1, .inl (G 0, 6, .inl (fun j => iv (dA (loosen (eatW mo ds)) j)))), (a 2, .inl (G 0, 6, .inl (fun j => iv (dW (loosen (eatW mo ds)) j)))), (a 3, .inl (G 0, 6, .inl (fun j => iv (dQ (loosen (eatW mo ds)) j)))), (a 4, .inl (G 1, 2, .inl (fun j => iv (dO (loosen (eatW mo ds)) j)))), (a 5, .inl (G 0, 2, .inl (fun j => iv (dU (loosen (eatW mo ds)) j))))]) ([]) 6 (is := [0, 1, 2, 3, 4, 5]) (js := []) (wc := wDoll G a (loosen (eatW mo ds))) (wr := []) (by decide) rfl rfl rfl
    skip
    refine k_void (g_V (As := []) (rest := []) (q0 := 0) (ci := 0) ⟨hx, hb, hml, hown, hts⟩ (c_X0_gatherDust l D G a (loosen (eatW mo ds)) (loosen_ok (eatW_ok hmo hok)) ) (cwV 0 hts gX0_liveOneDay_X0_gatherDust rfl rfl rfl (by decide +kernel) ⟨Nat.le_of_ble_eq_true rfl, Nat.le_of_ble_eq_true rfl⟩) hK hP hD hp rfl rfl rfl rfl hl.1 rfl (Nat.le_of_ble_eq_true rfl) dX0_liveOneDay_34 ⟨by decide, by decide⟩) hP hD hS hA hp (fun u H locs hw hP hD hS => ?_)
    subst hw
    have hP : va_P D vwCl ([(a 0, .inr (0, [.ref (a 1), .ref (a 2), .ref (a 3), .ref (a 4), .ref (a 5), .int (iv (dg (gatN 2 (loosen (eatW mo ds))))), .int (iv (dv (gatN 2 (loosen (eatW mo ds))))), .int (iv (dn (gatN 2 (loosen (eatW mo ds))))), .int (iv (dt (gatN 2 (loosen (eatW mo ds)))))])), (a 1, .inl (G 0, 6, .inl (fun j => iv (dA (gatN 2 (loosen (eatW mo ds))) j)))), (a 2, .inl (G 0, 6, .inl (fun j => iv (dW (gatN 2 (loosen (eatW mo ds))) j)))), (a 3, .inl (G 0, 6, .inl (fun j => iv (dQ (gatN 2 (loosen (eatW mo ds))) j)))), (a 4, .inl (G 1, 2, .inl (fun j => iv (dO (gatN 2 (loosen (eatW mo ds))) j)))), (a 5, .inl (G 0, 2, .inl (fun j => iv (dU (gatN 2 (loosen (eatW mo ds))) j))))]) H := hP
    have hD : va_D A ([(a 0, .inr (0, [.ref (a 1), .ref (a 2), .ref (a 3), .ref (a 4), .ref (a 5), .int (iv (dg (gatN 2 (loosen (eatW mo ds))))), .int (iv (dv (gatN 2 (loosen (eatW mo ds))))), .int (iv (dn (gatN 2 (loosen (eatW mo ds))))), .int (iv (dt (gatN 2 (loosen (eatW mo ds)))))])), (a 1, .inl (G 0, 6, .inl (fun j => iv (dA (gatN 2 (loosen (eatW mo ds))) j)))), (a 2, .inl (G 0, 6, .inl (fun j => iv (dW (gatN 2 (loosen (eatW mo ds))) j)))), (a 3, .inl (G 0, 6, .inl (fun j => iv (dQ (gatN 2 (loosen (eatW mo ds))) j)))), (a 4, .inl (G 1, 2, .inl (fun j => iv (dO (gatN 2 (loosen (eatW mo ds))) j)))), (a 5, .inl (G 0, 2, .inl (fun j => iv (dU (gatN 2 (loosen (eatW mo ds))) j))))]) := hD
    refine lv_iload_n hx hb dX0_liveOneDay_37 rfl (lv_at hl 1 rfl) ?_
    refine lv_aload_n hx hb dX0_liveOneDay_38 rfl (lv_at hl 2 rfl) ?_
    refine r_const hx hb dX0_liveOneDay_39 ?_
    have hp := wsp ([(a 0, .inr (0, [.ref (a 1), .ref (a 2), .ref (a 3), .ref (a 4), .ref (a 5), .int (iv (dg (gatN 2 (loosen (eatW mo ds))))), .int (iv (dv (gatN 2 (loosen (eatW mo ds))))), .int (iv (dn (gatN 2 (loosen (eatW mo ds))))), .int (iv (dt (gatN 2 (loosen (eatW mo ds)))))])), (a 1, .inl (G 0, 6, .inl (fun j => iv (dA (gatN 2 (loosen (eatW mo ds))) j)))), (a 2, .inl (G 0, 6, .inl (fun j => iv (dW (gatN 2 (loosen (eatW mo ds))) j)))), (a 3, .inl (G 0, 6, .inl (fun j => iv (dQ (gatN 2 (loosen (eatW mo ds))) j)))), (a 4, .inl (G 1, 2, .inl (fun j => iv (dO (gatN 2 (loosen (eatW mo ds))) j)))), (a 5, .inl (G 0, 2, .inl (fun j => iv (dU (gatN 2 (loosen (eatW mo ds))) j))))]) ([]) 6 (is := [0, 1, 2, 3, 4, 5]) (js := []) (wc := wDoll G a (gatN 2 (loosen (eatW mo ds)))) (wr := []) (by decide) rfl rfl rfl
    skip
    refine k_int (g_V (As := [.int (iv 5)]) (rest := [.int (iv (tally 5 ds))]) (q0 := 0) (ci := 0) ⟨hx, hb, hml, hown, hts⟩ (c_X0_tally l D G a (gatN 2 (loosen (eatW mo ds))) (gatN_ok (loosen_ok (eatW_ok hmo hok)) 2 (by omega)) 5 (by decide)) (cwV 1 hts gX0_liveOneDay_X0_tally rfl rfl rfl (by decide +kernel) ⟨Nat.le_of_ble_eq_true rfl, Nat.le_of_ble_eq_true rfl⟩) hK hP hD hp rfl rfl rfl rfl hl.1 rfl (Nat.le_of_ble_eq_true rfl) dX0_liveOneDay_40 ⟨by decide, by decide⟩) hP hD hS hA hp (fun v u H locs hw hP hD hS => ?_)
    obtain ⟨rfl, rfl⟩ := hw
    have hP : va_P D vwCl ([(a 0, .inr (0, [.ref (a 1), .ref (a 2), .ref (a 3), .ref (a 4), .ref (a 5), .int (iv (dg (gatN 2 (loosen (eatW mo ds))))), .int (iv (dv (gatN 2 (loosen (eatW mo ds))))), .int (iv (dn (gatN 2 (loosen (eatW mo ds))))), .int (iv (dt (gatN 2 (loosen (eatW mo ds)))))])), (a 1, .inl (G 0, 6, .inl (fun j => iv (dA (gatN 2 (loosen (eatW mo ds))) j)))), (a 2, .inl (G 0, 6, .inl (fun j => iv (dW (gatN 2 (loosen (eatW mo ds))) j)))), (a 3, .inl (G 0, 6, .inl (fun j => iv (dQ (gatN 2 (loosen (eatW mo ds))) j)))), (a 4, .inl (G 1, 2, .inl (fun j => iv (dO (gatN 2 (loosen (eatW mo ds))) j)))), (a 5, .inl (G 0, 2, .inl (fun j => iv (dU (gatN 2 (loosen (eatW mo ds))) j))))]) H := hP
    have hD : va_D A ([(a 0, .inr (0, [.ref (a 1), .ref (a 2), .ref (a 3), .ref (a 4), .ref (a 5), .int (iv (dg (gatN 2 (loosen (eatW mo ds))))), .int (iv (dv (gatN 2 (loosen (eatW mo ds))))), .int (iv (dn (gatN 2 (loosen (eatW mo ds))))), .int (iv (dt (gatN 2 (loosen (eatW mo ds)))))])), (a 1, .inl (G 0, 6, .inl (fun j => iv (dA (gatN 2 (loosen (eatW mo ds))) j)))), (a 2, .inl (G 0, 6, .inl (fun j => iv (dW (gatN 2 (loosen (eatW mo ds))) j)))), (a 3, .inl (G 0, 6, .inl (fun j => iv (dQ (gatN 2 (loosen (eatW mo ds))) j)))), (a 4, .inl (G 1, 2, .inl (fun j => iv (dO (gatN 2 (loosen (eatW mo ds))) j)))), (a 5, .inl (G 0, 2, .inl (fun j => iv (dU (gatN 2 (loosen (eatW mo ds))) j))))]) := hD
    refine r_sub hx hb dX0_liveOneDay_43 ?_
    refine lv_iload hx hb dX0_liveOneDay_44 (lv_at hl 0 rfl) ?_
    refine r_add hx hb dX0_liveOneDay_46 ?_
    refine lv_aload_n hx hb dX0_liveOneDay_47 rfl (lv_at hl 2 rfl) ?_
    refine lv_bipush (v := iv 6) hx hb dX0_liveOneDay_48 (by decide) ?_
    have hp := wsp ([(a 0, .inr (0, [.ref (a 1), .ref (a 2), .ref (a 3), .ref (a 4), .ref (a 5), .int (iv (dg (gatN 2 (loosen (eatW mo ds))))), .int (iv (dv (gatN 2 (loosen (eatW mo ds))))), .int (iv (dn (gatN 2 (loosen (eatW mo ds))))), .int (iv (dt (gatN 2 (loosen (eatW mo ds)))))])), (a 1, .inl (G 0, 6, .inl (fun j => iv (dA (gatN 2 (loosen (eatW mo ds))) j)))), (a 2, .inl (G 0, 6, .inl (fun j => iv (dW (gatN 2 (loosen (eatW mo ds))) j)))), (a 3, .inl (G 0, 6, .inl (fun j => iv (dQ (gatN 2 (loosen (eatW mo ds))) j)))), (a 4, .inl (G 1, 2, .inl (fun j => iv (dO (gatN 2 (loosen (eatW mo ds))) j)))), (a 5, .inl (G 0, 2, .inl (fun j => iv (dU (gatN 2 (loosen (eatW mo ds))) j))))]) ([]) 6 (is := [0, 1, 2, 3, 4, 5]) (js := []) (wc := wDoll G a (gatN 2 (loosen (eatW mo ds)))) (wr := []) (by decide) rfl rfl rfl
    skip
    refine k_int (g_V (As := [.int (iv 6)]) (rest := [.int (iv (((tally 5 ds) - (tally 5 (gatN 2 (loosen (eatW mo ds))))) + (tally 6 ds)))]) (q0 := 0) (ci := 0) ⟨hx, hb, hml, hown, hts⟩ (c_X0_tally l D G a (gatN 2 (loosen (eatW mo ds))) (gatN_ok (loosen_ok (eatW_ok hmo hok)) 2 (by omega)) 6 (by decide)) (cwV 1 hts gX0_liveOneDay_X0_tally rfl rfl rfl (by decide +kernel) ⟨Nat.le_of_ble_eq_true rfl, Nat.le_of_ble_eq_true rfl⟩) hK hP hD hp rfl rfl rfl rfl hl.1 rfl (Nat.le_of_ble_eq_true rfl) dX0_liveOneDay_50 ⟨by decide, by decide⟩) hP hD hS hA hp (fun v u H locs hw hP hD hS => ?_)
    obtain ⟨rfl, rfl⟩ := hw
    have hP : va_P D vwCl ([(a 0, .inr (0, [.ref (a 1), .ref (a 2), .ref (a 3), .ref (a 4), .ref (a 5), .int (iv (dg (gatN 2 (loosen (eatW mo ds))))), .int (iv (dv (gatN 2 (loosen (eatW mo ds))))), .int (iv (dn (gatN 2 (loosen (eatW mo ds))))), .int (iv (dt (gatN 2 (loosen (eatW mo ds)))))])), (a 1, .inl (G 0, 6, .inl (fun j => iv (dA (gatN 2 (loosen (eatW mo ds))) j)))), (a 2, .inl (G 0, 6, .inl (fun j => iv (dW (gatN 2 (loosen (eatW mo ds))) j)))), (a 3, .inl (G 0, 6, .inl (fun j => iv (dQ (gatN 2 (loosen (eatW mo ds))) j)))), (a 4, .inl (G 1, 2, .inl (fun j => iv (dO (gatN 2 (loosen (eatW mo ds))) j)))), (a 5, .inl (G 0, 2, .inl (fun j => iv (dU (gatN 2 (loosen (eatW mo ds))) j))))]) H := hP
    have hD : va_D A ([(a 0, .inr (0, [.ref (a 1), .ref (a 2), .ref (a 3), .ref (a 4), .ref (a 5), .int (iv (dg (gatN 2 (loosen (eatW mo ds))))), .int (iv (dv (gatN 2 (loosen (eatW mo ds))))), .int (iv (dn (gatN 2 (loosen (eatW mo ds))))), .int (iv (dt (gatN 2 (loosen (eatW mo ds)))))])), (a 1, .inl (G 0, 6, .inl (fun j => iv (dA (gatN 2 (loosen (eatW mo ds))) j)))), (a 2, .inl (G 0, 6, .inl (fun j => iv (dW (gatN 2 (loosen (eatW mo ds))) j)))), (a 3, .inl (G 0, 6, .inl (fun j => iv (dQ (gatN 2 (loosen (eatW mo ds))) j)))), (a 4, .inl (G 1, 2, .inl (fun j => iv (dO (gatN 2 (loosen (eatW mo ds))) j)))), (a 5, .inl (G 0, 2, .inl (fun j => iv (dU (gatN 2 (loosen (eatW mo ds))) j))))]) := hD
    refine r_sub hx hb dX0_liveOneDay_53 ?_
    exact e_int hx hb hr hlk dX0_liveOneDay_54 hS hP hD (by decide) (by decide) (⟨by unfold day1 has; rw [if_neg c_26]; congr 1; omega, by unfold day1; rw [if_neg c_26]; rfl⟩)
  · skip
    refine lv_aload_n hx hb dX0_liveOneDay_29 rfl (lv_at hl 2 rfl) ?_
    have hp := wsp ([(a 0, .inr (0, [.ref (a 1), .ref (a 2), .ref (a 3), .ref (a 4), .ref (a 5), .int (iv (dg (loosen (eatW mo ds)))), .int (iv (dv (loosen (eatW mo ds)))), .int (iv (dn (loosen (eatW mo ds)))), .int (iv (dt (loosen (eatW mo ds))))])), (a 1, .inl (G 0, 6, .inl (fun j => iv (dA (loosen (eatW mo ds)) j)))), (a 2, .inl (G 0, 6, .inl (fun j => iv (dW (loosen (eatW mo ds)) j)))), (a 3, .inl (G 0, 6, .inl (fun j => iv (dQ (loosen (eatW mo ds)) j)))), (a 4, .inl (G 1, 2, .inl (fun j => iv (dO (loosen (eatW mo ds)) j)))), (a 5, .inl (G 0, 2, .inl (fun j => iv (dU (loosen (eatW mo ds)) j))))]) ([]) 6 (is := [0, 1, 2, 3, 4, 5]) (js := []) (wc := wDoll G a (loosen (eatW mo ds))) (wr := []) (by decide) rfl rfl rfl
    skip
    refine k_void (g_V (As := []) (rest := []) (q0 := 0) (ci := 0) ⟨hx, hb, hml, hown, hts⟩ (c_X0_dryLacquer l D G a (loosen (eatW mo ds)) (loosen_ok (eatW_ok hmo hok)) ) (cwV 0 hts gX0_liveOneDay_X0_dryLacquer rfl rfl rfl (by decide +kernel) ⟨Nat.le_of_ble_eq_true rfl, Nat.le_of_ble_eq_true rfl⟩) hK hP hD hp rfl rfl rfl rfl hl.1 rfl (Nat.le_of_ble_eq_true rfl) dX0_liveOneDay_30 ⟨by decide, by decide⟩) hP hD hS hA hp (fun u H locs hw hP hD hS => ?_)
    subst hw
    have hP : va_P D vwCl ([(a 0, .inr (0, [.ref (a 1), .ref (a 2), .ref (a 3), .ref (a 4), .ref (a 5), .int (iv (dg (dryN 6 (loosen (eatW mo ds))))), .int (iv (dv (dryN 6 (loosen (eatW mo ds))))), .int (iv (dn (dryN 6 (loosen (eatW mo ds))))), .int (iv (dt (dryN 6 (loosen (eatW mo ds)))))])), (a 1, .inl (G 0, 6, .inl (fun j => iv (dA (dryN 6 (loosen (eatW mo ds))) j)))), (a 2, .inl (G 0, 6, .inl (fun j => iv (dW (dryN 6 (loosen (eatW mo ds))) j)))), (a 3, .inl (G 0, 6, .inl (fun j => iv (dQ (dryN 6 (loosen (eatW mo ds))) j)))), (a 4, .inl (G 1, 2, .inl (fun j => iv (dO (dryN 6 (loosen (eatW mo ds))) j)))), (a 5, .inl (G 0, 2, .inl (fun j => iv (dU (dryN 6 (loosen (eatW mo ds))) j))))]) H := hP
    have hD : va_D A ([(a 0, .inr (0, [.ref (a 1), .ref (a 2), .ref (a 3), .ref (a 4), .ref (a 5), .int (iv (dg (dryN 6 (loosen (eatW mo ds))))), .int (iv (dv (dryN 6 (loosen (eatW mo ds))))), .int (iv (dn (dryN 6 (loosen (eatW mo ds))))), .int (iv (dt (dryN 6 (loosen (eatW mo ds)))))])), (a 1, .inl (G 0, 6, .inl (fun j => iv (dA (dryN 6 (loosen (eatW mo ds))) j)))), (a 2, .inl (G 0, 6, .inl (fun j => iv (dW (dryN 6 (loosen (eatW mo ds))) j)))), (a 3, .inl (G 0, 6, .inl (fun j => iv (dQ (dryN 6 (loosen (eatW mo ds))) j)))), (a 4, .inl (G 1, 2, .inl (fun j => iv (dO (dryN 6 (loosen (eatW mo ds))) j)))), (a 5, .inl (G 0, 2, .inl (fun j => iv (dU (dryN 6 (loosen (eatW mo ds))) j))))]) := hD
    refine lv_aload_n hx hb dX0_liveOneDay_33 rfl (lv_at hl 2 rfl) ?_
    have hp := wsp ([(a 0, .inr (0, [.ref (a 1), .ref (a 2), .ref (a 3), .ref (a 4), .ref (a 5), .int (iv (dg (dryN 6 (loosen (eatW mo ds))))), .int (iv (dv (dryN 6 (loosen (eatW mo ds))))), .int (iv (dn (dryN 6 (loosen (eatW mo ds))))), .int (iv (dt (dryN 6 (loosen (eatW mo ds)))))])), (a 1, .inl (G 0, 6, .inl (fun j => iv (dA (dryN 6 (loosen (eatW mo ds))) j)))), (a 2, .inl (G 0, 6, .inl (fun j => iv (dW (dryN 6 (loosen (eatW mo ds))) j)))), (a 3, .inl (G 0, 6, .inl (fun j => iv (dQ (dryN 6 (loosen (eatW mo ds))) j)))), (a 4, .inl (G 1, 2, .inl (fun j => iv (dO (dryN 6 (loosen (eatW mo ds))) j)))), (a 5, .inl (G 0, 2, .inl (fun j => iv (dU (dryN 6 (loosen (eatW mo ds))) j))))]) ([]) 6 (is := [0, 1, 2, 3, 4, 5]) (js := []) (wc := wDoll G a (dryN 6 (loosen (eatW mo ds)))) (wr := []) (by decide) rfl rfl rfl
    skip
    refine k_void (g_V (As := []) (rest := []) (q0 := 0) (ci := 0) ⟨hx, hb, hml, hown, hts⟩ (c_X0_gatherDust l D G a (dryN 6 (loosen (eatW mo ds))) (dryN_ok (loosen_ok (eatW_ok hmo hok)) 6 (by omega)) ) (cwV 0 hts gX0_liveOneDay_X0_gatherDust rfl rfl rfl (by decide +kernel) ⟨Nat.le_of_ble_eq_true rfl, Nat.le_of_ble_eq_true rfl⟩) hK hP hD hp rfl rfl rfl rfl hl.1 rfl (Nat.le_of_ble_eq_true rfl) dX0_liveOneDay_34 ⟨by decide, by decide⟩) hP hD hS hA hp (fun u H locs hw hP hD hS => ?_)
    subst hw
    have hP : va_P D vwCl ([(a 0, .inr (0, [.ref (a 1), .ref (a 2), .ref (a 3), .ref (a 4), .ref (a 5), .int (iv (dg (gatN 2 (dryN 6 (loosen (eatW mo ds)))))), .int (iv (dv (gatN 2 (dryN 6 (loosen (eatW mo ds)))))), .int (iv (dn (gatN 2 (dryN 6 (loosen (eatW mo ds)))))), .int (iv (dt (gatN 2 (dryN 6 (loosen (eatW mo ds))))))])), (a 1, .inl (G 0, 6, .inl (fun j => iv (dA (gatN 2 (dryN 6 (loosen (eatW mo ds)))) j)))), (a 2, .inl (G 0, 6, .inl (fun j => iv (dW (gatN 2 (dryN 6 (loosen (eatW mo ds)))) j)))), (a 3, .inl (G 0, 6, .inl (fun j => iv (dQ (gatN 2 (dryN 6 (loosen (eatW mo ds)))) j)))), (a 4, .inl (G 1, 2, .inl (fun j => iv (dO (gatN 2 (dryN 6 (loosen (eatW mo ds)))) j)))), (a 5, .inl (G 0, 2, .inl (fun j => iv (dU (gatN 2 (dryN 6 (loosen (eatW mo ds)))) j))))]) H := hP
    have hD : va_D A ([(a 0, .inr (0, [.ref (a 1), .ref (a 2), .ref (a 3), .ref (a 4), .ref (a 5), .int (iv (dg (gatN 2 (dryN 6 (loosen (eatW mo ds)))))), .int (iv (dv (gatN 2 (dryN 6 (loosen (eatW mo ds)))))), .int (iv (dn (gatN 2 (dryN 6 (loosen (eatW mo ds)))))), .int (iv (dt (gatN 2 (dryN 6 (loosen (eatW mo ds))))))])), (a 1, .inl (G 0, 6, .inl (fun j => iv (dA (gatN 2 (dryN 6 (loosen (eatW mo ds)))) j)))), (a 2, .inl (G 0, 6, .inl (fun j => iv (dW (gatN 2 (dryN 6 (loosen (eatW mo ds)))) j)))), (a 3, .inl (G 0, 6, .inl (fun j => iv (dQ (gatN 2 (dryN 6 (loosen (eatW mo ds)))) j)))), (a 4, .inl (G 1, 2, .inl (fun j => iv (dO (gatN 2 (dryN 6 (loosen (eatW mo ds)))) j)))), (a 5, .inl (G 0, 2, .inl (fun j => iv (dU (gatN 2 (dryN 6 (loosen (eatW mo ds)))) j))))]) := hD
    refine lv_iload_n hx hb dX0_liveOneDay_37 rfl (lv_at hl 1 rfl) ?_
    refine lv_aload_n hx hb dX0_liveOneDay_38 rfl (lv_at hl 2 rfl) ?_
    refine r_const hx hb dX0_liveOneDay_39 ?_
    have hp := wsp ([(a 0, .inr (0, [.ref (a 1), .ref (a 2), .ref (a 3), .ref (a 4), .ref (a 5), .int (iv (dg (gatN 2 (dryN 6 (loosen (eatW mo ds)))))), .int (iv (dv (gatN 2 (dryN 6 (loosen (eatW mo ds)))))), .int (iv (dn (gatN 2 (dryN 6 (loosen (eatW mo ds)))))), .int (iv (dt (gatN 2 (dryN 6 (loosen (eatW mo ds))))))])), (a 1, .inl (G 0, 6, .inl (fun j => iv (dA (gatN 2 (dryN 6 (loosen (eatW mo ds)))) j)))), (a 2, .inl (G 0, 6, .inl (fun j => iv (dW (gatN 2 (dryN 6 (loosen (eatW mo ds)))) j)))), (a 3, .inl (G 0, 6, .inl (fun j => iv (dQ (gatN 2 (dryN 6 (loosen (eatW mo ds)))) j)))), (a 4, .inl (G 1, 2, .inl (fun j => iv (dO (gatN 2 (dryN 6 (loosen (eatW mo ds)))) j)))), (a 5, .inl (G 0, 2, .inl (fun j => iv (dU (gatN 2 (dryN 6 (loosen (eatW mo ds)))) j))))]) ([]) 6 (is := [0, 1, 2, 3, 4, 5]) (js := []) (wc := wDoll G a (gatN 2 (dryN 6 (loosen (eatW mo ds))))) (wr := []) (by decide) rfl rfl rfl
    skip
    refine k_int (g_V (As := [.int (iv 5)]) (rest := [.int (iv (tally 5 ds))]) (q0 := 0) (ci := 0) ⟨hx, hb, hml, hown, hts⟩ (c_X0_tally l D G a (gatN 2 (dryN 6 (loosen (eatW mo ds)))) (gatN_ok (dryN_ok (loosen_ok (eatW_ok hmo hok)) 6 (by omega)) 2 (by omega)) 5 (by decide)) (cwV 1 hts gX0_liveOneDay_X0_tally rfl rfl rfl (by decide +kernel) ⟨Nat.le_of_ble_eq_true rfl, Nat.le_of_ble_eq_true rfl⟩) hK hP hD hp rfl rfl rfl rfl hl.1 rfl (Nat.le_of_ble_eq_true rfl) dX0_liveOneDay_40 ⟨by decide, by decide⟩) hP hD hS hA hp (fun v u H locs hw hP hD hS => ?_)
    obtain ⟨rfl, rfl⟩ := hw
    have hP : va_P D vwCl ([(a 0, .inr (0, [.ref (a 1), .ref (a 2), .ref (a 3), .ref (a 4), .ref (a 5), .int (iv (dg (gatN 2 (dryN 6 (loosen (eatW mo ds)))))), .int (iv (dv (gatN 2 (dryN 6 (loosen (eatW mo ds)))))), .int (iv (dn (gatN 2 (dryN 6 (loosen (eatW mo ds)))))), .int (iv (dt (gatN 2 (dryN 6 (loosen (eatW mo ds))))))])), (a 1, .inl (G 0, 6, .inl (fun j => iv (dA (gatN 2 (dryN 6 (loosen (eatW mo ds)))) j)))), (a 2, .inl (G 0, 6, .inl (fun j => iv (dW (gatN 2 (dryN 6 (loosen (eatW mo ds)))) j)))), (a 3, .inl (G 0, 6, .inl (fun j => iv (dQ (gatN 2 (dryN 6 (loosen (eatW mo ds)))) j)))), (a 4, .inl (G 1, 2, .inl (fun j => iv (dO (gatN 2 (dryN 6 (loosen (eatW mo ds)))) j)))), (a 5, .inl (G 0, 2, .inl (fun j => iv (dU (gatN 2 (dryN 6 (loosen (eatW mo ds)))) j))))]) H := hP
    have hD : va_D A ([(a 0, .inr (0, [.ref (a 1), .ref (a 2), .ref (a 3), .ref (a 4), .ref (a 5), .int (iv (dg (gatN 2 (dryN 6 (loosen (eatW mo ds)))))), .int (iv (dv (gatN 2 (dryN 6 (loosen (eatW mo ds)))))), .int (iv (dn (gatN 2 (dryN 6 (loosen (eatW mo ds)))))), .int (iv (dt (gatN 2 (dryN 6 (loosen (eatW mo ds))))))])), (a 1, .inl (G 0, 6, .inl (fun j => iv (dA (gatN 2 (dryN 6 (loosen (eatW mo ds)))) j)))), (a 2, .inl (G 0, 6, .inl (fun j => iv (dW (gatN 2 (dryN 6 (loosen (eatW mo ds)))) j)))), (a 3, .inl (G 0, 6, .inl (fun j => iv (dQ (gatN 2 (dryN 6 (loosen (eatW mo ds)))) j)))), (a 4, .inl (G 1, 2, .inl (fun j => iv (dO (gatN 2 (dryN 6 (loosen (eatW mo ds)))) j)))), (a 5, .inl (G 0, 2, .inl (fun j => iv (dU (gatN 2 (dryN 6 (loosen (eatW mo ds)))) j))))]) := hD
    refine r_sub hx hb dX0_liveOneDay_43 ?_
    refine lv_iload hx hb dX0_liveOneDay_44 (lv_at hl 0 rfl) ?_
    refine r_add hx hb dX0_liveOneDay_46 ?_
    refine lv_aload_n hx hb dX0_liveOneDay_47 rfl (lv_at hl 2 rfl) ?_
    refine lv_bipush (v := iv 6) hx hb dX0_liveOneDay_48 (by decide) ?_
    have hp := wsp ([(a 0, .inr (0, [.ref (a 1), .ref (a 2), .ref (a 3), .ref (a 4), .ref (a 5), .int (iv (dg (gatN 2 (dryN 6 (loosen (eatW mo ds)))))), .int (iv (dv (gatN 2 (dryN 6 (loosen (eatW mo ds)))))), .int (iv (dn (gatN 2 (dryN 6 (loosen (eatW mo ds)))))), .int (iv (dt (gatN 2 (dryN 6 (loosen (eatW mo ds))))))])), (a 1, .inl (G 0, 6, .inl (fun j => iv (dA (gatN 2 (dryN 6 (loosen (eatW mo ds)))) j)))), (a 2, .inl (G 0, 6, .inl (fun j => iv (dW (gatN 2 (dryN 6 (loosen (eatW mo ds)))) j)))), (a 3, .inl (G 0, 6, .inl (fun j => iv (dQ (gatN 2 (dryN 6 (loosen (eatW mo ds)))) j)))), (a 4, .inl (G 1, 2, .inl (fun j => iv (dO (gatN 2 (dryN 6 (loosen (eatW mo ds)))) j)))), (a 5, .inl (G 0, 2, .inl (fun j => iv (dU (gatN 2 (dryN 6 (loosen (eatW mo ds)))) j))))]) ([]) 6 (is := [0, 1, 2, 3, 4, 5]) (js := []) (wc := wDoll G a (gatN 2 (dryN 6 (loosen (eatW mo ds))))) (wr := []) (by decide) rfl rfl rfl
    skip
    refine k_int (g_V (As := [.int (iv 6)]) (rest := [.int (iv (((tally 5 ds) - (tally 5 (gatN 2 (dryN 6 (loosen (eatW mo ds)))))) + (tally 6 ds)))]) (q0 := 0) (ci := 0) ⟨hx, hb, hml, hown, hts⟩ (c_X0_tally l D G a (gatN 2 (dryN 6 (loosen (eatW mo ds)))) (gatN_ok (dryN_ok (loosen_ok (eatW_ok hmo hok)) 6 (by omega)) 2 (by omega)) 6 (by decide)) (cwV 1 hts gX0_liveOneDay_X0_tally rfl rfl rfl (by decide +kernel) ⟨Nat.le_of_ble_eq_true rfl, Nat.le_of_ble_eq_true rfl⟩) hK hP hD hp rfl rfl rfl rfl hl.1 rfl (Nat.le_of_ble_eq_true rfl) dX0_liveOneDay_50 ⟨by decide, by decide⟩) hP hD hS hA hp (fun v u H locs hw hP hD hS => ?_)
    obtain ⟨rfl, rfl⟩ := hw
    have hP : va_P D vwCl ([(a 0, .inr (0, [.ref (a 1), .ref (a 2), .ref (a 3), .ref (a 4), .ref (a 5), .int (iv (dg (gatN 2 (dryN 6 (loosen (eatW mo ds)))))), .int (iv (dv (gatN 2 (dryN 6 (loosen (eatW mo ds)))))), .int (iv (dn (gatN 2 (dryN 6 (loosen (eatW mo ds)))))), .int (iv (dt (gatN 2 (dryN 6 (loosen (eatW mo ds))))))])), (a 1, .inl (G 0, 6, .inl (fun j => iv (dA (gatN 2 (dryN 6 (loosen (eatW mo ds)))) j)))), (a 2, .inl (G 0, 6, .inl (fun j => iv (dW (gatN 2 (dryN 6 (loosen (eatW mo ds)))) j)))), (a 3, .inl (G 0, 6, .inl (fun j => iv (dQ (gatN 2 (dryN 6 (loosen (eatW mo ds)))) j)))), (a 4, .inl (G 1, 2, .inl (fun j => iv (dO (gatN 2 (dryN 6 (loosen (eatW mo ds)))) j)))), (a 5, .inl (G 0, 2, .inl (fun j => iv (dU (gatN 2 (dryN 6 (loosen (eatW mo ds)))) j))))]) H := hP
    have hD : va_D A ([(a 0, .inr (0, [.ref (a 1), .ref (a 2), .ref (a 3), .ref (a 4), .ref (a 5), .int (iv (dg (gatN 2 (dryN 6 (loosen (eatW mo ds)))))), .int (iv (dv (gatN 2 (dryN 6 (loosen (eatW mo ds)))))), .int (iv (dn (gatN 2 (dryN 6 (loosen (eatW mo ds)))))), .int (iv (dt (gatN 2 (dryN 6 (loosen (eatW mo ds))))))])), (a 1, .inl (G 0, 6, .inl (fun j => iv (dA (gatN 2 (dryN 6 (loosen (eatW mo ds)))) j)))), (a 2, .inl (G 0, 6, .inl (fun j => iv (dW (gatN 2 (dryN 6 (loosen (eatW mo ds)))) j)))), (a 3, .inl (G 0, 6, .inl (fun j => iv (dQ (gatN 2 (dryN 6 (loosen (eatW mo ds)))) j)))), (a 4, .inl (G 1, 2, .inl (fun j => iv (dO (gatN 2 (dryN 6 (loosen (eatW mo ds)))) j)))), (a 5, .inl (G 0, 2, .inl (fun j => iv (dU (gatN 2 (dryN 6 (loosen (eatW mo ds)))) j))))]) := hD
    refine r_sub hx hb dX0_liveOneDay_53 ?_
    exact e_int hx hb hr hlk dX0_liveOneDay_54 hS hP hD (by decide) (by decide) (⟨by unfold day1 has; rw [if_pos c_26]; congr 1; omega, by unfold day1; rw [if_pos c_26]; rfl⟩)
set_option maxHeartbeats 4000000 in
set_option maxRecDepth 100000 in
theorem c_X0_becomeLike (l : Launch) (D : va_G) (G : Nat → ClassId) (a b : Nat → Nat) (ts ds : DS) (hok : okD ds) : MtG l yX0_becomeLike wsX0_becomeLike 0 0 0 0 D (TY G) [.ref (a 0), .ref (b 0)] (wDoll G a ts ++ wDoll G b ds) (qV D (fun u => u = wDoll G a ds ++ wDoll G b ds)) := by
  refine MtG.mk (cc := cX0_becomeLike) (maxL := 3) (ret := none) (by decide) rfl (Nat.le_of_ble_eq_true rfl) ?_
  intro p e s m below meth c A ls hx hb hr hlk hml hown hin hts hK hA hP hD hS hl
  replace hown : s.vm.findClass RX0 = some m.cls := hown
  have hl : lv_has ls 3 [(0, .ref (a 0)), (1, .ref (b 0))] := hl
  skip
  have hP : va_P D vwCl ([(a 0, .inr (0, [.ref (a 1), .ref (a 2), .ref (a 3), .ref (a 4), .ref (a 5), .int (iv (dg ts)), .int (iv (dv ts)), .int (iv (dn ts)), .int (iv (dt ts))])), (a 1, .inl (G 0, 6, .inl (fun j => iv (dA ts j)))), (a 2, .inl (G 0, 6, .inl (fun j => iv (dW ts j)))), (a 3, .inl (G 0, 6, .inl (fun j => iv (dQ ts j)))), (a 4, .inl (G 1, 2, .inl (fun j => iv (dO ts j)))), (a 5, .inl (G 0, 2, .inl (fun j => iv (dU ts j)))), (b 0, .inr (0, [.ref (b 1), .ref (b 2), .ref (b 3), .ref (b 4), .ref (b 5), .int (iv (dg ds)), .int (iv (dv ds)), .int (iv (dn ds)), .int (iv (dt ds))])), (b 1, .inl (G 0, 6, .inl (fun j => iv (dA ds j)))), (b 2, .inl (G 0, 6, .inl (fun j => iv (dW ds j)))), (b 3, .inl (G 0, 6, .inl (fun j => iv (dQ ds j)))), (b 4, .inl (G 1, 2, .inl (fun j => iv (dO ds j)))), (b 5, .inl (G 0, 2, .inl (fun j => iv (dU ds j))))]) s.heap := hP
  have hD : va_D A ([(a 0, .inr (0, [.ref (a 1), .ref (a 2), .ref (a 3), .ref (a 4), .ref (a 5), .int (iv (dg ts)), .int (iv (dv ts)), .int (iv (dn ts)), .int (iv (dt ts))])), (a 1, .inl (G 0, 6, .inl (fun j => iv (dA ts j)))), (a 2, .inl (G 0, 6, .inl (fun j => iv (dW ts j)))), (a 3, .inl (G 0, 6, .inl (fun j => iv (dQ ts j)))), (a 4, .inl (G 1, 2, .inl (fun j => iv (dO ts j)))), (a 5, .inl (G 0, 2, .inl (fun j => iv (dU ts j)))), (b 0, .inr (0, [.ref (b 1), .ref (b 2), .ref (b 3), .ref (b 4), .ref (b 5), .int (iv (dg ds)), .int (iv (dv ds)), .int (iv (dn ds)), .int (iv (dt ds))])), (b 1, .inl (G 0, 6, .inl (fun j => iv (dA ds j)))), (b 2, .inl (G 0, 6, .inl (fun j => iv (dW ds j)))), (b 3, .inl (G 0, 6, .inl (fun j => iv (dQ ds j)))), (b 4, .inl (G 1, 2, .inl (fun j => iv (dO ds j)))), (b 5, .inl (G 0, 2, .inl (fun j => iv (dU ds j))))]) := hD
  have lk9 := hts (.fieldLink RX0 9 "DollCitadel$Doll" "angles" "[I") (by decide +kernel)
  have in_X0 : ∀ w ∈ u_ws RX0 TX0 9, w ∈ wsX0_becomeLike := by decide +kernel
  have lk15 := hts (.fieldLink RX0 15 "DollCitadel$Doll" "wears" "[I") (by decide +kernel)
  have lk18 := hts (.fieldLink RX0 18 "DollCitadel$Doll" "lacquers" "[I") (by decide +kernel)
  have lk21 := hts (.fieldLink RX0 21 "DollCitadel$Doll" "open" "[Z") (by decide +kernel)
  have lk25 := hts (.fieldLink RX0 25 "DollCitadel$Doll" "dusts" "[I") (by decide +kernel)
  have lk28 := hts (.fieldLink RX0 28 "DollCitadel$Doll" "wigEaten" "I") (by decide +kernel)
  have lk32 := hts (.fieldLink RX0 32 "DollCitadel$Doll" "weight" "I") (by decide +kernel)
  have lk35 := hts (.fieldLink RX0 35 "DollCitadel$Doll" "pins" "I") (by decide +kernel)
  have lk38 := hts (.fieldLink RX0 38 "DollCitadel$Doll" "posesTaken" "I") (by decide +kernel)
  refine r_const hx hb dX0_becomeLike_0 ?_
  refine lv_istore_n (lv' := [(2, .int (iv 0)), (0, .ref (a 0)), (1, .ref (b 0))]) hx hb dX0_becomeLike_1 rfl hl (by decide) rfl (fun ls hl => ?_)
  have K2 : ∀ (n i : Nat) (FA : Nat → Int) (FW : Nat → Int) (FQ : Nat → Int), i ≤ 6 → 6 < i + n → (∀ j, j < i → FA j = dA ds j) → (∀ j, j < i → FW j = dW ds j) → (∀ j, j < i → FQ j = dQ ds j) → ∀ (H : Heap) (locs : List Loc), va_P D vwCl ([(a 0, .inr (0, [.ref (a 1), .ref (a 2), .ref (a 3), .ref (a 4), .ref (a 5), .int (iv (dg ts)), .int (iv (dv ts)), .int (iv (dn ts)), .int (iv (dt ts))])), (a 1, .inl (G 0, 6, .inl (fun j => iv (FA j)))), (a 2, .inl (G 0, 6, .inl (fun j => iv (FW j)))), (a 3, .inl (G 0, 6, .inl (fun j => iv (FQ j)))), (a 4, .inl (G 1, 2, .inl (fun j => iv (dO ts j)))), (a 5, .inl (G 0, 2, .inl (fun j => iv (dU ts j)))), (b 0, .inr (0, [.ref (b 1), .ref (b 2), .ref (b 3), .ref (b 4), .ref (b 5), .int (iv (dg ds)), .int (iv (dv ds)), .int (iv (dn ds)), .int (iv (dt ds))])), (b 1, .inl (G 0, 6, .inl (fun j => iv (dA ds j)))), (b 2, .inl (G 0, 6, .inl (fun j => iv (dW ds j)))), (b 3, .inl (G 0, 6, .inl (fun j => iv (dQ ds j)))), (b 4, .inl (G 1, 2, .inl (fun j => iv (dO ds j)))), (b 5, .inl (G 0, 2, .inl (fun j => iv (dU ds j))))]) H → va_D A ([(a 0, .inr (0, [.ref (a 1), .ref (a 2), .ref (a 3), .ref (a 4), .ref (a 5), .int (iv (dg ts)), .int (iv (dv ts)), .int (iv (dn ts)), .int (iv (dt ts))])), (a 1, .inl (G 0, 6, .inl (fun j => iv (FA j)))), (a 2, .inl (G 0, 6, .inl (fun j => iv (FW j)))), (a 3, .inl (G 0, 6, .inl (fun j => iv (FQ j)))), (a 4, .inl (G 1, 2, .inl (fun j => iv (dO ts j)))), (a 5, .inl (G 0, 2, .inl (fun j => iv (dU ts j)))), (b 0, .inr (0, [.ref (b 1), .ref (b 2), .ref (b 3), .ref (b 4), .ref (b 5), .int (iv (dg ds)), .int (iv (dv ds)), .int (iv (dn ds)), .int (iv (dt ds))])), (b 1, .inl (G 0, 6, .inl (fun j => iv (dA ds j)))), (b 2, .inl (G 0, 6, .inl (fun j => iv (dW ds j)))), (b 3, .inl (G 0, 6, .inl (fun j => iv (dQ ds j)))), (b 4, .inl (G 1, 2, .inl (fun j => iv (dO ds j)))), (b 5, .inl (G 0, 2, .inl (fun j => iv (dU ds j))))]) → va_S A s.heap H locs → ∀ (ls : Array Slot), lv_has ls 3 [(0, .ref (a 0)), (1, .ref (b 0)), (2, .int (iv (i : Int)))] → W p l e (rmOf 0 0 0 0) s m ([.ref (a 0), .ref (b 0)] : List Value).toArray below meth c H locs 0 0 (MQ below (qV D (fun u => u = wDoll G a ds ++ wDoll G b ds) A) ([.ref (a 0), .ref (b 0)] : List Value).toArray s 0 0 A) (F0 m 2 ls []) := by
    intro n
    induction n with
    | zero => intro i FA FW FQ h1 h2; exact absurd h2 (by omega)
    | succ n ih2 =>
      intro i FA FW FQ hi_2 hn_2 h1 h2 h3 H locs hP hD hS ls hl
      refine lv_iload_n hx hb dX0_becomeLike_2 rfl (lv_at hl 2 rfl) ?_
      refine lv_bipush (v := iv 6) hx hb dX0_becomeLike_3 (by decide) ?_
      refine r_icmp_ge hx hb 50 dX0_becomeLike_5 (by decide) (by omega) (by omega) (fun c_5 => ?_) (fun c_5 => ?_)
      · skip
        refine r_const hx hb dX0_becomeLike_50 ?_
        refine lv_istore_n (lv' := [(2, .int (iv 0)), (0, .ref (a 0)), (1, .ref (b 0))]) hx hb dX0_becomeLike_51 rfl hl (by decide) rfl (fun ls hl => ?_)
        have K52 : ∀ (n y : Nat) (FO : Nat → Int) (FU : Nat → Int), y ≤ 2 → 2 < y + n → (∀ k, k < y → FO k = dO ds k) → (∀ k, k < y → FU k = dU ds k) → ∀ (H : Heap) (locs : List Loc), va_P D vwCl ([(a 0, .inr (0, [.ref (a 1), .ref (a 2), .ref (a 3), .ref (a 4), .ref (a 5), .int (iv (dg ts)), .int (iv (dv ts)), .int (iv (dn ts)), .int (iv (dt ts))])), (a 1, .inl (G 0, 6, .inl (fun j => iv (FA j)))), (a 2, .inl (G 0, 6, .inl (fun j => iv (FW j)))), (a 3, .inl (G 0, 6, .inl (fun j => iv (FQ j)))), (a 4, .inl (G 1, 2, .inl (fun j => iv (FO j)))), (a 5, .inl (G 0, 2, .inl (fun j => iv (FU j)))), (b 0, .inr (0, [.ref (b 1), .ref (b 2), .ref (b 3), .ref (b 4), .ref (b 5), .int (iv (dg ds)), .int (iv (dv ds)), .int (iv (dn ds)), .int (iv (dt ds))])), (b 1, .inl (G 0, 6, .inl (fun j => iv (dA ds j)))), (b 2, .inl (G 0, 6, .inl (fun j => iv (dW ds j)))), (b 3, .inl (G 0, 6, .inl (fun j => iv (dQ ds j)))), (b 4, .inl (G 1, 2, .inl (fun j => iv (dO ds j)))), (b 5, .inl (G 0, 2, .inl (fun j => iv (dU ds j))))]) H → va_D A ([(a 0, .inr (0, [.ref (a 1), .ref (a 2), .ref (a 3), .ref (a 4), .ref (a 5), .int (iv (dg ts)), .int (iv (dv ts)), .int (iv (dn ts)), .int (iv (dt ts))])), (a 1, .inl (G 0, 6, .inl (fun j => iv (FA j)))), (a 2, .inl (G 0, 6, .inl (fun j => iv (FW j)))), (a 3, .inl (G 0, 6, .inl (fun j => iv (FQ j)))), (a 4, .inl (G 1, 2, .inl (fun j => iv (FO j)))), (a 5, .inl (G 0, 2, .inl (fun j => iv (FU j)))), (b 0, .inr (0, [.ref (b 1), .ref (b 2), .ref (b 3), .ref (b 4), .ref (b 5), .int (iv (dg ds)), .int (iv (dv ds)), .int (iv (dn ds)), .int (iv (dt ds))])), (b 1, .inl (G 0, 6, .inl (fun j => iv (dA ds j)))), (b 2, .inl (G 0, 6, .inl (fun j => iv (dW ds j)))), (b 3, .inl (G 0, 6, .inl (fun j => iv (dQ ds j)))), (b 4, .inl (G 1, 2, .inl (fun j => iv (dO ds j)))), (b 5, .inl (G 0, 2, .inl (fun j => iv (dU ds j))))]) → va_S A s.heap H locs → ∀ (ls : Array Slot), lv_has ls 3 [(0, .ref (a 0)), (1, .ref (b 0)), (2, .int (iv (y : Int)))] → W p l e (rmOf 0 0 0 0) s m ([.ref (a 0), .ref (b 0)] : List Value).toArray below meth c H locs 0 0 (MQ below (qV D (fun u => u = wDoll G a ds ++ wDoll G b ds) A) ([.ref (a 0), .ref (b 0)] : List Value).toArray s 0 0 A) (F0 m 52 ls []) := by
          intro n
          induction n with
          | zero => intro y FO FU h1 h2; exact absurd h2 (by omega)
          | succ n ih52 =>
            intro y FO FU hi_52 hn_52 h4 h5 H locs hP hD hS ls hl
            refine lv_iload_n hx hb dX0_becomeLike_52 rfl (lv_at hl 2 rfl) ?_
            refine r_const hx hb dX0_becomeLike_53 ?_
            refine r_icmp_ge hx hb 87 dX0_becomeLike_54 (by decide) (by omega) (by omega) (fun c_54 => ?_) (fun c_54 => ?_)
            · skip
              refine lv_aload_n hx hb dX0_becomeLike_87 rfl (lv_at hl 0 rfl) ?_
              refine lv_aload_n hx hb dX0_becomeLike_88 rfl (lv_at hl 1 rfl) ?_
              refine va_get (D := D) (ci := 0) (v := .int (iv (dg ds))) (C := RX0) (T := TX0) (N := 9) hx hb hts in_X0 hown hK hP 6 rfl rfl 5 (by decide) lk28 (fun _ h9 => h9) rfl dX0_becomeLike_89 ?_
              refine va_put (D := D) (ci := 0) (v := .int (iv (dg ds))) (ty := .int) (C := RX0) (T := TX0) (N := 9) hx hb hts in_X0 tyX0 tyX0_ok nmX0 hown hK hP hD hS 0 rfl rfl 5 (by decide) lk28 (fun _ h9 => h9) rfl (by decide +kernel) rfl rfl (Nat.le_of_ble_eq_true rfl) dX0_becomeLike_92 (fun H locs hP hD hS => ?_)
              have hP : va_P D vwCl ([(a 0, .inr (0, [.ref (a 1), .ref (a 2), .ref (a 3), .ref (a 4), .ref (a 5), .int (iv (dg ds)), .int (iv (dv ts)), .int (iv (dn ts)), .int (iv (dt ts))])), (a 1, .inl (G 0, 6, .inl (fun j => iv (FA j)))), (a 2, .inl (G 0, 6, .inl (fun j => iv (FW j)))), (a 3, .inl (G 0, 6, .inl (fun j => iv (FQ j)))), (a 4, .inl (G 1, 2, .inl (fun j => iv (FO j)))), (a 5, .inl (G 0, 2, .inl (fun j => iv (FU j)))), (b 0, .inr (0, [.ref (b 1), .ref (b 2), .ref (b 3), .ref (b 4), .ref (b 5), .int (iv (dg ds)), .int (iv (dv ds)), .int (iv (dn ds)), .int (iv (dt ds))])), (b 1, .inl (G 0, 6, .inl (fun j => iv (dA ds j)))), (b 2, .inl (G 0, 6, .inl (fun j => iv (dW ds j)))), (b 3, .inl (G 0, 6, .inl (fun j => iv (dQ ds j)))), (b 4, .inl (G 1, 2, .inl (fun j => iv (dO ds j)))), (b 5, .inl (G 0, 2, .inl (fun j => iv (dU ds j))))]) H := hP
              have hD : va_D A ([(a 0, .inr (0, [.ref (a 1), .ref (a 2), .ref (a 3), .ref (a 4), .ref (a 5), .int (iv (dg ds)), .int (iv (dv ts)), .int (iv (dn ts)), .int (iv (dt ts))])), (a 1, .inl (G 0, 6, .inl (fun j => iv (FA j)))), (a 2, .inl (G 0, 6, .inl (fun j => iv (FW j)))), (a 3, .inl (G 0, 6, .inl (fun j => iv (FQ j)))), (a 4, .inl (G 1, 2, .inl (fun j => iv (FO j)))), (a 5, .inl (G 0, 2, .inl (fun j => iv (FU j)))), (b 0, .inr (0, [.ref (b 1), .ref (b 2), .ref (b 3), .ref (b 4), .ref (b 5), .int (iv (dg ds)), .int (iv (dv ds)), .int (iv (dn ds)), .int (iv (dt ds))])), (b 1, .inl (G 0, 6, .inl (fun j => iv (dA ds j)))), (b 2, .inl (G 0, 6, .inl (fun j => iv (dW ds j)))), (b 3, .inl (G 0, 6, .inl (fun j => iv (dQ ds j)))), (b 4, .inl (G 1, 2, .inl (fun j => iv (dO ds j)))), (b 5, .inl (G 0, 2, .inl (fun j => iv (dU ds j))))]) := hD
              refine lv_aload_n hx hb dX0_becomeLike_95 rfl (lv_at hl 0 rfl) ?_
              refine lv_aload_n hx hb dX0_becomeLike_96 rfl (lv_at hl 1 rfl) ?_
              refine va_get (D := D) (ci := 0) (v := .int (iv (dv ds))) (C := RX0) (T := TX0) (N := 9) hx hb hts in_X0 hown hK hP 6 rfl rfl 6 (by decide) lk32 (fun _ h9 => h9) rfl dX0_becomeLike_97 ?_
              refine va_put (D := D) (ci := 0) (v := .int (iv (dv ds))) (ty := .int) (C := RX0) (T := TX0) (N := 9) hx hb hts in_X0 tyX0 tyX0_ok nmX0 hown hK hP hD hS 0 rfl rfl 6 (by decide) lk32 (fun _ h9 => h9) rfl (by decide +kernel) rfl rfl (Nat.le_of_ble_eq_true rfl) dX0_becomeLike_100 (fun H locs hP hD hS => ?_)
              have hP : va_P D vwCl ([(a 0, .inr (0, [.ref (a 1), .ref (a 2), .ref (a 3), .ref (a 4), .ref (a 5), .int (iv (dg ds)), .int (iv (dv ds)), .int (iv (dn ts)), .int (iv (dt ts))])), (a 1, .inl (G 0, 6, .inl (fun j => iv (FA j)))), (a 2, .inl (G 0, 6, .inl (fun j => iv (FW j)))), (a 3, .inl (G 0, 6, .inl (fun j => iv (FQ j)))), (a 4, .inl (G 1, 2, .inl (fun j => iv (FO j)))), (a 5, .inl (G 0, 2, .inl (fun j => iv (FU j)))), (b 0, .inr (0, [.ref (b 1), .ref (b 2), .ref (b 3), .ref (b 4), .ref (b 5), .int (iv (dg ds)), .int (iv (dv ds)), .int (iv (dn ds)), .int (iv (dt ds))])), (b 1, .inl (G 0, 6, .inl (fun j => iv (dA ds j)))), (b 2, .inl (G 0, 6, .inl (fun j => iv (dW ds j)))), (b 3, .inl (G 0, 6, .inl (fun j => iv (dQ ds j)))), (b 4, .inl (G 1, 2, .inl (fun j => iv (dO ds j)))), (b 5, .inl (G 0, 2, .inl (fun j => iv (dU ds j))))]) H := hP
              have hD : va_D A ([(a 0, .inr (0, [.ref (a 1), .ref (a 2), .ref (a 3), .ref (a 4), .ref (a 5), .int (iv (dg ds)), .int (iv (dv ds)), .int (iv (dn ts)), .int (iv (dt ts))])), (a 1, .inl (G 0, 6, .inl (fun j => iv (FA j)))), (a 2, .inl (G 0, 6, .inl (fun j => iv (FW j)))), (a 3, .inl (G 0, 6, .inl (fun j => iv (FQ j)))), (a 4, .inl (G 1, 2, .inl (fun j => iv (FO j)))), (a 5, .inl (G 0, 2, .inl (fun j => iv (FU j)))), (b 0, .inr (0, [.ref (b 1), .ref (b 2), .ref (b 3), .ref (b 4), .ref (b 5), .int (iv (dg ds)), .int (iv (dv ds)), .int (iv (dn ds)), .int (iv (dt ds))])), (b 1, .inl (G 0, 6, .inl (fun j => iv (dA ds j)))), (b 2, .inl (G 0, 6, .inl (fun j => iv (dW ds j)))), (b 3, .inl (G 0, 6, .inl (fun j => iv (dQ ds j)))), (b 4, .inl (G 1, 2, .inl (fun j => iv (dO ds j)))), (b 5, .inl (G 0, 2, .inl (fun j => iv (dU ds j))))]) := hD
              refine lv_aload_n hx hb dX0_becomeLike_103 rfl (lv_at hl 0 rfl) ?_
              refine lv_aload_n hx hb dX0_becomeLike_104 rfl (lv_at hl 1 rfl) ?_
              refine va_get (D := D) (ci := 0) (v := .int (iv (dn ds))) (C := RX0) (T := TX0) (N := 9) hx hb hts in_X0 hown hK hP 6 rfl rfl 7 (by decide) lk35 (fun _ h9 => h9) rfl dX0_becomeLike_105 ?_
              refine va_put (D := D) (ci := 0) (v := .int (iv (dn ds))) (ty := .int) (C := RX0) (T := TX0) (N := 9) hx hb hts in_X0 tyX0 tyX0_ok nmX0 hown hK hP hD hS 0 rfl rfl 7 (by decide) lk35 (fun _ h9 => h9) rfl (by decide +kernel) rfl rfl (Nat.le_of_ble_eq_true rfl) dX0_becomeLike_108 (fun H locs hP hD hS => ?_)
              have hP : va_P D vwCl ([(a 0, .inr (0, [.ref (a 1), .ref (a 2), .ref (a 3), .ref (a 4), .ref (a 5), .int (iv (dg ds)), .int (iv (dv ds)), .int (iv (dn ds)), .int (iv (dt ts))])), (a 1, .inl (G 0, 6, .inl (fun j => iv (FA j)))), (a 2, .inl (G 0, 6, .inl (fun j => iv (FW j)))), (a 3, .inl (G 0, 6, .inl (fun j => iv (FQ j)))), (a 4, .inl (G 1, 2, .inl (fun j => iv (FO j)))), (a 5, .inl (G 0, 2, .inl (fun j => iv (FU j)))), (b 0, .inr (0, [.ref (b 1), .ref (b 2), .ref (b 3), .ref (b 4), .ref (b 5), .int (iv (dg ds)), .int (iv (dv ds)), .int (iv (dn ds)), .int (iv (dt ds))])), (b 1, .inl (G 0, 6, .inl (fun j => iv (dA ds j)))), (b 2, .inl (G 0, 6, .inl (fun j => iv (dW ds j)))), (b 3, .inl (G 0, 6, .inl (fun j => iv (dQ ds j)))), (b 4, .inl (G 1, 2, .inl (fun j => iv (dO ds j)))), (b 5, .inl (G 0, 2, .inl (fun j => iv (dU ds j))))]) H := hP
              have hD : va_D A ([(a 0, .inr (0, [.ref (a 1), .ref (a 2), .ref (a 3), .ref (a 4), .ref (a 5), .int (iv (dg ds)), .int (iv (dv ds)), .int (iv (dn ds)), .int (iv (dt ts))])), (a 1, .inl (G 0, 6, .inl (fun j => iv (FA j)))), (a 2, .inl (G 0, 6, .inl (fun j => iv (FW j)))), (a 3, .inl (G 0, 6, .inl (fun j => iv (FQ j)))), (a 4, .inl (G 1, 2, .inl (fun j => iv (FO j)))), (a 5, .inl (G 0, 2, .inl (fun j => iv (FU j)))), (b 0, .inr (0, [.ref (b 1), .ref (b 2), .ref (b 3), .ref (b 4), .ref (b 5), .int (iv (dg ds)), .int (iv (dv ds)), .int (iv (dn ds)), .int (iv (dt ds))])), (b 1, .inl (G 0, 6, .inl (fun j => iv (dA ds j)))), (b 2, .inl (G 0, 6, .inl (fun j => iv (dW ds j)))), (b 3, .inl (G 0, 6, .inl (fun j => iv (dQ ds j)))), (b 4, .inl (G 1, 2, .inl (fun j => iv (dO ds j)))), (b 5, .inl (G 0, 2, .inl (fun j => iv (dU ds j))))]) := hD
              refine lv_aload_n hx hb dX0_becomeLike_111 rfl (lv_at hl 0 rfl) ?_
              refine lv_aload_n hx hb dX0_becomeLike_112 rfl (lv_at hl 1 rfl) ?_
              refine va_get (D := D) (ci := 0) (v := .int (iv (dt ds))) (C := RX0) (T := TX0) (N := 9) hx hb hts in_X0 hown hK hP 6 rfl rfl 8 (by decide) lk38 (fun _ h9 => h9) rfl dX0_becomeLike_113 ?_
              refine va_put (D := D) (ci := 0) (v := .int (iv (dt ds))) (ty := .int) (C := RX0) (T := TX0) (N := 9) hx hb hts in_X0 tyX0 tyX0_ok nmX0 hown hK hP hD hS 0 rfl rfl 8 (by decide) lk38 (fun _ h9 => h9) rfl (by decide +kernel) rfl rfl (Nat.le_of_ble_eq_true rfl) dX0_becomeLike_116 (fun H locs hP hD hS => ?_)
              have hP : va_P D vwCl ([(a 0, .inr (0, [.ref (a 1), .ref (a 2), .ref (a 3), .ref (a 4), .ref (a 5), .int (iv (dg ds)), .int (iv (dv ds)), .int (iv (dn ds)), .int (iv (dt ds))])), (a 1, .inl (G 0, 6, .inl (fun j => iv (FA j)))), (a 2, .inl (G 0, 6, .inl (fun j => iv (FW j)))), (a 3, .inl (G 0, 6, .inl (fun j => iv (FQ j)))), (a 4, .inl (G 1, 2, .inl (fun j => iv (FO j)))), (a 5, .inl (G 0, 2, .inl (fun j => iv (FU j)))), (b 0, .inr (0, [.ref (b 1), .ref (b 2), .ref (b 3), .ref (b 4), .ref (b 5), .int (iv (dg ds)), .int (iv (dv ds)), .int (iv (dn ds)), .int (iv (dt ds))])), (b 1, .inl (G 0, 6, .inl (fun j => iv (dA ds j)))), (b 2, .inl (G 0, 6, .inl (fun j => iv (dW ds j)))), (b 3, .inl (G 0, 6, .inl (fun j => iv (dQ ds j)))), (b 4, .inl (G 1, 2, .inl (fun j => iv (dO ds j)))), (b 5, .inl (G 0, 2, .inl (fun j => iv (dU ds j))))]) H := hP
              have hD : va_D A ([(a 0, .inr (0, [.ref (a 1), .ref (a 2), .ref (a 3), .ref (a 4), .ref (a 5), .int (iv (dg ds)), .int (iv (dv ds)), .int (iv (dn ds)), .int (iv (dt ds))])), (a 1, .inl (G 0, 6, .inl (fun j => iv (FA j)))), (a 2, .inl (G 0, 6, .inl (fun j => iv (FW j)))), (a 3, .inl (G 0, 6, .inl (fun j => iv (FQ j)))), (a 4, .inl (G 1, 2, .inl (fun j => iv (FO j)))), (a 5, .inl (G 0, 2, .inl (fun j => iv (FU j)))), (b 0, .inr (0, [.ref (b 1), .ref (b 2), .ref (b 3), .ref (b 4), .ref (b 5), .int (iv (dg ds)), .int (iv (dv ds)), .int (iv (dn ds)), .int (iv (dt ds))])), (b 1, .inl (G 0, 6, .inl (fun j => iv (dA ds j)))), (b 2, .inl (G 0, 6, .inl (fun j => iv (dW ds j)))), (b 3, .inl (G 0, 6, .inl (fun j => iv (dQ ds j)))), (b 4, .inl (G 1, 2, .inl (fun j => iv (dO ds j)))), (b 5, .inl (G 0, 2, .inl (fun j => iv (dU ds j))))]) := hD
              have hP := wP_say 1 (dA ds) hP rfl (fun j hj => h1 j (by omega))
              have hD := wD_say 1 (.inl (G 0, 6, .inl (fun j => iv (dA ds j)))) hD rfl
              have hP := wP_say 2 (dW ds) hP rfl (fun j hj => h2 j (by omega))
              have hD := wD_say 2 (.inl (G 0, 6, .inl (fun j => iv (dW ds j)))) hD rfl
              have hP := wP_say 3 (dQ ds) hP rfl (fun j hj => h3 j (by omega))
              have hD := wD_say 3 (.inl (G 0, 6, .inl (fun j => iv (dQ ds j)))) hD rfl
              have hP := wP_say 4 (dO ds) hP rfl (fun j hj => h4 j (by omega))
              have hD := wD_say 4 (.inl (G 1, 2, .inl (fun j => iv (dO ds j)))) hD rfl
              have hP := wP_say 5 (dU ds) hP rfl (fun j hj => h5 j (by omega))
              have hD := wD_say 5 (.inl (G 0, 2, .inl (fun j => iv (dU ds j)))) hD rfl
              exact e_void hx hb hr hlk dX0_becomeLike_119 hS hP hD (by decide) (by decide) rfl
            · skip
              refine lv_aload_n hx hb dX0_becomeLike_57 rfl (lv_at hl 0 rfl) ?_
              refine va_get (D := D) (ci := 0) (v := .ref (a 4)) (C := RX0) (T := TX0) (N := 9) hx hb hts in_X0 hown hK hP 0 rfl rfl 3 (by decide) lk21 (fun _ h9 => h9) rfl dX0_becomeLike_58 ?_
              refine lv_iload_n hx hb dX0_becomeLike_61 rfl (lv_at hl 2 rfl) ?_
              refine lv_aload_n hx hb dX0_becomeLike_62 rfl (lv_at hl 1 rfl) ?_
              refine va_get (D := D) (ci := 0) (v := .ref (b 4)) (C := RX0) (T := TX0) (N := 9) hx hb hts in_X0 hown hK hP 6 rfl rfl 3 (by decide) lk21 (fun _ h9 => h9) rfl dX0_becomeLike_63 ?_
              refine lv_iload_n hx hb dX0_becomeLike_66 rfl (lv_at hl 2 rfl) ?_
              refine r_zald (F := dO ds) hx hb hK hP 10 1 rfl rfl y (by omega) (by omega) (by decide) dX0_becomeLike_67 ?_
              have b_67 := okD_O hok y (by omega)
              refine r_zast (F := FO) hx hb hK hP hD hS 4 1 rfl rfl y (by omega) (by omega) (by decide) (by omega) dX0_becomeLike_68 (fun H locs hP hD hS => ?_)
              have hP : va_P D vwCl ([(a 0, .inr (0, [.ref (a 1), .ref (a 2), .ref (a 3), .ref (a 4), .ref (a 5), .int (iv (dg ts)), .int (iv (dv ts)), .int (iv (dn ts)), .int (iv (dt ts))])), (a 1, .inl (G 0, 6, .inl (fun j => iv (FA j)))), (a 2, .inl (G 0, 6, .inl (fun j => iv (FW j)))), (a 3, .inl (G 0, 6, .inl (fun j => iv (FQ j)))), (a 4, .inl (G 1, 2, .inl (fun j => iv (updI FO y (dO ds y) j)))), (a 5, .inl (G 0, 2, .inl (fun j => iv (FU j)))), (b 0, .inr (0, [.ref (b 1), .ref (b 2), .ref (b 3), .ref (b 4), .ref (b 5), .int (iv (dg ds)), .int (iv (dv ds)), .int (iv (dn ds)), .int (iv (dt ds))])), (b 1, .inl (G 0, 6, .inl (fun j => iv (dA ds j)))), (b 2, .inl (G 0, 6, .inl (fun j => iv (dW ds j)))), (b 3, .inl (G 0, 6, .inl (fun j => iv (dQ ds j)))), (b 4, .inl (G 1, 2, .inl (fun j => iv (dO ds j)))), (b 5, .inl (G 0, 2, .inl (fun j => iv (dU ds j))))]) H := hP
              have hD : va_D A ([(a 0, .inr (0, [.ref (a 1), .ref (a 2), .ref (a 3), .ref (a 4), .ref (a 5), .int (iv (dg ts)), .int (iv (dv ts)), .int (iv (dn ts)), .int (iv (dt ts))])), (a 1, .inl (G 0, 6, .inl (fun j => iv (FA j)))), (a 2, .inl (G 0, 6, .inl (fun j => iv (FW j)))), (a 3, .inl (G 0, 6, .inl (fun j => iv (FQ j)))), (a 4, .inl (G 1, 2, .inl (fun j => iv (updI FO y (dO ds y) j)))), (a 5, .inl (G 0, 2, .inl (fun j => iv (FU j)))), (b 0, .inr (0, [.ref (b 1), .ref (b 2), .ref (b 3), .ref (b 4), .ref (b 5), .int (iv (dg ds)), .int (iv (dv ds)), .int (iv (dn ds)), .int (iv (dt ds))])), (b 1, .inl (G 0, 6, .inl (fun j => iv (dA ds j)))), (b 2, .inl (G 0, 6, .inl (fun j => iv (dW ds j)))), (b 3, .inl (G 0, 6, .inl (fun j => iv (dQ ds j)))), (b 4, .inl (G 1, 2, .inl (fun j => iv (dO ds j)))), (b 5, .inl (G 0, 2, .inl (fun j => iv (dU ds j))))]) := hD
              refine lv_aload_n hx hb dX0_becomeLike_69 rfl (lv_at hl 0 rfl) ?_
              refine va_get (D := D) (ci := 0) (v := .ref (a 5)) (C := RX0) (T := TX0) (N := 9) hx hb hts in_X0 hown hK hP 0 rfl rfl 4 (by decide) lk25 (fun _ h9 => h9) rfl dX0_becomeLike_70 ?_
              refine lv_iload_n hx hb dX0_becomeLike_73 rfl (lv_at hl 2 rfl) ?_
              refine lv_aload_n hx hb dX0_becomeLike_74 rfl (lv_at hl 1 rfl) ?_
              refine va_get (D := D) (ci := 0) (v := .ref (b 5)) (C := RX0) (T := TX0) (N := 9) hx hb hts in_X0 hown hK hP 6 rfl rfl 4 (by decide) lk25 (fun _ h9 => h9) rfl dX0_becomeLike_75 ?_
              refine lv_iload_n hx hb dX0_becomeLike_78 rfl (lv_at hl 2 rfl) ?_
              refine r_iald (F := dU ds) hx hb hK hP 11 0 rfl rfl y (by omega) (by omega) (by decide) dX0_becomeLike_79 ?_
              have b_79 := okD_U hok y (by omega)
              refine r_iast (F := FU) hx hb hK hP hD hS 5 0 rfl rfl y (by omega) (by omega) (by decide) dX0_becomeLike_80 (fun H locs hP hD hS => ?_)
              have hP : va_P D vwCl ([(a 0, .inr (0, [.ref (a 1), .ref (a 2), .ref (a 3), .ref (a 4), .ref (a 5), .int (iv (dg ts)), .int (iv (dv ts)), .int (iv (dn ts)), .int (iv (dt ts))])), (a 1, .inl (G 0, 6, .inl (fun j => iv (FA j)))), (a 2, .inl (G 0, 6, .inl (fun j => iv (FW j)))), (a 3, .inl (G 0, 6, .inl (fun j => iv (FQ j)))), (a 4, .inl (G 1, 2, .inl (fun j => iv (updI FO y (dO ds y) j)))), (a 5, .inl (G 0, 2, .inl (fun j => iv (updI FU y (dU ds y) j)))), (b 0, .inr (0, [.ref (b 1), .ref (b 2), .ref (b 3), .ref (b 4), .ref (b 5), .int (iv (dg ds)), .int (iv (dv ds)), .int (iv (dn ds)), .int (iv (dt ds))])), (b 1, .inl (G 0, 6, .inl (fun j => iv (dA ds j)))), (b 2, .inl (G 0, 6, .inl (fun j => iv (dW ds j)))), (b 3, .inl (G 0, 6, .inl (fun j => iv (dQ ds j)))), (b 4, .inl (G 1, 2, .inl (fun j => iv (dO ds j)))), (b 5, .inl (G 0, 2, .inl (fun j => iv (dU ds j))))]) H := hP
              have hD : va_D A ([(a 0, .inr (0, [.ref (a 1), .ref (a 2), .ref (a 3), .ref (a 4), .ref (a 5), .int (iv (dg ts)), .int (iv (dv ts)), .int (iv (dn ts)), .int (iv (dt ts))])), (a 1, .inl (G 0, 6, .inl (fun j => iv (FA j)))), (a 2, .inl (G 0, 6, .inl (fun j => iv (FW j)))), (a 3, .inl (G 0, 6, .inl (fun j => iv (FQ j)))), (a 4, .inl (G 1, 2, .inl (fun j => iv (updI FO y (dO ds y) j)))), (a 5, .inl (G 0, 2, .inl (fun j => iv (updI FU y (dU ds y) j)))), (b 0, .inr (0, [.ref (b 1), .ref (b 2), .ref (b 3), .ref (b 4), .ref (b 5), .int (iv (dg ds)), .int (iv (dv ds)), .int (iv (dn ds)), .int (iv (dt ds))])), (b 1, .inl (G 0, 6, .inl (fun j => iv (dA ds j)))), (b 2, .inl (G 0, 6, .inl (fun j => iv (dW ds j)))), (b 3, .inl (G 0, 6, .inl (fun j => iv (dQ ds j)))), (b 4, .inl (G 1, 2, .inl (fun j => iv (dO ds j)))), (b 5, .inl (G 0, 2, .inl (fun j => iv (dU ds j))))]) := hD
              refine r_iinc (k := 2) (lv' := [(2, .int (iv ((y : Int) + 1))), (0, .ref (a 0)), (1, .ref (b 0))]) hx hb dX0_becomeLike_81 hl rfl (by decide) rfl (fun ls hl => ?_)
              refine r_goto hx hb 52 dX0_becomeLike_84 (by decide) ?_
              exact ih52 (y + 1) (updI FO y (dO ds y)) (updI FU y (dU ds y)) (by omega) (by omega) (upd_step h4) (upd_step h5) _ _ hP hD hS _ (lv_sub hl [1, 2, 0] rfl)
        exact K52 3 0 (dO ts) (dU ts) (by omega) (by omega) lt_0 lt_0 _ _ hP hD hS _ (lv_sub hl [1, 2, 0] rfl)
      · skip
        refine lv_aload_n hx hb dX0_becomeLike_8 rfl (lv_at hl 0 rfl) ?_
        refine va_get (D := D) (ci := 0) (v := .ref (a 1)) (C := RX0) (T := TX0) (N := 9) hx hb hts in_X0 hown hK hP 0 rfl rfl 0 (by decide) lk9 (fun _ h9 => h9) rfl dX0_becomeLike_9 ?_
        refine lv_iload_n hx hb dX0_becomeLike_12 rfl (lv_at hl 2 rfl) ?_
        refine lv_aload_n hx hb dX0_becomeLike_13 rfl (lv_at hl 1 rfl) ?_
        refine va_get (D := D) (ci := 0) (v := .ref (b 1)) (C := RX0) (T := TX0) (N := 9) hx hb hts in_X0 hown hK hP 6 rfl rfl 0 (by decide) lk9 (fun _ h9 => h9) rfl dX0_becomeLike_14 ?_
        refine lv_iload_n hx hb dX0_becomeLike_17 rfl (lv_at hl 2 rfl) ?_
        refine r_iald (F := dA ds) hx hb hK hP 7 0 rfl rfl i (by omega) (by omega) (by decide) dX0_becomeLike_18 ?_
        have b_18 := okD_A hok i (by omega)
        refine r_iast (F := FA) hx hb hK hP hD hS 1 0 rfl rfl i (by omega) (by omega) (by decide) dX0_becomeLike_19 (fun H locs hP hD hS => ?_)
        have hP : va_P D vwCl ([(a 0, .inr (0, [.ref (a 1), .ref (a 2), .ref (a 3), .ref (a 4), .ref (a 5), .int (iv (dg ts)), .int (iv (dv ts)), .int (iv (dn ts)), .int (iv (dt ts))])), (a 1, .inl (G 0, 6, .inl (fun j => iv (updI FA i (dA ds i) j)))), (a 2, .inl (G 0, 6, .inl (fun j => iv (FW j)))), (a 3, .inl (G 0, 6, .inl (fun j => iv (FQ j)))), (a 4, .inl (G 1, 2, .inl (fun j => iv (dO ts j)))), (a 5, .inl (G 0, 2, .inl (fun j => iv (dU ts j)))), (b 0, .inr (0, [.ref (b 1), .ref (b 2), .ref (b 3), .ref (b 4), .ref (b 5), .int (iv (dg ds)), .int (iv (dv ds)), .int (iv (dn ds)), .int (iv (dt ds))])), (b 1, .inl (G 0, 6, .inl (fun j => iv (dA ds j)))), (b 2, .inl (G 0, 6, .inl (fun j => iv (dW ds j)))), (b 3, .inl (G 0, 6, .inl (fun j => iv (dQ ds j)))), (b 4, .inl (G 1, 2, .inl (fun j => iv (dO ds j)))), (b 5, .inl (G 0, 2, .inl (fun j => iv (dU ds j))))]) H := hP
        have hD : va_D A ([(a 0, .inr (0, [.ref (a 1), .ref (a 2), .ref (a 3), .ref (a 4), .ref (a 5), .int (iv (dg ts)), .int (iv (dv ts)), .int (iv (dn ts)), .int (iv (dt ts))])), (a 1, .inl (G 0, 6, .inl (fun j => iv (updI FA i (dA ds i) j)))), (a 2, .inl (G 0, 6, .inl (fun j => iv (FW j)))), (a 3, .inl (G 0, 6, .inl (fun j => iv (FQ j)))), (a 4, .inl (G 1, 2, .inl (fun j => iv (dO ts j)))), (a 5, .inl (G 0, 2, .inl (fun j => iv (dU ts j)))), (b 0, .inr (0, [.ref (b 1), .ref (b 2), .ref (b 3), .ref (b 4), .ref (b 5), .int (iv (dg ds)), .int (iv (dv ds)), .int (iv (dn ds)), .int (iv (dt ds))])), (b 1, .inl (G 0, 6, .inl (fun j => iv (dA ds j)))), (b 2, .inl (G 0, 6, .inl (fun j => iv (dW ds j)))), (b 3, .inl (G 0, 6, .inl (fun j => iv (dQ ds j)))), (b 4, .inl (G 1, 2, .inl (fun j => iv (dO ds j)))), (b 5, .inl (G 0, 2, .inl (fun j => iv (dU ds j))))]) := hD
        refine lv_aload_n hx hb dX0_becomeLike_20 rfl (lv_at hl 0 rfl) ?_
        refine va_get (D := D) (ci := 0) (v := .ref (a 2)) (C := RX0) (T := TX0) (N := 9) hx hb hts in_X0 hown hK hP 0 rfl rfl 1 (by decide) lk15 (fun _ h9 => h9) rfl dX0_becomeLike_21 ?_
        refine lv_iload_n hx hb dX0_becomeLike_24 rfl (lv_at hl 2 rfl) ?_
        refine lv_aload_n hx hb dX0_becomeLike_25 rfl (lv_at hl 1 rfl) ?_
        refine va_get (D := D) (ci := 0) (v := .ref (b 2)) (C := RX0) (T := TX0) (N := 9) hx hb hts in_X0 hown hK hP 6 rfl rfl 1 (by decide) lk15 (fun _ h9 => h9) rfl dX0_becomeLike_26 ?_
        refine lv_iload_n hx hb dX0_becomeLike_29 rfl (lv_at hl 2 rfl) ?_
        refine r_iald (F := dW ds) hx hb hK hP 8 0 rfl rfl i (by omega) (by omega) (by decide) dX0_becomeLike_30 ?_
        have b_30 := okD_W hok i (by omega)
        refine r_iast (F := FW) hx hb hK hP hD hS 2 0 rfl rfl i (by omega) (by omega) (by decide) dX0_becomeLike_31 (fun H locs hP hD hS => ?_)
        have hP : va_P D vwCl ([(a 0, .inr (0, [.ref (a 1), .ref (a 2), .ref (a 3), .ref (a 4), .ref (a 5), .int (iv (dg ts)), .int (iv (dv ts)), .int (iv (dn ts)), .int (iv (dt ts))])), (a 1, .inl (G 0, 6, .inl (fun j => iv (updI FA i (dA ds i) j)))), (a 2, .inl (G 0, 6, .inl (fun j => iv (updI FW i (dW ds i) j)))), (a 3, .inl (G 0, 6, .inl (fun j => iv (FQ j)))), (a 4, .inl (G 1, 2, .inl (fun j => iv (dO ts j)))), (a 5, .inl (G 0, 2, .inl (fun j => iv (dU ts j)))), (b 0, .inr (0, [.ref (b 1), .ref (b 2), .ref (b 3), .ref (b 4), .ref (b 5), .int (iv (dg ds)), .int (iv (dv ds)), .int (iv (dn ds)), .int (iv (dt ds))])), (b 1, .inl (G 0, 6, .inl (fun j => iv (dA ds j)))), (b 2, .inl (G 0, 6, .inl (fun j => iv (dW ds j)))), (b 3, .inl (G 0, 6, .inl (fun j => iv (dQ ds j)))), (b 4, .inl (G 1, 2, .inl (fun j => iv (dO ds j)))), (b 5, .inl (G 0, 2, .inl (fun j => iv (dU ds j))))]) H := hP
        have hD : va_D A ([(a 0, .inr (0, [.ref (a 1), .ref (a 2), .ref (a 3), .ref (a 4), .ref (a 5), .int (iv (dg ts)), .int (iv (dv ts)), .int (iv (dn ts)), .int (iv (dt ts))])), (a 1, .inl (G 0, 6, .inl (fun j => iv (updI FA i (dA ds i) j)))), (a 2, .inl (G 0, 6, .inl (fun j => iv (updI FW i (dW ds i) j)))), (a 3, .inl (G 0, 6, .inl (fun j => iv (FQ j)))), (a 4, .inl (G 1, 2, .inl (fun j => iv (dO ts j)))), (a 5, .inl (G 0, 2, .inl (fun j => iv (dU ts j)))), (b 0, .inr (0, [.ref (b 1), .ref (b 2), .ref (b 3), .ref (b 4), .ref (b 5), .int (iv (dg ds)), .int (iv (dv ds)), .int (iv (dn ds)), .int (iv (dt ds))])), (b 1, .inl (G 0, 6, .inl (fun j => iv (dA ds j)))), (b 2, .inl (G 0, 6, .inl (fun j => iv (dW ds j)))), (b 3, .inl (G 0, 6, .inl (fun j => iv (dQ ds j)))), (b 4, .inl (G 1, 2, .inl (fun j => iv (dO ds j)))), (b 5, .inl (G 0, 2, .inl (fun j => iv (dU ds j))))]) := hD
        refine lv_aload_n hx hb dX0_becomeLike_32 rfl (lv_at hl 0 rfl) ?_
        refine va_get (D := D) (ci := 0) (v := .ref (a 3)) (C := RX0) (T := TX0) (N := 9) hx hb hts in_X0 hown hK hP 0 rfl rfl 2 (by decide) lk18 (fun _ h9 => h9) rfl dX0_becomeLike_33 ?_
        refine lv_iload_n hx hb dX0_becomeLike_36 rfl (lv_at hl 2 rfl) ?_
        refine lv_aload_n hx hb dX0_becomeLike_37 rfl (lv_at hl 1 rfl) ?_
        refine va_get (D := D) (ci := 0) (v := .ref (b 3)) (C := RX0) (T := TX0) (N := 9) hx hb hts in_X0 hown hK hP 6 rfl rfl 2 (by decide) lk18 (fun _ h9 => h9) rfl dX0_becomeLike_38 ?_
        refine lv_iload_n hx hb dX0_becomeLike_41 rfl (lv_at hl 2 rfl) ?_
        refine r_iald (F := dQ ds) hx hb hK hP 9 0 rfl rfl i (by omega) (by omega) (by decide) dX0_becomeLike_42 ?_
        have b_42 := okD_Q hok i (by omega)
        refine r_iast (F := FQ) hx hb hK hP hD hS 3 0 rfl rfl i (by omega) (by omega) (by decide) dX0_becomeLike_43 (fun H locs hP hD hS => ?_)
        have hP : va_P D vwCl ([(a 0, .inr (0, [.ref (a 1), .ref (a 2), .ref (a 3), .ref (a 4), .ref (a 5), .int (iv (dg ts)), .int (iv (dv ts)), .int (iv (dn ts)), .int (iv (dt ts))])), (a 1, .inl (G 0, 6, .inl (fun j => iv (updI FA i (dA ds i) j)))), (a 2, .inl (G 0, 6, .inl (fun j => iv (updI FW i (dW ds i) j)))), (a 3, .inl (G 0, 6, .inl (fun j => iv (updI FQ i (dQ ds i) j)))), (a 4, .inl (G 1, 2, .inl (fun j => iv (dO ts j)))), (a 5, .inl (G 0, 2, .inl (fun j => iv (dU ts j)))), (b 0, .inr (0, [.ref (b 1), .ref (b 2), .ref (b 3), .ref (b 4), .ref (b 5), .int (iv (dg ds)), .int (iv (dv ds)), .int (iv (dn ds)), .int (iv (dt ds))])), (b 1, .inl (G 0, 6, .inl (fun j => iv (dA ds j)))), (b 2, .inl (G 0, 6, .inl (fun j => iv (dW ds j)))), (b 3, .inl (G 0, 6, .inl (fun j => iv (dQ ds j)))), (b 4, .inl (G 1, 2, .inl (fun j => iv (dO ds j)))), (b 5, .inl (G 0, 2, .inl (fun j => iv (dU ds j))))]) H := hP
        have hD : va_D A ([(a 0, .inr (0, [.ref (a 1), .ref (a 2), .ref (a 3), .ref (a 4), .ref (a 5), .int (iv (dg ts)), .int (iv (dv ts)), .int (iv (dn ts)), .int (iv (dt ts))])), (a 1, .inl (G 0, 6, .inl (fun j => iv (updI FA i (dA ds i) j)))), (a 2, .inl (G 0, 6, .inl (fun j => iv (updI FW i (dW ds i) j)))), (a 3, .inl (G 0, 6, .inl (fun j => iv (updI FQ i (dQ ds i) j)))), (a 4, .inl (G 1, 2, .inl (fun j => iv (dO ts j)))), (a 5, .inl (G 0, 2, .inl (fun j => iv (dU ts j)))), (b 0, .inr (0, [.ref (b 1), .ref (b 2), .ref (b 3), .ref (b 4), .ref (b 5), .int (iv (dg ds)), .int (iv (dv ds)), .int (iv (dn ds)), .int (iv (dt ds))])), (b 1, .inl (G 0, 6, .inl (fun j => iv (dA ds j)))), (b 2, .inl (G 0, 6, .inl (fun j => iv (dW ds j)))), (b 3, .inl (G 0, 6, .inl (fun j => iv (dQ ds j)))), (b 4, .inl (G 1, 2, .inl (fun j => iv (dO ds j)))), (b 5, .inl (G 0, 2, .inl (fun j => iv (dU ds j))))]) := hD
        refine r_iinc (k := 2) (lv' := [(2, .int (iv ((i : Int) + 1))), (0, .ref (a 0)), (1, .ref (b 0))]) hx hb dX0_becomeLike_44 hl rfl (by decide) rfl (fun ls hl => ?_)
        refine r_goto hx hb 2 dX0_becomeLike_47 (by decide) ?_
        exact ih2 (i + 1) (updI FA i (dA ds i)) (updI FW i (dW ds i)) (updI FQ i (dQ ds i)) (by omega) (by omega) (upd_step h1) (upd_step h2) (upd_step h3) _ _ hP hD hS _ (lv_sub hl [1, 2, 0] rfl)
  exact K2 7 0 (dA ts) (dW ts) (dQ ts) (by omega) (by omega) lt_0 lt_0 lt_0 _ _ hP hD hS _ (lv_sub hl [1, 2, 0] rfl)
set_option maxHeartbeats 4000000 in
set_option maxRecDepth 100000 in
theorem c_X0_init (l : Launch) (D : va_G) (G : Nat → ClassId) (h : Nat) : MtG l yX0_init wsX0_init 1 40 5 22 D (TY G) [.ref h] ([(h, .inr (0, [.null, .null, .null, .null, .null, .int (iv 0), .int (iv 0), .int (iv 0), .int (iv 0)]))]) (qV D (fun u => ∃ a : Nat → Nat, a 0 = h ∧ u = wDoll G a dNew)) := by
  refine MtG.mk (cc := cX0_init) (maxL := 2) (ret := none) (by decide) rfl (Nat.le_of_ble_eq_true rfl) ?_
  intro p e s m below meth c A ls hx hb hr hlk hml hown hin hts hK hA hP hD hS hl
  replace hown : s.vm.findClass RX0 = some m.cls := hown
  have hl : lv_has ls 2 [(0, .ref h)] := hl
  skip
  have hP : va_P D vwCl ([(h, .inr (0, [.null, .null, .null, .null, .null, .int (iv 0), .int (iv 0), .int (iv 0), .int (iv 0)]))]) s.heap := hP
  have hD : va_D A ([(h, .inr (0, [.null, .null, .null, .null, .null, .int (iv 0), .int (iv 0), .int (iv 0), .int (iv 0)]))]) := hD
  have lk9 := hts (.fieldLink RX0 9 "DollCitadel$Doll" "angles" "[I") (by decide +kernel)
  have in_X0 : ∀ w ∈ u_ws RX0 TX0 9, w ∈ wsX0_init := by decide +kernel
  have lk15 := hts (.fieldLink RX0 15 "DollCitadel$Doll" "wears" "[I") (by decide +kernel)
  have lk18 := hts (.fieldLink RX0 18 "DollCitadel$Doll" "lacquers" "[I") (by decide +kernel)
  have lk21 := hts (.fieldLink RX0 21 "DollCitadel$Doll" "open" "[Z") (by decide +kernel)
  have lk25 := hts (.fieldLink RX0 25 "DollCitadel$Doll" "dusts" "[I") (by decide +kernel)
  have lk28 := hts (.fieldLink RX0 28 "DollCitadel$Doll" "wigEaten" "I") (by decide +kernel)
  have lk32 := hts (.fieldLink RX0 32 "DollCitadel$Doll" "weight" "I") (by decide +kernel)
  have lk35 := hts (.fieldLink RX0 35 "DollCitadel$Doll" "pins" "I") (by decide +kernel)
  have lk38 := hts (.fieldLink RX0 38 "DollCitadel$Doll" "posesTaken" "I") (by decide +kernel)
  refine lv_aload_n hx hb dX0_init_0 rfl (lv_at hl 0 rfl) ?_
  refine W.objInit hx hb hown (hts (.methodLink RX0 3 objectInit) (by decide +kernel)) (hts (.instanceMethod objectInit) (by decide +kernel)) (hts (.code objectInit ⟨#[0xb1]⟩ 1 none) (by decide +kernel)) rfl (hl.1.trans hml.symm) rfl dX0_init_1 (Nat.le_of_ble_eq_true rfl) (Nat.le_of_ble_eq_true rfl) ?_
  refine W.eq (g2 := F0 m 4 ls []) rfl ?_
  refine lv_aload_n hx hb dX0_init_4 rfl (lv_at hl 0 rfl) ?_
  refine lv_bipush (v := iv 6) hx hb dX0_init_5 (by decide) ?_
  refine r_newI hx hb (hts (.arrayClass .int) (by decide +kernel)) hK hP hD hS hA 6 (by omega) (by omega) (by decide) (by decide) dX0_init_7 (fun q_1 H hP hD hS => ?_)
  have hP : va_P D vwCl ([(h, .inr (0, [.null, .null, .null, .null, .null, .int (iv 0), .int (iv 0), .int (iv 0), .int (iv 0)])), (q_1, .inl (G 0, 6, .inl (fun j => iv (zz j))))]) H := hP
  have hD : va_D A ([(h, .inr (0, [.null, .null, .null, .null, .null, .int (iv 0), .int (iv 0), .int (iv 0), .int (iv 0)])), (q_1, .inl (G 0, 6, .inl (fun j => iv (zz j))))]) := hD
  refine va_putF (D := D) (ci := 0) (v := .ref q_1) (ty := .array .int) (C := RX0) (T := TX0) (N := 9) hx hb hts in_X0 tyX0 tyX0_ok nmX0 hown hK hP hD hS 0 rfl rfl 0 (by decide) lk9 (fun _ h9 => h9) rfl hin rfl (by decide +kernel) rfl rfl (Nat.le_of_ble_eq_true rfl) dX0_init_9 (fun H locs hP hD hS => ?_)
  have hP : va_P D vwCl ([(h, .inr (0, [.ref q_1, .null, .null, .null, .null, .int (iv 0), .int (iv 0), .int (iv 0), .int (iv 0)])), (q_1, .inl (G 0, 6, .inl (fun j => iv (zz j))))]) H := hP
  have hD : va_D A ([(h, .inr (0, [.ref q_1, .null, .null, .null, .null, .int (iv 0), .int (iv 0), .int (iv 0), .int (iv 0)])), (q_1, .inl (G 0, 6, .inl (fun j => iv (zz j))))]) := hD
  refine lv_aload_n hx hb dX0_init_12 rfl (lv_at hl 0 rfl) ?_
  refine lv_bipush (v := iv 6) hx hb dX0_init_13 (by decide) ?_
  refine r_newI hx hb (hts (.arrayClass .int) (by decide +kernel)) hK hP hD hS hA 6 (by omega) (by omega) (by decide) (by decide) dX0_init_15 (fun q_2 H hP hD hS => ?_)
  have hP : va_P D vwCl ([(h, .inr (0, [.ref q_1, .null, .null, .null, .null, .int (iv 0), .int (iv 0), .int (iv 0), .int (iv 0)])), (q_1, .inl (G 0, 6, .inl (fun j => iv (zz j)))), (q_2, .inl (G 0, 6, .inl (fun j => iv (zz j))))]) H := hP
  have hD : va_D A ([(h, .inr (0, [.ref q_1, .null, .null, .null, .null, .int (iv 0), .int (iv 0), .int (iv 0), .int (iv 0)])), (q_1, .inl (G 0, 6, .inl (fun j => iv (zz j)))), (q_2, .inl (G 0, 6, .inl (fun j => iv (zz j))))]) := hD
  refine va_putF (D := D) (ci := 0) (v := .ref q_2) (ty := .array .int) (C := RX0) (T := TX0) (N := 9) hx hb hts in_X0 tyX0 tyX0_ok nmX0 hown hK hP hD hS 0 rfl rfl 1 (by decide) lk15 (fun _ h9 => h9) rfl hin rfl (by decide +kernel) rfl rfl (Nat.le_of_ble_eq_true rfl) dX0_init_17 (fun H locs hP hD hS => ?_)
  have hP : va_P D vwCl ([(h, .inr (0, [.ref q_1, .ref q_2, .null, .null, .null, .int (iv 0), .int (iv 0), .int (iv 0), .int (iv 0)])), (q_1, .inl (G 0, 6, .inl (fun j => iv (zz j)))), (q_2, .inl (G 0, 6, .inl (fun j => iv (zz j))))]) H := hP
  have hD : va_D A ([(h, .inr (0, [.ref q_1, .ref q_2, .null, .null, .null, .int (iv 0), .int (iv 0), .int (iv 0), .int (iv 0)])), (q_1, .inl (G 0, 6, .inl (fun j => iv (zz j)))), (q_2, .inl (G 0, 6, .inl (fun j => iv (zz j))))]) := hD
  refine lv_aload_n hx hb dX0_init_20 rfl (lv_at hl 0 rfl) ?_
  refine lv_bipush (v := iv 6) hx hb dX0_init_21 (by decide) ?_
  refine r_newI hx hb (hts (.arrayClass .int) (by decide +kernel)) hK hP hD hS hA 6 (by omega) (by omega) (by decide) (by decide) dX0_init_23 (fun q_3 H hP hD hS => ?_)
  have hP : va_P D vwCl ([(h, .inr (0, [.ref q_1, .ref q_2, .null, .null, .null, .int (iv 0), .int (iv 0), .int (iv 0), .int (iv 0)])), (q_1, .inl (G 0, 6, .inl (fun j => iv (zz j)))), (q_2, .inl (G 0, 6, .inl (fun j => iv (zz j)))), (q_3, .inl (G 0, 6, .inl (fun j => iv (zz j))))]) H := hP
  have hD : va_D A ([(h, .inr (0, [.ref q_1, .ref q_2, .null, .null, .null, .int (iv 0), .int (iv 0), .int (iv 0), .int (iv 0)])), (q_1, .inl (G 0, 6, .inl (fun j => iv (zz j)))), (q_2, .inl (G 0, 6, .inl (fun j => iv (zz j)))), (q_3, .inl (G 0, 6, .inl (fun j => iv (zz j))))]) := hD
  refine va_putF (D := D) (ci := 0) (v := .ref q_3) (ty := .array .int) (C := RX0) (T := TX0) (N := 9) hx hb hts in_X0 tyX0 tyX0_ok nmX0 hown hK hP hD hS 0 rfl rfl 2 (by decide) lk18 (fun _ h9 => h9) rfl hin rfl (by decide +kernel) rfl rfl (Nat.le_of_ble_eq_true rfl) dX0_init_25 (fun H locs hP hD hS => ?_)
  have hP : va_P D vwCl ([(h, .inr (0, [.ref q_1, .ref q_2, .ref q_3, .null, .null, .int (iv 0), .int (iv 0), .int (iv 0), .int (iv 0)])), (q_1, .inl (G 0, 6, .inl (fun j => iv (zz j)))), (q_2, .inl (G 0, 6, .inl (fun j => iv (zz j)))), (q_3, .inl (G 0, 6, .inl (fun j => iv (zz j))))]) H := hP
  have hD : va_D A ([(h, .inr (0, [.ref q_1, .ref q_2, .ref q_3, .null, .null, .int (iv 0), .int (iv 0), .int (iv 0), .int (iv 0)])), (q_1, .inl (G 0, 6, .inl (fun j => iv (zz j)))), (q_2, .inl (G 0, 6, .inl (fun j => iv (zz j)))), (q_3, .inl (G 0, 6, .inl (fun j => iv (zz j))))]) := hD
  refine lv_aload_n hx hb dX0_init_28 rfl (lv_at hl 0 rfl) ?_
  refine r_const hx hb dX0_init_29 ?_
  refine r_newZ hx hb (hts (.arrayClass .boolean) (by decide +kernel)) hK hP hD hS hA 2 (by omega) (by omega) (by decide) (by decide) dX0_init_30 (fun q_4 H hP hD hS => ?_)
  have hP : va_P D vwCl ([(h, .inr (0, [.ref q_1, .ref q_2, .ref q_3, .null, .null, .int (iv 0), .int (iv 0), .int (iv 0), .int (iv 0)])), (q_1, .inl (G 0, 6, .inl (fun j => iv (zz j)))), (q_2, .inl (G 0, 6, .inl (fun j => iv (zz j)))), (q_3, .inl (G 0, 6, .inl (fun j => iv (zz j)))), (q_4, .inl (G 1, 2, .inl (fun j => iv (zz j))))]) H := hP
  have hD : va_D A ([(h, .inr (0, [.ref q_1, .ref q_2, .ref q_3, .null, .null, .int (iv 0), .int (iv 0), .int (iv 0), .int (iv 0)])), (q_1, .inl (G 0, 6, .inl (fun j => iv (zz j)))), (q_2, .inl (G 0, 6, .inl (fun j => iv (zz j)))), (q_3, .inl (G 0, 6, .inl (fun j => iv (zz j)))), (q_4, .inl (G 1, 2, .inl (fun j => iv (zz j))))]) := hD
  refine va_putF (D := D) (ci := 0) (v := .ref q_4) (ty := .array .boolean) (C := RX0) (T := TX0) (N := 9) hx hb hts in_X0 tyX0 tyX0_ok nmX0 hown hK hP hD hS 0 rfl rfl 3 (by decide) lk21 (fun _ h9 => h9) rfl hin rfl (by decide +kernel) rfl rfl (Nat.le_of_ble_eq_true rfl) dX0_init_32 (fun H locs hP hD hS => ?_)
  have hP : va_P D vwCl ([(h, .inr (0, [.ref q_1, .ref q_2, .ref q_3, .ref q_4, .null, .int (iv 0), .int (iv 0), .int (iv 0), .int (iv 0)])), (q_1, .inl (G 0, 6, .inl (fun j => iv (zz j)))), (q_2, .inl (G 0, 6, .inl (fun j => iv (zz j)))), (q_3, .inl (G 0, 6, .inl (fun j => iv (zz j)))), (q_4, .inl (G 1, 2, .inl (fun j => iv (zz j))))]) H := hP
  have hD : va_D A ([(h, .inr (0, [.ref q_1, .ref q_2, .ref q_3, .ref q_4, .null, .int (iv 0), .int (iv 0), .int (iv 0), .int (iv 0)])), (q_1, .inl (G 0, 6, .inl (fun j => iv (zz j)))), (q_2, .inl (G 0, 6, .inl (fun j => iv (zz j)))), (q_3, .inl (G 0, 6, .inl (fun j => iv (zz j)))), (q_4, .inl (G 1, 2, .inl (fun j => iv (zz j))))]) := hD
  refine lv_aload_n hx hb dX0_init_35 rfl (lv_at hl 0 rfl) ?_
  refine r_const hx hb dX0_init_36 ?_
  refine r_newI hx hb (hts (.arrayClass .int) (by decide +kernel)) hK hP hD hS hA 2 (by omega) (by omega) (by decide) (by decide) dX0_init_37 (fun q_5 H hP hD hS => ?_)
  have hP : va_P D vwCl ([(h, .inr (0, [.ref q_1, .ref q_2, .ref q_3, .ref q_4, .null, .int (iv 0), .int (iv 0), .int (iv 0), .int (iv 0)])), (q_1, .inl (G 0, 6, .inl (fun j => iv (zz j)))), (q_2, .inl (G 0, 6, .inl (fun j => iv (zz j)))), (q_3, .inl (G 0, 6, .inl (fun j => iv (zz j)))), (q_4, .inl (G 1, 2, .inl (fun j => iv (zz j)))), (q_5, .inl (G 0, 2, .inl (fun j => iv (zz j))))]) H := hP
  have hD : va_D A ([(h, .inr (0, [.ref q_1, .ref q_2, .ref q_3, .ref q_4, .null, .int (iv 0), .int (iv 0), .int (iv 0), .int (iv 0)])), (q_1, .inl (G 0, 6, .inl (fun j => iv (zz j)))), (q_2, .inl (G 0, 6, .inl (fun j => iv (zz j)))), (q_3, .inl (G 0, 6, .inl (fun j => iv (zz j)))), (q_4, .inl (G 1, 2, .inl (fun j => iv (zz j)))), (q_5, .inl (G 0, 2, .inl (fun j => iv (zz j))))]) := hD
  refine va_putF (D := D) (ci := 0) (v := .ref q_5) (ty := .array .int) (C := RX0) (T := TX0) (N := 9) hx hb hts in_X0 tyX0 tyX0_ok nmX0 hown hK hP hD hS 0 rfl rfl 4 (by decide) lk25 (fun _ h9 => h9) rfl hin rfl (by decide +kernel) rfl rfl (Nat.le_of_ble_eq_true rfl) dX0_init_39 (fun H locs hP hD hS => ?_)
  have hP : va_P D vwCl ([(h, .inr (0, [.ref q_1, .ref q_2, .ref q_3, .ref q_4, .ref q_5, .int (iv 0), .int (iv 0), .int (iv 0), .int (iv 0)])), (q_1, .inl (G 0, 6, .inl (fun j => iv (zz j)))), (q_2, .inl (G 0, 6, .inl (fun j => iv (zz j)))), (q_3, .inl (G 0, 6, .inl (fun j => iv (zz j)))), (q_4, .inl (G 1, 2, .inl (fun j => iv (zz j)))), (q_5, .inl (G 0, 2, .inl (fun j => iv (zz j))))]) H := hP
  have hD : va_D A ([(h, .inr (0, [.ref q_1, .ref q_2, .ref q_3, .ref q_4, .ref q_5, .int (iv 0), .int (iv 0), .int (iv 0), .int (iv 0)])), (q_1, .inl (G 0, 6, .inl (fun j => iv (zz j)))), (q_2, .inl (G 0, 6, .inl (fun j => iv (zz j)))), (q_3, .inl (G 0, 6, .inl (fun j => iv (zz j)))), (q_4, .inl (G 1, 2, .inl (fun j => iv (zz j)))), (q_5, .inl (G 0, 2, .inl (fun j => iv (zz j))))]) := hD
  refine lv_aload_n hx hb dX0_init_42 rfl (lv_at hl 0 rfl) ?_
  refine r_const hx hb dX0_init_43 ?_
  refine va_put (D := D) (ci := 0) (v := .int (iv 0)) (ty := .int) (C := RX0) (T := TX0) (N := 9) hx hb hts in_X0 tyX0 tyX0_ok nmX0 hown hK hP hD hS 0 rfl rfl 5 (by decide) lk28 (fun _ h9 => h9) rfl (by decide +kernel) rfl rfl (Nat.le_of_ble_eq_true rfl) dX0_init_44 (fun H locs hP hD hS => ?_)
  have hP : va_P D vwCl ([(h, .inr (0, [.ref q_1, .ref q_2, .ref q_3, .ref q_4, .ref q_5, .int (iv 0), .int (iv 0), .int (iv 0), .int (iv 0)])), (q_1, .inl (G 0, 6, .inl (fun j => iv (zz j)))), (q_2, .inl (G 0, 6, .inl (fun j => iv (zz j)))), (q_3, .inl (G 0, 6, .inl (fun j => iv (zz j)))), (q_4, .inl (G 1, 2, .inl (fun j => iv (zz j)))), (q_5, .inl (G 0, 2, .inl (fun j => iv (zz j))))]) H := hP
  have hD : va_D A ([(h, .inr (0, [.ref q_1, .ref q_2, .ref q_3, .ref q_4, .ref q_5, .int (iv 0), .int (iv 0), .int (iv 0), .int (iv 0)])), (q_1, .inl (G 0, 6, .inl (fun j => iv (zz j)))), (q_2, .inl (G 0, 6, .inl (fun j => iv (zz j)))), (q_3, .inl (G 0, 6, .inl (fun j => iv (zz j)))), (q_4, .inl (G 1, 2, .inl (fun j => iv (zz j)))), (q_5, .inl (G 0, 2, .inl (fun j => iv (zz j))))]) := hD
  refine lv_aload_n hx hb dX0_init_47 rfl (lv_at hl 0 rfl) ?_
  refine r_const hx hb dX0_init_48 ?_
  refine va_put (D := D) (ci := 0) (v := .int (iv 0)) (ty := .int) (C := RX0) (T := TX0) (N := 9) hx hb hts in_X0 tyX0 tyX0_ok nmX0 hown hK hP hD hS 0 rfl rfl 6 (by decide) lk32 (fun _ h9 => h9) rfl (by decide +kernel) rfl rfl (Nat.le_of_ble_eq_true rfl) dX0_init_49 (fun H locs hP hD hS => ?_)
  have hP : va_P D vwCl ([(h, .inr (0, [.ref q_1, .ref q_2, .ref q_3, .ref q_4, .ref q_5, .int (iv 0), .int (iv 0), .int (iv 0), .int (iv 0)])), (q_1, .inl (G 0, 6, .inl (fun j => iv (zz j)))), (q_2, .inl (G 0, 6, .inl (fun j => iv (zz j)))), (q_3, .inl (G 0, 6, .inl (fun j => iv (zz j)))), (q_4, .inl (G 1, 2, .inl (fun j => iv (zz j)))), (q_5, .inl (G 0, 2, .inl (fun j => iv (zz j))))]) H := hP
  have hD : va_D A ([(h, .inr (0, [.ref q_1, .ref q_2, .ref q_3, .ref q_4, .ref q_5, .int (iv 0), .int (iv 0), .int (iv 0), .int (iv 0)])), (q_1, .inl (G 0, 6, .inl (fun j => iv (zz j)))), (q_2, .inl (G 0, 6, .inl (fun j => iv (zz j)))), (q_3, .inl (G 0, 6, .inl (fun j => iv (zz j)))), (q_4, .inl (G 1, 2, .inl (fun j => iv (zz j)))), (q_5, .inl (G 0, 2, .inl (fun j => iv (zz j))))]) := hD
  refine lv_aload_n hx hb dX0_init_52 rfl (lv_at hl 0 rfl) ?_
  refine r_const hx hb dX0_init_53 ?_
  refine va_put (D := D) (ci := 0) (v := .int (iv 0)) (ty := .int) (C := RX0) (T := TX0) (N := 9) hx hb hts in_X0 tyX0 tyX0_ok nmX0 hown hK hP hD hS 0 rfl rfl 7 (by decide) lk35 (fun _ h9 => h9) rfl (by decide +kernel) rfl rfl (Nat.le_of_ble_eq_true rfl) dX0_init_54 (fun H locs hP hD hS => ?_)
  have hP : va_P D vwCl ([(h, .inr (0, [.ref q_1, .ref q_2, .ref q_3, .ref q_4, .ref q_5, .int (iv 0), .int (iv 0), .int (iv 0), .int (iv 0)])), (q_1, .inl (G 0, 6, .inl (fun j => iv (zz j)))), (q_2, .inl (G 0, 6, .inl (fun j => iv (zz j)))), (q_3, .inl (G 0, 6, .inl (fun j => iv (zz j)))), (q_4, .inl (G 1, 2, .inl (fun j => iv (zz j)))), (q_5, .inl (G 0, 2, .inl (fun j => iv (zz j))))]) H := hP
  have hD : va_D A ([(h, .inr (0, [.ref q_1, .ref q_2, .ref q_3, .ref q_4, .ref q_5, .int (iv 0), .int (iv 0), .int (iv 0), .int (iv 0)])), (q_1, .inl (G 0, 6, .inl (fun j => iv (zz j)))), (q_2, .inl (G 0, 6, .inl (fun j => iv (zz j)))), (q_3, .inl (G 0, 6, .inl (fun j => iv (zz j)))), (q_4, .inl (G 1, 2, .inl (fun j => iv (zz j)))), (q_5, .inl (G 0, 2, .inl (fun j => iv (zz j))))]) := hD
  refine lv_aload_n hx hb dX0_init_57 rfl (lv_at hl 0 rfl) ?_
  refine r_const hx hb dX0_init_58 ?_
  refine va_put (D := D) (ci := 0) (v := .int (iv 0)) (ty := .int) (C := RX0) (T := TX0) (N := 9) hx hb hts in_X0 tyX0 tyX0_ok nmX0 hown hK hP hD hS 0 rfl rfl 8 (by decide) lk38 (fun _ h9 => h9) rfl (by decide +kernel) rfl rfl (Nat.le_of_ble_eq_true rfl) dX0_init_59 (fun H locs hP hD hS => ?_)
  have hP : va_P D vwCl ([(h, .inr (0, [.ref q_1, .ref q_2, .ref q_3, .ref q_4, .ref q_5, .int (iv 0), .int (iv 0), .int (iv 0), .int (iv 0)])), (q_1, .inl (G 0, 6, .inl (fun j => iv (zz j)))), (q_2, .inl (G 0, 6, .inl (fun j => iv (zz j)))), (q_3, .inl (G 0, 6, .inl (fun j => iv (zz j)))), (q_4, .inl (G 1, 2, .inl (fun j => iv (zz j)))), (q_5, .inl (G 0, 2, .inl (fun j => iv (zz j))))]) H := hP
  have hD : va_D A ([(h, .inr (0, [.ref q_1, .ref q_2, .ref q_3, .ref q_4, .ref q_5, .int (iv 0), .int (iv 0), .int (iv 0), .int (iv 0)])), (q_1, .inl (G 0, 6, .inl (fun j => iv (zz j)))), (q_2, .inl (G 0, 6, .inl (fun j => iv (zz j)))), (q_3, .inl (G 0, 6, .inl (fun j => iv (zz j)))), (q_4, .inl (G 1, 2, .inl (fun j => iv (zz j)))), (q_5, .inl (G 0, 2, .inl (fun j => iv (zz j))))]) := hD
  refine r_const hx hb dX0_init_62 ?_
  refine lv_istore_n (lv' := [(1, .int (iv 0)), (0, .ref h)]) hx hb dX0_init_63 rfl hl (by decide) rfl (fun ls hl => ?_)
  have K64 : ∀ (n i : Nat) (FO : Nat → Int), i ≤ 2 → 2 < i + n → (∀ j, j < i → FO j = 1) → ∀ (H : Heap) (locs : List Loc), va_P D vwCl ([(h, .inr (0, [.ref q_1, .ref q_2, .ref q_3, .ref q_4, .ref q_5, .int (iv 0), .int (iv 0), .int (iv 0), .int (iv 0)])), (q_1, .inl (G 0, 6, .inl (fun j => iv (zz j)))), (q_2, .inl (G 0, 6, .inl (fun j => iv (zz j)))), (q_3, .inl (G 0, 6, .inl (fun j => iv (zz j)))), (q_4, .inl (G 1, 2, .inl (fun j => iv (FO j)))), (q_5, .inl (G 0, 2, .inl (fun j => iv (zz j))))]) H → va_D A ([(h, .inr (0, [.ref q_1, .ref q_2, .ref q_3, .ref q_4, .ref q_5, .int (iv 0), .int (iv 0), .int (iv 0), .int (iv 0)])), (q_1, .inl (G 0, 6, .inl (fun j => iv (zz j)))), (q_2, .inl (G 0, 6, .inl (fun j => iv (zz j)))), (q_3, .inl (G 0, 6, .inl (fun j => iv (zz j)))), (q_4, .inl (G 1, 2, .inl (fun j => iv (FO j)))), (q_5, .inl (G 0, 2, .inl (fun j => iv (zz j))))]) → va_S A s.heap H locs → ∀ (ls : Array Slot), lv_has ls 2 [(0, .ref h), (1, .int (iv (i : Int)))] → W p l e (rmOf 1 40 5 22) s m ([.ref h] : List Value).toArray below meth c H locs 5 22 (MQ below (qV D (fun u => ∃ a : Nat → Nat, a 0 = h ∧ u = wDoll G a dNew) A) ([.ref h] : List Value).toArray s 5 22 A) (F0 m 64 ls []) := by
    intro n
    induction n with
    | zero => intro i FO h1 h2; exact absurd h2 (by omega)
    | succ n ih64 =>
      intro i FO hi_64 hn_64 ho H locs hP hD hS ls hl
      refine lv_iload_n hx hb dX0_init_64 rfl (lv_at hl 1 rfl) ?_
      refine r_const hx hb dX0_init_65 ?_
      refine r_icmp_ge hx hb 82 dX0_init_66 (by decide) (by omega) (by omega) (fun c_66 => ?_) (fun c_66 => ?_)
      · skip
        have hP := wP_say 4 (fun _ => 1) hP rfl (fun j hj => ho j (by omega))
        have hD := wD_say 4 (.inl (G 1, 2, .inl (fun j => iv ((fun _ => 1) j)))) hD rfl
        exact e_void hx hb hr hlk dX0_init_82 hS hP hD (by decide) (by decide) (⟨fun k => if k = 0 then h else if k = 1 then q_1 else if k = 2 then q_2 else if k = 3 then q_3 else if k = 4 then q_4 else q_5, rfl, rfl⟩)
      · skip
        refine lv_aload_n hx hb dX0_init_69 rfl (lv_at hl 0 rfl) ?_
        refine va_get (D := D) (ci := 0) (v := .ref q_4) (C := RX0) (T := TX0) (N := 9) hx hb hts in_X0 hown hK hP 0 rfl rfl 3 (by decide) lk21 (fun _ h9 => h9) rfl dX0_init_70 ?_
        refine lv_iload_n hx hb dX0_init_73 rfl (lv_at hl 1 rfl) ?_
        refine r_const hx hb dX0_init_74 ?_
        refine r_zast (F := FO) hx hb hK hP hD hS 4 1 rfl rfl i (by omega) (by omega) (by decide) (by omega) dX0_init_75 (fun H locs hP hD hS => ?_)
        have hP : va_P D vwCl ([(h, .inr (0, [.ref q_1, .ref q_2, .ref q_3, .ref q_4, .ref q_5, .int (iv 0), .int (iv 0), .int (iv 0), .int (iv 0)])), (q_1, .inl (G 0, 6, .inl (fun j => iv (zz j)))), (q_2, .inl (G 0, 6, .inl (fun j => iv (zz j)))), (q_3, .inl (G 0, 6, .inl (fun j => iv (zz j)))), (q_4, .inl (G 1, 2, .inl (fun j => iv (updI FO i 1 j)))), (q_5, .inl (G 0, 2, .inl (fun j => iv (zz j))))]) H := hP
        have hD : va_D A ([(h, .inr (0, [.ref q_1, .ref q_2, .ref q_3, .ref q_4, .ref q_5, .int (iv 0), .int (iv 0), .int (iv 0), .int (iv 0)])), (q_1, .inl (G 0, 6, .inl (fun j => iv (zz j)))), (q_2, .inl (G 0, 6, .inl (fun j => iv (zz j)))), (q_3, .inl (G 0, 6, .inl (fun j => iv (zz j)))), (q_4, .inl (G 1, 2, .inl (fun j => iv (updI FO i 1 j)))), (q_5, .inl (G 0, 2, .inl (fun j => iv (zz j))))]) := hD
        refine r_iinc (k := 1) (lv' := [(1, .int (iv ((i : Int) + 1))), (0, .ref h)]) hx hb dX0_init_76 hl rfl (by decide) rfl (fun ls hl => ?_)
        refine r_goto hx hb 64 dX0_init_79 (by decide) ?_
        exact ih64 (i + 1) (updI FO i 1) (by omega) (by omega) (upd_step1 ho) _ _ hP hD hS _ (lv_sub hl [1, 0] rfl)
  refine W.widen (k := 5) (n := 22) (by decide) (by decide) ?_
  exact K64 3 0 zz (by omega) (by omega) lt_0 _ _ hP hD hS _ (lv_sub hl [1, 0] rfl)
set_option maxHeartbeats 4000000 in
set_option maxRecDepth 100000 in
theorem c_X1_init (l : Launch) (D : va_G) (G : Nat → ClassId) (h : Nat) : MtG l yX1_init wsX1_init 1 40 1 6 D (TY G) [.ref h] ([(h, .inr (1, [.null]))]) (qV D (fun u => ∃ a : Nat → Nat, a 0 = h ∧ u = wPose G a zz)) := by
  refine MtG.mk (cc := cX1_init) (maxL := 1) (ret := none) (by decide) rfl (Nat.le_of_ble_eq_true rfl) ?_
  intro p e s m below meth c A ls hx hb hr hlk hml hown hin hts hK hA hP hD hS hl
  replace hown : s.vm.findClass RX1 = some m.cls := hown
  have hl : lv_has ls 1 [(0, .ref h)] := hl
  skip
  have hP : va_P D vwCl ([(h, .inr (1, [.null]))]) s.heap := hP
  have hD : va_D A ([(h, .inr (1, [.null]))]) := hD
  have lk9 := hts (.fieldLink RX1 9 "DollCitadel$Pose" "angles" "[I") (by decide +kernel)
  have in_X1 : ∀ w ∈ u_ws RX1 TX1 1, w ∈ wsX1_init := by decide +kernel
  refine lv_aload_n hx hb dX1_init_0 rfl (lv_at hl 0 rfl) ?_
  refine W.objInit hx hb hown (hts (.methodLink RX1 3 objectInit) (by decide +kernel)) (hts (.instanceMethod objectInit) (by decide +kernel)) (hts (.code objectInit ⟨#[0xb1]⟩ 1 none) (by decide +kernel)) rfl (hl.1.trans hml.symm) rfl dX1_init_1 (Nat.le_of_ble_eq_true rfl) (Nat.le_of_ble_eq_true rfl) ?_
  refine W.eq (g2 := F0 m 4 ls []) rfl ?_
  refine lv_aload_n hx hb dX1_init_4 rfl (lv_at hl 0 rfl) ?_
  refine lv_bipush (v := iv 6) hx hb dX1_init_5 (by decide) ?_
  refine r_newI hx hb (hts (.arrayClass .int) (by decide +kernel)) hK hP hD hS hA 6 (by omega) (by omega) (by decide) (by decide) dX1_init_7 (fun q_1 H hP hD hS => ?_)
  have hP : va_P D vwCl ([(h, .inr (1, [.null])), (q_1, .inl (G 0, 6, .inl (fun j => iv (zz j))))]) H := hP
  have hD : va_D A ([(h, .inr (1, [.null])), (q_1, .inl (G 0, 6, .inl (fun j => iv (zz j))))]) := hD
  refine va_putF (D := D) (ci := 1) (v := .ref q_1) (ty := .array .int) (C := RX1) (T := TX1) (N := 1) hx hb hts in_X1 tyX1 tyX1_ok nmX1 hown hK hP hD hS 0 rfl rfl 0 (by decide) lk9 (fun _ h9 => h9) rfl hin rfl (by decide +kernel) rfl rfl (Nat.le_of_ble_eq_true rfl) dX1_init_9 (fun H locs hP hD hS => ?_)
  have hP : va_P D vwCl ([(h, .inr (1, [.ref q_1])), (q_1, .inl (G 0, 6, .inl (fun j => iv (zz j))))]) H := hP
  have hD : va_D A ([(h, .inr (1, [.ref q_1])), (q_1, .inl (G 0, 6, .inl (fun j => iv (zz j))))]) := hD
  exact e_void hx hb hr hlk dX1_init_12 hS hP hD (by decide) (by decide) (⟨fun k => if k = 0 then h else q_1, rfl, rfl⟩)
end
section
-- THE REFERENCE'S ROWS, in the same words
def limv (s : DS) (w : Nat) : Nat → Int := if w = 0 then dA s else if w = 1 then dW s else dQ s
def roomv (s : DS) (k : Nat) : Int := if k = 0 then dO s 0 else if k = 1 then dO s 1 else if k = 2 then dU s 0 else if k = 3 then dU s 1 else if k = 4 then dg s else if k = 5 then dv s else if k = 6 then dn s else dt s
def LL (S : Nat → DS) : Nat → Int := fun i => limv (S (i / 18)) (i % 18 % 3) (i % 18 / 3)
def RR (S : Nat → DS) : Nat → Int := fun i => roomv (S (i / 8)) (i % 8)
def PP (P : Nat → Nat → Int) : Nat → Int := fun i => P (i / 6) (i % 6)
def updS (S : Nat → DS) (d : Nat) (s : DS) : Nat → DS := fun k => if k = d then s else S k
theorem updS_s (S : Nat → DS) (d : Nat) (s : DS) : updS S d s d = s := by simp [updS]
theorem updS_n (S : Nat → DS) {d k : Nat} (s : DS) (h : k ≠ d) : updS S d s k = S k := by simp [updS, h]
theorem updS_u (S : Nat → DS) (d : Nat) (a b : DS) : updS (updS S d a) d b = updS S d b := by
  funext k
  unfold updS
  split <;> rfl
theorem updS_id (S : Nat → DS) (d : Nat) {s : DS} (h : S d = s) : updS S d s = S := by
  funext k
  unfold updS
  split
  · rename_i e; rw [e, h]
  · rfl
def setL (s : DS) (w j : Nat) (x : Int) : DS := if w = 0 then (updI (dA s) j x, dW s, dQ s, dO s, dU s, dg s, dv s, dn s, dt s) else if w = 1 then (dA s, updI (dW s) j x, dQ s, dO s, dU s, dg s, dv s, dn s, dt s) else (dA s, dW s, updI (dQ s) j x, dO s, dU s, dg s, dv s, dn s, dt s)
def setR (s : DS) (k : Nat) (x : Int) : DS := if k = 0 then (dA s, dW s, dQ s, updI (dO s) 0 x, dU s, dg s, dv s, dn s, dt s) else if k = 1 then (dA s, dW s, dQ s, updI (dO s) 1 x, dU s, dg s, dv s, dn s, dt s) else if k = 2 then (dA s, dW s, dQ s, dO s, updI (dU s) 0 x, dg s, dv s, dn s, dt s) else if k = 3 then (dA s, dW s, dQ s, dO s, updI (dU s) 1 x, dg s, dv s, dn s, dt s) else if k = 4 then (dA s, dW s, dQ s, dO s, dU s, x, dv s, dn s, dt s) else if k = 5 then (dA s, dW s, dQ s, dO s, dU s, dg s, x, dn s, dt s) else if k = 6 then (dA s, dW s, dQ s, dO s, dU s, dg s, dv s, x, dt s) else (dA s, dW s, dQ s, dO s, dU s, dg s, dv s, dn s, x)
theorem LL_at (S : Nat → DS) {d j w : Nat} (hj : j < 6) (hw : w < 3) : LL S (3 * (6 * d + j) + w) = limv (S d) w j := by
  unfold LL
  rw [show (3 * (6 * d + j) + w) / 18 = d by omega, show (3 * (6 * d + j) + w) % 18 % 3 = w by omega, show (3 * (6 * d + j) + w) % 18 / 3 = j by omega]
theorem RR_at (S : Nat → DS) {d k : Nat} (hk : k < 8) : RR S (8 * d + k) = roomv (S d) k := by
  unfold RR
  rw [show (8 * d + k) / 8 = d by omega, show (8 * d + k) % 8 = k by omega]
theorem PP_at (P : Nat → Nat → Int) {p j : Nat} (hj : j < 6) : PP P (6 * p + j) = P p j := by
  unfold PP
  rw [show (6 * p + j) / 6 = p by omega, show (6 * p + j) % 6 = j by omega]
theorem limv_set {s : DS} {w j w' j' : Nat} {x : Int} (hw : w < 3) (hw' : w' < 3) : limv (setL s w j x) w' j' = if w' = w ∧ j' = j then x else limv s w' j' := by
  rcases (show w = 0 ∨ w = 1 ∨ w = 2 by omega) with rfl | rfl | rfl <;> rcases (show w' = 0 ∨ w' = 1 ∨ w' = 2 by omega) with rfl | rfl | rfl <;> simp [limv, setL, updI, dA, dW, dQ]
theorem roomv_set {s : DS} {k k' : Nat} {x : Int} (hk : k < 8) (hk' : k' < 8) : roomv (setR s k x) k' = if k' = k then x else roomv s k' := by
  rcases (show k = 0 ∨ k = 1 ∨ k = 2 ∨ k = 3 ∨ k = 4 ∨ k = 5 ∨ k = 6 ∨ k = 7 by omega) with rfl | rfl | rfl | rfl | rfl | rfl | rfl | rfl <;> rcases (show k' = 0 ∨ k' = 1 ∨ k' = 2 ∨ k' = 3 ∨ k' = 4 ∨ k' = 5 ∨ k' = 6 ∨ k' = 7 by omega) with rfl | rfl | rfl | rfl | rfl | rfl | rfl | rfl <;> simp [roomv, setR, updI, dO, dU, dg, dv, dn, dt]
theorem LL_set (S : Nat → DS) {d j w : Nat} {x : Int} (hj : j < 6) (hw : w < 3) : updI (LL S) (3 * (6 * d + j) + w) x = LL (updS S d (setL (S d) w j x)) := by
  funext i
  unfold updI LL
  by_cases e : i / 18 = d
  · rw [e, updS_s, limv_set hw (by omega)]
    by_cases q : i = 3 * (6 * d + j) + w
    · rw [if_pos q, if_pos ⟨by omega, by omega⟩]
    · rw [if_neg q, if_neg (fun z => q (by omega))]
  · rw [updS_n _ _ e, if_neg (by omega)]
theorem RR_set (S : Nat → DS) {d k : Nat} {x : Int} (hk : k < 8) : updI (RR S) (8 * d + k) x = RR (updS S d (setR (S d) k x)) := by
  funext i
  unfold updI RR
  by_cases e : i / 8 = d
  · rw [e, updS_s, roomv_set hk (by omega)]
    by_cases q : i = 8 * d + k
    · rw [if_pos q, if_pos (by omega)]
    · rw [if_neg q, if_neg (fun z => q (by omega))]
  · rw [updS_n _ _ e, if_neg (by omega)]
theorem LL_setR (S : Nat → DS) (d k : Nat) (x : Int) : LL (updS S d (setR (S d) k x)) = LL S := by
  funext i
  unfold LL
  by_cases e : i / 18 = d
  · rw [e, updS_s]
    unfold setR
    repeat' split
    all_goals rfl
  · rw [updS_n _ _ e]
theorem RR_setL (S : Nat → DS) (d w j : Nat) (x : Int) : RR (updS S d (setL (S d) w j x)) = RR S := by
  funext i
  unfold RR
  by_cases e : i / 8 = d
  · rw [e, updS_s]
    unfold setL
    repeat' split
    all_goals rfl
  · rw [updS_n _ _ e]
theorem setL_dset (s : DS) (j : Nat) (a w q : Int) : setL (setL (setL s 0 j a) 1 j w) 2 j q = dset s j a w q := rfl
theorem RR_dset (S : Nat → DS) (d j : Nat) (a w q : Int) : RR (updS S d (dset (S d) j a w q)) = RR S := by
  funext i
  unfold RR
  by_cases e : i / 8 = d
  · rw [e, updS_s]
    rfl
  · rw [updS_n _ _ e]
theorem LL_dset (S : Nat → DS) {d j : Nat} {a w q : Int} (hj : j < 6) : updI (updI (updI (LL S) (3 * (6 * d + j) + 0) a) (3 * (6 * d + j) + 1) w) (3 * (6 * d + j) + 2) q = LL (updS S d (dset (S d) j a w q)) := by
  rw [LL_set S hj (by omega), LL_set _ hj (by omega), LL_set _ hj (by omega), updS_s, updS_u, updS_s, updS_u, setL_dset]
theorem RR_turn1 (S : Nat → DS) (d : Nat) (P : Nat → Int) (j : Nat) {s : DS} (h : S d = s) : RR (updS S d (turn1 P j s)) = RR S := by
  subst h
  unfold turn1
  split
  · rw [updS_id S d rfl]
  · exact RR_dset S d j _ _ _
-- the reference's cells
abbrev wM0 (m : Nat → Nat) (th n np mo : Int) : Nat × va_E := (m 0, .inr (3, [.int (iv th), .int (iv n), .int (iv np), .int (iv mo), .ref (m 1), .ref (m 2), .ref (m 3), .ref (m 4), .ref (m 5)]))
abbrev wMl (G : Nat → ClassId) (m : Nat → Nat) (F : Nat → Int) : Nat × va_E := (m 1, .inl (G 0, 144, .inl (fun j => iv (F j))))
abbrev wMr (G : Nat → ClassId) (m : Nat → Nat) (F : Nat → Int) : Nat × va_E := (m 2, .inl (G 0, 64, .inl (fun j => iv (F j))))
abbrev wMt (G : Nat → ClassId) (m : Nat → Nat) (F : Nat → Int) : Nat × va_E := (m 3, .inl (G 0, 48, .inl (fun j => iv (F j))))
abbrev wMs (G : Nat → ClassId) (m : Nat → Nat) (F : Nat → Int) : Nat × va_E := (m 4, .inl (G 0, 5, .inl (fun j => iv (F j))))
abbrev wMd (G : Nat → ClassId) (m : Nat → Nat) (F : Nat → Int) : Nat × va_E := (m 5, .inl (G 0, 1, .inl (fun j => iv (F j))))
end
section
set_option maxHeartbeats 4000000 in
set_option maxRecDepth 100000 in
theorem c_X3_thrown (l : Launch) (D : va_G) (G : Nat → ClassId) (b : Nat → Nat) (th n np mo : Int)  : MtG l yX3_thrown wsX3_thrown 0 0 0 0 D (TY G) [.ref (b 0)] ([wM0 b th n np mo]) (qI D (fun r u => r = iv th ∧ u = [wM0 b th n np mo])) := by
  refine MtG.mk (cc := cX3_thrown) (maxL := 1) (ret := some .int) (by decide) rfl (Nat.le_of_ble_eq_true rfl) ?_
  intro p e s m below meth c A ls hx hb hr hlk hml hown hin hts hK hA hP hD hS hl
  replace hown : s.vm.findClass RX3 = some m.cls := hown
  have hl : lv_has ls 1 [(0, .ref (b 0))] := hl
  skip
  have hP : va_P D vwCl ([(b 0, .inr (3, [.int (iv th), .int (iv n), .int (iv np), .int (iv mo), .ref (b 1), .ref (b 2), .ref (b 3), .ref (b 4), .ref (b 5)]))]) s.heap := hP
  have hD : va_D A ([(b 0, .inr (3, [.int (iv th), .int (iv n), .int (iv np), .int (iv mo), .ref (b 1), .ref (b 2), .ref (b 3), .ref (b 4), .ref (b 5)]))]) := hD
  have lk29 := hts (.fieldLink RX3 29 "DollCitadelModel" "thrown" "I") (by decide +kernel)
  have in_X3 : ∀ w ∈ u_ws RX3 TX3 9, w ∈ wsX3_thrown := by decide +kernel
  refine lv_aload_n hx hb dX3_thrown_0 rfl (lv_at hl 0 rfl) ?_
  refine va_get (D := D) (ci := 3) (v := .int (iv th)) (C := RX3) (T := TX3) (N := 9) hx hb hts in_X3 hown hK hP 0 rfl rfl 0 (by decide) lk29 (fun _ h9 => h9) rfl dX3_thrown_1 ?_
  exact e_int hx hb hr hlk dX3_thrown_4 hS hP hD (by decide) (by decide) (⟨rfl, rfl⟩)
set_option maxHeartbeats 4000000 in
set_option maxRecDepth 100000 in
theorem c_X3_fail (l : Launch) (D : va_G) (G : Nat → ClassId) (b : Nat → Nat) (th n np mo : Int) (k : Int)  : MtG l yX3_fail wsX3_fail 0 0 0 0 D (TY G) [.ref (b 0), .int (iv k)] ([wM0 b th n np mo]) (qI D (fun r u => r = iv 0 ∧ u = [wM0 b k n np mo])) := by
  refine MtG.mk (cc := cX3_fail) (maxL := 2) (ret := some .int) (by decide) rfl (Nat.le_of_ble_eq_true rfl) ?_
  intro p e s m below meth c A ls hx hb hr hlk hml hown hin hts hK hA hP hD hS hl
  replace hown : s.vm.findClass RX3 = some m.cls := hown
  have hl : lv_has ls 2 [(0, .ref (b 0)), (1, .int (iv k))] := hl
  skip
  have hP : va_P D vwCl ([(b 0, .inr (3, [.int (iv th), .int (iv n), .int (iv np), .int (iv mo), .ref (b 1), .ref (b 2), .ref (b 3), .ref (b 4), .ref (b 5)]))]) s.heap := hP
  have hD : va_D A ([(b 0, .inr (3, [.int (iv th), .int (iv n), .int (iv np), .int (iv mo), .ref (b 1), .ref (b 2), .ref (b 3), .ref (b 4), .ref (b 5)]))]) := hD
  have lk29 := hts (.fieldLink RX3 29 "DollCitadelModel" "thrown" "I") (by decide +kernel)
  have in_X3 : ∀ w ∈ u_ws RX3 TX3 9, w ∈ wsX3_fail := by decide +kernel
  refine lv_aload_n hx hb dX3_fail_0 rfl (lv_at hl 0 rfl) ?_
  refine lv_iload_n hx hb dX3_fail_1 rfl (lv_at hl 1 rfl) ?_
  refine va_put (D := D) (ci := 3) (v := .int (iv k)) (ty := .int) (C := RX3) (T := TX3) (N := 9) hx hb hts in_X3 tyX3 tyX3_ok nmX3 hown hK hP hD hS 0 rfl rfl 0 (by decide) lk29 (fun _ h9 => h9) rfl (by decide +kernel) rfl rfl (Nat.le_of_ble_eq_true rfl) dX3_fail_2 (fun H locs hP hD hS => ?_)
  have hP : va_P D vwCl ([(b 0, .inr (3, [.int (iv k), .int (iv n), .int (iv np), .int (iv mo), .ref (b 1), .ref (b 2), .ref (b 3), .ref (b 4), .ref (b 5)]))]) H := hP
  have hD : va_D A ([(b 0, .inr (3, [.int (iv k), .int (iv n), .int (iv np), .int (iv mo), .ref (b 1), .ref (b 2), .ref (b 3), .ref (b 4), .ref (b 5)]))]) := hD
  refine r_const hx hb dX3_fail_5 ?_
  exact e_int hx hb hr hlk dX3_fail_6 hS hP hD (by decide) (by decide) (⟨rfl, rfl⟩)
set_option maxHeartbeats 4000000 in
set_option maxRecDepth 100000 in
theorem c_X3_isIn (l : Launch) (D : va_G) (G : Nat → ClassId) (x lo hi : Int) (h1 : -2147483648 ≤ x ∧ x < 2147483648) (h2 : -2147483648 ≤ lo ∧ lo < 2147483648) (h3 : -2147483648 ≤ hi ∧ hi < 2147483648)  : MtG l yX3_isIn wsX3_isIn 0 0 0 0 D (TY G) [.int (iv x), .int (iv lo), .int (iv hi)] ([]) (qI D (fun r u => r = iv (b2i (decide (lo ≤ x ∧ x ≤ hi))) ∧ u = [])) := by
  refine MtG.mk (cc := cX3_isIn) (maxL := 3) (ret := some .boolean) (by decide) rfl (Nat.le_of_ble_eq_true rfl) ?_
  intro p e s m below meth c A ls hx hb hr hlk hml hown hin hts hK hA hP hD hS hl
  replace hown : s.vm.findClass RX3 = some m.cls := hown
  have hl : lv_has ls 3 [(0, .int (iv x)), (1, .int (iv lo)), (2, .int (iv hi))] := hl
  skip
  have hP : va_P D vwCl ([]) s.heap := hP
  have hD : va_D A ([]) := hD
  refine lv_iload_n hx hb dX3_isIn_0 rfl (lv_at hl 0 rfl) ?_
  refine lv_iload_n hx hb dX3_isIn_1 rfl (lv_at hl 1 rfl) ?_
  refine r_icmp_lt hx hb 14 dX3_isIn_2 (by decide) (by omega) (by omega) (fun c_2 => ?_) (fun c_2 => ?_)
  · skip
    refine r_const hx hb dX3_isIn_14 ?_
    exact e_b01 hx hb hr (by omega) hlk dX3_isIn_15 hS hP hD (by decide) (by decide) (⟨by rw [show decide (lo ≤ x ∧ x ≤ hi) = false from decide_eq_false (by omega)]; rfl, rfl⟩)
  · skip
    refine lv_iload_n hx hb dX3_isIn_5 rfl (lv_at hl 0 rfl) ?_
    refine lv_iload_n hx hb dX3_isIn_6 rfl (lv_at hl 2 rfl) ?_
    refine r_icmp_gt hx hb 14 dX3_isIn_7 (by decide) (by omega) (by omega) (fun c_7 => ?_) (fun c_7 => ?_)
    · skip
      refine r_const hx hb dX3_isIn_14 ?_
      exact e_b01 hx hb hr (by omega) hlk dX3_isIn_15 hS hP hD (by decide) (by decide) (⟨by rw [show decide (lo ≤ x ∧ x ≤ hi) = false from decide_eq_false (by omega)]; rfl, rfl⟩)
    · skip
      refine r_const hx hb dX3_isIn_10 ?_
      refine r_goto hx hb 15 dX3_isIn_11 (by decide) ?_
      exact e_b01 hx hb hr (by omega) hlk dX3_isIn_15 hS hP hD (by decide) (by decide) (⟨by rw [show decide (lo ≤ x ∧ x ≤ hi) = true from decide_eq_true (by omega)]; rfl, rfl⟩)
set_option maxHeartbeats 4000000 in
set_option maxRecDepth 100000 in
theorem c_X3_isDoll (l : Launch) (D : va_G) (G : Nat → ClassId) (b : Nat → Nat) (th n np mo : Int) (d : Int) (hn : 0 ≤ n ∧ n ≤ 8) (hd : -2147483648 ≤ d ∧ d < 2147483648)  : MtG l yX3_isDoll wsX3_isDoll 1 40 0 0 D (TY G) [.ref (b 0), .int (iv d)] ([wM0 b th n np mo]) (qI D (fun r u => r = iv (b2i (decide (0 ≤ d ∧ d ≤ n - 1))) ∧ u = [wM0 b th n np mo])) := by
  refine MtG.mk (cc := cX3_isDoll) (maxL := 2) (ret := some .boolean) (by decide) rfl (Nat.le_of_ble_eq_true rfl) ?_
  intro p e s m below meth c A ls hx hb hr hlk hml hown hin hts hK hA hP hD hS hl
  replace hown : s.vm.findClass RX3 = some m.cls := hown
  have hl : lv_has ls 2 [(0, .ref (b 0)), (1, .int (iv d))] := hl
  skip
  have hP : va_P D vwCl ([(b 0, .inr (3, [.int (iv th), .int (iv n), .int (iv np), .int (iv mo), .ref (b 1), .ref (b 2), .ref (b 3), .ref (b 4), .ref (b 5)]))]) s.heap := hP
  have hD : va_D A ([(b 0, .inr (3, [.int (iv th), .int (iv n), .int (iv np), .int (iv mo), .ref (b 1), .ref (b 2), .ref (b 3), .ref (b 4), .ref (b 5)]))]) := hD
  have lk32 := hts (.fieldLink RX3 32 "DollCitadelModel" "dolls" "I") (by decide +kernel)
  have in_X3 : ∀ w ∈ u_ws RX3 TX3 9, w ∈ wsX3_isDoll := by decide +kernel
  refine lv_iload_n hx hb dX3_isDoll_0 rfl (lv_at hl 1 rfl) ?_
  refine r_const hx hb dX3_isDoll_1 ?_
  refine lv_aload_n hx hb dX3_isDoll_2 rfl (lv_at hl 0 rfl) ?_
  refine va_get (D := D) (ci := 3) (v := .int (iv n)) (C := RX3) (T := TX3) (N := 9) hx hb hts in_X3 hown hK hP 0 rfl rfl 1 (by decide) lk32 (fun _ h9 => h9) rfl dX3_isDoll_3 ?_
  refine r_const hx hb dX3_isDoll_6 ?_
  refine r_sub hx hb dX3_isDoll_7 ?_
  have hp := wsp ([(b 0, .inr (3, [.int (iv th), .int (iv n), .int (iv np), .int (iv mo), .ref (b 1), .ref (b 2), .ref (b 3), .ref (b 4), .ref (b 5)]))]) ([]) 1 (is := []) (js := [0]) (wc := []) (wr := [(b 0, .inr (3, [.int (iv th), .int (iv n), .int (iv np), .int (iv mo), .ref (b 1), .ref (b 2), .ref (b 3), .ref (b 4), .ref (b 5)]))]) (by decide) rfl rfl rfl
  skip
  refine k_int (g_S (As := [.int (iv d), .int (iv 0), .int (iv (n - 1))]) (rest := []) ⟨hx, hb, hml, hown, hts⟩ (c_X3_isIn l D G d 0 (n - 1) (by omega) (by omega) (by omega)) (va_cwS 3 hts gX3_isDoll_X3_isIn rfl rfl rfl (by decide +kernel) ⟨Nat.le_of_ble_eq_true rfl, Nat.le_of_ble_eq_true rfl⟩) hK hP hD hp rfl hl.1 rfl (Nat.le_of_ble_eq_true rfl) dX3_isDoll_8 ⟨by decide, by decide⟩) hP hD hS hA hp (fun v u H locs hw hP hD hS => ?_)
  obtain ⟨hv, hu⟩ := hw
  replace hv : v = (iv (b2i (decide (0 ≤ d ∧ d ≤ (n - 1))))) := hv
  subst hv
  subst hu
  have hP : va_P D vwCl ([(b 0, .inr (3, [.int (iv th), .int (iv n), .int (iv np), .int (iv mo), .ref (b 1), .ref (b 2), .ref (b 3), .ref (b 4), .ref (b 5)]))]) H := hP
  have hD : va_D A ([(b 0, .inr (3, [.int (iv th), .int (iv n), .int (iv np), .int (iv mo), .ref (b 1), .ref (b 2), .ref (b 3), .ref (b 4), .ref (b 5)]))]) := hD
  exact e_bool hx hb hr hlk dX3_isDoll_11 hS hP hD (by decide) (by decide) (⟨rfl, rfl⟩)
set_option maxHeartbeats 4000000 in
set_option maxRecDepth 100000 in
theorem c_X3_isPose (l : Launch) (D : va_G) (G : Nat → ClassId) (b : Nat → Nat) (th n np mo : Int) (p0 : Int) (hn : 0 ≤ np ∧ np ≤ 8) (hd : -2147483648 ≤ p0 ∧ p0 < 2147483648)  : MtG l yX3_isPose wsX3_isPose 1 40 0 0 D (TY G) [.ref (b 0), .int (iv p0)] ([wM0 b th n np mo]) (qI D (fun r u => r = iv (b2i (decide (0 ≤ p0 ∧ p0 ≤ np - 1))) ∧ u = [wM0 b th n np mo])) := by
  refine MtG.mk (cc := cX3_isPose) (maxL := 2) (ret := some .boolean) (by decide) rfl (Nat.le_of_ble_eq_true rfl) ?_
  intro p e s m below meth c A ls hx hb hr hlk hml hown hin hts hK hA hP hD hS hl
  replace hown : s.vm.findClass RX3 = some m.cls := hown
  have hl : lv_has ls 2 [(0, .ref (b 0)), (1, .int (iv p0))] := hl
  skip
  have hP : va_P D vwCl ([(b 0, .inr (3, [.int (iv th), .int (iv n), .int (iv np), .int (iv mo), .ref (b 1), .ref (b 2), .ref (b 3), .ref (b 4), .ref (b 5)]))]) s.heap := hP
  have hD : va_D A ([(b 0, .inr (3, [.int (iv th), .int (iv n), .int (iv np), .int (iv mo), .ref (b 1), .ref (b 2), .ref (b 3), .ref (b 4), .ref (b 5)]))]) := hD
  have lk39 := hts (.fieldLink RX3 39 "DollCitadelModel" "poses" "I") (by decide +kernel)
  have in_X3 : ∀ w ∈ u_ws RX3 TX3 9, w ∈ wsX3_isPose := by decide +kernel
  refine lv_iload_n hx hb dX3_isPose_0 rfl (lv_at hl 1 rfl) ?_
  refine r_const hx hb dX3_isPose_1 ?_
  refine lv_aload_n hx hb dX3_isPose_2 rfl (lv_at hl 0 rfl) ?_
  refine va_get (D := D) (ci := 3) (v := .int (iv np)) (C := RX3) (T := TX3) (N := 9) hx hb hts in_X3 hown hK hP 0 rfl rfl 2 (by decide) lk39 (fun _ h9 => h9) rfl dX3_isPose_3 ?_
  refine r_const hx hb dX3_isPose_6 ?_
  refine r_sub hx hb dX3_isPose_7 ?_
  have hp := wsp ([(b 0, .inr (3, [.int (iv th), .int (iv n), .int (iv np), .int (iv mo), .ref (b 1), .ref (b 2), .ref (b 3), .ref (b 4), .ref (b 5)]))]) ([]) 1 (is := []) (js := [0]) (wc := []) (wr := [(b 0, .inr (3, [.int (iv th), .int (iv n), .int (iv np), .int (iv mo), .ref (b 1), .ref (b 2), .ref (b 3), .ref (b 4), .ref (b 5)]))]) (by decide) rfl rfl rfl
  skip
  refine k_int (g_S (As := [.int (iv p0), .int (iv 0), .int (iv (np - 1))]) (rest := []) ⟨hx, hb, hml, hown, hts⟩ (c_X3_isIn l D G p0 0 (np - 1) (by omega) (by omega) (by omega)) (va_cwS 3 hts gX3_isPose_X3_isIn rfl rfl rfl (by decide +kernel) ⟨Nat.le_of_ble_eq_true rfl, Nat.le_of_ble_eq_true rfl⟩) hK hP hD hp rfl hl.1 rfl (Nat.le_of_ble_eq_true rfl) dX3_isPose_8 ⟨by decide, by decide⟩) hP hD hS hA hp (fun v u H locs hw hP hD hS => ?_)
  obtain ⟨hv, hu⟩ := hw
  replace hv : v = (iv (b2i (decide (0 ≤ p0 ∧ p0 ≤ (np - 1))))) := hv
  subst hv
  subst hu
  have hP : va_P D vwCl ([(b 0, .inr (3, [.int (iv th), .int (iv n), .int (iv np), .int (iv mo), .ref (b 1), .ref (b 2), .ref (b 3), .ref (b 4), .ref (b 5)]))]) H := hP
  have hD : va_D A ([(b 0, .inr (3, [.int (iv th), .int (iv n), .int (iv np), .int (iv mo), .ref (b 1), .ref (b 2), .ref (b 3), .ref (b 4), .ref (b 5)]))]) := hD
  exact e_bool hx hb hr hlk dX3_isPose_11 hS hP hD (by decide) (by decide) (⟨rfl, rfl⟩)
set_option maxHeartbeats 4000000 in
set_option maxRecDepth 100000 in
theorem c_X3_at (l : Launch) (D : va_G) (G : Nat → ClassId) (d j w : Nat)  : MtG l yX3_at wsX3_at 0 0 0 0 D (TY G) [.int (iv (d : Int)), .int (iv (j : Int)), .int (iv (w : Int))] ([]) (qI D (fun r u => r = iv ((3 * (6 * d + j) + w : Nat) : Int) ∧ u = [])) := by
  refine MtG.mk (cc := cX3_at) (maxL := 3) (ret := some .int) (by decide) rfl (Nat.le_of_ble_eq_true rfl) ?_
  intro p e s m below meth c A ls hx hb hr hlk hml hown hin hts hK hA hP hD hS hl
  replace hown : s.vm.findClass RX3 = some m.cls := hown
  have hl : lv_has ls 3 [(0, .int (iv (d : Int))), (1, .int (iv (j : Int))), (2, .int (iv (w : Int)))] := hl
  skip
  have hP : va_P D vwCl ([]) s.heap := hP
  have hD : va_D A ([]) := hD
  refine r_const hx hb dX3_at_0 ?_
  refine lv_bipush (v := iv 6) hx hb dX3_at_1 (by decide) ?_
  refine lv_iload_n hx hb dX3_at_3 rfl (lv_at hl 0 rfl) ?_
  refine r_mul hx hb dX3_at_4 ?_
  refine lv_iload_n hx hb dX3_at_5 rfl (lv_at hl 1 rfl) ?_
  refine r_add hx hb dX3_at_6 ?_
  refine r_mul hx hb dX3_at_7 ?_
  refine lv_iload_n hx hb dX3_at_8 rfl (lv_at hl 2 rfl) ?_
  refine r_add hx hb dX3_at_9 ?_
  exact e_int hx hb hr hlk dX3_at_10 hS hP hD (by decide) (by decide) (⟨by congr 1, rfl⟩)
set_option maxHeartbeats 4000000 in
set_option maxRecDepth 100000 in
theorem c_X3_li (l : Launch) (D : va_G) (G : Nat → ClassId) (b : Nat → Nat) (th n np mo : Int) (F : Nat → Int) (d j w : Nat) (hd : d < 8) (hj : j < 6) (hw : w < 3) (x : Int) (hF : F (3 * (6 * d + j) + w) = x)  : MtG l yX3_li wsX3_li 1 40 0 0 D (TY G) [.ref (b 0), .int (iv (d : Int)), .int (iv (j : Int)), .int (iv (w : Int))] ([wM0 b th n np mo, wMl G b F]) (qI D (fun r u => r = iv x ∧ u = [wM0 b th n np mo, wMl G b F])) := by
  refine MtG.mk (cc := cX3_li) (maxL := 4) (ret := some .int) (by decide) rfl (Nat.le_of_ble_eq_true rfl) ?_
  intro p e s m below meth c A ls hx hb hr hlk hml hown hin hts hK hA hP hD hS hl
  replace hown : s.vm.findClass RX3 = some m.cls := hown
  have hl : lv_has ls 4 [(0, .ref (b 0)), (1, .int (iv (d : Int))), (2, .int (iv (j : Int))), (3, .int (iv (w : Int)))] := hl
  skip
  have hP : va_P D vwCl ([(b 0, .inr (3, [.int (iv th), .int (iv n), .int (iv np), .int (iv mo), .ref (b 1), .ref (b 2), .ref (b 3), .ref (b 4), .ref (b 5)])), (b 1, .inl (G 0, 144, .inl (fun j => iv (F j))))]) s.heap := hP
  have hD : va_D A ([(b 0, .inr (3, [.int (iv th), .int (iv n), .int (iv np), .int (iv mo), .ref (b 1), .ref (b 2), .ref (b 3), .ref (b 4), .ref (b 5)])), (b 1, .inl (G 0, 144, .inl (fun j => iv (F j))))]) := hD
  have lk13 := hts (.fieldLink RX3 13 "DollCitadelModel" "limbs" "[I") (by decide +kernel)
  have in_X3 : ∀ w ∈ u_ws RX3 TX3 9, w ∈ wsX3_li := by decide +kernel
  refine lv_aload_n hx hb dX3_li_0 rfl (lv_at hl 0 rfl) ?_
  refine va_get (D := D) (ci := 3) (v := .ref (b 1)) (C := RX3) (T := TX3) (N := 9) hx hb hts in_X3 hown hK hP 0 rfl rfl 4 (by decide) lk13 (fun _ h9 => h9) rfl dX3_li_1 ?_
  refine lv_iload_n hx hb dX3_li_4 rfl (lv_at hl 1 rfl) ?_
  refine lv_iload_n hx hb dX3_li_5 rfl (lv_at hl 2 rfl) ?_
  refine lv_iload_n hx hb dX3_li_6 rfl (lv_at hl 3 rfl) ?_
  have hp := wsp ([(b 0, .inr (3, [.int (iv th), .int (iv n), .int (iv np), .int (iv mo), .ref (b 1), .ref (b 2), .ref (b 3), .ref (b 4), .ref (b 5)])), (b 1, .inl (G 0, 144, .inl (fun j => iv (F j))))]) ([]) 2 (is := []) (js := [0, 1]) (wc := []) (wr := [(b 0, .inr (3, [.int (iv th), .int (iv n), .int (iv np), .int (iv mo), .ref (b 1), .ref (b 2), .ref (b 3), .ref (b 4), .ref (b 5)])), (b 1, .inl (G 0, 144, .inl (fun j => iv (F j))))]) (by decide) rfl rfl rfl
  skip
  refine k_int (g_S (As := [.int (iv (d : Int)), .int (iv (j : Int)), .int (iv (w : Int))]) (rest := [.ref (b 1)]) ⟨hx, hb, hml, hown, hts⟩ (c_X3_at l D G d j w) (va_cwS 3 hts gX3_li_X3_at rfl rfl rfl (by decide +kernel) ⟨Nat.le_of_ble_eq_true rfl, Nat.le_of_ble_eq_true rfl⟩) hK hP hD hp rfl hl.1 rfl (Nat.le_of_ble_eq_true rfl) dX3_li_7 ⟨by decide, by decide⟩) hP hD hS hA hp (fun v u H locs hw hP hD hS => ?_)
  obtain ⟨hv, hu⟩ := hw
  replace hv : v = (iv ((3 * (6 * d + j) + w : Nat) : Int)) := hv
  subst hv
  subst hu
  have hP : va_P D vwCl ([(b 0, .inr (3, [.int (iv th), .int (iv n), .int (iv np), .int (iv mo), .ref (b 1), .ref (b 2), .ref (b 3), .ref (b 4), .ref (b 5)])), (b 1, .inl (G 0, 144, .inl (fun j => iv (F j))))]) H := hP
  have hD : va_D A ([(b 0, .inr (3, [.int (iv th), .int (iv n), .int (iv np), .int (iv mo), .ref (b 1), .ref (b 2), .ref (b 3), .ref (b 4), .ref (b 5)])), (b 1, .inl (G 0, 144, .inl (fun j => iv (F j))))]) := hD
  refine r_iald (F := F) hx hb hK hP 1 0 rfl rfl (3 * (6 * d + j) + w) (by omega) (by omega) (by decide) dX3_li_10 ?_
  exact e_int hx hb hr hlk dX3_li_11 hS hP hD (by decide) (by decide) (⟨by rw [hF], rfl⟩)
set_option maxHeartbeats 4000000 in
set_option maxRecDepth 100000 in
theorem c_X3_ro (l : Launch) (D : va_G) (G : Nat → ClassId) (b : Nat → Nat) (th n np mo : Int) (F : Nat → Int) (d k : Nat) (hd : d < 8) (hk : k < 8) (x : Int) (hF : F (8 * d + k) = x)  : MtG l yX3_ro wsX3_ro 0 0 0 0 D (TY G) [.ref (b 0), .int (iv (d : Int)), .int (iv (k : Int))] ([wM0 b th n np mo, wMr G b F]) (qI D (fun r u => r = iv x ∧ u = [wM0 b th n np mo, wMr G b F])) := by
  refine MtG.mk (cc := cX3_ro) (maxL := 3) (ret := some .int) (by decide) rfl (Nat.le_of_ble_eq_true rfl) ?_
  intro p e s m below meth c A ls hx hb hr hlk hml hown hin hts hK hA hP hD hS hl
  replace hown : s.vm.findClass RX3 = some m.cls := hown
  have hl : lv_has ls 3 [(0, .ref (b 0)), (1, .int (iv (d : Int))), (2, .int (iv (k : Int)))] := hl
  skip
  have hP : va_P D vwCl ([(b 0, .inr (3, [.int (iv th), .int (iv n), .int (iv np), .int (iv mo), .ref (b 1), .ref (b 2), .ref (b 3), .ref (b 4), .ref (b 5)])), (b 2, .inl (G 0, 64, .inl (fun j => iv (F j))))]) s.heap := hP
  have hD : va_D A ([(b 0, .inr (3, [.int (iv th), .int (iv n), .int (iv np), .int (iv mo), .ref (b 1), .ref (b 2), .ref (b 3), .ref (b 4), .ref (b 5)])), (b 2, .inl (G 0, 64, .inl (fun j => iv (F j))))]) := hD
  have lk17 := hts (.fieldLink RX3 17 "DollCitadelModel" "rooms" "[I") (by decide +kernel)
  have in_X3 : ∀ w ∈ u_ws RX3 TX3 9, w ∈ wsX3_ro := by decide +kernel
  refine lv_aload_n hx hb dX3_ro_0 rfl (lv_at hl 0 rfl) ?_
  refine va_get (D := D) (ci := 3) (v := .ref (b 2)) (C := RX3) (T := TX3) (N := 9) hx hb hts in_X3 hown hK hP 0 rfl rfl 5 (by decide) lk17 (fun _ h9 => h9) rfl dX3_ro_1 ?_
  refine lv_bipush (v := iv 8) hx hb dX3_ro_4 (by decide) ?_
  refine lv_iload_n hx hb dX3_ro_6 rfl (lv_at hl 1 rfl) ?_
  refine r_mul hx hb dX3_ro_7 ?_
  refine lv_iload_n hx hb dX3_ro_8 rfl (lv_at hl 2 rfl) ?_
  refine r_add hx hb dX3_ro_9 ?_
  refine r_iald (F := F) hx hb hK hP 1 0 rfl rfl ((8 * d) + k) (by omega) (by omega) (by decide) dX3_ro_10 ?_
  exact e_int hx hb hr hlk dX3_ro_11 hS hP hD (by decide) (by decide) (⟨by rw [hF], rfl⟩)
set_option maxHeartbeats 4000000 in
set_option maxRecDepth 100000 in
theorem c_X3_put (l : Launch) (D : va_G) (G : Nat → ClassId) (b : Nat → Nat) (th n np mo : Int) (F : Nat → Int) (d k : Nat) (hd : d < 8) (hk : k < 8) (x : Int)  : MtG l yX3_put wsX3_put 0 0 0 0 D (TY G) [.ref (b 0), .int (iv (d : Int)), .int (iv (k : Int)), .int (iv x)] ([wM0 b th n np mo, wMr G b F]) (qV D (fun u => u = [wM0 b th n np mo, wMr G b (updI F (8 * d + k) x)])) := by
  refine MtG.mk (cc := cX3_put) (maxL := 4) (ret := none) (by decide) rfl (Nat.le_of_ble_eq_true rfl) ?_
  intro p e s m below meth c A ls hx hb hr hlk hml hown hin hts hK hA hP hD hS hl
  replace hown : s.vm.findClass RX3 = some m.cls := hown
  have hl : lv_has ls 4 [(0, .ref (b 0)), (1, .int (iv (d : Int))), (2, .int (iv (k : Int))), (3, .int (iv x))] := hl
  skip
  have hP : va_P D vwCl ([(b 0, .inr (3, [.int (iv th), .int (iv n), .int (iv np), .int (iv mo), .ref (b 1), .ref (b 2), .ref (b 3), .ref (b 4), .ref (b 5)])), (b 2, .inl (G 0, 64, .inl (fun j => iv (F j))))]) s.heap := hP
  have hD : va_D A ([(b 0, .inr (3, [.int (iv th), .int (iv n), .int (iv np), .int (iv mo), .ref (b 1), .ref (b 2), .ref (b 3), .ref (b 4), .ref (b 5)])), (b 2, .inl (G 0, 64, .inl (fun j => iv (F j))))]) := hD
  have lk17 := hts (.fieldLink RX3 17 "DollCitadelModel" "rooms" "[I") (by decide +kernel)
  have in_X3 : ∀ w ∈ u_ws RX3 TX3 9, w ∈ wsX3_put := by decide +kernel
  refine lv_aload_n hx hb dX3_put_0 rfl (lv_at hl 0 rfl) ?_
  refine va_get (D := D) (ci := 3) (v := .ref (b 2)) (C := RX3) (T := TX3) (N := 9) hx hb hts in_X3 hown hK hP 0 rfl rfl 5 (by decide) lk17 (fun _ h9 => h9) rfl dX3_put_1 ?_
  refine lv_bipush (v := iv 8) hx hb dX3_put_4 (by decide) ?_
  refine lv_iload_n hx hb dX3_put_6 rfl (lv_at hl 1 rfl) ?_
  refine r_mul hx hb dX3_put_7 ?_
  refine lv_iload_n hx hb dX3_put_8 rfl (lv_at hl 2 rfl) ?_
  refine r_add hx hb dX3_put_9 ?_
  refine lv_iload_n hx hb dX3_put_10 rfl (lv_at hl 3 rfl) ?_
  refine r_iast (F := F) hx hb hK hP hD hS 1 0 rfl rfl ((8 * d) + k) (by omega) (by omega) (by decide) dX3_put_11 (fun H locs hP hD hS => ?_)
  have hP : va_P D vwCl ([(b 0, .inr (3, [.int (iv th), .int (iv n), .int (iv np), .int (iv mo), .ref (b 1), .ref (b 2), .ref (b 3), .ref (b 4), .ref (b 5)])), (b 2, .inl (G 0, 64, .inl (fun j => iv (updI F ((8 * d) + k) x j))))]) H := hP
  have hD : va_D A ([(b 0, .inr (3, [.int (iv th), .int (iv n), .int (iv np), .int (iv mo), .ref (b 1), .ref (b 2), .ref (b 3), .ref (b 4), .ref (b 5)])), (b 2, .inl (G 0, 64, .inl (fun j => iv (updI F ((8 * d) + k) x j))))]) := hD
  exact e_void hx hb hr hlk dX3_put_12 hS hP hD (by decide) (by decide) rfl
set_option maxHeartbeats 4000000 in
set_option maxRecDepth 100000 in
theorem c_X3_isBroken (l : Launch) (D : va_G) (G : Nat → ClassId) (b : Nat → Nat) (th n np mo : Int) (F : Nat → Int) (d j : Nat) (hd : d < 8) (hj : j < 6) (x : Int) (hF : F (3 * (6 * d + j) + 1) = x) (hx0 : 0 ≤ x ∧ x ≤ 100)  : MtG l yX3_isBroken wsX3_isBroken 2 80 0 0 D (TY G) [.ref (b 0), .int (iv (d : Int)), .int (iv (j : Int))] ([wM0 b th n np mo, wMl G b F]) (qI D (fun r u => r = iv (b2i (decide (x = 100))) ∧ u = [wM0 b th n np mo, wMl G b F])) := by
  refine MtG.mk (cc := cX3_isBroken) (maxL := 3) (ret := some .boolean) (by decide) rfl (Nat.le_of_ble_eq_true rfl) ?_
  intro p e s m below meth c A ls hx hb hr hlk hml hown hin hts hK hA hP hD hS hl
  replace hown : s.vm.findClass RX3 = some m.cls := hown
  have hl : lv_has ls 3 [(0, .ref (b 0)), (1, .int (iv (d : Int))), (2, .int (iv (j : Int)))] := hl
  skip
  have hP : va_P D vwCl ([(b 0, .inr (3, [.int (iv th), .int (iv n), .int (iv np), .int (iv mo), .ref (b 1), .ref (b 2), .ref (b 3), .ref (b 4), .ref (b 5)])), (b 1, .inl (G 0, 144, .inl (fun j => iv (F j))))]) s.heap := hP
  have hD : va_D A ([(b 0, .inr (3, [.int (iv th), .int (iv n), .int (iv np), .int (iv mo), .ref (b 1), .ref (b 2), .ref (b 3), .ref (b 4), .ref (b 5)])), (b 1, .inl (G 0, 144, .inl (fun j => iv (F j))))]) := hD
  refine lv_aload_n hx hb dX3_isBroken_0 rfl (lv_at hl 0 rfl) ?_
  refine lv_iload_n hx hb dX3_isBroken_1 rfl (lv_at hl 1 rfl) ?_
  refine lv_iload_n hx hb dX3_isBroken_2 rfl (lv_at hl 2 rfl) ?_
  refine r_const hx hb dX3_isBroken_3 ?_
  have hp := wsp ([(b 0, .inr (3, [.int (iv th), .int (iv n), .int (iv np), .int (iv mo), .ref (b 1), .ref (b 2), .ref (b 3), .ref (b 4), .ref (b 5)])), (b 1, .inl (G 0, 144, .inl (fun j => iv (F j))))]) ([]) 2 (is := [0, 1]) (js := []) (wc := [wM0 b th n np mo, wMl G b F]) (wr := []) (by decide) rfl rfl rfl
  skip
  refine k_int (g_V (As := [.int (iv (d : Int)), .int (iv (j : Int)), .int (iv 1)]) (rest := []) (q0 := 0) (ci := 3) ⟨hx, hb, hml, hown, hts⟩ (c_X3_li l D G b th n np mo F d j 1 (by omega) (by omega) (by omega) x hF) (cwV 3 hts gX3_isBroken_X3_li rfl rfl rfl (by decide +kernel) ⟨Nat.le_of_ble_eq_true rfl, Nat.le_of_ble_eq_true rfl⟩) hK hP hD hp rfl rfl rfl rfl hl.1 rfl (Nat.le_of_ble_eq_true rfl) dX3_isBroken_4 ⟨by decide, by decide⟩) hP hD hS hA hp (fun v u H locs hw hP hD hS => ?_)
  obtain ⟨hv, hu⟩ := hw
  replace hv : v = (iv x) := hv
  subst hv
  subst hu
  have hP : va_P D vwCl ([(b 0, .inr (3, [.int (iv th), .int (iv n), .int (iv np), .int (iv mo), .ref (b 1), .ref (b 2), .ref (b 3), .ref (b 4), .ref (b 5)])), (b 1, .inl (G 0, 144, .inl (fun j => iv (F j))))]) H := hP
  have hD : va_D A ([(b 0, .inr (3, [.int (iv th), .int (iv n), .int (iv np), .int (iv mo), .ref (b 1), .ref (b 2), .ref (b 3), .ref (b 4), .ref (b 5)])), (b 1, .inl (G 0, 144, .inl (fun j => iv (F j))))]) := hD
  refine lv_bipush (v := iv 100) hx hb dX3_isBroken_7 (by decide) ?_
  refine r_icmp_ne hx hb 16 dX3_isBroken_9 (by decide) (by omega) (by omega) (fun c_9 => ?_) (fun c_9 => ?_)
  · skip
    refine r_const hx hb dX3_isBroken_16 ?_
    exact e_b01 hx hb hr (by omega) hlk dX3_isBroken_17 hS hP hD (by decide) (by decide) (⟨by rw [show decide (x = 100) = false from decide_eq_false (by omega)]; rfl, rfl⟩)
  · skip
    refine r_const hx hb dX3_isBroken_12 ?_
    refine r_goto hx hb 17 dX3_isBroken_13 (by decide) ?_
    exact e_b01 hx hb hr (by omega) hlk dX3_isBroken_17 hS hP hD (by decide) (by decide) (⟨by rw [show decide (x = 100) = true from decide_eq_true (by omega)]; rfl, rfl⟩)
end
