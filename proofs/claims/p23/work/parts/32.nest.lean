-- a nest-mate's constructor
section NEST
variable {p : Program} {l : Launch} {e : Env} {R : Room} {s : State} {m : MethodId} {args : Array Value} {below : List Frame} {meth : Method} {c : Code} {H : Heap} {locs : List Loc} {cells slots mc ms : Nat} {cc : ByteArray} {pc : Nat} {ls : Array Slot} {D : va_G} {tys : List (ClassId × FieldType)} {ws wc wr : va_W} {As rest st0 : List Value} {f lc : Nat} {A : Nat → Prop}
theorem g_IN {Ts ws1 : List Cond} {nL maxL n index : Nat} {own host : String} {y : MethodName} {bytes : ByteArray} {qc : QcT} {b : Nat} (S : CallFix p m c cc nL s args Ts own) (hM : MtG l y ws1 f lc mc ms D tys (.ref b :: As) wc qc) (cw : va_CN R s args own index y host bytes maxL none ws1 (rmOf f lc mc ms) mc ms n) (hyn : y.name = "<init>") (hin : (Cond.instanceMethod y).before args s = true) (hK : va_K D vwCl tys s) (hP : va_P D vwCl ws H) (hD : va_D A ws) (hp : ws.Perm (wc ++ wr)) (hn : As.length = n) (hsize : ls.size = nL) (hst : st0 = As.reverse ++ .ref b :: rest) (hW : (rest.map fun v => v.category).sum ≤ 8) (d : decode cc pc = .ok (.invokespecial index, 3)) (hf : cells + mc ≤ R.cells ∧ slots + ms ≤ R.slots) : va_Run p l e R s m args below meth c H locs cells slots mc ms (F0 m pc ls st0) rest (qc (va_A wc H.size) (Value.ref b :: As).toArray) (va_A wc H.size) :=
  va_runIN (g := F0 m pc ls st0) S (hM H.size) ⟨cw, hyn, hin⟩ ⟨w_blind _ _ _ _ _, w_pre hK hP hD hp _⟩ rfl hn hsize hst (by simpa [JFrame.monitorRoom] using hW) d hf
end NEST
theorem pnew (E R Z : va_W) : ((E ++ R) ++ Z).Perm ((E ++ Z) ++ R) := by
  rw [List.append_assoc, List.append_assoc]
  exact List.Perm.append_left E List.perm_append_comm
