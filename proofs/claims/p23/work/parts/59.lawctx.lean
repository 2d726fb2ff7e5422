-- THE LAW: what stays
def LBx (p : Program) (l : Launch) (s : State) (m : MethodId) (meth : Method) (c : Code) (D : va_G) (G : Nat → ClassId) (b L : Nat) (xs : Nat → Int32) (A : Nat → Prop) : Prop :=
  p.tables.exec = Jvm.exec ∧ c.code = cL_law ∧ c.maxLocals = 21 ∧ s.vm.findClass RL = some m.cls ∧ (∀ w ∈ wsL_law, w.before #[Value.ref b] s = true) ∧ va_K D vwCl (TY G) s ∧ TH A s s.heap ∧ (∀ q, s.heap.size ≤ q → A q) ∧ SC b L xs A s s.heap ∧ L ≤ 260 ∧ l.stackTraces = false ∧ (Cond.classLink RL 128 "[[[I").before #[Value.ref b] s = true
theorem c_X4_passz (l : Launch) (D : va_G) (G : Nat → ClassId) (b : Nat → Nat) (sd sp : AD) (jj : Nat → Int) (cs : CS) (hok : okC cs) (hdl : kd cs ≤ 1000000) (z : Nat) (hz : b 0 = z) : MtG l yX4_pass wsX4_pass 1 40 0 0 D (TY G) [.ref z] (wSim G b sd sp jj cs) (qI D (fun r u => (∃ z : Int, r = iv z) ∧ ∃ j2 : Nat → Int, u = wSim G b sd sp j2 (afterC cs 1))) := by
  subst hz
  exact c_X4_pass l D G b sd sp jj cs hok hdl
theorem c_X4_isSamez (l : Launch) (D : va_G) (G : Nat → ClassId) (b : Nat → Nat) (sd sp : AD) (jj : Nat → Int) (cs : CS) (hok : okC cs) (a ar az : Nat → Nat) (ad ap : AD) (ts : DS) (z : Nat) (hz : b 0 = z) : MtG l yX4_isSame wsX4_isSame 5 200 9 77 D (TY G) [.ref z, .ref (a 0)] (wSim G b sd sp jj cs ++ wC G a ar az ad ap ts cs) (qI D (fun r u => r = iv 1 ∧ u = wSim G b sd sp jj cs ++ wC G a ar az ad ap ts cs)) := by
  subst hz
  exact c_X4_isSame l D G b sd sp jj cs hok a ar az ad ap ts
