theorem c_L_actz (l : Launch) (D : va_G) (G : Nat → ClassId) (hl0 : l.stackTraces = false) (a ar az : Nat → Nat) (ad ap : AD) (ts : DS) (b : Nat → Nat) (sd sp : AD) (jj : Nat → Int) (cs : CS) (hok : okC cs) (kd0 : Int) (hkd : kd cs = kd0) (hdl : kd0 ≤ 1000000) (x : Int) (z : Nat) (hz : b 0 = z) : MtX l yL_act wsL_act 8 190 60 250 D (TY G) [.ref (a 0), .ref z, .int (iv x)] (wC G a ar az ad ap ts cs ++ wSim G b sd sp jj cs) (qI D (fun r u => r = iv 1 ∧ PA G a ar az z kd0 u)) := by
  subst hz
  exact c_L_act l D G hl0 a ar az ad ap ts b sd sp jj cs hok kd0 hkd hdl x
theorem c_L_cellz (l : Launch) (D : va_G) (G : Nat → ClassId) (b L : Nat) (xs : Nat → Int32) (hL : L ≤ 260) (k : Int) (hk : 0 ≤ k ∧ k < 1000) : MtS l yL_cell wsL_cell 0 0 0 0 D (TY G) [.ref b, .int (iv k)] ([] : va_W) b L xs (qI D (fun r u => (∃ z : Int, r = iv z) ∧ u = [])) := by
  obtain ⟨n, rfl⟩ := Int.eq_ofNat_of_zero_le hk.1
  exact c_L_cell l D G b L xs hL n (by omega)
