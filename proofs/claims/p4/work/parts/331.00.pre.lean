theorem vp_in_lt {i : Int32} {n : Nat} (h : vp_in i n) : i.toNatClampNeg < n := Nat.not_le.mp fun q => h (Or.inr q)
theorem sq_in {x y : Int32} (h : (0 ≤ x ∧ x ≤ 7) ∧ (0 ≤ y ∧ y ≤ 5)) : vp_in (8 * y + x) 48 := by
  obtain ⟨a, ha, rfl⟩ := nI_of2 (x := x) (M := 7) (n := 7) (by decide) (Int32.not_lt.mpr h.1.1) h.1.2
  obtain ⟨b, hb, rfl⟩ := nI_of2 (x := y) (M := 5) (n := 5) (by decide) (Int32.not_lt.mpr h.2.1) h.2.2
  have e : (8 : Int32) * nI b + nI a = nI (8 * b + a) := by
    rw [show (8 : Int32) * nI b = nI (8 * b) from pk_mul 8 b]
    exact nI_add _ _
  rw [e]
  exact vp_in_nI (by omega) (by omega)
section CWF
variable {cA : Nat → ClassId} {z : CS}
theorem kF_tp : cF cA z 0 0 = some (cTP z) := rfl
theorem kF_lo : cF cA z 0 1 = some (cLo z) := rfl
theorem kF_a2 : cF cA z 0 2 = some (cA2 cA z) := rfl
theorem kF_a3 : cF cA z 0 3 = some (cA3 cA z) := rfl
theorem kF_a4 : cF cA z 0 4 = some (cA4 cA z) := rfl
theorem kF_a5 : cF cA z 0 5 = some (cA5 cA z) := rfl
theorem kF_r6 : cF cA z 0 6 = some (cR6 cA z) := rfl
theorem kF_r7 : cF cA z 0 7 = some (cR7 cA z) := rfl
theorem kF_r8 : cF cA z 0 8 = some (cR8 cA z) := rfl
theorem kF_r9 : cF cA z 0 9 = some (cR9 cA z) := rfl
theorem kF_r10 : cF cA z 0 10 = some (cR10 cA z) := rfl
theorem kF_tr : cF cA z 0 11 = some (cTr z) := rfl
end CWF
theorem inv_settle {z : CS} {jt : Nat} {a b : Int32} {x y : Int64} (hI : invC z) : invC (cs_i z, cs_n z, va_up (va_up (cs_I z) 33 (va_up (cs_I z 33) jt a)) 22 (va_up (cs_I z 22) (cs_N z 2 jt) b), va_up (va_up (cs_L z) 6 (va_up (cs_L z 6) jt x)) 0 (va_up (cs_L z 0) (cs_N z 2 jt) y), va_up (cs_N z) 0 (va_up (cs_N z 0) (cs_N z 3 jt) 0), cs_S z, cs_X z) := by
  obtain ⟨h1, hpi, h2, h3, h4, h5⟩ := hI
  refine ⟨h1, fun p hp => ⟨(hpi p hp).1, (hpi p hp).2.1, ?_⟩, h2, h3, h4, h5⟩
  show va_up (cs_N z 0) (cs_N z 3 jt) 0 p ≤ cs_n z 2
  by_cases h : p = cs_N z 3 jt
  · rw [h, va_up_self]; exact Nat.zero_le _
  · rw [va_up_ne _ _ h]; exact (hpi p hp).2.2
theorem tb_out5 {w : Int32} (h0 : ¬ w = 0) (h1 : ¬ w = 1) (h2 : ¬ w = 2) (h3 : ¬ w = 3) (h4 : ¬ w = 4) : w.toInt < 0 ∨ 4 < w.toInt := by
  have e0 : ¬ w.toInt = 0 := fun q => h0 ((fa_eq _ _).mpr q)
  have e1 : ¬ w.toInt = 1 := fun q => h1 ((fa_eq _ _).mpr q)
  have e2 : ¬ w.toInt = 2 := fun q => h2 ((fa_eq _ _).mpr q)
  have e3 : ¬ w.toInt = 3 := fun q => h3 ((fa_eq _ _).mpr q)
  have e4 : ¬ w.toInt = 4 := fun q => h4 ((fa_eq _ _).mpr q)
  omega
theorem tb_out6 {w : Int32} (h0 : ¬ w = 0) (h1 : ¬ w = 1) (h2 : ¬ w = 2) (h3 : ¬ w = 3) (h4 : ¬ w = 4) (h5 : ¬ w = 5) : w.toInt < 0 ∨ 5 < w.toInt := by
  have e5 : ¬ w.toInt = 5 := fun q => h5 ((fa_eq _ _).mpr q)
  have := tb_out5 h0 h1 h2 h3 h4
  omega
theorem tb_out7 {w : Int32} (h0 : ¬ w = 0) (h1 : ¬ w = 1) (h2 : ¬ w = 2) (h3 : ¬ w = 3) (h4 : ¬ w = 4) (h5 : ¬ w = 5) (h6 : ¬ w = 6) : w.toInt < 0 ∨ 6 < w.toInt := by
  have e6 : ¬ w.toInt = 6 := fun q => h6 ((fa_eq _ _).mpr q)
  have := tb_out6 h0 h1 h2 h3 h4 h5
  omega
