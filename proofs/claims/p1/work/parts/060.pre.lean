theorem vp_in_lt {i : Int32} {n : Nat} (h : vp_in i n) : i.toNatClampNeg < n := Nat.not_le.mp fun q => h (Or.inr q)
theorem sq_in {x y : Int32} (h : (0 ≤ x ∧ x ≤ 7) ∧ (0 ≤ y ∧ y ≤ 5)) : vp_in (8 * y + x) 48 := by
  obtain ⟨a, ha, rfl⟩ := nI_of2 (x := x) (M := 7) (n := 7) (by decide) (Int32.not_lt.mpr h.1.1) h.1.2
  obtain ⟨b, hb, rfl⟩ := nI_of2 (x := y) (M := 5) (n := 5) (by decide) (Int32.not_lt.mpr h.2.1) h.2.2
  have e : (8 : Int32) * nI b + nI a = nI (8 * b + a) := by
    rw [show (8 : Int32) * nI b = nI (8 * b) from pk_mul 8 b]
    exact nI_add _ _
  rw [e]
  exact vp_in_nI (by omega) (by omega)
