def rXa (z : CS) (p : Nat) : Nat := (cs_I z 11 p).toNatClampNeg
def rWa (z : CS) (p : Nat) : Nat := (cs_I z 13 p).toNatClampNeg - (cs_I z 11 p).toNatClampNeg
def rYa (z : CS) (p : Nat) : Nat := (cs_I z 12 p).toNatClampNeg
def rHa (z : CS) (p : Nat) : Nat := (cs_I z 14 p).toNatClampNeg - (cs_I z 12 p).toNatClampNeg
theorem rectF {z : CS} {p : Nat} (hI : invC z) (hp : p < cs_n z 0) : cs_I z 11 p = nI (rXa z p) ∧ cs_I z 13 p = nI (rXa z p + rWa z p) ∧ cs_I z 12 p = nI (rYa z p) ∧ cs_I z 14 p = nI (rYa z p + rHa z p) ∧ rXa z p + rWa z p ≤ 7 ∧ rYa z p + rHa z p ≤ 5 := by
  obtain ⟨-, hpi, -⟩ := hI
  obtain ⟨h1, h2, -⟩ := hpi p hp
  obtain ⟨xa, wa, ya, ha, e1, e2, e3, e4, h5, h6⟩ := rect ⟨h1, h2⟩
  have q1 : rXa z p = xa := by unfold rXa; rw [e1, nI_clamp (by omega)]
  have q2 : rWa z p = wa := by unfold rWa; rw [e1, e2, nI_clamp (by omega), nI_clamp (by omega)]; omega
  have q3 : rYa z p = ya := by unfold rYa; rw [e3, nI_clamp (by omega)]
  have q4 : rHa z p = ha := by unfold rHa; rw [e3, e4, nI_clamp (by omega), nI_clamp (by omega)]; omega
  rw [q1, q2, q3, q4]
  exact ⟨e1, e2, e3, e4, h5, h6⟩
theorem shNo {k : Int32} (h : ∀ j, j < 4 → k ≠ nI j) : ¬ (0 ≤ k ∧ k ≤ 3) := fun q => by
  obtain ⟨a, ha, rfl⟩ := nI_of2 (x := k) (M := 3) (n := 3) (by decide) (Int32.not_lt.mpr q.1) q.2
  exact h a (by omega) rfl
theorem hold_nat {i n le : Int32} (h : 0 ≤ i ∧ 0 ≤ n ∧ i.toInt64 + n.toInt64 ≤ le.toInt64) (hl : le.toInt ≤ 48) : ∃ a b : Nat, i = nI a ∧ n = nI b ∧ a + b ≤ 48 ∧ ((a + b : Nat) : Int) ≤ le.toInt := by
  obtain ⟨a, ha, rfl⟩ := nI_of (x := i) (Int32.not_lt.mpr h.1)
  obtain ⟨b, hb, rfl⟩ := nI_of (x := n) (Int32.not_lt.mpr h.2.1)
  have h3 := Int64.le_iff_toInt_le.mp h.2.2
  rw [Int64.toInt_add, Int32.toInt_toInt64, Int32.toInt_toInt64, Int32.toInt_toInt64, nI_toInt ha, nI_toInt hb, Int.bmod_eq_of_le (by omega) (by omega)] at h3
  exact ⟨a, b, rfl, rfl, by omega, by omega⟩
theorem hold_in {i le : Int32} (h : 0 ≤ i ∧ 0 ≤ (1 : Int32) ∧ i.toInt64 + (1 : Int32).toInt64 ≤ le.toInt64) (hl : le.toInt ≤ 48) : vp_in i 48 := by
  obtain ⟨a, b, rfl, e, h1, h2⟩ := hold_nat h hl
  have hb : b = 1 := by
    rcases Nat.lt_or_ge b (2 ^ 31) with q | q
    · exact ((nI_eq (by decide) q).mp (show nI 1 = nI b from e)).symm
    · omega
  exact vp_in_nI (by omega) (by omega)
