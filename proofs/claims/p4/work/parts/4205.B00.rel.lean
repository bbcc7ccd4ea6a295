/-! layer B: the sheets -/
def fB (z : CS) : (Nat → Int32) × (Nat → Int32) × (Nat → Nat → Int32) := (cs_I z 8, cs_I z 9, cs_S z)
def gB (z : RS2) : (Nat → Int32) × (Nat → Int32) × (Nat → Int32) := (rs_I z 7, rs_I z 8, rs_I z 9)
def rBk (k : Nat) (ln le : Int32) (f : Nat → Int32) (sz la : Int32) (g : Nat → Int32) : Prop := (ln = -1 ∧ sz = -1) ∨ ((0 ≤ ln ∧ ln ≤ 2) ∧ ln = la ∧ le = sz ∧ (0 ≤ le.toInt ∧ le.toInt ≤ 48) ∧ ∀ i : Nat, (i : Int) < le.toInt → f i = g (48 * k + i))
def rB (a : (Nat → Int32) × (Nat → Int32) × (Nat → Nat → Int32)) (b : (Nat → Int32) × (Nat → Int32) × (Nat → Int32)) : Prop := ∀ k, k < 4 → rBk k (a.1 k) (a.2.1 k) (a.2.2 k) (b.1 k) (b.2.1 k) b.2.2
def relB (zc : CS) (zr : RS2) : Prop := rB (fB zc) (gB zr)
theorem relB_of {zc u : CS} {zr v : RS2} (h1 : fB u = fB zc) (h2 : gB v = gB zr) (h : relB zc zr) : relB u v := by
  unfold relB; rw [h1, h2]; exact h
theorem relB_0 {x : Nat → Nat → Nat} : relB (z0C x) z0R := fun k _ => Or.inl ⟨rfl, rfl⟩
