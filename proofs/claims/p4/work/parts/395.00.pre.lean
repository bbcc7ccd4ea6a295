def rT (z : RS2) (k : Nat) : Nat := (rs_I z 35 k).toNatClampNeg
def rP (z : RS2) (k : Nat) : Nat := (rs_I z 26 (rT z k)).toNatClampNeg
theorem rtk {z : RS2} {k : Nat} (hI : invR z) (hk : k < rs_n z 3) : rT z k < rs_n z 2 ∧ rs_I z 35 k = nI (rT z k) ∧ rP z k < rs_n z 0 ∧ rs_I z 26 (rT z k) = nI (rP z k) := by
  obtain ⟨⟨h0, h1, h2, h3⟩, -, -, -, -, htk, hpk⟩ := hI
  obtain ⟨t, ht, e⟩ := hpk k hk
  have q1 : rT z k = t := by unfold rT; rw [e, nI_clamp (by omega)]
  obtain ⟨p, hp, e2⟩ := (htk t ht).2
  have q2 : rP z k = p := by unfold rP; rw [q1, e2, nI_clamp (by omega)]
  rw [q1, q2]
  exact ⟨ht, e, hp, e2⟩
def rsus (z : RS2) (k : Nat) : Bool := decide (smax (onB (rs_I z 12) (rs_I z 14) (rs_I z 13) (rs_I z 15) (rP z k)) (rs_I z 3) 48 < rs_I z 37 k)
def cpf (g : Nat → Int32) (b : Nat) (f : Nat → Int32) : Nat → Nat → Int32
  | 0 => f
  | i + 1 => upd (cpf g b f i) i (g (b + i))
def cpt (h : Nat → Int32) (b : Nat) (f : Nat → Int32) : Nat → Nat → Int32
  | 0 => f
  | i + 1 => upd (cpt h b f i) (b + i) (h i)

