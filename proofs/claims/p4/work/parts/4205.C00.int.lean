/-! narrowing over whole numbers: two sweeps close an array -/
def u1 (a : Nat → Int) (k : Nat) (x : Int) : Nat → Int := fun j => if j = k then x else a j
theorem u1_s {a : Nat → Int} {k : Nat} {x : Int} : u1 a k x k = x := if_pos rfl
theorem u1_n {a : Nat → Int} {k j : Nat} {x : Int} (h : j ≠ k) : u1 a k x j = a j := if_neg h
def mS (d : Int) (i : Nat) (a : Nat → Int) : Int := max (max (a i) (if 0 < i % 8 then a (i - 1) - d else a i)) (if 8 ≤ i then a (i - 8) - d else a i)
def mD (d : Int) (i : Nat) (a : Nat → Int) : Int := max (max (a i) (if i % 8 < 7 then a (i + 1) - d else a i)) (if i < 40 then a (i + 8) - d else a i)
def wS (d : Int) (g : Nat → Int) : Nat → Nat → Int
  | 0 => g
  | i + 1 => u1 (wS d g i) i (mS d i (wS d g i))
def wD (d : Int) (g : Nat → Int) : Nat → Nat → Int
  | 0 => g
  | k + 1 => u1 (wD d g k) (47 - k) (mD d (47 - k) (wD d g k))
theorem wS_out {d : Int} {g : Nat → Int} : ∀ {n j : Nat}, n ≤ j → wS d g n j = g j
  | 0, j, _ => rfl
  | n + 1, j, h => by rw [wS, u1_n (by omega)]; exact wS_out (by omega)
theorem wS_in {d : Int} {g : Nat → Int} : ∀ {n j : Nat}, j < n → wS d g n j = wS d g (j + 1) j
  | n + 1, j, h => by
    by_cases e : j = n
    · subst e; rfl
    · rw [wS, u1_n e]; exact wS_in (by omega)
theorem wS_at {d : Int} {g : Nat → Int} {i : Nat} : wS d g (i + 1) i = max (max (g i) (if 0 < i % 8 then wS d g i (i - 1) - d else g i)) (if 8 ≤ i then wS d g i (i - 8) - d else g i) := by
  rw [wS, u1_s, mS, wS_out (Nat.le_refl i)]
theorem wS_low {d : Int} {g : Nat → Int} {i : Nat} (hi : i < 48) : g i ≤ wS d g 48 i ∧ (0 < i % 8 → wS d g 48 (i - 1) - d ≤ wS d g 48 i) ∧ (8 ≤ i → wS d g 48 (i - 8) - d ≤ wS d g 48 i) := by
  rw [wS_in hi, wS_at]
  refine ⟨by omega, fun h => ?_, fun h => ?_⟩
  · rw [if_pos h, wS_in (n := 48) (j := i - 1) (by omega), ← wS_in (n := i) (j := i - 1) (by omega)]; omega
  · rw [if_pos h, wS_in (n := 48) (j := i - 8) (by omega), ← wS_in (n := i) (j := i - 8) (by omega)]; omega
theorem wD_out {d : Int} {g : Nat → Int} : ∀ {k j : Nat}, k ≤ 48 → j + k < 48 → wD d g k j = g j
  | 0, j, _, _ => rfl
  | k + 1, j, h1, h => by rw [wD, u1_n (by omega)]; exact wD_out (by omega) (by omega)
theorem wD_in {d : Int} {g : Nat → Int} : ∀ {k j : Nat}, k ≤ 48 → j < 48 → 48 ≤ j + k → wD d g k j = wD d g (48 - j) j
  | 0, j, _, h2, h3 => absurd h3 (by omega)
  | k + 1, j, h1, h2, h3 => by
    by_cases e : j + k = 47
    · have e2 : 48 - j = k + 1 := by omega
      rw [e2]
    · rw [wD, u1_n (by omega)]; exact wD_in (by omega) h2 (by omega)
theorem wD_at {d : Int} {g : Nat → Int} {i : Nat} (hi : i < 48) : wD d g (48 - i) i = max (max (g i) (if i % 8 < 7 then wD d g (47 - i) (i + 1) - d else g i)) (if i < 40 then wD d g (47 - i) (i + 8) - d else g i) := by
  have e1 : 48 - i = (47 - i) + 1 := by omega
  have e2 : 47 - (47 - i) = i := by omega
  rw [e1, wD, e2, u1_s, mD, wD_out (by omega) (by omega)]
theorem wD_48 {d : Int} {g : Nat → Int} {i : Nat} (hi : i < 48) : wD d g 48 i = max (max (g i) (if i % 8 < 7 then wD d g 48 (i + 1) - d else g i)) (if i < 40 then wD d g 48 (i + 8) - d else g i) := by
  rw [wD_in (by omega) hi (by omega), wD_at hi]
  have a1 : i % 8 < 7 → wD d g (47 - i) (i + 1) = wD d g 48 (i + 1) := fun h => by
    rw [wD_in (k := 48) (j := i + 1) (by omega) (by omega) (by omega), wD_in (k := 47 - i) (j := i + 1) (by omega) (by omega) (by omega)]
  have a2 : i < 40 → wD d g (47 - i) (i + 8) = wD d g 48 (i + 8) := fun h => by
    rw [wD_in (k := 48) (j := i + 8) (by omega) (by omega) (by omega), wD_in (k := 47 - i) (j := i + 8) (by omega) (by omega) (by omega)]
  by_cases h1 : i % 8 < 7 <;> by_cases h2 : i < 40
  · rw [if_pos h1, if_pos h2, if_pos h1, if_pos h2, a1 h1, a2 h2]
  · rw [if_pos h1, if_neg h2, if_pos h1, if_neg h2, a1 h1]
  · rw [if_neg h1, if_pos h2, if_neg h1, if_pos h2, a2 h2]
  · rw [if_neg h1, if_neg h2, if_neg h1, if_neg h2]
/-- closed under the four neighbours, by rows from below and columns from the right -/
theorem w_closed {d : Int} {g : Nat → Int} (hd : 0 ≤ d) : ∀ s n, s < 48 → n < 48 → nbr s n → wD d (wS d g 48) 48 n - d ≤ wD d (wS d g 48) 48 s := by
  have lo : ∀ i, i < 48 → wS d g 48 i ≤ wD d (wS d g 48) 48 i := fun i hi => by rw [wD_48 hi]; omega
  have rt : ∀ i, i < 48 → i % 8 < 7 → wD d (wS d g 48) 48 (i + 1) - d ≤ wD d (wS d g 48) 48 i := fun i hi h => by rw [wD_48 hi, if_pos h]; omega
  have dw : ∀ i, i < 40 → wD d (wS d g 48) 48 (i + 8) - d ≤ wD d (wS d g 48) 48 i := fun i hi => by rw [wD_48 (show i < 48 by omega), if_pos hi]; omega
  have up : ∀ i, i < 48 → wD d (wS d g 48) 48 i = wS d g 48 i ∨ (i % 8 < 7 ∧ wD d (wS d g 48) 48 i = wD d (wS d g 48) 48 (i + 1) - d) ∨ (i < 40 ∧ wD d (wS d g 48) 48 i = wD d (wS d g 48) 48 (i + 8) - d) := fun i hi => by
    have e := wD_48 (d := d) (g := wS d g 48) hi
    by_cases h1 : i % 8 < 7 <;> by_cases h2 : i < 40
    · rw [if_pos h1, if_pos h2] at e; omega
    · rw [if_pos h1, if_neg h2] at e; omega
    · rw [if_neg h1, if_pos h2] at e; omega
    · rw [if_neg h1, if_neg h2] at e; omega
  generalize hA : wD d (wS d g 48) 48 = A at *
  generalize hB : wS d g 48 = B at *
  have bl : ∀ i, i < 48 → 0 < i % 8 → B (i - 1) - d ≤ B i := fun i hi h => by rw [← hB]; exact (wS_low hi).2.1 h
  have bu : ∀ i, i < 48 → 8 ≤ i → B (i - 8) - d ≤ B i := fun i hi h => by rw [← hB]; exact (wS_low hi).2.2 h
  -- to the left: rows from below
  have left : ∀ r i, i < 48 → 40 ≤ i + 8 * r → 0 < i % 8 → A (i - 1) - d ≤ A i := by
    intro r
    induction r with
    | zero =>
      intro i hi hr h
      have e : i - 1 + 1 = i := by omega
      rcases up (i - 1) (by omega) with q | ⟨_, q⟩ | ⟨q0, q⟩
      · have := lo i hi; have := bl i hi h; omega
      · rw [e] at q; omega
      · omega
    | succ r ih =>
      intro i hi hr h
      have e : i - 1 + 1 = i := by omega
      rcases up (i - 1) (by omega) with q | ⟨_, q⟩ | ⟨q0, q⟩
      · have := lo i hi; have := bl i hi h; omega
      · rw [e] at q; omega
      · by_cases h40 : i < 40
        · have h1 := ih (i + 8) (by omega) (by omega) (by omega)
          have e2 : i + 8 - 1 = i - 1 + 8 := by omega
          rw [e2] at h1
          have h2 := dw i h40
          omega
        · omega
  -- up: columns from the right
  have upw : ∀ c i, i < 48 → 7 ≤ i % 8 + c → 8 ≤ i → A (i - 8) - d ≤ A i := by
    intro c
    induction c with
    | zero =>
      intro i hi hc h
      have e : i - 8 + 8 = i := by omega
      rcases up (i - 8) (by omega) with q | ⟨q0, q⟩ | ⟨q0, q⟩
      · have := lo i hi; have := bu i hi h; omega
      · omega
      · rw [e] at q; omega
    | succ c ih =>
      intro i hi hc h
      have e : i - 8 + 8 = i := by omega
      rcases up (i - 8) (by omega) with q | ⟨q0, q⟩ | ⟨q0, q⟩
      · have := lo i hi; have := bu i hi h; omega
      · by_cases h7 : i % 8 < 7
        · have h1 := ih (i + 1) (by omega) (by omega) (by omega)
          have e2 : i + 1 - 8 = i - 8 + 1 := by omega
          rw [e2] at h1
          have h2 := rt i hi h7
          omega
        · omega
      · rw [e] at q; omega
  intro s n hs hn h
  rcases h with ⟨h1, h2⟩ | ⟨h1, h2⟩ | h2 | h2
  · have := left 6 s hs (by omega) (by omega)
    rw [show s - 1 = n by omega] at this; exact this
  · subst h2; exact rt s hs (by omega)
  · have := upw 7 s hs (by omega) (by omega)
    rw [show s - 8 = n by omega] at this; exact this
  · subst h2; exact dw s (by omega)
/-- below every closed array above the start -/
theorem wS_min {d : Int} {g c : Nat → Int} (hc : ∀ s n, s < 48 → n < 48 → nbr s n → c n - d ≤ c s) (hg : ∀ j, j < 48 → g j ≤ c j) : ∀ n, n ≤ 48 → ∀ j, j < 48 → wS d g n j ≤ c j := by
  intro n
  induction n with
  | zero => intro _; exact hg
  | succ n ih =>
    intro hn j hj
    have h := ih (by omega)
    rw [wS]
    by_cases e : j = n
    · subst e
      rw [u1_s, mS]
      have h0 := h j hj
      by_cases h1 : 0 < j % 8 <;> by_cases h2 : 8 ≤ j
      · rw [if_pos h1, if_pos h2]
        have a1 := h (j - 1) (by omega); have a2 := h (j - 8) (by omega)
        have b1 := hc j (j - 1) hj (by omega) (Or.inl ⟨by omega, by omega⟩)
        have b2 := hc j (j - 8) hj (by omega) (Or.inr (Or.inr (Or.inl (by omega))))
        omega
      · rw [if_pos h1, if_neg h2]
        have a1 := h (j - 1) (by omega)
        have b1 := hc j (j - 1) hj (by omega) (Or.inl ⟨by omega, by omega⟩)
        omega
      · rw [if_neg h1, if_pos h2]
        have a2 := h (j - 8) (by omega)
        have b2 := hc j (j - 8) hj (by omega) (Or.inr (Or.inr (Or.inl (by omega))))
        omega
      · rw [if_neg h1, if_neg h2]; omega
    · rw [u1_n e]; exact h j hj
theorem wD_min {d : Int} {g c : Nat → Int} (hc : ∀ s n, s < 48 → n < 48 → nbr s n → c n - d ≤ c s) (hg : ∀ j, j < 48 → g j ≤ c j) : ∀ n, n ≤ 48 → ∀ j, j < 48 → wD d g n j ≤ c j := by
  intro n
  induction n with
  | zero => intro _; exact hg
  | succ n ih =>
    intro hn j hj
    have h := ih (by omega)
    rw [wD]
    by_cases e : j = 47 - n
    · subst e
      rw [u1_s, mD]
      generalize hq : 47 - n = q at *
      have h0 := h q hj
      by_cases h1 : q % 8 < 7 <;> by_cases h2 : q < 40
      · rw [if_pos h1, if_pos h2]
        have a1 := h (q + 1) (by omega); have a2 := h (q + 8) (by omega)
        have b1 := hc q (q + 1) hj (by omega) (Or.inr (Or.inl ⟨by omega, rfl⟩))
        have b2 := hc q (q + 8) hj (by omega) (Or.inr (Or.inr (Or.inr rfl)))
        omega
      · rw [if_pos h1, if_neg h2]
        have a1 := h (q + 1) (by omega)
        have b1 := hc q (q + 1) hj (by omega) (Or.inr (Or.inl ⟨by omega, rfl⟩))
        omega
      · rw [if_neg h1, if_pos h2]
        have a2 := h (q + 8) (by omega)
        have b2 := hc q (q + 8) hj (by omega) (Or.inr (Or.inr (Or.inr rfl)))
        omega
      · rw [if_neg h1, if_neg h2]; omega
    · rw [u1_n e]; exact h j hj
