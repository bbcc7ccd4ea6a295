def pC_as (zc : CS) (g : Int32) (k : Int32) (r : Int32) (u : CS) : Prop :=
  ((∀ j, j < cs_n zc 1 → g ≠ nI j) ∧ r = ((-1)) ∧ u = (va_up (cs_i zc) 2 0, cs_n zc, cs_I zc, cs_L zc, cs_N zc, cs_S zc, cs_X zc)) ∨
  (∃ jg : Nat, g = nI jg ∧ (jg < cs_n zc 1) ∧ (cs_N zc 1 jg = 1) ∧ (0 ≤ k ∧ k ≤ 2) ∧ (k = 2) ∧ r = (-10 - 2) ∧ u = (va_up (cs_i zc) 2 2, cs_n zc, cs_I zc, cs_L zc, cs_N zc, cs_S zc, cs_X zc)) ∨
  (∃ jg : Nat, g = nI jg ∧ (jg < cs_n zc 1) ∧ (cs_N zc 1 jg = 1) ∧ (0 ≤ k ∧ k ≤ 2) ∧ (¬ (k = 2)) ∧ r = (1) ∧ u = (va_up (cs_i zc) 2 0, cs_n zc, cs_I zc, cs_L zc, cs_N zc, cs_S zc, cs_X zc)) ∨
  (∃ jg : Nat, g = nI jg ∧ (jg < cs_n zc 1) ∧ (cs_N zc 1 jg = 1) ∧ (¬ (0 ≤ k ∧ k ≤ 2)) ∧ r = ((-2)) ∧ u = (va_up (cs_i zc) 2 0, cs_n zc, cs_I zc, cs_L zc, cs_N zc, cs_S zc, cs_X zc)) ∨
  (∃ jg : Nat, g = nI jg ∧ (jg < cs_n zc 1) ∧ (cs_N zc 1 jg = 2) ∧ (0 ≤ k ∧ k ≤ 2) ∧ (k = 2 ∨ k = 1) ∧ r = (-10 - 2) ∧ u = (va_up (cs_i zc) 2 2, cs_n zc, cs_I zc, cs_L zc, cs_N zc, cs_S zc, cs_X zc)) ∨
  (∃ jg : Nat, g = nI jg ∧ (jg < cs_n zc 1) ∧ (cs_N zc 1 jg = 2) ∧ (0 ≤ k ∧ k ≤ 2) ∧ (¬ (k = 2 ∨ k = 1)) ∧ r = (1) ∧ u = (va_up (cs_i zc) 2 0, cs_n zc, cs_I zc, cs_L zc, cs_N zc, cs_S zc, cs_X zc)) ∨
  (∃ jg : Nat, g = nI jg ∧ (jg < cs_n zc 1) ∧ (cs_N zc 1 jg = 2) ∧ (¬ (0 ≤ k ∧ k ≤ 2)) ∧ r = ((-2)) ∧ u = (va_up (cs_i zc) 2 0, cs_n zc, cs_I zc, cs_L zc, cs_N zc, cs_S zc, cs_X zc)) ∨
  (∃ jg : Nat, g = nI jg ∧ (jg < cs_n zc 1) ∧ (cs_N zc 1 jg = 4) ∧ (0 ≤ k ∧ k ≤ 2) ∧ (¬ (k = k)) ∧ r = (-10 - 2) ∧ u = (va_up (cs_i zc) 2 2, cs_n zc, cs_I zc, cs_L zc, cs_N zc, cs_S zc, cs_X zc)) ∨
  (∃ jg : Nat, g = nI jg ∧ (jg < cs_n zc 1) ∧ (cs_N zc 1 jg = 4) ∧ (0 ≤ k ∧ k ≤ 2) ∧ (k = k) ∧ r = (1) ∧ u = (va_up (cs_i zc) 2 0, cs_n zc, cs_I zc, cs_L zc, cs_N zc, cs_S zc, cs_X zc)) ∨
  (∃ jg : Nat, g = nI jg ∧ (jg < cs_n zc 1) ∧ (cs_N zc 1 jg = 4) ∧ (¬ (0 ≤ k ∧ k ≤ 2)) ∧ r = ((-2)) ∧ u = (va_up (cs_i zc) 2 0, cs_n zc, cs_I zc, cs_L zc, cs_N zc, cs_S zc, cs_X zc))
set_option maxHeartbeats 4000000 in
theorem lf_as_0 (cA : Nat → ClassId) (zc : CS) (g : Int32) (k : Int32) (hnojg : ∀ j, j < cs_n zc 1 → g ≠ nI j) (hI : invC zc) : invC (va_up (cs_i zc) 2 0, cs_n zc, cs_I zc, cs_L zc, cs_N zc, cs_S zc, cs_X zc) ∧ kAll (cF cA (va_up (cs_i zc) 2 0, cs_n zc, cs_I zc, cs_L zc, cs_N zc, cs_S zc, cs_X zc)) [(0, 0), (0, 7)] [(cs_X zc 0 0, .inr (10, [.ref (cs_X zc 0 1), .ref (cs_X zc 0 6), .ref (cs_X zc 0 7), .ref (cs_X zc 0 8), .ref (cs_X zc 0 9), .ref (cs_X zc 0 10), .ref (cs_X zc 0 11), .int (nI (cs_n zc 0)), .int (nI (cs_n zc 1)), .int (nI (cs_n zc 2)), .int (nI (cs_n zc 3)), va_rf (opN (cs_n zc 4) (fun _ => cs_X zc 5 0)), .int 0])), cR7 cA zc] ∧ ∀ i j, (i, j) ∉ ([(0, 0), (0, 7)] : List (Nat × Nat)) → cF cA (va_up (cs_i zc) 2 0, cs_n zc, cs_I zc, cs_L zc, cs_N zc, cs_S zc, cs_X zc) i j = none ∨ ((i, j) ∉ ([(0, 0), (0, 7)] : List (Nat × Nat)) ∧ cF cA (va_up (cs_i zc) 2 0, cs_n zc, cs_I zc, cs_L zc, cs_N zc, cs_S zc, cs_X zc) i j = cF cA zc i j) := by
  obtain ⟨⟨hn0, hn1, hn2, hn3, hn4, hn5⟩, hpi, hgk, htk, hpk, hsh⟩ := id hI
  refine ⟨hI, ⟨(by (rw [(kF_tp (cA := cA) (z := (va_up (cs_i zc) 2 0, cs_n zc, cs_I zc, cs_L zc, cs_N zc, cs_S zc, cs_X zc)))]) <;> simp [cTP, cTPN, cTPA, cLo, cA2, cA3, cA4, cA5, cR6, cR7, cR8, cR9, cR10, cTr, cPi, cPiN, cPiT, cGa, cGaK, cTa, cPa, cAu, cAuN, cAuB, cSh, cSc, cs_i, cs_n, cs_I, cs_L, cs_N, cs_S, cs_X, va_up, upd, opN]), (by (rw [(kF_r7 (cA := cA) (z := (va_up (cs_i zc) 2 0, cs_n zc, cs_I zc, cs_L zc, cs_N zc, cs_S zc, cs_X zc)))]) <;> simp [cTP, cTPN, cTPA, cLo, cA2, cA3, cA4, cA5, cR6, cR7, cR8, cR9, cR10, cTr, cPi, cPiN, cPiT, cGa, cGaK, cTa, cPa, cAu, cAuN, cAuB, cSh, cSc, cs_i, cs_n, cs_I, cs_L, cs_N, cs_S, cs_X, va_up, upd, opN]), trivial⟩, ?_⟩
  intro i j hij
  refine Or.inr ⟨hij, ?_⟩
  rcases i with _ | _ | _ | _ | _ | _ | _ | _ | i
  · rcases j with _ | _ | _ | _ | _ | _ | _ | _ | _ | _ | _ | _ | j
    · exact absurd (by simp) hij
    · show some (cLo (va_up (cs_i zc) 2 0, cs_n zc, cs_I zc, cs_L zc, cs_N zc, cs_S zc, cs_X zc)) = some (cLo zc); simp [cLo, cs_i, cs_n, cs_I, cs_L, cs_N, cs_S, cs_X, va_up]
    · show some (cA2 cA (va_up (cs_i zc) 2 0, cs_n zc, cs_I zc, cs_L zc, cs_N zc, cs_S zc, cs_X zc)) = some (cA2 cA zc); simp [cA2, cs_i, cs_n, cs_I, cs_L, cs_N, cs_S, cs_X, va_up]
    · show some (cA3 cA (va_up (cs_i zc) 2 0, cs_n zc, cs_I zc, cs_L zc, cs_N zc, cs_S zc, cs_X zc)) = some (cA3 cA zc); simp [cA3, cs_i, cs_n, cs_I, cs_L, cs_N, cs_S, cs_X, va_up]
    · show some (cA4 cA (va_up (cs_i zc) 2 0, cs_n zc, cs_I zc, cs_L zc, cs_N zc, cs_S zc, cs_X zc)) = some (cA4 cA zc); simp [cA4, cs_i, cs_n, cs_I, cs_L, cs_N, cs_S, cs_X, va_up]
    · show some (cA5 cA (va_up (cs_i zc) 2 0, cs_n zc, cs_I zc, cs_L zc, cs_N zc, cs_S zc, cs_X zc)) = some (cA5 cA zc); simp [cA5, cs_i, cs_n, cs_I, cs_L, cs_N, cs_S, cs_X, va_up]
    · show some (cR6 cA (va_up (cs_i zc) 2 0, cs_n zc, cs_I zc, cs_L zc, cs_N zc, cs_S zc, cs_X zc)) = some (cR6 cA zc); simp [cR6, cs_i, cs_n, cs_I, cs_L, cs_N, cs_S, cs_X, va_up]
    · exact absurd (by simp) hij
    · show some (cR8 cA (va_up (cs_i zc) 2 0, cs_n zc, cs_I zc, cs_L zc, cs_N zc, cs_S zc, cs_X zc)) = some (cR8 cA zc); simp [cR8, cs_i, cs_n, cs_I, cs_L, cs_N, cs_S, cs_X, va_up]
    · show some (cR9 cA (va_up (cs_i zc) 2 0, cs_n zc, cs_I zc, cs_L zc, cs_N zc, cs_S zc, cs_X zc)) = some (cR9 cA zc); simp [cR9, cs_i, cs_n, cs_I, cs_L, cs_N, cs_S, cs_X, va_up]
    · show some (cR10 cA (va_up (cs_i zc) 2 0, cs_n zc, cs_I zc, cs_L zc, cs_N zc, cs_S zc, cs_X zc)) = some (cR10 cA zc); simp [cR10, cs_i, cs_n, cs_I, cs_L, cs_N, cs_S, cs_X, va_up]
    · show some (cTr (va_up (cs_i zc) 2 0, cs_n zc, cs_I zc, cs_L zc, cs_N zc, cs_S zc, cs_X zc)) = some (cTr zc); simp [cTr, cs_i, cs_n, cs_I, cs_L, cs_N, cs_S, cs_X, va_up]
    · show (none : Option (Nat × va_E)) = none; rfl
  · show (if j < cs_n (va_up (cs_i zc) 2 0, cs_n zc, cs_I zc, cs_L zc, cs_N zc, cs_S zc, cs_X zc) 0 then some (cPi (va_up (cs_i zc) 2 0, cs_n zc, cs_I zc, cs_L zc, cs_N zc, cs_S zc, cs_X zc) j) else none) = if j < cs_n zc 0 then some (cPi zc j) else none
    simp [cPi, cs_i, cs_n, cs_I, cs_L, cs_N, cs_S, cs_X, va_up]
  · show (if j < cs_n (va_up (cs_i zc) 2 0, cs_n zc, cs_I zc, cs_L zc, cs_N zc, cs_S zc, cs_X zc) 1 then some (cGa (va_up (cs_i zc) 2 0, cs_n zc, cs_I zc, cs_L zc, cs_N zc, cs_S zc, cs_X zc) j) else none) = if j < cs_n zc 1 then some (cGa zc j) else none
    simp [cGa, cs_i, cs_n, cs_I, cs_L, cs_N, cs_S, cs_X, va_up]
  · show (if j < cs_n (va_up (cs_i zc) 2 0, cs_n zc, cs_I zc, cs_L zc, cs_N zc, cs_S zc, cs_X zc) 2 then some (cTa (va_up (cs_i zc) 2 0, cs_n zc, cs_I zc, cs_L zc, cs_N zc, cs_S zc, cs_X zc) j) else none) = if j < cs_n zc 2 then some (cTa zc j) else none
    simp [cTa, cs_i, cs_n, cs_I, cs_L, cs_N, cs_S, cs_X, va_up]
  · show (if j < cs_n (va_up (cs_i zc) 2 0, cs_n zc, cs_I zc, cs_L zc, cs_N zc, cs_S zc, cs_X zc) 3 then some (cPa (va_up (cs_i zc) 2 0, cs_n zc, cs_I zc, cs_L zc, cs_N zc, cs_S zc, cs_X zc) j) else none) = if j < cs_n zc 3 then some (cPa zc j) else none
    simp [cPa, cs_i, cs_n, cs_I, cs_L, cs_N, cs_S, cs_X, va_up]
  · show (if j = 0 ∧ ¬ cs_n (va_up (cs_i zc) 2 0, cs_n zc, cs_I zc, cs_L zc, cs_N zc, cs_S zc, cs_X zc) 4 = 0 then some (cAu (va_up (cs_i zc) 2 0, cs_n zc, cs_I zc, cs_L zc, cs_N zc, cs_S zc, cs_X zc)) else none) = if j = 0 ∧ ¬ cs_n zc 4 = 0 then some (cAu zc) else none
    simp [cAu, cs_i, cs_n, cs_I, cs_L, cs_N, cs_S, cs_X, va_up]
  · show (if j < 4 then some (cSh (va_up (cs_i zc) 2 0, cs_n zc, cs_I zc, cs_L zc, cs_N zc, cs_S zc, cs_X zc) j) else none) = if j < 4 then some (cSh zc j) else none
    simp [cSh, cs_i, cs_n, cs_I, cs_L, cs_N, cs_S, cs_X, va_up]
  · show (if j < 4 then some (cSc cA (va_up (cs_i zc) 2 0, cs_n zc, cs_I zc, cs_L zc, cs_N zc, cs_S zc, cs_X zc) j) else none) = if j < 4 then some (cSc cA zc j) else none
    simp [cSc, cs_i, cs_n, cs_I, cs_L, cs_N, cs_S, cs_X, va_up]
  · show (none : Option (Nat × va_E)) = none; rfl
set_option maxHeartbeats 4000000 in
theorem lf_as_1 (cA : Nat → ClassId) (zc : CS) (k : Int32) (jg : Nat) (hjg : jg < cs_n zc 1) (hk : cs_N zc 1 jg = 1) (c4 : 0 ≤ k ∧ k ≤ 2) (c6 : k = 2) (hI : invC zc) : invC (va_up (cs_i zc) 2 2, cs_n zc, cs_I zc, cs_L zc, cs_N zc, cs_S zc, cs_X zc) ∧ kAll (cF cA (va_up (cs_i zc) 2 2, cs_n zc, cs_I zc, cs_L zc, cs_N zc, cs_S zc, cs_X zc)) [(0, 0), (0, 7), (2, jg)] [(cs_X zc 0 0, .inr (10, [.ref (cs_X zc 0 1), .ref (cs_X zc 0 6), .ref (cs_X zc 0 7), .ref (cs_X zc 0 8), .ref (cs_X zc 0 9), .ref (cs_X zc 0 10), .ref (cs_X zc 0 11), .int (nI (cs_n zc 0)), .int (nI (cs_n zc 1)), .int (nI (cs_n zc 2)), .int (nI (cs_n zc 3)), va_rf (opN (cs_n zc 4) (fun _ => cs_X zc 5 0)), .int 2])), cR7 cA zc, cGaK zc jg 1] ∧ ∀ i j, (i, j) ∉ ([(0, 0), (0, 7), (2, jg)] : List (Nat × Nat)) → cF cA (va_up (cs_i zc) 2 2, cs_n zc, cs_I zc, cs_L zc, cs_N zc, cs_S zc, cs_X zc) i j = none ∨ ((i, j) ∉ ([(0, 0), (0, 7), (2, jg)] : List (Nat × Nat)) ∧ cF cA (va_up (cs_i zc) 2 2, cs_n zc, cs_I zc, cs_L zc, cs_N zc, cs_S zc, cs_X zc) i j = cF cA zc i j) := by
  obtain ⟨⟨hn0, hn1, hn2, hn3, hn4, hn5⟩, hpi, hgk, htk, hpk, hsh⟩ := id hI
  refine ⟨hI, ⟨(by (rw [(kF_tp (cA := cA) (z := (va_up (cs_i zc) 2 2, cs_n zc, cs_I zc, cs_L zc, cs_N zc, cs_S zc, cs_X zc)))]) <;> simp [cTP, cTPN, cTPA, cLo, cA2, cA3, cA4, cA5, cR6, cR7, cR8, cR9, cR10, cTr, cPi, cPiN, cPiT, cGa, cGaK, cTa, cPa, cAu, cAuN, cAuB, cSh, cSc, cs_i, cs_n, cs_I, cs_L, cs_N, cs_S, cs_X, va_up, upd, opN]), (by (rw [(kF_r7 (cA := cA) (z := (va_up (cs_i zc) 2 2, cs_n zc, cs_I zc, cs_L zc, cs_N zc, cs_S zc, cs_X zc)))]) <;> simp [cTP, cTPN, cTPA, cLo, cA2, cA3, cA4, cA5, cR6, cR7, cR8, cR9, cR10, cTr, cPi, cPiN, cPiT, cGa, cGaK, cTa, cPa, cAu, cAuN, cAuB, cSh, cSc, cs_i, cs_n, cs_I, cs_L, cs_N, cs_S, cs_X, va_up, upd, opN]), (by (rw [(kF_gaK (z := (va_up (cs_i zc) 2 2, cs_n zc, cs_I zc, cs_L zc, cs_N zc, cs_S zc, cs_X zc)) (j := jg) hjg hk)]) <;> simp [cTP, cTPN, cTPA, cLo, cA2, cA3, cA4, cA5, cR6, cR7, cR8, cR9, cR10, cTr, cPi, cPiN, cPiT, cGa, cGaK, cTa, cPa, cAu, cAuN, cAuB, cSh, cSc, cs_i, cs_n, cs_I, cs_L, cs_N, cs_S, cs_X, va_up, upd, opN]), trivial⟩, ?_⟩
  intro i j hij
  refine Or.inr ⟨hij, ?_⟩
  rcases i with _ | _ | _ | _ | _ | _ | _ | _ | i
  · rcases j with _ | _ | _ | _ | _ | _ | _ | _ | _ | _ | _ | _ | j
    · exact absurd (by simp) hij
    · show some (cLo (va_up (cs_i zc) 2 2, cs_n zc, cs_I zc, cs_L zc, cs_N zc, cs_S zc, cs_X zc)) = some (cLo zc); simp [cLo, cs_i, cs_n, cs_I, cs_L, cs_N, cs_S, cs_X, va_up]
    · show some (cA2 cA (va_up (cs_i zc) 2 2, cs_n zc, cs_I zc, cs_L zc, cs_N zc, cs_S zc, cs_X zc)) = some (cA2 cA zc); simp [cA2, cs_i, cs_n, cs_I, cs_L, cs_N, cs_S, cs_X, va_up]
    · show some (cA3 cA (va_up (cs_i zc) 2 2, cs_n zc, cs_I zc, cs_L zc, cs_N zc, cs_S zc, cs_X zc)) = some (cA3 cA zc); simp [cA3, cs_i, cs_n, cs_I, cs_L, cs_N, cs_S, cs_X, va_up]
    · show some (cA4 cA (va_up (cs_i zc) 2 2, cs_n zc, cs_I zc, cs_L zc, cs_N zc, cs_S zc, cs_X zc)) = some (cA4 cA zc); simp [cA4, cs_i, cs_n, cs_I, cs_L, cs_N, cs_S, cs_X, va_up]
    · show some (cA5 cA (va_up (cs_i zc) 2 2, cs_n zc, cs_I zc, cs_L zc, cs_N zc, cs_S zc, cs_X zc)) = some (cA5 cA zc); simp [cA5, cs_i, cs_n, cs_I, cs_L, cs_N, cs_S, cs_X, va_up]
    · show some (cR6 cA (va_up (cs_i zc) 2 2, cs_n zc, cs_I zc, cs_L zc, cs_N zc, cs_S zc, cs_X zc)) = some (cR6 cA zc); simp [cR6, cs_i, cs_n, cs_I, cs_L, cs_N, cs_S, cs_X, va_up]
    · exact absurd (by simp) hij
    · show some (cR8 cA (va_up (cs_i zc) 2 2, cs_n zc, cs_I zc, cs_L zc, cs_N zc, cs_S zc, cs_X zc)) = some (cR8 cA zc); simp [cR8, cs_i, cs_n, cs_I, cs_L, cs_N, cs_S, cs_X, va_up]
    · show some (cR9 cA (va_up (cs_i zc) 2 2, cs_n zc, cs_I zc, cs_L zc, cs_N zc, cs_S zc, cs_X zc)) = some (cR9 cA zc); simp [cR9, cs_i, cs_n, cs_I, cs_L, cs_N, cs_S, cs_X, va_up]
    · show some (cR10 cA (va_up (cs_i zc) 2 2, cs_n zc, cs_I zc, cs_L zc, cs_N zc, cs_S zc, cs_X zc)) = some (cR10 cA zc); simp [cR10, cs_i, cs_n, cs_I, cs_L, cs_N, cs_S, cs_X, va_up]
    · show some (cTr (va_up (cs_i zc) 2 2, cs_n zc, cs_I zc, cs_L zc, cs_N zc, cs_S zc, cs_X zc)) = some (cTr zc); simp [cTr, cs_i, cs_n, cs_I, cs_L, cs_N, cs_S, cs_X, va_up]
    · show (none : Option (Nat × va_E)) = none; rfl
  · show (if j < cs_n (va_up (cs_i zc) 2 2, cs_n zc, cs_I zc, cs_L zc, cs_N zc, cs_S zc, cs_X zc) 0 then some (cPi (va_up (cs_i zc) 2 2, cs_n zc, cs_I zc, cs_L zc, cs_N zc, cs_S zc, cs_X zc) j) else none) = if j < cs_n zc 0 then some (cPi zc j) else none
    simp [cPi, cs_i, cs_n, cs_I, cs_L, cs_N, cs_S, cs_X, va_up]
  · show (if j < cs_n (va_up (cs_i zc) 2 2, cs_n zc, cs_I zc, cs_L zc, cs_N zc, cs_S zc, cs_X zc) 1 then some (cGa (va_up (cs_i zc) 2 2, cs_n zc, cs_I zc, cs_L zc, cs_N zc, cs_S zc, cs_X zc) j) else none) = if j < cs_n zc 1 then some (cGa zc j) else none
    simp [cGa, cs_i, cs_n, cs_I, cs_L, cs_N, cs_S, cs_X, va_up]
  · show (if j < cs_n (va_up (cs_i zc) 2 2, cs_n zc, cs_I zc, cs_L zc, cs_N zc, cs_S zc, cs_X zc) 2 then some (cTa (va_up (cs_i zc) 2 2, cs_n zc, cs_I zc, cs_L zc, cs_N zc, cs_S zc, cs_X zc) j) else none) = if j < cs_n zc 2 then some (cTa zc j) else none
    simp [cTa, cs_i, cs_n, cs_I, cs_L, cs_N, cs_S, cs_X, va_up]
  · show (if j < cs_n (va_up (cs_i zc) 2 2, cs_n zc, cs_I zc, cs_L zc, cs_N zc, cs_S zc, cs_X zc) 3 then some (cPa (va_up (cs_i zc) 2 2, cs_n zc, cs_I zc, cs_L zc, cs_N zc, cs_S zc, cs_X zc) j) else none) = if j < cs_n zc 3 then some (cPa zc j) else none
    simp [cPa, cs_i, cs_n, cs_I, cs_L, cs_N, cs_S, cs_X, va_up]
  · show (if j = 0 ∧ ¬ cs_n (va_up (cs_i zc) 2 2, cs_n zc, cs_I zc, cs_L zc, cs_N zc, cs_S zc, cs_X zc) 4 = 0 then some (cAu (va_up (cs_i zc) 2 2, cs_n zc, cs_I zc, cs_L zc, cs_N zc, cs_S zc, cs_X zc)) else none) = if j = 0 ∧ ¬ cs_n zc 4 = 0 then some (cAu zc) else none
    simp [cAu, cs_i, cs_n, cs_I, cs_L, cs_N, cs_S, cs_X, va_up]
  · show (if j < 4 then some (cSh (va_up (cs_i zc) 2 2, cs_n zc, cs_I zc, cs_L zc, cs_N zc, cs_S zc, cs_X zc) j) else none) = if j < 4 then some (cSh zc j) else none
    simp [cSh, cs_i, cs_n, cs_I, cs_L, cs_N, cs_S, cs_X, va_up]
  · show (if j < 4 then some (cSc cA (va_up (cs_i zc) 2 2, cs_n zc, cs_I zc, cs_L zc, cs_N zc, cs_S zc, cs_X zc) j) else none) = if j < 4 then some (cSc cA zc j) else none
    simp [cSc, cs_i, cs_n, cs_I, cs_L, cs_N, cs_S, cs_X, va_up]
  · show (none : Option (Nat × va_E)) = none; rfl
set_option maxHeartbeats 4000000 in
theorem lf_as_2 (cA : Nat → ClassId) (zc : CS) (k : Int32) (jg : Nat) (hjg : jg < cs_n zc 1) (hk : cs_N zc 1 jg = 1) (c4 : 0 ≤ k ∧ k ≤ 2) (c6 : ¬ (k = 2)) (hI : invC zc) : invC (va_up (cs_i zc) 2 0, cs_n zc, cs_I zc, cs_L zc, cs_N zc, cs_S zc, cs_X zc) ∧ kAll (cF cA (va_up (cs_i zc) 2 0, cs_n zc, cs_I zc, cs_L zc, cs_N zc, cs_S zc, cs_X zc)) [(0, 0), (0, 7), (2, jg)] [(cs_X zc 0 0, .inr (10, [.ref (cs_X zc 0 1), .ref (cs_X zc 0 6), .ref (cs_X zc 0 7), .ref (cs_X zc 0 8), .ref (cs_X zc 0 9), .ref (cs_X zc 0 10), .ref (cs_X zc 0 11), .int (nI (cs_n zc 0)), .int (nI (cs_n zc 1)), .int (nI (cs_n zc 2)), .int (nI (cs_n zc 3)), va_rf (opN (cs_n zc 4) (fun _ => cs_X zc 5 0)), .int 0])), cR7 cA zc, cGaK zc jg 1] ∧ ∀ i j, (i, j) ∉ ([(0, 0), (0, 7), (2, jg)] : List (Nat × Nat)) → cF cA (va_up (cs_i zc) 2 0, cs_n zc, cs_I zc, cs_L zc, cs_N zc, cs_S zc, cs_X zc) i j = none ∨ ((i, j) ∉ ([(0, 0), (0, 7), (2, jg)] : List (Nat × Nat)) ∧ cF cA (va_up (cs_i zc) 2 0, cs_n zc, cs_I zc, cs_L zc, cs_N zc, cs_S zc, cs_X zc) i j = cF cA zc i j) := by
  obtain ⟨⟨hn0, hn1, hn2, hn3, hn4, hn5⟩, hpi, hgk, htk, hpk, hsh⟩ := id hI
  refine ⟨hI, ⟨(by (rw [(kF_tp (cA := cA) (z := (va_up (cs_i zc) 2 0, cs_n zc, cs_I zc, cs_L zc, cs_N zc, cs_S zc, cs_X zc)))]) <;> simp [cTP, cTPN, cTPA, cLo, cA2, cA3, cA4, cA5, cR6, cR7, cR8, cR9, cR10, cTr, cPi, cPiN, cPiT, cGa, cGaK, cTa, cPa, cAu, cAuN, cAuB, cSh, cSc, cs_i, cs_n, cs_I, cs_L, cs_N, cs_S, cs_X, va_up, upd, opN]), (by (rw [(kF_r7 (cA := cA) (z := (va_up (cs_i zc) 2 0, cs_n zc, cs_I zc, cs_L zc, cs_N zc, cs_S zc, cs_X zc)))]) <;> simp [cTP, cTPN, cTPA, cLo, cA2, cA3, cA4, cA5, cR6, cR7, cR8, cR9, cR10, cTr, cPi, cPiN, cPiT, cGa, cGaK, cTa, cPa, cAu, cAuN, cAuB, cSh, cSc, cs_i, cs_n, cs_I, cs_L, cs_N, cs_S, cs_X, va_up, upd, opN]), (by (rw [(kF_gaK (z := (va_up (cs_i zc) 2 0, cs_n zc, cs_I zc, cs_L zc, cs_N zc, cs_S zc, cs_X zc)) (j := jg) hjg hk)]) <;> simp [cTP, cTPN, cTPA, cLo, cA2, cA3, cA4, cA5, cR6, cR7, cR8, cR9, cR10, cTr, cPi, cPiN, cPiT, cGa, cGaK, cTa, cPa, cAu, cAuN, cAuB, cSh, cSc, cs_i, cs_n, cs_I, cs_L, cs_N, cs_S, cs_X, va_up, upd, opN]), trivial⟩, ?_⟩
  intro i j hij
  refine Or.inr ⟨hij, ?_⟩
  rcases i with _ | _ | _ | _ | _ | _ | _ | _ | i
  · rcases j with _ | _ | _ | _ | _ | _ | _ | _ | _ | _ | _ | _ | j
    · exact absurd (by simp) hij
    · show some (cLo (va_up (cs_i zc) 2 0, cs_n zc, cs_I zc, cs_L zc, cs_N zc, cs_S zc, cs_X zc)) = some (cLo zc); simp [cLo, cs_i, cs_n, cs_I, cs_L, cs_N, cs_S, cs_X, va_up]
    · show some (cA2 cA (va_up (cs_i zc) 2 0, cs_n zc, cs_I zc, cs_L zc, cs_N zc, cs_S zc, cs_X zc)) = some (cA2 cA zc); simp [cA2, cs_i, cs_n, cs_I, cs_L, cs_N, cs_S, cs_X, va_up]
    · show some (cA3 cA (va_up (cs_i zc) 2 0, cs_n zc, cs_I zc, cs_L zc, cs_N zc, cs_S zc, cs_X zc)) = some (cA3 cA zc); simp [cA3, cs_i, cs_n, cs_I, cs_L, cs_N, cs_S, cs_X, va_up]
    · show some (cA4 cA (va_up (cs_i zc) 2 0, cs_n zc, cs_I zc, cs_L zc, cs_N zc, cs_S zc, cs_X zc)) = some (cA4 cA zc); simp [cA4, cs_i, cs_n, cs_I, cs_L, cs_N, cs_S, cs_X, va_up]
    · show some (cA5 cA (va_up (cs_i zc) 2 0, cs_n zc, cs_I zc, cs_L zc, cs_N zc, cs_S zc, cs_X zc)) = some (cA5 cA zc); simp [cA5, cs_i, cs_n, cs_I, cs_L, cs_N, cs_S, cs_X, va_up]
    · show some (cR6 cA (va_up (cs_i zc) 2 0, cs_n zc, cs_I zc, cs_L zc, cs_N zc, cs_S zc, cs_X zc)) = some (cR6 cA zc); simp [cR6, cs_i, cs_n, cs_I, cs_L, cs_N, cs_S, cs_X, va_up]
    · exact absurd (by simp) hij
    · show some (cR8 cA (va_up (cs_i zc) 2 0, cs_n zc, cs_I zc, cs_L zc, cs_N zc, cs_S zc, cs_X zc)) = some (cR8 cA zc); simp [cR8, cs_i, cs_n, cs_I, cs_L, cs_N, cs_S, cs_X, va_up]
    · show some (cR9 cA (va_up (cs_i zc) 2 0, cs_n zc, cs_I zc, cs_L zc, cs_N zc, cs_S zc, cs_X zc)) = some (cR9 cA zc); simp [cR9, cs_i, cs_n, cs_I, cs_L, cs_N, cs_S, cs_X, va_up]
    · show some (cR10 cA (va_up (cs_i zc) 2 0, cs_n zc, cs_I zc, cs_L zc, cs_N zc, cs_S zc, cs_X zc)) = some (cR10 cA zc); simp [cR10, cs_i, cs_n, cs_I, cs_L, cs_N, cs_S, cs_X, va_up]
    · show some (cTr (va_up (cs_i zc) 2 0, cs_n zc, cs_I zc, cs_L zc, cs_N zc, cs_S zc, cs_X zc)) = some (cTr zc); simp [cTr, cs_i, cs_n, cs_I, cs_L, cs_N, cs_S, cs_X, va_up]
    · show (none : Option (Nat × va_E)) = none; rfl
  · show (if j < cs_n (va_up (cs_i zc) 2 0, cs_n zc, cs_I zc, cs_L zc, cs_N zc, cs_S zc, cs_X zc) 0 then some (cPi (va_up (cs_i zc) 2 0, cs_n zc, cs_I zc, cs_L zc, cs_N zc, cs_S zc, cs_X zc) j) else none) = if j < cs_n zc 0 then some (cPi zc j) else none
    simp [cPi, cs_i, cs_n, cs_I, cs_L, cs_N, cs_S, cs_X, va_up]
  · show (if j < cs_n (va_up (cs_i zc) 2 0, cs_n zc, cs_I zc, cs_L zc, cs_N zc, cs_S zc, cs_X zc) 1 then some (cGa (va_up (cs_i zc) 2 0, cs_n zc, cs_I zc, cs_L zc, cs_N zc, cs_S zc, cs_X zc) j) else none) = if j < cs_n zc 1 then some (cGa zc j) else none
    simp [cGa, cs_i, cs_n, cs_I, cs_L, cs_N, cs_S, cs_X, va_up]
  · show (if j < cs_n (va_up (cs_i zc) 2 0, cs_n zc, cs_I zc, cs_L zc, cs_N zc, cs_S zc, cs_X zc) 2 then some (cTa (va_up (cs_i zc) 2 0, cs_n zc, cs_I zc, cs_L zc, cs_N zc, cs_S zc, cs_X zc) j) else none) = if j < cs_n zc 2 then some (cTa zc j) else none
    simp [cTa, cs_i, cs_n, cs_I, cs_L, cs_N, cs_S, cs_X, va_up]
  · show (if j < cs_n (va_up (cs_i zc) 2 0, cs_n zc, cs_I zc, cs_L zc, cs_N zc, cs_S zc, cs_X zc) 3 then some (cPa (va_up (cs_i zc) 2 0, cs_n zc, cs_I zc, cs_L zc, cs_N zc, cs_S zc, cs_X zc) j) else none) = if j < cs_n zc 3 then some (cPa zc j) else none
    simp [cPa, cs_i, cs_n, cs_I, cs_L, cs_N, cs_S, cs_X, va_up]
  · show (if j = 0 ∧ ¬ cs_n (va_up (cs_i zc) 2 0, cs_n zc, cs_I zc, cs_L zc, cs_N zc, cs_S zc, cs_X zc) 4 = 0 then some (cAu (va_up (cs_i zc) 2 0, cs_n zc, cs_I zc, cs_L zc, cs_N zc, cs_S zc, cs_X zc)) else none) = if j = 0 ∧ ¬ cs_n zc 4 = 0 then some (cAu zc) else none
    simp [cAu, cs_i, cs_n, cs_I, cs_L, cs_N, cs_S, cs_X, va_up]
  · show (if j < 4 then some (cSh (va_up (cs_i zc) 2 0, cs_n zc, cs_I zc, cs_L zc, cs_N zc, cs_S zc, cs_X zc) j) else none) = if j < 4 then some (cSh zc j) else none
    simp [cSh, cs_i, cs_n, cs_I, cs_L, cs_N, cs_S, cs_X, va_up]
  · show (if j < 4 then some (cSc cA (va_up (cs_i zc) 2 0, cs_n zc, cs_I zc, cs_L zc, cs_N zc, cs_S zc, cs_X zc) j) else none) = if j < 4 then some (cSc cA zc j) else none
    simp [cSc, cs_i, cs_n, cs_I, cs_L, cs_N, cs_S, cs_X, va_up]
  · show (none : Option (Nat × va_E)) = none; rfl
set_option maxHeartbeats 4000000 in
theorem lf_as_3 (cA : Nat → ClassId) (zc : CS) (k : Int32) (jg : Nat) (hjg : jg < cs_n zc 1) (hk : cs_N zc 1 jg = 1) (c4 : ¬ (0 ≤ k ∧ k ≤ 2)) (hI : invC zc) : invC (va_up (cs_i zc) 2 0, cs_n zc, cs_I zc, cs_L zc, cs_N zc, cs_S zc, cs_X zc) ∧ kAll (cF cA (va_up (cs_i zc) 2 0, cs_n zc, cs_I zc, cs_L zc, cs_N zc, cs_S zc, cs_X zc)) [(0, 0), (0, 7), (2, jg)] [(cs_X zc 0 0, .inr (10, [.ref (cs_X zc 0 1), .ref (cs_X zc 0 6), .ref (cs_X zc 0 7), .ref (cs_X zc 0 8), .ref (cs_X zc 0 9), .ref (cs_X zc 0 10), .ref (cs_X zc 0 11), .int (nI (cs_n zc 0)), .int (nI (cs_n zc 1)), .int (nI (cs_n zc 2)), .int (nI (cs_n zc 3)), va_rf (opN (cs_n zc 4) (fun _ => cs_X zc 5 0)), .int 0])), cR7 cA zc, cGaK zc jg 1] ∧ ∀ i j, (i, j) ∉ ([(0, 0), (0, 7), (2, jg)] : List (Nat × Nat)) → cF cA (va_up (cs_i zc) 2 0, cs_n zc, cs_I zc, cs_L zc, cs_N zc, cs_S zc, cs_X zc) i j = none ∨ ((i, j) ∉ ([(0, 0), (0, 7), (2, jg)] : List (Nat × Nat)) ∧ cF cA (va_up (cs_i zc) 2 0, cs_n zc, cs_I zc, cs_L zc, cs_N zc, cs_S zc, cs_X zc) i j = cF cA zc i j) := by
  obtain ⟨⟨hn0, hn1, hn2, hn3, hn4, hn5⟩, hpi, hgk, htk, hpk, hsh⟩ := id hI
  refine ⟨hI, ⟨(by (rw [(kF_tp (cA := cA) (z := (va_up (cs_i zc) 2 0, cs_n zc, cs_I zc, cs_L zc, cs_N zc, cs_S zc, cs_X zc)))]) <;> simp [cTP, cTPN, cTPA, cLo, cA2, cA3, cA4, cA5, cR6, cR7, cR8, cR9, cR10, cTr, cPi, cPiN, cPiT, cGa, cGaK, cTa, cPa, cAu, cAuN, cAuB, cSh, cSc, cs_i, cs_n, cs_I, cs_L, cs_N, cs_S, cs_X, va_up, upd, opN]), (by (rw [(kF_r7 (cA := cA) (z := (va_up (cs_i zc) 2 0, cs_n zc, cs_I zc, cs_L zc, cs_N zc, cs_S zc, cs_X zc)))]) <;> simp [cTP, cTPN, cTPA, cLo, cA2, cA3, cA4, cA5, cR6, cR7, cR8, cR9, cR10, cTr, cPi, cPiN, cPiT, cGa, cGaK, cTa, cPa, cAu, cAuN, cAuB, cSh, cSc, cs_i, cs_n, cs_I, cs_L, cs_N, cs_S, cs_X, va_up, upd, opN]), (by (rw [(kF_gaK (z := (va_up (cs_i zc) 2 0, cs_n zc, cs_I zc, cs_L zc, cs_N zc, cs_S zc, cs_X zc)) (j := jg) hjg hk)]) <;> simp [cTP, cTPN, cTPA, cLo, cA2, cA3, cA4, cA5, cR6, cR7, cR8, cR9, cR10, cTr, cPi, cPiN, cPiT, cGa, cGaK, cTa, cPa, cAu, cAuN, cAuB, cSh, cSc, cs_i, cs_n, cs_I, cs_L, cs_N, cs_S, cs_X, va_up, upd, opN]), trivial⟩, ?_⟩
  intro i j hij
  refine Or.inr ⟨hij, ?_⟩
  rcases i with _ | _ | _ | _ | _ | _ | _ | _ | i
  · rcases j with _ | _ | _ | _ | _ | _ | _ | _ | _ | _ | _ | _ | j
    · exact absurd (by simp) hij
    · show some (cLo (va_up (cs_i zc) 2 0, cs_n zc, cs_I zc, cs_L zc, cs_N zc, cs_S zc, cs_X zc)) = some (cLo zc); simp [cLo, cs_i, cs_n, cs_I, cs_L, cs_N, cs_S, cs_X, va_up]
    · show some (cA2 cA (va_up (cs_i zc) 2 0, cs_n zc, cs_I zc, cs_L zc, cs_N zc, cs_S zc, cs_X zc)) = some (cA2 cA zc); simp [cA2, cs_i, cs_n, cs_I, cs_L, cs_N, cs_S, cs_X, va_up]
    · show some (cA3 cA (va_up (cs_i zc) 2 0, cs_n zc, cs_I zc, cs_L zc, cs_N zc, cs_S zc, cs_X zc)) = some (cA3 cA zc); simp [cA3, cs_i, cs_n, cs_I, cs_L, cs_N, cs_S, cs_X, va_up]
    · show some (cA4 cA (va_up (cs_i zc) 2 0, cs_n zc, cs_I zc, cs_L zc, cs_N zc, cs_S zc, cs_X zc)) = some (cA4 cA zc); simp [cA4, cs_i, cs_n, cs_I, cs_L, cs_N, cs_S, cs_X, va_up]
    · show some (cA5 cA (va_up (cs_i zc) 2 0, cs_n zc, cs_I zc, cs_L zc, cs_N zc, cs_S zc, cs_X zc)) = some (cA5 cA zc); simp [cA5, cs_i, cs_n, cs_I, cs_L, cs_N, cs_S, cs_X, va_up]
    · show some (cR6 cA (va_up (cs_i zc) 2 0, cs_n zc, cs_I zc, cs_L zc, cs_N zc, cs_S zc, cs_X zc)) = some (cR6 cA zc); simp [cR6, cs_i, cs_n, cs_I, cs_L, cs_N, cs_S, cs_X, va_up]
    · exact absurd (by simp) hij
    · show some (cR8 cA (va_up (cs_i zc) 2 0, cs_n zc, cs_I zc, cs_L zc, cs_N zc, cs_S zc, cs_X zc)) = some (cR8 cA zc); simp [cR8, cs_i, cs_n, cs_I, cs_L, cs_N, cs_S, cs_X, va_up]
    · show some (cR9 cA (va_up (cs_i zc) 2 0, cs_n zc, cs_I zc, cs_L zc, cs_N zc, cs_S zc, cs_X zc)) = some (cR9 cA zc); simp [cR9, cs_i, cs_n, cs_I, cs_L, cs_N, cs_S, cs_X, va_up]
    · show some (cR10 cA (va_up (cs_i zc) 2 0, cs_n zc, cs_I zc, cs_L zc, cs_N zc, cs_S zc, cs_X zc)) = some (cR10 cA zc); simp [cR10, cs_i, cs_n, cs_I, cs_L, cs_N, cs_S, cs_X, va_up]
    · show some (cTr (va_up (cs_i zc) 2 0, cs_n zc, cs_I zc, cs_L zc, cs_N zc, cs_S zc, cs_X zc)) = some (cTr zc); simp [cTr, cs_i, cs_n, cs_I, cs_L, cs_N, cs_S, cs_X, va_up]
    · show (none : Option (Nat × va_E)) = none; rfl
  · show (if j < cs_n (va_up (cs_i zc) 2 0, cs_n zc, cs_I zc, cs_L zc, cs_N zc, cs_S zc, cs_X zc) 0 then some (cPi (va_up (cs_i zc) 2 0, cs_n zc, cs_I zc, cs_L zc, cs_N zc, cs_S zc, cs_X zc) j) else none) = if j < cs_n zc 0 then some (cPi zc j) else none
    simp [cPi, cs_i, cs_n, cs_I, cs_L, cs_N, cs_S, cs_X, va_up]
  · show (if j < cs_n (va_up (cs_i zc) 2 0, cs_n zc, cs_I zc, cs_L zc, cs_N zc, cs_S zc, cs_X zc) 1 then some (cGa (va_up (cs_i zc) 2 0, cs_n zc, cs_I zc, cs_L zc, cs_N zc, cs_S zc, cs_X zc) j) else none) = if j < cs_n zc 1 then some (cGa zc j) else none
    simp [cGa, cs_i, cs_n, cs_I, cs_L, cs_N, cs_S, cs_X, va_up]
  · show (if j < cs_n (va_up (cs_i zc) 2 0, cs_n zc, cs_I zc, cs_L zc, cs_N zc, cs_S zc, cs_X zc) 2 then some (cTa (va_up (cs_i zc) 2 0, cs_n zc, cs_I zc, cs_L zc, cs_N zc, cs_S zc, cs_X zc) j) else none) = if j < cs_n zc 2 then some (cTa zc j) else none
    simp [cTa, cs_i, cs_n, cs_I, cs_L, cs_N, cs_S, cs_X, va_up]
  · show (if j < cs_n (va_up (cs_i zc) 2 0, cs_n zc, cs_I zc, cs_L zc, cs_N zc, cs_S zc, cs_X zc) 3 then some (cPa (va_up (cs_i zc) 2 0, cs_n zc, cs_I zc, cs_L zc, cs_N zc, cs_S zc, cs_X zc) j) else none) = if j < cs_n zc 3 then some (cPa zc j) else none
    simp [cPa, cs_i, cs_n, cs_I, cs_L, cs_N, cs_S, cs_X, va_up]
  · show (if j = 0 ∧ ¬ cs_n (va_up (cs_i zc) 2 0, cs_n zc, cs_I zc, cs_L zc, cs_N zc, cs_S zc, cs_X zc) 4 = 0 then some (cAu (va_up (cs_i zc) 2 0, cs_n zc, cs_I zc, cs_L zc, cs_N zc, cs_S zc, cs_X zc)) else none) = if j = 0 ∧ ¬ cs_n zc 4 = 0 then some (cAu zc) else none
    simp [cAu, cs_i, cs_n, cs_I, cs_L, cs_N, cs_S, cs_X, va_up]
  · show (if j < 4 then some (cSh (va_up (cs_i zc) 2 0, cs_n zc, cs_I zc, cs_L zc, cs_N zc, cs_S zc, cs_X zc) j) else none) = if j < 4 then some (cSh zc j) else none
    simp [cSh, cs_i, cs_n, cs_I, cs_L, cs_N, cs_S, cs_X, va_up]
  · show (if j < 4 then some (cSc cA (va_up (cs_i zc) 2 0, cs_n zc, cs_I zc, cs_L zc, cs_N zc, cs_S zc, cs_X zc) j) else none) = if j < 4 then some (cSc cA zc j) else none
    simp [cSc, cs_i, cs_n, cs_I, cs_L, cs_N, cs_S, cs_X, va_up]
  · show (none : Option (Nat × va_E)) = none; rfl
set_option maxHeartbeats 4000000 in
theorem lf_as_4 (cA : Nat → ClassId) (zc : CS) (k : Int32) (jg : Nat) (hjg : jg < cs_n zc 1) (hk : cs_N zc 1 jg = 2) (c10 : 0 ≤ k ∧ k ≤ 2) (c12 : k = 2 ∨ k = 1) (hI : invC zc) : invC (va_up (cs_i zc) 2 2, cs_n zc, cs_I zc, cs_L zc, cs_N zc, cs_S zc, cs_X zc) ∧ kAll (cF cA (va_up (cs_i zc) 2 2, cs_n zc, cs_I zc, cs_L zc, cs_N zc, cs_S zc, cs_X zc)) [(0, 0), (0, 7), (2, jg)] [(cs_X zc 0 0, .inr (10, [.ref (cs_X zc 0 1), .ref (cs_X zc 0 6), .ref (cs_X zc 0 7), .ref (cs_X zc 0 8), .ref (cs_X zc 0 9), .ref (cs_X zc 0 10), .ref (cs_X zc 0 11), .int (nI (cs_n zc 0)), .int (nI (cs_n zc 1)), .int (nI (cs_n zc 2)), .int (nI (cs_n zc 3)), va_rf (opN (cs_n zc 4) (fun _ => cs_X zc 5 0)), .int 2])), cR7 cA zc, cGaK zc jg 2] ∧ ∀ i j, (i, j) ∉ ([(0, 0), (0, 7), (2, jg)] : List (Nat × Nat)) → cF cA (va_up (cs_i zc) 2 2, cs_n zc, cs_I zc, cs_L zc, cs_N zc, cs_S zc, cs_X zc) i j = none ∨ ((i, j) ∉ ([(0, 0), (0, 7), (2, jg)] : List (Nat × Nat)) ∧ cF cA (va_up (cs_i zc) 2 2, cs_n zc, cs_I zc, cs_L zc, cs_N zc, cs_S zc, cs_X zc) i j = cF cA zc i j) := by
  obtain ⟨⟨hn0, hn1, hn2, hn3, hn4, hn5⟩, hpi, hgk, htk, hpk, hsh⟩ := id hI
  refine ⟨hI, ⟨(by (rw [(kF_tp (cA := cA) (z := (va_up (cs_i zc) 2 2, cs_n zc, cs_I zc, cs_L zc, cs_N zc, cs_S zc, cs_X zc)))]) <;> simp [cTP, cTPN, cTPA, cLo, cA2, cA3, cA4, cA5, cR6, cR7, cR8, cR9, cR10, cTr, cPi, cPiN, cPiT, cGa, cGaK, cTa, cPa, cAu, cAuN, cAuB, cSh, cSc, cs_i, cs_n, cs_I, cs_L, cs_N, cs_S, cs_X, va_up, upd, opN]), (by (rw [(kF_r7 (cA := cA) (z := (va_up (cs_i zc) 2 2, cs_n zc, cs_I zc, cs_L zc, cs_N zc, cs_S zc, cs_X zc)))]) <;> simp [cTP, cTPN, cTPA, cLo, cA2, cA3, cA4, cA5, cR6, cR7, cR8, cR9, cR10, cTr, cPi, cPiN, cPiT, cGa, cGaK, cTa, cPa, cAu, cAuN, cAuB, cSh, cSc, cs_i, cs_n, cs_I, cs_L, cs_N, cs_S, cs_X, va_up, upd, opN]), (by (rw [(kF_gaK (z := (va_up (cs_i zc) 2 2, cs_n zc, cs_I zc, cs_L zc, cs_N zc, cs_S zc, cs_X zc)) (j := jg) hjg hk)]) <;> simp [cTP, cTPN, cTPA, cLo, cA2, cA3, cA4, cA5, cR6, cR7, cR8, cR9, cR10, cTr, cPi, cPiN, cPiT, cGa, cGaK, cTa, cPa, cAu, cAuN, cAuB, cSh, cSc, cs_i, cs_n, cs_I, cs_L, cs_N, cs_S, cs_X, va_up, upd, opN]), trivial⟩, ?_⟩
  intro i j hij
  refine Or.inr ⟨hij, ?_⟩
  rcases i with _ | _ | _ | _ | _ | _ | _ | _ | i
  · rcases j with _ | _ | _ | _ | _ | _ | _ | _ | _ | _ | _ | _ | j
    · exact absurd (by simp) hij
    · show some (cLo (va_up (cs_i zc) 2 2, cs_n zc, cs_I zc, cs_L zc, cs_N zc, cs_S zc, cs_X zc)) = some (cLo zc); simp [cLo, cs_i, cs_n, cs_I, cs_L, cs_N, cs_S, cs_X, va_up]
    · show some (cA2 cA (va_up (cs_i zc) 2 2, cs_n zc, cs_I zc, cs_L zc, cs_N zc, cs_S zc, cs_X zc)) = some (cA2 cA zc); simp [cA2, cs_i, cs_n, cs_I, cs_L, cs_N, cs_S, cs_X, va_up]
    · show some (cA3 cA (va_up (cs_i zc) 2 2, cs_n zc, cs_I zc, cs_L zc, cs_N zc, cs_S zc, cs_X zc)) = some (cA3 cA zc); simp [cA3, cs_i, cs_n, cs_I, cs_L, cs_N, cs_S, cs_X, va_up]
    · show some (cA4 cA (va_up (cs_i zc) 2 2, cs_n zc, cs_I zc, cs_L zc, cs_N zc, cs_S zc, cs_X zc)) = some (cA4 cA zc); simp [cA4, cs_i, cs_n, cs_I, cs_L, cs_N, cs_S, cs_X, va_up]
    · show some (cA5 cA (va_up (cs_i zc) 2 2, cs_n zc, cs_I zc, cs_L zc, cs_N zc, cs_S zc, cs_X zc)) = some (cA5 cA zc); simp [cA5, cs_i, cs_n, cs_I, cs_L, cs_N, cs_S, cs_X, va_up]
    · show some (cR6 cA (va_up (cs_i zc) 2 2, cs_n zc, cs_I zc, cs_L zc, cs_N zc, cs_S zc, cs_X zc)) = some (cR6 cA zc); simp [cR6, cs_i, cs_n, cs_I, cs_L, cs_N, cs_S, cs_X, va_up]
    · exact absurd (by simp) hij
    · show some (cR8 cA (va_up (cs_i zc) 2 2, cs_n zc, cs_I zc, cs_L zc, cs_N zc, cs_S zc, cs_X zc)) = some (cR8 cA zc); simp [cR8, cs_i, cs_n, cs_I, cs_L, cs_N, cs_S, cs_X, va_up]
    · show some (cR9 cA (va_up (cs_i zc) 2 2, cs_n zc, cs_I zc, cs_L zc, cs_N zc, cs_S zc, cs_X zc)) = some (cR9 cA zc); simp [cR9, cs_i, cs_n, cs_I, cs_L, cs_N, cs_S, cs_X, va_up]
    · show some (cR10 cA (va_up (cs_i zc) 2 2, cs_n zc, cs_I zc, cs_L zc, cs_N zc, cs_S zc, cs_X zc)) = some (cR10 cA zc); simp [cR10, cs_i, cs_n, cs_I, cs_L, cs_N, cs_S, cs_X, va_up]
    · show some (cTr (va_up (cs_i zc) 2 2, cs_n zc, cs_I zc, cs_L zc, cs_N zc, cs_S zc, cs_X zc)) = some (cTr zc); simp [cTr, cs_i, cs_n, cs_I, cs_L, cs_N, cs_S, cs_X, va_up]
    · show (none : Option (Nat × va_E)) = none; rfl
  · show (if j < cs_n (va_up (cs_i zc) 2 2, cs_n zc, cs_I zc, cs_L zc, cs_N zc, cs_S zc, cs_X zc) 0 then some (cPi (va_up (cs_i zc) 2 2, cs_n zc, cs_I zc, cs_L zc, cs_N zc, cs_S zc, cs_X zc) j) else none) = if j < cs_n zc 0 then some (cPi zc j) else none
    simp [cPi, cs_i, cs_n, cs_I, cs_L, cs_N, cs_S, cs_X, va_up]
  · show (if j < cs_n (va_up (cs_i zc) 2 2, cs_n zc, cs_I zc, cs_L zc, cs_N zc, cs_S zc, cs_X zc) 1 then some (cGa (va_up (cs_i zc) 2 2, cs_n zc, cs_I zc, cs_L zc, cs_N zc, cs_S zc, cs_X zc) j) else none) = if j < cs_n zc 1 then some (cGa zc j) else none
    simp [cGa, cs_i, cs_n, cs_I, cs_L, cs_N, cs_S, cs_X, va_up]
  · show (if j < cs_n (va_up (cs_i zc) 2 2, cs_n zc, cs_I zc, cs_L zc, cs_N zc, cs_S zc, cs_X zc) 2 then some (cTa (va_up (cs_i zc) 2 2, cs_n zc, cs_I zc, cs_L zc, cs_N zc, cs_S zc, cs_X zc) j) else none) = if j < cs_n zc 2 then some (cTa zc j) else none
    simp [cTa, cs_i, cs_n, cs_I, cs_L, cs_N, cs_S, cs_X, va_up]
  · show (if j < cs_n (va_up (cs_i zc) 2 2, cs_n zc, cs_I zc, cs_L zc, cs_N zc, cs_S zc, cs_X zc) 3 then some (cPa (va_up (cs_i zc) 2 2, cs_n zc, cs_I zc, cs_L zc, cs_N zc, cs_S zc, cs_X zc) j) else none) = if j < cs_n zc 3 then some (cPa zc j) else none
    simp [cPa, cs_i, cs_n, cs_I, cs_L, cs_N, cs_S, cs_X, va_up]
  · show (if j = 0 ∧ ¬ cs_n (va_up (cs_i zc) 2 2, cs_n zc, cs_I zc, cs_L zc, cs_N zc, cs_S zc, cs_X zc) 4 = 0 then some (cAu (va_up (cs_i zc) 2 2, cs_n zc, cs_I zc, cs_L zc, cs_N zc, cs_S zc, cs_X zc)) else none) = if j = 0 ∧ ¬ cs_n zc 4 = 0 then some (cAu zc) else none
    simp [cAu, cs_i, cs_n, cs_I, cs_L, cs_N, cs_S, cs_X, va_up]
  · show (if j < 4 then some (cSh (va_up (cs_i zc) 2 2, cs_n zc, cs_I zc, cs_L zc, cs_N zc, cs_S zc, cs_X zc) j) else none) = if j < 4 then some (cSh zc j) else none
    simp [cSh, cs_i, cs_n, cs_I, cs_L, cs_N, cs_S, cs_X, va_up]
  · show (if j < 4 then some (cSc cA (va_up (cs_i zc) 2 2, cs_n zc, cs_I zc, cs_L zc, cs_N zc, cs_S zc, cs_X zc) j) else none) = if j < 4 then some (cSc cA zc j) else none
    simp [cSc, cs_i, cs_n, cs_I, cs_L, cs_N, cs_S, cs_X, va_up]
  · show (none : Option (Nat × va_E)) = none; rfl
set_option maxHeartbeats 4000000 in
theorem lf_as_5 (cA : Nat → ClassId) (zc : CS) (k : Int32) (jg : Nat) (hjg : jg < cs_n zc 1) (hk : cs_N zc 1 jg = 2) (c10 : 0 ≤ k ∧ k ≤ 2) (c12 : ¬ (k = 2 ∨ k = 1)) (hI : invC zc) : invC (va_up (cs_i zc) 2 0, cs_n zc, cs_I zc, cs_L zc, cs_N zc, cs_S zc, cs_X zc) ∧ kAll (cF cA (va_up (cs_i zc) 2 0, cs_n zc, cs_I zc, cs_L zc, cs_N zc, cs_S zc, cs_X zc)) [(0, 0), (0, 7), (2, jg)] [(cs_X zc 0 0, .inr (10, [.ref (cs_X zc 0 1), .ref (cs_X zc 0 6), .ref (cs_X zc 0 7), .ref (cs_X zc 0 8), .ref (cs_X zc 0 9), .ref (cs_X zc 0 10), .ref (cs_X zc 0 11), .int (nI (cs_n zc 0)), .int (nI (cs_n zc 1)), .int (nI (cs_n zc 2)), .int (nI (cs_n zc 3)), va_rf (opN (cs_n zc 4) (fun _ => cs_X zc 5 0)), .int 0])), cR7 cA zc, cGaK zc jg 2] ∧ ∀ i j, (i, j) ∉ ([(0, 0), (0, 7), (2, jg)] : List (Nat × Nat)) → cF cA (va_up (cs_i zc) 2 0, cs_n zc, cs_I zc, cs_L zc, cs_N zc, cs_S zc, cs_X zc) i j = none ∨ ((i, j) ∉ ([(0, 0), (0, 7), (2, jg)] : List (Nat × Nat)) ∧ cF cA (va_up (cs_i zc) 2 0, cs_n zc, cs_I zc, cs_L zc, cs_N zc, cs_S zc, cs_X zc) i j = cF cA zc i j) := by
  obtain ⟨⟨hn0, hn1, hn2, hn3, hn4, hn5⟩, hpi, hgk, htk, hpk, hsh⟩ := id hI
  refine ⟨hI, ⟨(by (rw [(kF_tp (cA := cA) (z := (va_up (cs_i zc) 2 0, cs_n zc, cs_I zc, cs_L zc, cs_N zc, cs_S zc, cs_X zc)))]) <;> simp [cTP, cTPN, cTPA, cLo, cA2, cA3, cA4, cA5, cR6, cR7, cR8, cR9, cR10, cTr, cPi, cPiN, cPiT, cGa, cGaK, cTa, cPa, cAu, cAuN, cAuB, cSh, cSc, cs_i, cs_n, cs_I, cs_L, cs_N, cs_S, cs_X, va_up, upd, opN]), (by (rw [(kF_r7 (cA := cA) (z := (va_up (cs_i zc) 2 0, cs_n zc, cs_I zc, cs_L zc, cs_N zc, cs_S zc, cs_X zc)))]) <;> simp [cTP, cTPN, cTPA, cLo, cA2, cA3, cA4, cA5, cR6, cR7, cR8, cR9, cR10, cTr, cPi, cPiN, cPiT, cGa, cGaK, cTa, cPa, cAu, cAuN, cAuB, cSh, cSc, cs_i, cs_n, cs_I, cs_L, cs_N, cs_S, cs_X, va_up, upd, opN]), (by (rw [(kF_gaK (z := (va_up (cs_i zc) 2 0, cs_n zc, cs_I zc, cs_L zc, cs_N zc, cs_S zc, cs_X zc)) (j := jg) hjg hk)]) <;> simp [cTP, cTPN, cTPA, cLo, cA2, cA3, cA4, cA5, cR6, cR7, cR8, cR9, cR10, cTr, cPi, cPiN, cPiT, cGa, cGaK, cTa, cPa, cAu, cAuN, cAuB, cSh, cSc, cs_i, cs_n, cs_I, cs_L, cs_N, cs_S, cs_X, va_up, upd, opN]), trivial⟩, ?_⟩
  intro i j hij
  refine Or.inr ⟨hij, ?_⟩
  rcases i with _ | _ | _ | _ | _ | _ | _ | _ | i
  · rcases j with _ | _ | _ | _ | _ | _ | _ | _ | _ | _ | _ | _ | j
    · exact absurd (by simp) hij
    · show some (cLo (va_up (cs_i zc) 2 0, cs_n zc, cs_I zc, cs_L zc, cs_N zc, cs_S zc, cs_X zc)) = some (cLo zc); simp [cLo, cs_i, cs_n, cs_I, cs_L, cs_N, cs_S, cs_X, va_up]
    · show some (cA2 cA (va_up (cs_i zc) 2 0, cs_n zc, cs_I zc, cs_L zc, cs_N zc, cs_S zc, cs_X zc)) = some (cA2 cA zc); simp [cA2, cs_i, cs_n, cs_I, cs_L, cs_N, cs_S, cs_X, va_up]
    · show some (cA3 cA (va_up (cs_i zc) 2 0, cs_n zc, cs_I zc, cs_L zc, cs_N zc, cs_S zc, cs_X zc)) = some (cA3 cA zc); simp [cA3, cs_i, cs_n, cs_I, cs_L, cs_N, cs_S, cs_X, va_up]
    · show some (cA4 cA (va_up (cs_i zc) 2 0, cs_n zc, cs_I zc, cs_L zc, cs_N zc, cs_S zc, cs_X zc)) = some (cA4 cA zc); simp [cA4, cs_i, cs_n, cs_I, cs_L, cs_N, cs_S, cs_X, va_up]
    · show some (cA5 cA (va_up (cs_i zc) 2 0, cs_n zc, cs_I zc, cs_L zc, cs_N zc, cs_S zc, cs_X zc)) = some (cA5 cA zc); simp [cA5, cs_i, cs_n, cs_I, cs_L, cs_N, cs_S, cs_X, va_up]
    · show some (cR6 cA (va_up (cs_i zc) 2 0, cs_n zc, cs_I zc, cs_L zc, cs_N zc, cs_S zc, cs_X zc)) = some (cR6 cA zc); simp [cR6, cs_i, cs_n, cs_I, cs_L, cs_N, cs_S, cs_X, va_up]
    · exact absurd (by simp) hij
    · show some (cR8 cA (va_up (cs_i zc) 2 0, cs_n zc, cs_I zc, cs_L zc, cs_N zc, cs_S zc, cs_X zc)) = some (cR8 cA zc); simp [cR8, cs_i, cs_n, cs_I, cs_L, cs_N, cs_S, cs_X, va_up]
    · show some (cR9 cA (va_up (cs_i zc) 2 0, cs_n zc, cs_I zc, cs_L zc, cs_N zc, cs_S zc, cs_X zc)) = some (cR9 cA zc); simp [cR9, cs_i, cs_n, cs_I, cs_L, cs_N, cs_S, cs_X, va_up]
    · show some (cR10 cA (va_up (cs_i zc) 2 0, cs_n zc, cs_I zc, cs_L zc, cs_N zc, cs_S zc, cs_X zc)) = some (cR10 cA zc); simp [cR10, cs_i, cs_n, cs_I, cs_L, cs_N, cs_S, cs_X, va_up]
    · show some (cTr (va_up (cs_i zc) 2 0, cs_n zc, cs_I zc, cs_L zc, cs_N zc, cs_S zc, cs_X zc)) = some (cTr zc); simp [cTr, cs_i, cs_n, cs_I, cs_L, cs_N, cs_S, cs_X, va_up]
    · show (none : Option (Nat × va_E)) = none; rfl
  · show (if j < cs_n (va_up (cs_i zc) 2 0, cs_n zc, cs_I zc, cs_L zc, cs_N zc, cs_S zc, cs_X zc) 0 then some (cPi (va_up (cs_i zc) 2 0, cs_n zc, cs_I zc, cs_L zc, cs_N zc, cs_S zc, cs_X zc) j) else none) = if j < cs_n zc 0 then some (cPi zc j) else none
    simp [cPi, cs_i, cs_n, cs_I, cs_L, cs_N, cs_S, cs_X, va_up]
  · show (if j < cs_n (va_up (cs_i zc) 2 0, cs_n zc, cs_I zc, cs_L zc, cs_N zc, cs_S zc, cs_X zc) 1 then some (cGa (va_up (cs_i zc) 2 0, cs_n zc, cs_I zc, cs_L zc, cs_N zc, cs_S zc, cs_X zc) j) else none) = if j < cs_n zc 1 then some (cGa zc j) else none
    simp [cGa, cs_i, cs_n, cs_I, cs_L, cs_N, cs_S, cs_X, va_up]
  · show (if j < cs_n (va_up (cs_i zc) 2 0, cs_n zc, cs_I zc, cs_L zc, cs_N zc, cs_S zc, cs_X zc) 2 then some (cTa (va_up (cs_i zc) 2 0, cs_n zc, cs_I zc, cs_L zc, cs_N zc, cs_S zc, cs_X zc) j) else none) = if j < cs_n zc 2 then some (cTa zc j) else none
    simp [cTa, cs_i, cs_n, cs_I, cs_L, cs_N, cs_S, cs_X, va_up]
  · show (if j < cs_n (va_up (cs_i zc) 2 0, cs_n zc, cs_I zc, cs_L zc, cs_N zc, cs_S zc, cs_X zc) 3 then some (cPa (va_up (cs_i zc) 2 0, cs_n zc, cs_I zc, cs_L zc, cs_N zc, cs_S zc, cs_X zc) j) else none) = if j < cs_n zc 3 then some (cPa zc j) else none
    simp [cPa, cs_i, cs_n, cs_I, cs_L, cs_N, cs_S, cs_X, va_up]
  · show (if j = 0 ∧ ¬ cs_n (va_up (cs_i zc) 2 0, cs_n zc, cs_I zc, cs_L zc, cs_N zc, cs_S zc, cs_X zc) 4 = 0 then some (cAu (va_up (cs_i zc) 2 0, cs_n zc, cs_I zc, cs_L zc, cs_N zc, cs_S zc, cs_X zc)) else none) = if j = 0 ∧ ¬ cs_n zc 4 = 0 then some (cAu zc) else none
    simp [cAu, cs_i, cs_n, cs_I, cs_L, cs_N, cs_S, cs_X, va_up]
  · show (if j < 4 then some (cSh (va_up (cs_i zc) 2 0, cs_n zc, cs_I zc, cs_L zc, cs_N zc, cs_S zc, cs_X zc) j) else none) = if j < 4 then some (cSh zc j) else none
    simp [cSh, cs_i, cs_n, cs_I, cs_L, cs_N, cs_S, cs_X, va_up]
  · show (if j < 4 then some (cSc cA (va_up (cs_i zc) 2 0, cs_n zc, cs_I zc, cs_L zc, cs_N zc, cs_S zc, cs_X zc) j) else none) = if j < 4 then some (cSc cA zc j) else none
    simp [cSc, cs_i, cs_n, cs_I, cs_L, cs_N, cs_S, cs_X, va_up]
  · show (none : Option (Nat × va_E)) = none; rfl
set_option maxHeartbeats 4000000 in
theorem lf_as_6 (cA : Nat → ClassId) (zc : CS) (k : Int32) (jg : Nat) (hjg : jg < cs_n zc 1) (hk : cs_N zc 1 jg = 2) (c10 : ¬ (0 ≤ k ∧ k ≤ 2)) (hI : invC zc) : invC (va_up (cs_i zc) 2 0, cs_n zc, cs_I zc, cs_L zc, cs_N zc, cs_S zc, cs_X zc) ∧ kAll (cF cA (va_up (cs_i zc) 2 0, cs_n zc, cs_I zc, cs_L zc, cs_N zc, cs_S zc, cs_X zc)) [(0, 0), (0, 7), (2, jg)] [(cs_X zc 0 0, .inr (10, [.ref (cs_X zc 0 1), .ref (cs_X zc 0 6), .ref (cs_X zc 0 7), .ref (cs_X zc 0 8), .ref (cs_X zc 0 9), .ref (cs_X zc 0 10), .ref (cs_X zc 0 11), .int (nI (cs_n zc 0)), .int (nI (cs_n zc 1)), .int (nI (cs_n zc 2)), .int (nI (cs_n zc 3)), va_rf (opN (cs_n zc 4) (fun _ => cs_X zc 5 0)), .int 0])), cR7 cA zc, cGaK zc jg 2] ∧ ∀ i j, (i, j) ∉ ([(0, 0), (0, 7), (2, jg)] : List (Nat × Nat)) → cF cA (va_up (cs_i zc) 2 0, cs_n zc, cs_I zc, cs_L zc, cs_N zc, cs_S zc, cs_X zc) i j = none ∨ ((i, j) ∉ ([(0, 0), (0, 7), (2, jg)] : List (Nat × Nat)) ∧ cF cA (va_up (cs_i zc) 2 0, cs_n zc, cs_I zc, cs_L zc, cs_N zc, cs_S zc, cs_X zc) i j = cF cA zc i j) := by
  obtain ⟨⟨hn0, hn1, hn2, hn3, hn4, hn5⟩, hpi, hgk, htk, hpk, hsh⟩ := id hI
  refine ⟨hI, ⟨(by (rw [(kF_tp (cA := cA) (z := (va_up (cs_i zc) 2 0, cs_n zc, cs_I zc, cs_L zc, cs_N zc, cs_S zc, cs_X zc)))]) <;> simp [cTP, cTPN, cTPA, cLo, cA2, cA3, cA4, cA5, cR6, cR7, cR8, cR9, cR10, cTr, cPi, cPiN, cPiT, cGa, cGaK, cTa, cPa, cAu, cAuN, cAuB, cSh, cSc, cs_i, cs_n, cs_I, cs_L, cs_N, cs_S, cs_X, va_up, upd, opN]), (by (rw [(kF_r7 (cA := cA) (z := (va_up (cs_i zc) 2 0, cs_n zc, cs_I zc, cs_L zc, cs_N zc, cs_S zc, cs_X zc)))]) <;> simp [cTP, cTPN, cTPA, cLo, cA2, cA3, cA4, cA5, cR6, cR7, cR8, cR9, cR10, cTr, cPi, cPiN, cPiT, cGa, cGaK, cTa, cPa, cAu, cAuN, cAuB, cSh, cSc, cs_i, cs_n, cs_I, cs_L, cs_N, cs_S, cs_X, va_up, upd, opN]), (by (rw [(kF_gaK (z := (va_up (cs_i zc) 2 0, cs_n zc, cs_I zc, cs_L zc, cs_N zc, cs_S zc, cs_X zc)) (j := jg) hjg hk)]) <;> simp [cTP, cTPN, cTPA, cLo, cA2, cA3, cA4, cA5, cR6, cR7, cR8, cR9, cR10, cTr, cPi, cPiN, cPiT, cGa, cGaK, cTa, cPa, cAu, cAuN, cAuB, cSh, cSc, cs_i, cs_n, cs_I, cs_L, cs_N, cs_S, cs_X, va_up, upd, opN]), trivial⟩, ?_⟩
  intro i j hij
  refine Or.inr ⟨hij, ?_⟩
  rcases i with _ | _ | _ | _ | _ | _ | _ | _ | i
  · rcases j with _ | _ | _ | _ | _ | _ | _ | _ | _ | _ | _ | _ | j
    · exact absurd (by simp) hij
    · show some (cLo (va_up (cs_i zc) 2 0, cs_n zc, cs_I zc, cs_L zc, cs_N zc, cs_S zc, cs_X zc)) = some (cLo zc); simp [cLo, cs_i, cs_n, cs_I, cs_L, cs_N, cs_S, cs_X, va_up]
    · show some (cA2 cA (va_up (cs_i zc) 2 0, cs_n zc, cs_I zc, cs_L zc, cs_N zc, cs_S zc, cs_X zc)) = some (cA2 cA zc); simp [cA2, cs_i, cs_n, cs_I, cs_L, cs_N, cs_S, cs_X, va_up]
    · show some (cA3 cA (va_up (cs_i zc) 2 0, cs_n zc, cs_I zc, cs_L zc, cs_N zc, cs_S zc, cs_X zc)) = some (cA3 cA zc); simp [cA3, cs_i, cs_n, cs_I, cs_L, cs_N, cs_S, cs_X, va_up]
    · show some (cA4 cA (va_up (cs_i zc) 2 0, cs_n zc, cs_I zc, cs_L zc, cs_N zc, cs_S zc, cs_X zc)) = some (cA4 cA zc); simp [cA4, cs_i, cs_n, cs_I, cs_L, cs_N, cs_S, cs_X, va_up]
    · show some (cA5 cA (va_up (cs_i zc) 2 0, cs_n zc, cs_I zc, cs_L zc, cs_N zc, cs_S zc, cs_X zc)) = some (cA5 cA zc); simp [cA5, cs_i, cs_n, cs_I, cs_L, cs_N, cs_S, cs_X, va_up]
    · show some (cR6 cA (va_up (cs_i zc) 2 0, cs_n zc, cs_I zc, cs_L zc, cs_N zc, cs_S zc, cs_X zc)) = some (cR6 cA zc); simp [cR6, cs_i, cs_n, cs_I, cs_L, cs_N, cs_S, cs_X, va_up]
    · exact absurd (by simp) hij
    · show some (cR8 cA (va_up (cs_i zc) 2 0, cs_n zc, cs_I zc, cs_L zc, cs_N zc, cs_S zc, cs_X zc)) = some (cR8 cA zc); simp [cR8, cs_i, cs_n, cs_I, cs_L, cs_N, cs_S, cs_X, va_up]
    · show some (cR9 cA (va_up (cs_i zc) 2 0, cs_n zc, cs_I zc, cs_L zc, cs_N zc, cs_S zc, cs_X zc)) = some (cR9 cA zc); simp [cR9, cs_i, cs_n, cs_I, cs_L, cs_N, cs_S, cs_X, va_up]
    · show some (cR10 cA (va_up (cs_i zc) 2 0, cs_n zc, cs_I zc, cs_L zc, cs_N zc, cs_S zc, cs_X zc)) = some (cR10 cA zc); simp [cR10, cs_i, cs_n, cs_I, cs_L, cs_N, cs_S, cs_X, va_up]
    · show some (cTr (va_up (cs_i zc) 2 0, cs_n zc, cs_I zc, cs_L zc, cs_N zc, cs_S zc, cs_X zc)) = some (cTr zc); simp [cTr, cs_i, cs_n, cs_I, cs_L, cs_N, cs_S, cs_X, va_up]
    · show (none : Option (Nat × va_E)) = none; rfl
  · show (if j < cs_n (va_up (cs_i zc) 2 0, cs_n zc, cs_I zc, cs_L zc, cs_N zc, cs_S zc, cs_X zc) 0 then some (cPi (va_up (cs_i zc) 2 0, cs_n zc, cs_I zc, cs_L zc, cs_N zc, cs_S zc, cs_X zc) j) else none) = if j < cs_n zc 0 then some (cPi zc j) else none
    simp [cPi, cs_i, cs_n, cs_I, cs_L, cs_N, cs_S, cs_X, va_up]
  · show (if j < cs_n (va_up (cs_i zc) 2 0, cs_n zc, cs_I zc, cs_L zc, cs_N zc, cs_S zc, cs_X zc) 1 then some (cGa (va_up (cs_i zc) 2 0, cs_n zc, cs_I zc, cs_L zc, cs_N zc, cs_S zc, cs_X zc) j) else none) = if j < cs_n zc 1 then some (cGa zc j) else none
    simp [cGa, cs_i, cs_n, cs_I, cs_L, cs_N, cs_S, cs_X, va_up]
  · show (if j < cs_n (va_up (cs_i zc) 2 0, cs_n zc, cs_I zc, cs_L zc, cs_N zc, cs_S zc, cs_X zc) 2 then some (cTa (va_up (cs_i zc) 2 0, cs_n zc, cs_I zc, cs_L zc, cs_N zc, cs_S zc, cs_X zc) j) else none) = if j < cs_n zc 2 then some (cTa zc j) else none
    simp [cTa, cs_i, cs_n, cs_I, cs_L, cs_N, cs_S, cs_X, va_up]
  · show (if j < cs_n (va_up (cs_i zc) 2 0, cs_n zc, cs_I zc, cs_L zc, cs_N zc, cs_S zc, cs_X zc) 3 then some (cPa (va_up (cs_i zc) 2 0, cs_n zc, cs_I zc, cs_L zc, cs_N zc, cs_S zc, cs_X zc) j) else none) = if j < cs_n zc 3 then some (cPa zc j) else none
    simp [cPa, cs_i, cs_n, cs_I, cs_L, cs_N, cs_S, cs_X, va_up]
  · show (if j = 0 ∧ ¬ cs_n (va_up (cs_i zc) 2 0, cs_n zc, cs_I zc, cs_L zc, cs_N zc, cs_S zc, cs_X zc) 4 = 0 then some (cAu (va_up (cs_i zc) 2 0, cs_n zc, cs_I zc, cs_L zc, cs_N zc, cs_S zc, cs_X zc)) else none) = if j = 0 ∧ ¬ cs_n zc 4 = 0 then some (cAu zc) else none
    simp [cAu, cs_i, cs_n, cs_I, cs_L, cs_N, cs_S, cs_X, va_up]
  · show (if j < 4 then some (cSh (va_up (cs_i zc) 2 0, cs_n zc, cs_I zc, cs_L zc, cs_N zc, cs_S zc, cs_X zc) j) else none) = if j < 4 then some (cSh zc j) else none
    simp [cSh, cs_i, cs_n, cs_I, cs_L, cs_N, cs_S, cs_X, va_up]
  · show (if j < 4 then some (cSc cA (va_up (cs_i zc) 2 0, cs_n zc, cs_I zc, cs_L zc, cs_N zc, cs_S zc, cs_X zc) j) else none) = if j < 4 then some (cSc cA zc j) else none
    simp [cSc, cs_i, cs_n, cs_I, cs_L, cs_N, cs_S, cs_X, va_up]
  · show (none : Option (Nat × va_E)) = none; rfl
set_option maxHeartbeats 4000000 in
theorem lf_as_7 (cA : Nat → ClassId) (zc : CS) (k : Int32) (jg : Nat) (hjg : jg < cs_n zc 1) (hk : cs_N zc 1 jg = 4) (c16 : 0 ≤ k ∧ k ≤ 2) (c18 : ¬ (k = k)) (hI : invC zc) : invC (va_up (cs_i zc) 2 2, cs_n zc, cs_I zc, cs_L zc, cs_N zc, cs_S zc, cs_X zc) ∧ kAll (cF cA (va_up (cs_i zc) 2 2, cs_n zc, cs_I zc, cs_L zc, cs_N zc, cs_S zc, cs_X zc)) [(0, 0), (0, 7), (2, jg)] [(cs_X zc 0 0, .inr (10, [.ref (cs_X zc 0 1), .ref (cs_X zc 0 6), .ref (cs_X zc 0 7), .ref (cs_X zc 0 8), .ref (cs_X zc 0 9), .ref (cs_X zc 0 10), .ref (cs_X zc 0 11), .int (nI (cs_n zc 0)), .int (nI (cs_n zc 1)), .int (nI (cs_n zc 2)), .int (nI (cs_n zc 3)), va_rf (opN (cs_n zc 4) (fun _ => cs_X zc 5 0)), .int 2])), cR7 cA zc, cGaK zc jg 4] ∧ ∀ i j, (i, j) ∉ ([(0, 0), (0, 7), (2, jg)] : List (Nat × Nat)) → cF cA (va_up (cs_i zc) 2 2, cs_n zc, cs_I zc, cs_L zc, cs_N zc, cs_S zc, cs_X zc) i j = none ∨ ((i, j) ∉ ([(0, 0), (0, 7), (2, jg)] : List (Nat × Nat)) ∧ cF cA (va_up (cs_i zc) 2 2, cs_n zc, cs_I zc, cs_L zc, cs_N zc, cs_S zc, cs_X zc) i j = cF cA zc i j) := by
  obtain ⟨⟨hn0, hn1, hn2, hn3, hn4, hn5⟩, hpi, hgk, htk, hpk, hsh⟩ := id hI
  refine ⟨hI, ⟨(by (rw [(kF_tp (cA := cA) (z := (va_up (cs_i zc) 2 2, cs_n zc, cs_I zc, cs_L zc, cs_N zc, cs_S zc, cs_X zc)))]) <;> simp [cTP, cTPN, cTPA, cLo, cA2, cA3, cA4, cA5, cR6, cR7, cR8, cR9, cR10, cTr, cPi, cPiN, cPiT, cGa, cGaK, cTa, cPa, cAu, cAuN, cAuB, cSh, cSc, cs_i, cs_n, cs_I, cs_L, cs_N, cs_S, cs_X, va_up, upd, opN]), (by (rw [(kF_r7 (cA := cA) (z := (va_up (cs_i zc) 2 2, cs_n zc, cs_I zc, cs_L zc, cs_N zc, cs_S zc, cs_X zc)))]) <;> simp [cTP, cTPN, cTPA, cLo, cA2, cA3, cA4, cA5, cR6, cR7, cR8, cR9, cR10, cTr, cPi, cPiN, cPiT, cGa, cGaK, cTa, cPa, cAu, cAuN, cAuB, cSh, cSc, cs_i, cs_n, cs_I, cs_L, cs_N, cs_S, cs_X, va_up, upd, opN]), (by (rw [(kF_gaK (z := (va_up (cs_i zc) 2 2, cs_n zc, cs_I zc, cs_L zc, cs_N zc, cs_S zc, cs_X zc)) (j := jg) hjg hk)]) <;> simp [cTP, cTPN, cTPA, cLo, cA2, cA3, cA4, cA5, cR6, cR7, cR8, cR9, cR10, cTr, cPi, cPiN, cPiT, cGa, cGaK, cTa, cPa, cAu, cAuN, cAuB, cSh, cSc, cs_i, cs_n, cs_I, cs_L, cs_N, cs_S, cs_X, va_up, upd, opN]), trivial⟩, ?_⟩
  intro i j hij
  refine Or.inr ⟨hij, ?_⟩
  rcases i with _ | _ | _ | _ | _ | _ | _ | _ | i
  · rcases j with _ | _ | _ | _ | _ | _ | _ | _ | _ | _ | _ | _ | j
    · exact absurd (by simp) hij
    · show some (cLo (va_up (cs_i zc) 2 2, cs_n zc, cs_I zc, cs_L zc, cs_N zc, cs_S zc, cs_X zc)) = some (cLo zc); simp [cLo, cs_i, cs_n, cs_I, cs_L, cs_N, cs_S, cs_X, va_up]
    · show some (cA2 cA (va_up (cs_i zc) 2 2, cs_n zc, cs_I zc, cs_L zc, cs_N zc, cs_S zc, cs_X zc)) = some (cA2 cA zc); simp [cA2, cs_i, cs_n, cs_I, cs_L, cs_N, cs_S, cs_X, va_up]
    · show some (cA3 cA (va_up (cs_i zc) 2 2, cs_n zc, cs_I zc, cs_L zc, cs_N zc, cs_S zc, cs_X zc)) = some (cA3 cA zc); simp [cA3, cs_i, cs_n, cs_I, cs_L, cs_N, cs_S, cs_X, va_up]
    · show some (cA4 cA (va_up (cs_i zc) 2 2, cs_n zc, cs_I zc, cs_L zc, cs_N zc, cs_S zc, cs_X zc)) = some (cA4 cA zc); simp [cA4, cs_i, cs_n, cs_I, cs_L, cs_N, cs_S, cs_X, va_up]
    · show some (cA5 cA (va_up (cs_i zc) 2 2, cs_n zc, cs_I zc, cs_L zc, cs_N zc, cs_S zc, cs_X zc)) = some (cA5 cA zc); simp [cA5, cs_i, cs_n, cs_I, cs_L, cs_N, cs_S, cs_X, va_up]
    · show some (cR6 cA (va_up (cs_i zc) 2 2, cs_n zc, cs_I zc, cs_L zc, cs_N zc, cs_S zc, cs_X zc)) = some (cR6 cA zc); simp [cR6, cs_i, cs_n, cs_I, cs_L, cs_N, cs_S, cs_X, va_up]
    · exact absurd (by simp) hij
    · show some (cR8 cA (va_up (cs_i zc) 2 2, cs_n zc, cs_I zc, cs_L zc, cs_N zc, cs_S zc, cs_X zc)) = some (cR8 cA zc); simp [cR8, cs_i, cs_n, cs_I, cs_L, cs_N, cs_S, cs_X, va_up]
    · show some (cR9 cA (va_up (cs_i zc) 2 2, cs_n zc, cs_I zc, cs_L zc, cs_N zc, cs_S zc, cs_X zc)) = some (cR9 cA zc); simp [cR9, cs_i, cs_n, cs_I, cs_L, cs_N, cs_S, cs_X, va_up]
    · show some (cR10 cA (va_up (cs_i zc) 2 2, cs_n zc, cs_I zc, cs_L zc, cs_N zc, cs_S zc, cs_X zc)) = some (cR10 cA zc); simp [cR10, cs_i, cs_n, cs_I, cs_L, cs_N, cs_S, cs_X, va_up]
    · show some (cTr (va_up (cs_i zc) 2 2, cs_n zc, cs_I zc, cs_L zc, cs_N zc, cs_S zc, cs_X zc)) = some (cTr zc); simp [cTr, cs_i, cs_n, cs_I, cs_L, cs_N, cs_S, cs_X, va_up]
    · show (none : Option (Nat × va_E)) = none; rfl
  · show (if j < cs_n (va_up (cs_i zc) 2 2, cs_n zc, cs_I zc, cs_L zc, cs_N zc, cs_S zc, cs_X zc) 0 then some (cPi (va_up (cs_i zc) 2 2, cs_n zc, cs_I zc, cs_L zc, cs_N zc, cs_S zc, cs_X zc) j) else none) = if j < cs_n zc 0 then some (cPi zc j) else none
    simp [cPi, cs_i, cs_n, cs_I, cs_L, cs_N, cs_S, cs_X, va_up]
  · show (if j < cs_n (va_up (cs_i zc) 2 2, cs_n zc, cs_I zc, cs_L zc, cs_N zc, cs_S zc, cs_X zc) 1 then some (cGa (va_up (cs_i zc) 2 2, cs_n zc, cs_I zc, cs_L zc, cs_N zc, cs_S zc, cs_X zc) j) else none) = if j < cs_n zc 1 then some (cGa zc j) else none
    simp [cGa, cs_i, cs_n, cs_I, cs_L, cs_N, cs_S, cs_X, va_up]
  · show (if j < cs_n (va_up (cs_i zc) 2 2, cs_n zc, cs_I zc, cs_L zc, cs_N zc, cs_S zc, cs_X zc) 2 then some (cTa (va_up (cs_i zc) 2 2, cs_n zc, cs_I zc, cs_L zc, cs_N zc, cs_S zc, cs_X zc) j) else none) = if j < cs_n zc 2 then some (cTa zc j) else none
    simp [cTa, cs_i, cs_n, cs_I, cs_L, cs_N, cs_S, cs_X, va_up]
  · show (if j < cs_n (va_up (cs_i zc) 2 2, cs_n zc, cs_I zc, cs_L zc, cs_N zc, cs_S zc, cs_X zc) 3 then some (cPa (va_up (cs_i zc) 2 2, cs_n zc, cs_I zc, cs_L zc, cs_N zc, cs_S zc, cs_X zc) j) else none) = if j < cs_n zc 3 then some (cPa zc j) else none
    simp [cPa, cs_i, cs_n, cs_I, cs_L, cs_N, cs_S, cs_X, va_up]
  · show (if j = 0 ∧ ¬ cs_n (va_up (cs_i zc) 2 2, cs_n zc, cs_I zc, cs_L zc, cs_N zc, cs_S zc, cs_X zc) 4 = 0 then some (cAu (va_up (cs_i zc) 2 2, cs_n zc, cs_I zc, cs_L zc, cs_N zc, cs_S zc, cs_X zc)) else none) = if j = 0 ∧ ¬ cs_n zc 4 = 0 then some (cAu zc) else none
    simp [cAu, cs_i, cs_n, cs_I, cs_L, cs_N, cs_S, cs_X, va_up]
  · show (if j < 4 then some (cSh (va_up (cs_i zc) 2 2, cs_n zc, cs_I zc, cs_L zc, cs_N zc, cs_S zc, cs_X zc) j) else none) = if j < 4 then some (cSh zc j) else none
    simp [cSh, cs_i, cs_n, cs_I, cs_L, cs_N, cs_S, cs_X, va_up]
  · show (if j < 4 then some (cSc cA (va_up (cs_i zc) 2 2, cs_n zc, cs_I zc, cs_L zc, cs_N zc, cs_S zc, cs_X zc) j) else none) = if j < 4 then some (cSc cA zc j) else none
    simp [cSc, cs_i, cs_n, cs_I, cs_L, cs_N, cs_S, cs_X, va_up]
  · show (none : Option (Nat × va_E)) = none; rfl
set_option maxHeartbeats 4000000 in
theorem lf_as_8 (cA : Nat → ClassId) (zc : CS) (k : Int32) (jg : Nat) (hjg : jg < cs_n zc 1) (hk : cs_N zc 1 jg = 4) (c16 : 0 ≤ k ∧ k ≤ 2) (c18 : k = k) (hI : invC zc) : invC (va_up (cs_i zc) 2 0, cs_n zc, cs_I zc, cs_L zc, cs_N zc, cs_S zc, cs_X zc) ∧ kAll (cF cA (va_up (cs_i zc) 2 0, cs_n zc, cs_I zc, cs_L zc, cs_N zc, cs_S zc, cs_X zc)) [(0, 0), (0, 7), (2, jg)] [(cs_X zc 0 0, .inr (10, [.ref (cs_X zc 0 1), .ref (cs_X zc 0 6), .ref (cs_X zc 0 7), .ref (cs_X zc 0 8), .ref (cs_X zc 0 9), .ref (cs_X zc 0 10), .ref (cs_X zc 0 11), .int (nI (cs_n zc 0)), .int (nI (cs_n zc 1)), .int (nI (cs_n zc 2)), .int (nI (cs_n zc 3)), va_rf (opN (cs_n zc 4) (fun _ => cs_X zc 5 0)), .int 0])), cR7 cA zc, cGaK zc jg 4] ∧ ∀ i j, (i, j) ∉ ([(0, 0), (0, 7), (2, jg)] : List (Nat × Nat)) → cF cA (va_up (cs_i zc) 2 0, cs_n zc, cs_I zc, cs_L zc, cs_N zc, cs_S zc, cs_X zc) i j = none ∨ ((i, j) ∉ ([(0, 0), (0, 7), (2, jg)] : List (Nat × Nat)) ∧ cF cA (va_up (cs_i zc) 2 0, cs_n zc, cs_I zc, cs_L zc, cs_N zc, cs_S zc, cs_X zc) i j = cF cA zc i j) := by
  obtain ⟨⟨hn0, hn1, hn2, hn3, hn4, hn5⟩, hpi, hgk, htk, hpk, hsh⟩ := id hI
  refine ⟨hI, ⟨(by (rw [(kF_tp (cA := cA) (z := (va_up (cs_i zc) 2 0, cs_n zc, cs_I zc, cs_L zc, cs_N zc, cs_S zc, cs_X zc)))]) <;> simp [cTP, cTPN, cTPA, cLo, cA2, cA3, cA4, cA5, cR6, cR7, cR8, cR9, cR10, cTr, cPi, cPiN, cPiT, cGa, cGaK, cTa, cPa, cAu, cAuN, cAuB, cSh, cSc, cs_i, cs_n, cs_I, cs_L, cs_N, cs_S, cs_X, va_up, upd, opN]), (by (rw [(kF_r7 (cA := cA) (z := (va_up (cs_i zc) 2 0, cs_n zc, cs_I zc, cs_L zc, cs_N zc, cs_S zc, cs_X zc)))]) <;> simp [cTP, cTPN, cTPA, cLo, cA2, cA3, cA4, cA5, cR6, cR7, cR8, cR9, cR10, cTr, cPi, cPiN, cPiT, cGa, cGaK, cTa, cPa, cAu, cAuN, cAuB, cSh, cSc, cs_i, cs_n, cs_I, cs_L, cs_N, cs_S, cs_X, va_up, upd, opN]), (by (rw [(kF_gaK (z := (va_up (cs_i zc) 2 0, cs_n zc, cs_I zc, cs_L zc, cs_N zc, cs_S zc, cs_X zc)) (j := jg) hjg hk)]) <;> simp [cTP, cTPN, cTPA, cLo, cA2, cA3, cA4, cA5, cR6, cR7, cR8, cR9, cR10, cTr, cPi, cPiN, cPiT, cGa, cGaK, cTa, cPa, cAu, cAuN, cAuB, cSh, cSc, cs_i, cs_n, cs_I, cs_L, cs_N, cs_S, cs_X, va_up, upd, opN]), trivial⟩, ?_⟩
  intro i j hij
  refine Or.inr ⟨hij, ?_⟩
  rcases i with _ | _ | _ | _ | _ | _ | _ | _ | i
  · rcases j with _ | _ | _ | _ | _ | _ | _ | _ | _ | _ | _ | _ | j
    · exact absurd (by simp) hij
    · show some (cLo (va_up (cs_i zc) 2 0, cs_n zc, cs_I zc, cs_L zc, cs_N zc, cs_S zc, cs_X zc)) = some (cLo zc); simp [cLo, cs_i, cs_n, cs_I, cs_L, cs_N, cs_S, cs_X, va_up]
    · show some (cA2 cA (va_up (cs_i zc) 2 0, cs_n zc, cs_I zc, cs_L zc, cs_N zc, cs_S zc, cs_X zc)) = some (cA2 cA zc); simp [cA2, cs_i, cs_n, cs_I, cs_L, cs_N, cs_S, cs_X, va_up]
    · show some (cA3 cA (va_up (cs_i zc) 2 0, cs_n zc, cs_I zc, cs_L zc, cs_N zc, cs_S zc, cs_X zc)) = some (cA3 cA zc); simp [cA3, cs_i, cs_n, cs_I, cs_L, cs_N, cs_S, cs_X, va_up]
    · show some (cA4 cA (va_up (cs_i zc) 2 0, cs_n zc, cs_I zc, cs_L zc, cs_N zc, cs_S zc, cs_X zc)) = some (cA4 cA zc); simp [cA4, cs_i, cs_n, cs_I, cs_L, cs_N, cs_S, cs_X, va_up]
    · show some (cA5 cA (va_up (cs_i zc) 2 0, cs_n zc, cs_I zc, cs_L zc, cs_N zc, cs_S zc, cs_X zc)) = some (cA5 cA zc); simp [cA5, cs_i, cs_n, cs_I, cs_L, cs_N, cs_S, cs_X, va_up]
    · show some (cR6 cA (va_up (cs_i zc) 2 0, cs_n zc, cs_I zc, cs_L zc, cs_N zc, cs_S zc, cs_X zc)) = some (cR6 cA zc); simp [cR6, cs_i, cs_n, cs_I, cs_L, cs_N, cs_S, cs_X, va_up]
    · exact absurd (by simp) hij
    · show some (cR8 cA (va_up (cs_i zc) 2 0, cs_n zc, cs_I zc, cs_L zc, cs_N zc, cs_S zc, cs_X zc)) = some (cR8 cA zc); simp [cR8, cs_i, cs_n, cs_I, cs_L, cs_N, cs_S, cs_X, va_up]
    · show some (cR9 cA (va_up (cs_i zc) 2 0, cs_n zc, cs_I zc, cs_L zc, cs_N zc, cs_S zc, cs_X zc)) = some (cR9 cA zc); simp [cR9, cs_i, cs_n, cs_I, cs_L, cs_N, cs_S, cs_X, va_up]
    · show some (cR10 cA (va_up (cs_i zc) 2 0, cs_n zc, cs_I zc, cs_L zc, cs_N zc, cs_S zc, cs_X zc)) = some (cR10 cA zc); simp [cR10, cs_i, cs_n, cs_I, cs_L, cs_N, cs_S, cs_X, va_up]
    · show some (cTr (va_up (cs_i zc) 2 0, cs_n zc, cs_I zc, cs_L zc, cs_N zc, cs_S zc, cs_X zc)) = some (cTr zc); simp [cTr, cs_i, cs_n, cs_I, cs_L, cs_N, cs_S, cs_X, va_up]
    · show (none : Option (Nat × va_E)) = none; rfl
  · show (if j < cs_n (va_up (cs_i zc) 2 0, cs_n zc, cs_I zc, cs_L zc, cs_N zc, cs_S zc, cs_X zc) 0 then some (cPi (va_up (cs_i zc) 2 0, cs_n zc, cs_I zc, cs_L zc, cs_N zc, cs_S zc, cs_X zc) j) else none) = if j < cs_n zc 0 then some (cPi zc j) else none
    simp [cPi, cs_i, cs_n, cs_I, cs_L, cs_N, cs_S, cs_X, va_up]
  · show (if j < cs_n (va_up (cs_i zc) 2 0, cs_n zc, cs_I zc, cs_L zc, cs_N zc, cs_S zc, cs_X zc) 1 then some (cGa (va_up (cs_i zc) 2 0, cs_n zc, cs_I zc, cs_L zc, cs_N zc, cs_S zc, cs_X zc) j) else none) = if j < cs_n zc 1 then some (cGa zc j) else none
    simp [cGa, cs_i, cs_n, cs_I, cs_L, cs_N, cs_S, cs_X, va_up]
  · show (if j < cs_n (va_up (cs_i zc) 2 0, cs_n zc, cs_I zc, cs_L zc, cs_N zc, cs_S zc, cs_X zc) 2 then some (cTa (va_up (cs_i zc) 2 0, cs_n zc, cs_I zc, cs_L zc, cs_N zc, cs_S zc, cs_X zc) j) else none) = if j < cs_n zc 2 then some (cTa zc j) else none
    simp [cTa, cs_i, cs_n, cs_I, cs_L, cs_N, cs_S, cs_X, va_up]
  · show (if j < cs_n (va_up (cs_i zc) 2 0, cs_n zc, cs_I zc, cs_L zc, cs_N zc, cs_S zc, cs_X zc) 3 then some (cPa (va_up (cs_i zc) 2 0, cs_n zc, cs_I zc, cs_L zc, cs_N zc, cs_S zc, cs_X zc) j) else none) = if j < cs_n zc 3 then some (cPa zc j) else none
    simp [cPa, cs_i, cs_n, cs_I, cs_L, cs_N, cs_S, cs_X, va_up]
  · show (if j = 0 ∧ ¬ cs_n (va_up (cs_i zc) 2 0, cs_n zc, cs_I zc, cs_L zc, cs_N zc, cs_S zc, cs_X zc) 4 = 0 then some (cAu (va_up (cs_i zc) 2 0, cs_n zc, cs_I zc, cs_L zc, cs_N zc, cs_S zc, cs_X zc)) else none) = if j = 0 ∧ ¬ cs_n zc 4 = 0 then some (cAu zc) else none
    simp [cAu, cs_i, cs_n, cs_I, cs_L, cs_N, cs_S, cs_X, va_up]
  · show (if j < 4 then some (cSh (va_up (cs_i zc) 2 0, cs_n zc, cs_I zc, cs_L zc, cs_N zc, cs_S zc, cs_X zc) j) else none) = if j < 4 then some (cSh zc j) else none
    simp [cSh, cs_i, cs_n, cs_I, cs_L, cs_N, cs_S, cs_X, va_up]
  · show (if j < 4 then some (cSc cA (va_up (cs_i zc) 2 0, cs_n zc, cs_I zc, cs_L zc, cs_N zc, cs_S zc, cs_X zc) j) else none) = if j < 4 then some (cSc cA zc j) else none
    simp [cSc, cs_i, cs_n, cs_I, cs_L, cs_N, cs_S, cs_X, va_up]
  · show (none : Option (Nat × va_E)) = none; rfl
set_option maxHeartbeats 4000000 in
theorem lf_as_9 (cA : Nat → ClassId) (zc : CS) (k : Int32) (jg : Nat) (hjg : jg < cs_n zc 1) (hk : cs_N zc 1 jg = 4) (c16 : ¬ (0 ≤ k ∧ k ≤ 2)) (hI : invC zc) : invC (va_up (cs_i zc) 2 0, cs_n zc, cs_I zc, cs_L zc, cs_N zc, cs_S zc, cs_X zc) ∧ kAll (cF cA (va_up (cs_i zc) 2 0, cs_n zc, cs_I zc, cs_L zc, cs_N zc, cs_S zc, cs_X zc)) [(0, 0), (0, 7), (2, jg)] [(cs_X zc 0 0, .inr (10, [.ref (cs_X zc 0 1), .ref (cs_X zc 0 6), .ref (cs_X zc 0 7), .ref (cs_X zc 0 8), .ref (cs_X zc 0 9), .ref (cs_X zc 0 10), .ref (cs_X zc 0 11), .int (nI (cs_n zc 0)), .int (nI (cs_n zc 1)), .int (nI (cs_n zc 2)), .int (nI (cs_n zc 3)), va_rf (opN (cs_n zc 4) (fun _ => cs_X zc 5 0)), .int 0])), cR7 cA zc, cGaK zc jg 4] ∧ ∀ i j, (i, j) ∉ ([(0, 0), (0, 7), (2, jg)] : List (Nat × Nat)) → cF cA (va_up (cs_i zc) 2 0, cs_n zc, cs_I zc, cs_L zc, cs_N zc, cs_S zc, cs_X zc) i j = none ∨ ((i, j) ∉ ([(0, 0), (0, 7), (2, jg)] : List (Nat × Nat)) ∧ cF cA (va_up (cs_i zc) 2 0, cs_n zc, cs_I zc, cs_L zc, cs_N zc, cs_S zc, cs_X zc) i j = cF cA zc i j) := by
  obtain ⟨⟨hn0, hn1, hn2, hn3, hn4, hn5⟩, hpi, hgk, htk, hpk, hsh⟩ := id hI
  refine ⟨hI, ⟨(by (rw [(kF_tp (cA := cA) (z := (va_up (cs_i zc) 2 0, cs_n zc, cs_I zc, cs_L zc, cs_N zc, cs_S zc, cs_X zc)))]) <;> simp [cTP, cTPN, cTPA, cLo, cA2, cA3, cA4, cA5, cR6, cR7, cR8, cR9, cR10, cTr, cPi, cPiN, cPiT, cGa, cGaK, cTa, cPa, cAu, cAuN, cAuB, cSh, cSc, cs_i, cs_n, cs_I, cs_L, cs_N, cs_S, cs_X, va_up, upd, opN]), (by (rw [(kF_r7 (cA := cA) (z := (va_up (cs_i zc) 2 0, cs_n zc, cs_I zc, cs_L zc, cs_N zc, cs_S zc, cs_X zc)))]) <;> simp [cTP, cTPN, cTPA, cLo, cA2, cA3, cA4, cA5, cR6, cR7, cR8, cR9, cR10, cTr, cPi, cPiN, cPiT, cGa, cGaK, cTa, cPa, cAu, cAuN, cAuB, cSh, cSc, cs_i, cs_n, cs_I, cs_L, cs_N, cs_S, cs_X, va_up, upd, opN]), (by (rw [(kF_gaK (z := (va_up (cs_i zc) 2 0, cs_n zc, cs_I zc, cs_L zc, cs_N zc, cs_S zc, cs_X zc)) (j := jg) hjg hk)]) <;> simp [cTP, cTPN, cTPA, cLo, cA2, cA3, cA4, cA5, cR6, cR7, cR8, cR9, cR10, cTr, cPi, cPiN, cPiT, cGa, cGaK, cTa, cPa, cAu, cAuN, cAuB, cSh, cSc, cs_i, cs_n, cs_I, cs_L, cs_N, cs_S, cs_X, va_up, upd, opN]), trivial⟩, ?_⟩
  intro i j hij
  refine Or.inr ⟨hij, ?_⟩
  rcases i with _ | _ | _ | _ | _ | _ | _ | _ | i
  · rcases j with _ | _ | _ | _ | _ | _ | _ | _ | _ | _ | _ | _ | j
    · exact absurd (by simp) hij
    · show some (cLo (va_up (cs_i zc) 2 0, cs_n zc, cs_I zc, cs_L zc, cs_N zc, cs_S zc, cs_X zc)) = some (cLo zc); simp [cLo, cs_i, cs_n, cs_I, cs_L, cs_N, cs_S, cs_X, va_up]
    · show some (cA2 cA (va_up (cs_i zc) 2 0, cs_n zc, cs_I zc, cs_L zc, cs_N zc, cs_S zc, cs_X zc)) = some (cA2 cA zc); simp [cA2, cs_i, cs_n, cs_I, cs_L, cs_N, cs_S, cs_X, va_up]
    · show some (cA3 cA (va_up (cs_i zc) 2 0, cs_n zc, cs_I zc, cs_L zc, cs_N zc, cs_S zc, cs_X zc)) = some (cA3 cA zc); simp [cA3, cs_i, cs_n, cs_I, cs_L, cs_N, cs_S, cs_X, va_up]
    · show some (cA4 cA (va_up (cs_i zc) 2 0, cs_n zc, cs_I zc, cs_L zc, cs_N zc, cs_S zc, cs_X zc)) = some (cA4 cA zc); simp [cA4, cs_i, cs_n, cs_I, cs_L, cs_N, cs_S, cs_X, va_up]
    · show some (cA5 cA (va_up (cs_i zc) 2 0, cs_n zc, cs_I zc, cs_L zc, cs_N zc, cs_S zc, cs_X zc)) = some (cA5 cA zc); simp [cA5, cs_i, cs_n, cs_I, cs_L, cs_N, cs_S, cs_X, va_up]
    · show some (cR6 cA (va_up (cs_i zc) 2 0, cs_n zc, cs_I zc, cs_L zc, cs_N zc, cs_S zc, cs_X zc)) = some (cR6 cA zc); simp [cR6, cs_i, cs_n, cs_I, cs_L, cs_N, cs_S, cs_X, va_up]
    · exact absurd (by simp) hij
    · show some (cR8 cA (va_up (cs_i zc) 2 0, cs_n zc, cs_I zc, cs_L zc, cs_N zc, cs_S zc, cs_X zc)) = some (cR8 cA zc); simp [cR8, cs_i, cs_n, cs_I, cs_L, cs_N, cs_S, cs_X, va_up]
    · show some (cR9 cA (va_up (cs_i zc) 2 0, cs_n zc, cs_I zc, cs_L zc, cs_N zc, cs_S zc, cs_X zc)) = some (cR9 cA zc); simp [cR9, cs_i, cs_n, cs_I, cs_L, cs_N, cs_S, cs_X, va_up]
    · show some (cR10 cA (va_up (cs_i zc) 2 0, cs_n zc, cs_I zc, cs_L zc, cs_N zc, cs_S zc, cs_X zc)) = some (cR10 cA zc); simp [cR10, cs_i, cs_n, cs_I, cs_L, cs_N, cs_S, cs_X, va_up]
    · show some (cTr (va_up (cs_i zc) 2 0, cs_n zc, cs_I zc, cs_L zc, cs_N zc, cs_S zc, cs_X zc)) = some (cTr zc); simp [cTr, cs_i, cs_n, cs_I, cs_L, cs_N, cs_S, cs_X, va_up]
    · show (none : Option (Nat × va_E)) = none; rfl
  · show (if j < cs_n (va_up (cs_i zc) 2 0, cs_n zc, cs_I zc, cs_L zc, cs_N zc, cs_S zc, cs_X zc) 0 then some (cPi (va_up (cs_i zc) 2 0, cs_n zc, cs_I zc, cs_L zc, cs_N zc, cs_S zc, cs_X zc) j) else none) = if j < cs_n zc 0 then some (cPi zc j) else none
    simp [cPi, cs_i, cs_n, cs_I, cs_L, cs_N, cs_S, cs_X, va_up]
  · show (if j < cs_n (va_up (cs_i zc) 2 0, cs_n zc, cs_I zc, cs_L zc, cs_N zc, cs_S zc, cs_X zc) 1 then some (cGa (va_up (cs_i zc) 2 0, cs_n zc, cs_I zc, cs_L zc, cs_N zc, cs_S zc, cs_X zc) j) else none) = if j < cs_n zc 1 then some (cGa zc j) else none
    simp [cGa, cs_i, cs_n, cs_I, cs_L, cs_N, cs_S, cs_X, va_up]
  · show (if j < cs_n (va_up (cs_i zc) 2 0, cs_n zc, cs_I zc, cs_L zc, cs_N zc, cs_S zc, cs_X zc) 2 then some (cTa (va_up (cs_i zc) 2 0, cs_n zc, cs_I zc, cs_L zc, cs_N zc, cs_S zc, cs_X zc) j) else none) = if j < cs_n zc 2 then some (cTa zc j) else none
    simp [cTa, cs_i, cs_n, cs_I, cs_L, cs_N, cs_S, cs_X, va_up]
  · show (if j < cs_n (va_up (cs_i zc) 2 0, cs_n zc, cs_I zc, cs_L zc, cs_N zc, cs_S zc, cs_X zc) 3 then some (cPa (va_up (cs_i zc) 2 0, cs_n zc, cs_I zc, cs_L zc, cs_N zc, cs_S zc, cs_X zc) j) else none) = if j < cs_n zc 3 then some (cPa zc j) else none
    simp [cPa, cs_i, cs_n, cs_I, cs_L, cs_N, cs_S, cs_X, va_up]
  · show (if j = 0 ∧ ¬ cs_n (va_up (cs_i zc) 2 0, cs_n zc, cs_I zc, cs_L zc, cs_N zc, cs_S zc, cs_X zc) 4 = 0 then some (cAu (va_up (cs_i zc) 2 0, cs_n zc, cs_I zc, cs_L zc, cs_N zc, cs_S zc, cs_X zc)) else none) = if j = 0 ∧ ¬ cs_n zc 4 = 0 then some (cAu zc) else none
    simp [cAu, cs_i, cs_n, cs_I, cs_L, cs_N, cs_S, cs_X, va_up]
  · show (if j < 4 then some (cSh (va_up (cs_i zc) 2 0, cs_n zc, cs_I zc, cs_L zc, cs_N zc, cs_S zc, cs_X zc) j) else none) = if j < 4 then some (cSh zc j) else none
    simp [cSh, cs_i, cs_n, cs_I, cs_L, cs_N, cs_S, cs_X, va_up]
  · show (if j < 4 then some (cSc cA (va_up (cs_i zc) 2 0, cs_n zc, cs_I zc, cs_L zc, cs_N zc, cs_S zc, cs_X zc) j) else none) = if j < 4 then some (cSc cA zc j) else none
    simp [cSc, cs_i, cs_n, cs_I, cs_L, cs_N, cs_S, cs_X, va_up]
  · show (none : Option (Nat × va_E)) = none; rfl
set_option maxHeartbeats 4000000 in
set_option maxRecDepth 100000 in
theorem K_as (l : Launch) (dC : Nat → ClassId) (dI : Nat → Nat → Nat) (cA : Nat → ClassId) (sz : Nat) (zc : CS) (g : Int32) (k : Int32) (hI : invC zc) : Met l yX10_as wsX10_as ({ frames := 2, cells := 0, slots := 0, locals := 60 }) (kw (dC, dI) (ctys cA) (cF cA zc) sz [.ref (cs_X zc 0 0), .int g, .int k]) (kQi (dC, dI) (ctys cA) (cF cA zc) sz (cF cA) (fun r u => (invC u ∧ cs_X u 0 0 = cs_X zc 0 0) ∧ pC_as zc g k r u)) 0 0 (kA (cF cA zc) sz) := by
  refine kw_met (cc := cX10_as) (maxL := 4) (ret := (some .int)) (by decide) rfl (Nat.le_of_ble_eq_true rfl) ?_
  intro p e s m below meth c0 hx hb hr hml hown hlocks hnm hts hPk hKk hDk hN hsz ls hl
  subst hsz
  have hK : va_K (dC, dI) vwCl [(cA 0, .int), (cA 1, .object RX6), (cA 2, .object RX2), (cA 3, .object RX8), (cA 4, .object RX5), (cA 5, .object RX7)] s := hKk
  obtain ⟨⟨hn0, hn1, hn2, hn3, hn4, hn5⟩, hpi, hgk, htk, hpk, hsh⟩ := id hI
  have hl : lv_has ls 4 [(0, .ref (cs_X zc 0 0)), (1, .int g), (2, .int k)] := hl
  have hiX10 : ∀ w ∈ wsX100, w ∈ wsX10_as := fun _ h => List.mem_cons_of_mem _ (List.mem_append_right _ (h))
  generalize hQ : MQ _ _ _ _ _ _ _ = Q
  rcases ixd g (cs_n zc 1) with hnojg | ⟨jg, hjg, rfl⟩
  · skip
    have hks : kAll (cF cA zc) [(0, 0), (0, 7)] [cTP zc, cR7 cA zc] := ⟨(kF_tp (cA := cA) (z := zc)), (kF_r7 (cA := cA) (z := zc)), trivial⟩
    have hP : va_P (dC, dI) vwCl [cTP zc, cR7 cA zc] s.heap := kAll_P hPk hks
    have hD : va_D (va_A [cTP zc, cR7 cA zc] s.heap.size) [cTP zc, cR7 cA zc] := (kAll_D hDk hks (by simp)).self
    have hA : ∀ q : Nat, s.heap.size ≤ q → va_A [cTP zc, cR7 cA zc] s.heap.size q := fun q h => Or.inr h
    have hS : va_S (va_A [cTP zc, cR7 cA zc] s.heap.size) s.heap s.heap [] := va_S.rf
    refine lv_aload_n hx hb dX10_as_0 rfl (lv_at hl 0 rfl) ?_
    refine lv_iconst (v := 0) hx hb dX10_as_1 (by decide) ?_
    refine va_put (D := (dC, dI)) (ci := 10) (v := .int 0) (ty := .int) (C := RX10) (T := TX10) (N := 13) hx hb hts hiX10 tyX10 tyX10_ok nmX10 hown hK hP hD hS 0 rfl rfl 12 (by decide) (hts (.fieldLink RX10 56 "TributePitches" "latestFault" "I") (List.mem_of_getElem? (i := 1) rfl)) (fun _ h9 => h9) rfl (by decide +kernel) rfl rfl (Nat.le_of_ble_eq_true rfl) dX10_as_2 (fun H locs hP hD hS => ?_)
    have hP : va_P (dC, dI) vwCl [(cs_X zc 0 0, .inr (10, [.ref (cs_X zc 0 1), .ref (cs_X zc 0 6), .ref (cs_X zc 0 7), .ref (cs_X zc 0 8), .ref (cs_X zc 0 9), .ref (cs_X zc 0 10), .ref (cs_X zc 0 11), .int (nI (cs_n zc 0)), .int (nI (cs_n zc 1)), .int (nI (cs_n zc 2)), .int (nI (cs_n zc 3)), va_rf (opN (cs_n zc 4) (fun _ => cs_X zc 5 0)), .int 0])), cR7 cA zc] H := hP
    have hD : va_D _ [(cs_X zc 0 0, .inr (10, [.ref (cs_X zc 0 1), .ref (cs_X zc 0 6), .ref (cs_X zc 0 7), .ref (cs_X zc 0 8), .ref (cs_X zc 0 9), .ref (cs_X zc 0 10), .ref (cs_X zc 0 11), .int (nI (cs_n zc 0)), .int (nI (cs_n zc 1)), .int (nI (cs_n zc 2)), .int (nI (cs_n zc 3)), va_rf (opN (cs_n zc 4) (fun _ => cs_X zc 5 0)), .int 0])), cR7 cA zc] := hD
    refine lv_aload_n hx hb dX10_as_5 rfl (lv_at hl 0 rfl) ?_
    refine lv_iload_n hx hb dX10_as_6 rfl (lv_at hl 1 rfl) ?_
    have hPc := hP.sub (ws' := [(cs_X zc 0 0, .inr (10, [.ref (cs_X zc 0 1), .ref (cs_X zc 0 6), .ref (cs_X zc 0 7), .ref (cs_X zc 0 8), .ref (cs_X zc 0 9), .ref (cs_X zc 0 10), .ref (cs_X zc 0 11), .int (nI (cs_n zc 0)), .int (nI (cs_n zc 1)), .int (nI (cs_n zc 2)), .int (nI (cs_n zc 3)), va_rf (opN (cs_n zc 4) (fun _ => cs_X zc 5 0)), .int 0]))]) [0] rfl
    have hDc := hD.sub (ws' := [(cs_X zc 0 0, .inr (10, [.ref (cs_X zc 0 1), .ref (cs_X zc 0 6), .ref (cs_X zc 0 7), .ref (cs_X zc 0 8), .ref (cs_X zc 0 9), .ref (cs_X zc 0 10), .ref (cs_X zc 0 11), .int (nI (cs_n zc 0)), .int (nI (cs_n zc 1)), .int (nI (cs_n zc 2)), .int (nI (cs_n zc 3)), va_rf (opN (cs_n zc 4) (fun _ => cs_X zc 5 0)), .int 0]))]) [0] (by decide) rfl
    have hKc := hK.sub (tys' := []) [] rfl
    refine va_csq (va_Run.run (va_runV (As := [.int g]) (rest := []) ⟨hx, hb, hml, hown, hts⟩ (s_gangAt_no l dC dI  _ (cs_X zc 0 0) (.ref (cs_X zc 0 1)) (.ref (cs_X zc 0 6)) (.ref (cs_X zc 0 7)) (.ref (cs_X zc 0 8)) (.ref (cs_X zc 0 9)) (.ref (cs_X zc 0 10)) (.ref (cs_X zc 0 11)) (.int (nI (cs_n zc 0))) (.int (nI (cs_n zc 2))) (.int (nI (cs_n zc 3))) (va_rf (opN (cs_n zc 4) (fun _ => cs_X zc 5 0))) (.int 0) g (cs_n zc 1) (by omega) hnojg) (cwV 1 hts gX10_as_X10_gangAt rfl rfl rfl (by decide +kernel) ⟨Nat.le_of_ble_eq_true rfl, Nat.le_of_ble_eq_true rfl⟩) (pw_preV (va_recv hKc hPc (ci := 10) (q0 := 0) rfl rfl) hPc hKc hDc hN) rfl rfl hl.1 rfl (lv_room (Nat.le_of_ble_eq_true rfl)) dX10_as_7 ⟨Nat.le_of_ble_eq_true rfl, Nat.le_of_ble_eq_true rfl⟩)) (fun r1 hr1 => ?_)
    have hr1 : r1 = none := hr1
    subst hr1
    refine W.eq (g2 := F0 m 10 ls [.null]) rfl ?_
    refine lv_astore_nN (lv' := [(3, .null), (0, .ref (cs_X zc 0 0)), (1, .int g), (2, .int k)]) hx hb dX10_as_10 rfl hl (by decide) rfl (fun ls hl => ?_)
    refine lv_aload_nN hx hb dX10_as_11 rfl (lv_at hl 0 rfl) ?_
    refine lv_ifnonnullN hx hb dX10_as_12 ?_
    refine lv_iconst (v := (-1)) hx hb dX10_as_15 (by decide) ?_
    subst hQ
    have hP9 : va_P (dC, dI) vwCl [(cs_X zc 0 0, .inr (10, [.ref (cs_X zc 0 1), .ref (cs_X zc 0 6), .ref (cs_X zc 0 7), .ref (cs_X zc 0 8), .ref (cs_X zc 0 9), .ref (cs_X zc 0 10), .ref (cs_X zc 0 11), .int (nI (cs_n zc 0)), .int (nI (cs_n zc 1)), .int (nI (cs_n zc 2)), .int (nI (cs_n zc 3)), va_rf (opN (cs_n zc 4) (fun _ => cs_X zc 5 0)), .int 0])), cR7 cA zc] H := hP.sub [0, 1] rfl
    have hD9 : va_D (va_A [cTP zc, cR7 cA zc] s.heap.size) [(cs_X zc 0 0, .inr (10, [.ref (cs_X zc 0 1), .ref (cs_X zc 0 6), .ref (cs_X zc 0 7), .ref (cs_X zc 0 8), .ref (cs_X zc 0 9), .ref (cs_X zc 0 10), .ref (cs_X zc 0 11), .int (nI (cs_n zc 0)), .int (nI (cs_n zc 1)), .int (nI (cs_n zc 2)), .int (nI (cs_n zc 3)), va_rf (opN (cs_n zc 4) (fun _ => cs_X zc 5 0)), .int 0])), cR7 cA zc] := hD.sub [0, 1] (by decide) rfl
    have hlf := lf_as_0 cA zc g k hnojg hI
    exact W.iret (v := (-1)) hx hb hr (fun t ht hW => have hJ := kjoin hPk hDk hks rfl (hS.F ht) (by rw [ht]; exact hP9) hD9 hlf.2.1 hlf.2.2; ⟨⟨(-1), (va_up (cs_i zc) 2 0, cs_n zc, cs_I zc, cs_L zc, cs_N zc, cs_S zc, cs_X zc), rfl, ⟨⟨hlf.1, rfl⟩, (Or.inl ⟨hnojg, rfl, rfl⟩)⟩, hJ.1, va_K.moved hW.alike hKk, hJ.2.1⟩, hJ.2.2⟩) (fun q h => kAll_A hks _ (hS.2.2 q h)) dX10_as_16
  · skip
    rcases (hgk jg hjg) with hk | hk | hk
    · skip
      have hks : kAll (cF cA zc) [(0, 0), (0, 7), (2, jg)] [cTP zc, cR7 cA zc, cGaK zc jg 1] := ⟨(kF_tp (cA := cA) (z := zc)), (kF_r7 (cA := cA) (z := zc)), (kF_gaK (z := zc) (j := jg) hjg hk), trivial⟩
      have hP : va_P (dC, dI) vwCl [cTP zc, cR7 cA zc, cGaK zc jg 1] s.heap := kAll_P hPk hks
      have hD : va_D (va_A [cTP zc, cR7 cA zc, cGaK zc jg 1] s.heap.size) [cTP zc, cR7 cA zc, cGaK zc jg 1] := (kAll_D hDk hks (by simp)).self
      have hA : ∀ q : Nat, s.heap.size ≤ q → va_A [cTP zc, cR7 cA zc, cGaK zc jg 1] s.heap.size q := fun q h => Or.inr h
      have hS : va_S (va_A [cTP zc, cR7 cA zc, cGaK zc jg 1] s.heap.size) s.heap s.heap [] := va_S.rf
      refine lv_aload_n hx hb dX10_as_0 rfl (lv_at hl 0 rfl) ?_
      refine lv_iconst (v := 0) hx hb dX10_as_1 (by decide) ?_
      refine va_put (D := (dC, dI)) (ci := 10) (v := .int 0) (ty := .int) (C := RX10) (T := TX10) (N := 13) hx hb hts hiX10 tyX10 tyX10_ok nmX10 hown hK hP hD hS 0 rfl rfl 12 (by decide) (hts (.fieldLink RX10 56 "TributePitches" "latestFault" "I") (List.mem_of_getElem? (i := 1) rfl)) (fun _ h9 => h9) rfl (by decide +kernel) rfl rfl (Nat.le_of_ble_eq_true rfl) dX10_as_2 (fun H locs hP hD hS => ?_)
      have hP : va_P (dC, dI) vwCl [(cs_X zc 0 0, .inr (10, [.ref (cs_X zc 0 1), .ref (cs_X zc 0 6), .ref (cs_X zc 0 7), .ref (cs_X zc 0 8), .ref (cs_X zc 0 9), .ref (cs_X zc 0 10), .ref (cs_X zc 0 11), .int (nI (cs_n zc 0)), .int (nI (cs_n zc 1)), .int (nI (cs_n zc 2)), .int (nI (cs_n zc 3)), va_rf (opN (cs_n zc 4) (fun _ => cs_X zc 5 0)), .int 0])), cR7 cA zc, cGaK zc jg 1] H := hP
      have hD : va_D _ [(cs_X zc 0 0, .inr (10, [.ref (cs_X zc 0 1), .ref (cs_X zc 0 6), .ref (cs_X zc 0 7), .ref (cs_X zc 0 8), .ref (cs_X zc 0 9), .ref (cs_X zc 0 10), .ref (cs_X zc 0 11), .int (nI (cs_n zc 0)), .int (nI (cs_n zc 1)), .int (nI (cs_n zc 2)), .int (nI (cs_n zc 3)), va_rf (opN (cs_n zc 4) (fun _ => cs_X zc 5 0)), .int 0])), cR7 cA zc, cGaK zc jg 1] := hD
      refine lv_aload_n hx hb dX10_as_5 rfl (lv_at hl 0 rfl) ?_
      refine lv_iload_n hx hb dX10_as_6 rfl (lv_at hl 1 rfl) ?_
      have hPc := hP.sub (ws' := [(cs_X zc 0 0, .inr (10, [.ref (cs_X zc 0 1), .ref (cs_X zc 0 6), .ref (cs_X zc 0 7), .ref (cs_X zc 0 8), .ref (cs_X zc 0 9), .ref (cs_X zc 0 10), .ref (cs_X zc 0 11), .int (nI (cs_n zc 0)), .int (nI (cs_n zc 1)), .int (nI (cs_n zc 2)), .int (nI (cs_n zc 3)), va_rf (opN (cs_n zc 4) (fun _ => cs_X zc 5 0)), .int 0])), cR7 cA zc]) [0, 1] rfl
      have hDc := hD.sub (ws' := [(cs_X zc 0 0, .inr (10, [.ref (cs_X zc 0 1), .ref (cs_X zc 0 6), .ref (cs_X zc 0 7), .ref (cs_X zc 0 8), .ref (cs_X zc 0 9), .ref (cs_X zc 0 10), .ref (cs_X zc 0 11), .int (nI (cs_n zc 0)), .int (nI (cs_n zc 1)), .int (nI (cs_n zc 2)), .int (nI (cs_n zc 3)), va_rf (opN (cs_n zc 4) (fun _ => cs_X zc 5 0)), .int 0])), cR7 cA zc]) [0, 1] (by decide) rfl
      have hKc := hK.sub (tys' := [(cA 2, .object RX2)]) [2] rfl
      refine va_csq (va_Run.run (va_runV (As := [.int (nI jg)]) (rest := []) ⟨hx, hb, hml, hown, hts⟩ (s_gangAt_yes l dC dI (cA 2) _ (cs_X zc 0 0) (.ref (cs_X zc 0 1)) (.ref (cs_X zc 0 6)) (.ref (cs_X zc 0 8)) (.ref (cs_X zc 0 9)) (.ref (cs_X zc 0 10)) (.ref (cs_X zc 0 11)) (.int (nI (cs_n zc 0))) (.int (nI (cs_n zc 2))) (.int (nI (cs_n zc 3))) (va_rf (opN (cs_n zc 4) (fun _ => cs_X zc 5 0))) (.int 0) (cs_X zc 0 7) jg (cs_n zc 1) (cs_X zc 2 jg) (rfN (cs_n zc 1) (cs_X zc 2)) hjg (by omega) (rfN_at hjg)) (cwV 1 hts gX10_as_X10_gangAt rfl rfl rfl (by decide +kernel) ⟨Nat.le_of_ble_eq_true rfl, Nat.le_of_ble_eq_true rfl⟩) (pw_preV (va_recv hKc hPc (ci := 10) (q0 := 0) rfl rfl) hPc hKc hDc hN) rfl rfl hl.1 rfl (lv_room (Nat.le_of_ble_eq_true rfl)) dX10_as_7 ⟨Nat.le_of_ble_eq_true rfl, Nat.le_of_ble_eq_true rfl⟩)) (fun r2 hr2 => ?_)
      have hr2 : r2 = some (cs_X zc 2 jg) := hr2
      subst hr2
      refine W.eq (g2 := F0 m 10 ls [.ref (cs_X zc 2 jg)]) rfl ?_
      refine lv_astore_n (lv' := [(3, .ref (cs_X zc 2 jg)), (0, .ref (cs_X zc 0 0)), (1, .int (nI jg)), (2, .int k)]) hx hb dX10_as_10 rfl hl (by decide) rfl (fun ls hl => ?_)
      refine lv_aload_n hx hb dX10_as_11 rfl (lv_at hl 0 rfl) ?_
      refine lv_ifnonnull (tgt := 17) hx hb dX10_as_12 (by decide) ?_
      refine lv_iload_n hx hb dX10_as_17 rfl (lv_at hl 3 rfl) ?_
      refine lv_iconst (v := 0) hx hb dX10_as_18 (by decide) ?_
      refine lv_iconst (v := 2) hx hb dX10_as_19 (by decide) ?_
      refine vp_callSi (va_Run.run (va_runS (As := [.int k, .int 0, .int 2]) (rest := []) ⟨hx, hb, hml, hown, hts⟩ (c_X10_isWithin l k 0 2 ) (va_cwS 3 hts gX10_as_X10_isWithin rfl rfl rfl (by decide +kernel) ⟨Nat.le_of_ble_eq_true rfl, Nat.le_of_ble_eq_true rfl⟩) (p0_preS hN) rfl rfl hl.1 rfl (lv_room (Nat.le_of_ble_eq_true rfl)) dX10_as_20 ⟨Nat.le_of_ble_eq_true rfl, Nat.le_of_ble_eq_true rfl⟩)) (fun r3 hr3 => ?_)
      have hr3 : r3 = if 0 ≤ k ∧ k ≤ 2 then 1 else 0 := hr3
      refine lv_if_ne (tgt := 29) hx hb dX10_as_23 (by decide) (fun c4 => ?_) (fun c4 => ?_)
      · skip
        have c4 := (fa_bool_prop hr3).2.mp c4
        refine lv_aload_n hx hb dX10_as_29 rfl (lv_at hl 0 rfl) ?_
        refine lv_iload_n hx hb dX10_as_30 rfl (lv_at hl 3 rfl) ?_
        have hPc := hP.sub (ws' := [cGaK zc jg 1]) [2] rfl
        have hDc := hD.sub (ws' := [cGaK zc jg 1]) [2] (by decide) rfl
        have hKc := hK.sub (tys' := []) [] rfl
        refine vp_callSi (va_Run.run (va_runS (As := [.ref (cs_X zc 2 jg), .int k]) (rest := []) ⟨hx, hb, hml, hown, hts⟩ (s_isOfKind_1 l dC dI  _ (cs_X zc 2 jg) (nI jg) (cs_I zc 21 jg) (cs_I zc 22 jg) (cs_L zc 0 jg) k ) (va_cwS 2 hts gX10_as_X10_isOfKind rfl rfl rfl (by decide +kernel) ⟨Nat.le_of_ble_eq_true rfl, Nat.le_of_ble_eq_true rfl⟩) (pw_preS hPc hKc hDc hN) rfl rfl hl.1 rfl (lv_room (Nat.le_of_ble_eq_true rfl)) dX10_as_31 ⟨Nat.le_of_ble_eq_true rfl, Nat.le_of_ble_eq_true rfl⟩)) (fun r5 hr5 => ?_)
        have hr5 : r5 = if ¬ (k = 2) then 1 else 0 := hr5
        refine lv_if_eq (tgt := 41) hx hb dX10_as_34 (by decide) (fun c6 => ?_) (fun c6 => ?_)
        · skip
          have c6 := (fa_bool_prop hr5).1.mp c6
          have c6 := Decidable.not_not.mp c6
          refine lv_aload_n hx hb dX10_as_41 rfl (lv_at hl 1 rfl) ?_
          refine lv_iconst (v := 2) hx hb dX10_as_42 (by decide) ?_
          have hPc := hP.sub (ws' := [(cs_X zc 0 0, .inr (10, [.ref (cs_X zc 0 1), .ref (cs_X zc 0 6), .ref (cs_X zc 0 7), .ref (cs_X zc 0 8), .ref (cs_X zc 0 9), .ref (cs_X zc 0 10), .ref (cs_X zc 0 11), .int (nI (cs_n zc 0)), .int (nI (cs_n zc 1)), .int (nI (cs_n zc 2)), .int (nI (cs_n zc 3)), va_rf (opN (cs_n zc 4) (fun _ => cs_X zc 5 0)), .int 0]))]) [0] rfl
          have hDc := hD.sub (ws' := [(cs_X zc 0 0, .inr (10, [.ref (cs_X zc 0 1), .ref (cs_X zc 0 6), .ref (cs_X zc 0 7), .ref (cs_X zc 0 8), .ref (cs_X zc 0 9), .ref (cs_X zc 0 10), .ref (cs_X zc 0 11), .int (nI (cs_n zc 0)), .int (nI (cs_n zc 1)), .int (nI (cs_n zc 2)), .int (nI (cs_n zc 3)), va_rf (opN (cs_n zc 4) (fun _ => cs_X zc 5 0)), .int 0]))]) [0] (by decide) rfl
          have hKc := hK.sub (tys' := []) [] rfl
          have hFc := va_free (wc := [(cs_X zc 0 0, .inr (10, [.ref (cs_X zc 0 1), .ref (cs_X zc 0 6), .ref (cs_X zc 0 7), .ref (cs_X zc 0 8), .ref (cs_X zc 0 9), .ref (cs_X zc 0 10), .ref (cs_X zc 0 11), .int (nI (cs_n zc 0)), .int (nI (cs_n zc 1)), .int (nI (cs_n zc 2)), .int (nI (cs_n zc 3)), va_rf (opN (cs_n zc 4) (fun _ => cs_X zc 5 0)), .int 0]))]) hD hS hA [0] rfl
          refine va_calli (va_runV (As := [.int 2]) (rest := []) ⟨hx, hb, hml, hown, hts⟩ (c_X10_faulted l dC dI  _ (cs_X zc 0 0) (.ref (cs_X zc 0 1)) (.ref (cs_X zc 0 6)) (.ref (cs_X zc 0 7)) (.ref (cs_X zc 0 8)) (.ref (cs_X zc 0 9)) (.ref (cs_X zc 0 10)) (.ref (cs_X zc 0 11)) (.int (nI (cs_n zc 0))) (.int (nI (cs_n zc 1))) (.int (nI (cs_n zc 2))) (.int (nI (cs_n zc 3))) (va_rf (opN (cs_n zc 4) (fun _ => cs_X zc 5 0))) (.int 0) 2 ) (cwV 1 hts gX10_as_X10_faulted rfl rfl rfl (by decide +kernel) ⟨Nat.le_of_ble_eq_true rfl, Nat.le_of_ble_eq_true rfl⟩) (pw_preV (va_recv hKc hPc (ci := 10) (q0 := 0) rfl rfl) hPc hKc hDc hN) rfl rfl hl.1 rfl (lv_room (Nat.le_of_ble_eq_true rfl)) dX10_as_43 ⟨Nat.le_of_ble_eq_true rfl, Nat.le_of_ble_eq_true rfl⟩) hS (fun q _ h => hFc q h) hFc (fun r7 u t H1 locs ht hvm hw hB hz1 hk1 hS => ?_)
          have hr7 : r7 = -10 - 2 := hw
          obtain ⟨hP1, hK1, hD1⟩ := hB
          rw [ht] at hP1
          obtain ⟨hP, hD⟩ := va_join (wr := [cR7 cA zc, cGaK zc jg 1]) (w1 := [(cs_X zc 0 0, .inr (10, [.ref (cs_X zc 0 1), .ref (cs_X zc 0 6), .ref (cs_X zc 0 7), .ref (cs_X zc 0 8), .ref (cs_X zc 0 9), .ref (cs_X zc 0 10), .ref (cs_X zc 0 11), .int (nI (cs_n zc 0)), .int (nI (cs_n zc 1)), .int (nI (cs_n zc 2)), .int (nI (cs_n zc 3)), va_rf (opN (cs_n zc 4) (fun _ => cs_X zc 5 0)), .int 2]))]) hP hD [0] [1, 2] rfl rfl (by decide) (by decide) hk1 hFc hP1 hD1
          generalize H1 = H at hP hS ⊢
          have hP : va_P (dC, dI) vwCl [cR7 cA zc, cGaK zc jg 1, (cs_X zc 0 0, .inr (10, [.ref (cs_X zc 0 1), .ref (cs_X zc 0 6), .ref (cs_X zc 0 7), .ref (cs_X zc 0 8), .ref (cs_X zc 0 9), .ref (cs_X zc 0 10), .ref (cs_X zc 0 11), .int (nI (cs_n zc 0)), .int (nI (cs_n zc 1)), .int (nI (cs_n zc 2)), .int (nI (cs_n zc 3)), va_rf (opN (cs_n zc 4) (fun _ => cs_X zc 5 0)), .int 2]))] H := hP
          have hD : va_D _ [cR7 cA zc, cGaK zc jg 1, (cs_X zc 0 0, .inr (10, [.ref (cs_X zc 0 1), .ref (cs_X zc 0 6), .ref (cs_X zc 0 7), .ref (cs_X zc 0 8), .ref (cs_X zc 0 9), .ref (cs_X zc 0 10), .ref (cs_X zc 0 11), .int (nI (cs_n zc 0)), .int (nI (cs_n zc 1)), .int (nI (cs_n zc 2)), .int (nI (cs_n zc 3)), va_rf (opN (cs_n zc 4) (fun _ => cs_X zc 5 0)), .int 2]))] := hD
          have hr7 := hr7.symm
          subst hr7
          refine W.eq (g2 := F0 m 46 ls [.int (-10 - 2)]) rfl ?_
          subst hQ
          have hP9 : va_P (dC, dI) vwCl [(cs_X zc 0 0, .inr (10, [.ref (cs_X zc 0 1), .ref (cs_X zc 0 6), .ref (cs_X zc 0 7), .ref (cs_X zc 0 8), .ref (cs_X zc 0 9), .ref (cs_X zc 0 10), .ref (cs_X zc 0 11), .int (nI (cs_n zc 0)), .int (nI (cs_n zc 1)), .int (nI (cs_n zc 2)), .int (nI (cs_n zc 3)), va_rf (opN (cs_n zc 4) (fun _ => cs_X zc 5 0)), .int 2])), cR7 cA zc, cGaK zc jg 1] H := hP.sub [2, 0, 1] rfl
          have hD9 : va_D (va_A [cTP zc, cR7 cA zc, cGaK zc jg 1] s.heap.size) [(cs_X zc 0 0, .inr (10, [.ref (cs_X zc 0 1), .ref (cs_X zc 0 6), .ref (cs_X zc 0 7), .ref (cs_X zc 0 8), .ref (cs_X zc 0 9), .ref (cs_X zc 0 10), .ref (cs_X zc 0 11), .int (nI (cs_n zc 0)), .int (nI (cs_n zc 1)), .int (nI (cs_n zc 2)), .int (nI (cs_n zc 3)), va_rf (opN (cs_n zc 4) (fun _ => cs_X zc 5 0)), .int 2])), cR7 cA zc, cGaK zc jg 1] := hD.sub [2, 0, 1] (by decide) rfl
          have hlf := lf_as_1 cA zc k jg hjg hk c4 c6 hI
          exact W.iret (v := -10 - 2) hx hb hr (fun t ht hW => have hJ := kjoin hPk hDk hks rfl (hS.F ht) (by rw [ht]; exact hP9) hD9 hlf.2.1 hlf.2.2; ⟨⟨-10 - 2, (va_up (cs_i zc) 2 2, cs_n zc, cs_I zc, cs_L zc, cs_N zc, cs_S zc, cs_X zc), rfl, ⟨⟨hlf.1, rfl⟩, (Or.inr (Or.inl ⟨jg, rfl, hjg, hk, c4, c6, rfl, rfl⟩))⟩, hJ.1, va_K.moved hW.alike hKk, hJ.2.1⟩, hJ.2.2⟩) (fun q h => kAll_A hks _ (hS.2.2 q h)) dX10_as_46
        · skip
          have c6 := (fa_bool_prop hr5).2.mp c6
          refine lv_iconst (v := 1) hx hb dX10_as_37 (by decide) ?_
          refine lv_goto (tgt := 46) hx hb dX10_as_38 (by decide) ?_
          subst hQ
          have hP9 : va_P (dC, dI) vwCl [(cs_X zc 0 0, .inr (10, [.ref (cs_X zc 0 1), .ref (cs_X zc 0 6), .ref (cs_X zc 0 7), .ref (cs_X zc 0 8), .ref (cs_X zc 0 9), .ref (cs_X zc 0 10), .ref (cs_X zc 0 11), .int (nI (cs_n zc 0)), .int (nI (cs_n zc 1)), .int (nI (cs_n zc 2)), .int (nI (cs_n zc 3)), va_rf (opN (cs_n zc 4) (fun _ => cs_X zc 5 0)), .int 0])), cR7 cA zc, cGaK zc jg 1] H := hP.sub [0, 1, 2] rfl
          have hD9 : va_D (va_A [cTP zc, cR7 cA zc, cGaK zc jg 1] s.heap.size) [(cs_X zc 0 0, .inr (10, [.ref (cs_X zc 0 1), .ref (cs_X zc 0 6), .ref (cs_X zc 0 7), .ref (cs_X zc 0 8), .ref (cs_X zc 0 9), .ref (cs_X zc 0 10), .ref (cs_X zc 0 11), .int (nI (cs_n zc 0)), .int (nI (cs_n zc 1)), .int (nI (cs_n zc 2)), .int (nI (cs_n zc 3)), va_rf (opN (cs_n zc 4) (fun _ => cs_X zc 5 0)), .int 0])), cR7 cA zc, cGaK zc jg 1] := hD.sub [0, 1, 2] (by decide) rfl
          have hlf := lf_as_2 cA zc k jg hjg hk c4 c6 hI
          exact W.iret (v := 1) hx hb hr (fun t ht hW => have hJ := kjoin hPk hDk hks rfl (hS.F ht) (by rw [ht]; exact hP9) hD9 hlf.2.1 hlf.2.2; ⟨⟨1, (va_up (cs_i zc) 2 0, cs_n zc, cs_I zc, cs_L zc, cs_N zc, cs_S zc, cs_X zc), rfl, ⟨⟨hlf.1, rfl⟩, (Or.inr (Or.inr (Or.inl ⟨jg, rfl, hjg, hk, c4, c6, rfl, rfl⟩)))⟩, hJ.1, va_K.moved hW.alike hKk, hJ.2.1⟩, hJ.2.2⟩) (fun q h => kAll_A hks _ (hS.2.2 q h)) dX10_as_46
      · skip
        have c4 := (fa_bool_prop hr3).1.mp c4
        refine lv_bipush (v := (-2)) hx hb dX10_as_26 (by decide) ?_
        subst hQ
        have hP9 : va_P (dC, dI) vwCl [(cs_X zc 0 0, .inr (10, [.ref (cs_X zc 0 1), .ref (cs_X zc 0 6), .ref (cs_X zc 0 7), .ref (cs_X zc 0 8), .ref (cs_X zc 0 9), .ref (cs_X zc 0 10), .ref (cs_X zc 0 11), .int (nI (cs_n zc 0)), .int (nI (cs_n zc 1)), .int (nI (cs_n zc 2)), .int (nI (cs_n zc 3)), va_rf (opN (cs_n zc 4) (fun _ => cs_X zc 5 0)), .int 0])), cR7 cA zc, cGaK zc jg 1] H := hP.sub [0, 1, 2] rfl
        have hD9 : va_D (va_A [cTP zc, cR7 cA zc, cGaK zc jg 1] s.heap.size) [(cs_X zc 0 0, .inr (10, [.ref (cs_X zc 0 1), .ref (cs_X zc 0 6), .ref (cs_X zc 0 7), .ref (cs_X zc 0 8), .ref (cs_X zc 0 9), .ref (cs_X zc 0 10), .ref (cs_X zc 0 11), .int (nI (cs_n zc 0)), .int (nI (cs_n zc 1)), .int (nI (cs_n zc 2)), .int (nI (cs_n zc 3)), va_rf (opN (cs_n zc 4) (fun _ => cs_X zc 5 0)), .int 0])), cR7 cA zc, cGaK zc jg 1] := hD.sub [0, 1, 2] (by decide) rfl
        have hlf := lf_as_3 cA zc k jg hjg hk c4 hI
        exact W.iret (v := (-2)) hx hb hr (fun t ht hW => have hJ := kjoin hPk hDk hks rfl (hS.F ht) (by rw [ht]; exact hP9) hD9 hlf.2.1 hlf.2.2; ⟨⟨(-2), (va_up (cs_i zc) 2 0, cs_n zc, cs_I zc, cs_L zc, cs_N zc, cs_S zc, cs_X zc), rfl, ⟨⟨hlf.1, rfl⟩, (Or.inr (Or.inr (Or.inr (Or.inl ⟨jg, rfl, hjg, hk, c4, rfl, rfl⟩))))⟩, hJ.1, va_K.moved hW.alike hKk, hJ.2.1⟩, hJ.2.2⟩) (fun q h => kAll_A hks _ (hS.2.2 q h)) dX10_as_28
    · skip
      have hks : kAll (cF cA zc) [(0, 0), (0, 7), (2, jg)] [cTP zc, cR7 cA zc, cGaK zc jg 2] := ⟨(kF_tp (cA := cA) (z := zc)), (kF_r7 (cA := cA) (z := zc)), (kF_gaK (z := zc) (j := jg) hjg hk), trivial⟩
      have hP : va_P (dC, dI) vwCl [cTP zc, cR7 cA zc, cGaK zc jg 2] s.heap := kAll_P hPk hks
      have hD : va_D (va_A [cTP zc, cR7 cA zc, cGaK zc jg 2] s.heap.size) [cTP zc, cR7 cA zc, cGaK zc jg 2] := (kAll_D hDk hks (by simp)).self
      have hA : ∀ q : Nat, s.heap.size ≤ q → va_A [cTP zc, cR7 cA zc, cGaK zc jg 2] s.heap.size q := fun q h => Or.inr h
      have hS : va_S (va_A [cTP zc, cR7 cA zc, cGaK zc jg 2] s.heap.size) s.heap s.heap [] := va_S.rf
      refine lv_aload_n hx hb dX10_as_0 rfl (lv_at hl 0 rfl) ?_
      refine lv_iconst (v := 0) hx hb dX10_as_1 (by decide) ?_
      refine va_put (D := (dC, dI)) (ci := 10) (v := .int 0) (ty := .int) (C := RX10) (T := TX10) (N := 13) hx hb hts hiX10 tyX10 tyX10_ok nmX10 hown hK hP hD hS 0 rfl rfl 12 (by decide) (hts (.fieldLink RX10 56 "TributePitches" "latestFault" "I") (List.mem_of_getElem? (i := 1) rfl)) (fun _ h9 => h9) rfl (by decide +kernel) rfl rfl (Nat.le_of_ble_eq_true rfl) dX10_as_2 (fun H locs hP hD hS => ?_)
      have hP : va_P (dC, dI) vwCl [(cs_X zc 0 0, .inr (10, [.ref (cs_X zc 0 1), .ref (cs_X zc 0 6), .ref (cs_X zc 0 7), .ref (cs_X zc 0 8), .ref (cs_X zc 0 9), .ref (cs_X zc 0 10), .ref (cs_X zc 0 11), .int (nI (cs_n zc 0)), .int (nI (cs_n zc 1)), .int (nI (cs_n zc 2)), .int (nI (cs_n zc 3)), va_rf (opN (cs_n zc 4) (fun _ => cs_X zc 5 0)), .int 0])), cR7 cA zc, cGaK zc jg 2] H := hP
      have hD : va_D _ [(cs_X zc 0 0, .inr (10, [.ref (cs_X zc 0 1), .ref (cs_X zc 0 6), .ref (cs_X zc 0 7), .ref (cs_X zc 0 8), .ref (cs_X zc 0 9), .ref (cs_X zc 0 10), .ref (cs_X zc 0 11), .int (nI (cs_n zc 0)), .int (nI (cs_n zc 1)), .int (nI (cs_n zc 2)), .int (nI (cs_n zc 3)), va_rf (opN (cs_n zc 4) (fun _ => cs_X zc 5 0)), .int 0])), cR7 cA zc, cGaK zc jg 2] := hD
      refine lv_aload_n hx hb dX10_as_5 rfl (lv_at hl 0 rfl) ?_
      refine lv_iload_n hx hb dX10_as_6 rfl (lv_at hl 1 rfl) ?_
      have hPc := hP.sub (ws' := [(cs_X zc 0 0, .inr (10, [.ref (cs_X zc 0 1), .ref (cs_X zc 0 6), .ref (cs_X zc 0 7), .ref (cs_X zc 0 8), .ref (cs_X zc 0 9), .ref (cs_X zc 0 10), .ref (cs_X zc 0 11), .int (nI (cs_n zc 0)), .int (nI (cs_n zc 1)), .int (nI (cs_n zc 2)), .int (nI (cs_n zc 3)), va_rf (opN (cs_n zc 4) (fun _ => cs_X zc 5 0)), .int 0])), cR7 cA zc]) [0, 1] rfl
      have hDc := hD.sub (ws' := [(cs_X zc 0 0, .inr (10, [.ref (cs_X zc 0 1), .ref (cs_X zc 0 6), .ref (cs_X zc 0 7), .ref (cs_X zc 0 8), .ref (cs_X zc 0 9), .ref (cs_X zc 0 10), .ref (cs_X zc 0 11), .int (nI (cs_n zc 0)), .int (nI (cs_n zc 1)), .int (nI (cs_n zc 2)), .int (nI (cs_n zc 3)), va_rf (opN (cs_n zc 4) (fun _ => cs_X zc 5 0)), .int 0])), cR7 cA zc]) [0, 1] (by decide) rfl
      have hKc := hK.sub (tys' := [(cA 2, .object RX2)]) [2] rfl
      refine va_csq (va_Run.run (va_runV (As := [.int (nI jg)]) (rest := []) ⟨hx, hb, hml, hown, hts⟩ (s_gangAt_yes l dC dI (cA 2) _ (cs_X zc 0 0) (.ref (cs_X zc 0 1)) (.ref (cs_X zc 0 6)) (.ref (cs_X zc 0 8)) (.ref (cs_X zc 0 9)) (.ref (cs_X zc 0 10)) (.ref (cs_X zc 0 11)) (.int (nI (cs_n zc 0))) (.int (nI (cs_n zc 2))) (.int (nI (cs_n zc 3))) (va_rf (opN (cs_n zc 4) (fun _ => cs_X zc 5 0))) (.int 0) (cs_X zc 0 7) jg (cs_n zc 1) (cs_X zc 2 jg) (rfN (cs_n zc 1) (cs_X zc 2)) hjg (by omega) (rfN_at hjg)) (cwV 1 hts gX10_as_X10_gangAt rfl rfl rfl (by decide +kernel) ⟨Nat.le_of_ble_eq_true rfl, Nat.le_of_ble_eq_true rfl⟩) (pw_preV (va_recv hKc hPc (ci := 10) (q0 := 0) rfl rfl) hPc hKc hDc hN) rfl rfl hl.1 rfl (lv_room (Nat.le_of_ble_eq_true rfl)) dX10_as_7 ⟨Nat.le_of_ble_eq_true rfl, Nat.le_of_ble_eq_true rfl⟩)) (fun r8 hr8 => ?_)
      have hr8 : r8 = some (cs_X zc 2 jg) := hr8
      subst hr8
      refine W.eq (g2 := F0 m 10 ls [.ref (cs_X zc 2 jg)]) rfl ?_
      refine lv_astore_n (lv' := [(3, .ref (cs_X zc 2 jg)), (0, .ref (cs_X zc 0 0)), (1, .int (nI jg)), (2, .int k)]) hx hb dX10_as_10 rfl hl (by decide) rfl (fun ls hl => ?_)
      refine lv_aload_n hx hb dX10_as_11 rfl (lv_at hl 0 rfl) ?_
      refine lv_ifnonnull (tgt := 17) hx hb dX10_as_12 (by decide) ?_
      refine lv_iload_n hx hb dX10_as_17 rfl (lv_at hl 3 rfl) ?_
      refine lv_iconst (v := 0) hx hb dX10_as_18 (by decide) ?_
      refine lv_iconst (v := 2) hx hb dX10_as_19 (by decide) ?_
      refine vp_callSi (va_Run.run (va_runS (As := [.int k, .int 0, .int 2]) (rest := []) ⟨hx, hb, hml, hown, hts⟩ (c_X10_isWithin l k 0 2 ) (va_cwS 3 hts gX10_as_X10_isWithin rfl rfl rfl (by decide +kernel) ⟨Nat.le_of_ble_eq_true rfl, Nat.le_of_ble_eq_true rfl⟩) (p0_preS hN) rfl rfl hl.1 rfl (lv_room (Nat.le_of_ble_eq_true rfl)) dX10_as_20 ⟨Nat.le_of_ble_eq_true rfl, Nat.le_of_ble_eq_true rfl⟩)) (fun r9 hr9 => ?_)
      have hr9 : r9 = if 0 ≤ k ∧ k ≤ 2 then 1 else 0 := hr9
      refine lv_if_ne (tgt := 29) hx hb dX10_as_23 (by decide) (fun c10 => ?_) (fun c10 => ?_)
      · skip
        have c10 := (fa_bool_prop hr9).2.mp c10
        refine lv_aload_n hx hb dX10_as_29 rfl (lv_at hl 0 rfl) ?_
        refine lv_iload_n hx hb dX10_as_30 rfl (lv_at hl 3 rfl) ?_
        have hPc := hP.sub (ws' := [cGaK zc jg 2]) [2] rfl
        have hDc := hD.sub (ws' := [cGaK zc jg 2]) [2] (by decide) rfl
        have hKc := hK.sub (tys' := []) [] rfl
        refine vp_callSi (va_Run.run (va_runS (As := [.ref (cs_X zc 2 jg), .int k]) (rest := []) ⟨hx, hb, hml, hown, hts⟩ (s_isOfKind_2 l dC dI  _ (cs_X zc 2 jg) (nI jg) (cs_I zc 21 jg) (cs_I zc 22 jg) (cs_L zc 0 jg) k ) (va_cwS 2 hts gX10_as_X10_isOfKind rfl rfl rfl (by decide +kernel) ⟨Nat.le_of_ble_eq_true rfl, Nat.le_of_ble_eq_true rfl⟩) (pw_preS hPc hKc hDc hN) rfl rfl hl.1 rfl (lv_room (Nat.le_of_ble_eq_true rfl)) dX10_as_31 ⟨Nat.le_of_ble_eq_true rfl, Nat.le_of_ble_eq_true rfl⟩)) (fun r11 hr11 => ?_)
        have hr11 : r11 = if ¬ (k = 2 ∨ k = 1) then 1 else 0 := hr11
        refine lv_if_eq (tgt := 41) hx hb dX10_as_34 (by decide) (fun c12 => ?_) (fun c12 => ?_)
        · skip
          have c12 := (fa_bool_prop hr11).1.mp c12
          have c12 := Decidable.not_not.mp c12
          refine lv_aload_n hx hb dX10_as_41 rfl (lv_at hl 1 rfl) ?_
          refine lv_iconst (v := 2) hx hb dX10_as_42 (by decide) ?_
          have hPc := hP.sub (ws' := [(cs_X zc 0 0, .inr (10, [.ref (cs_X zc 0 1), .ref (cs_X zc 0 6), .ref (cs_X zc 0 7), .ref (cs_X zc 0 8), .ref (cs_X zc 0 9), .ref (cs_X zc 0 10), .ref (cs_X zc 0 11), .int (nI (cs_n zc 0)), .int (nI (cs_n zc 1)), .int (nI (cs_n zc 2)), .int (nI (cs_n zc 3)), va_rf (opN (cs_n zc 4) (fun _ => cs_X zc 5 0)), .int 0]))]) [0] rfl
          have hDc := hD.sub (ws' := [(cs_X zc 0 0, .inr (10, [.ref (cs_X zc 0 1), .ref (cs_X zc 0 6), .ref (cs_X zc 0 7), .ref (cs_X zc 0 8), .ref (cs_X zc 0 9), .ref (cs_X zc 0 10), .ref (cs_X zc 0 11), .int (nI (cs_n zc 0)), .int (nI (cs_n zc 1)), .int (nI (cs_n zc 2)), .int (nI (cs_n zc 3)), va_rf (opN (cs_n zc 4) (fun _ => cs_X zc 5 0)), .int 0]))]) [0] (by decide) rfl
          have hKc := hK.sub (tys' := []) [] rfl
          have hFc := va_free (wc := [(cs_X zc 0 0, .inr (10, [.ref (cs_X zc 0 1), .ref (cs_X zc 0 6), .ref (cs_X zc 0 7), .ref (cs_X zc 0 8), .ref (cs_X zc 0 9), .ref (cs_X zc 0 10), .ref (cs_X zc 0 11), .int (nI (cs_n zc 0)), .int (nI (cs_n zc 1)), .int (nI (cs_n zc 2)), .int (nI (cs_n zc 3)), va_rf (opN (cs_n zc 4) (fun _ => cs_X zc 5 0)), .int 0]))]) hD hS hA [0] rfl
          refine va_calli (va_runV (As := [.int 2]) (rest := []) ⟨hx, hb, hml, hown, hts⟩ (c_X10_faulted l dC dI  _ (cs_X zc 0 0) (.ref (cs_X zc 0 1)) (.ref (cs_X zc 0 6)) (.ref (cs_X zc 0 7)) (.ref (cs_X zc 0 8)) (.ref (cs_X zc 0 9)) (.ref (cs_X zc 0 10)) (.ref (cs_X zc 0 11)) (.int (nI (cs_n zc 0))) (.int (nI (cs_n zc 1))) (.int (nI (cs_n zc 2))) (.int (nI (cs_n zc 3))) (va_rf (opN (cs_n zc 4) (fun _ => cs_X zc 5 0))) (.int 0) 2 ) (cwV 1 hts gX10_as_X10_faulted rfl rfl rfl (by decide +kernel) ⟨Nat.le_of_ble_eq_true rfl, Nat.le_of_ble_eq_true rfl⟩) (pw_preV (va_recv hKc hPc (ci := 10) (q0 := 0) rfl rfl) hPc hKc hDc hN) rfl rfl hl.1 rfl (lv_room (Nat.le_of_ble_eq_true rfl)) dX10_as_43 ⟨Nat.le_of_ble_eq_true rfl, Nat.le_of_ble_eq_true rfl⟩) hS (fun q _ h => hFc q h) hFc (fun r13 u t H1 locs ht hvm hw hB hz1 hk1 hS => ?_)
          have hr13 : r13 = -10 - 2 := hw
          obtain ⟨hP1, hK1, hD1⟩ := hB
          rw [ht] at hP1
          obtain ⟨hP, hD⟩ := va_join (wr := [cR7 cA zc, cGaK zc jg 2]) (w1 := [(cs_X zc 0 0, .inr (10, [.ref (cs_X zc 0 1), .ref (cs_X zc 0 6), .ref (cs_X zc 0 7), .ref (cs_X zc 0 8), .ref (cs_X zc 0 9), .ref (cs_X zc 0 10), .ref (cs_X zc 0 11), .int (nI (cs_n zc 0)), .int (nI (cs_n zc 1)), .int (nI (cs_n zc 2)), .int (nI (cs_n zc 3)), va_rf (opN (cs_n zc 4) (fun _ => cs_X zc 5 0)), .int 2]))]) hP hD [0] [1, 2] rfl rfl (by decide) (by decide) hk1 hFc hP1 hD1
          generalize H1 = H at hP hS ⊢
          have hP : va_P (dC, dI) vwCl [cR7 cA zc, cGaK zc jg 2, (cs_X zc 0 0, .inr (10, [.ref (cs_X zc 0 1), .ref (cs_X zc 0 6), .ref (cs_X zc 0 7), .ref (cs_X zc 0 8), .ref (cs_X zc 0 9), .ref (cs_X zc 0 10), .ref (cs_X zc 0 11), .int (nI (cs_n zc 0)), .int (nI (cs_n zc 1)), .int (nI (cs_n zc 2)), .int (nI (cs_n zc 3)), va_rf (opN (cs_n zc 4) (fun _ => cs_X zc 5 0)), .int 2]))] H := hP
          have hD : va_D _ [cR7 cA zc, cGaK zc jg 2, (cs_X zc 0 0, .inr (10, [.ref (cs_X zc 0 1), .ref (cs_X zc 0 6), .ref (cs_X zc 0 7), .ref (cs_X zc 0 8), .ref (cs_X zc 0 9), .ref (cs_X zc 0 10), .ref (cs_X zc 0 11), .int (nI (cs_n zc 0)), .int (nI (cs_n zc 1)), .int (nI (cs_n zc 2)), .int (nI (cs_n zc 3)), va_rf (opN (cs_n zc 4) (fun _ => cs_X zc 5 0)), .int 2]))] := hD
          have hr13 := hr13.symm
          subst hr13
          refine W.eq (g2 := F0 m 46 ls [.int (-10 - 2)]) rfl ?_
          subst hQ
          have hP9 : va_P (dC, dI) vwCl [(cs_X zc 0 0, .inr (10, [.ref (cs_X zc 0 1), .ref (cs_X zc 0 6), .ref (cs_X zc 0 7), .ref (cs_X zc 0 8), .ref (cs_X zc 0 9), .ref (cs_X zc 0 10), .ref (cs_X zc 0 11), .int (nI (cs_n zc 0)), .int (nI (cs_n zc 1)), .int (nI (cs_n zc 2)), .int (nI (cs_n zc 3)), va_rf (opN (cs_n zc 4) (fun _ => cs_X zc 5 0)), .int 2])), cR7 cA zc, cGaK zc jg 2] H := hP.sub [2, 0, 1] rfl
          have hD9 : va_D (va_A [cTP zc, cR7 cA zc, cGaK zc jg 2] s.heap.size) [(cs_X zc 0 0, .inr (10, [.ref (cs_X zc 0 1), .ref (cs_X zc 0 6), .ref (cs_X zc 0 7), .ref (cs_X zc 0 8), .ref (cs_X zc 0 9), .ref (cs_X zc 0 10), .ref (cs_X zc 0 11), .int (nI (cs_n zc 0)), .int (nI (cs_n zc 1)), .int (nI (cs_n zc 2)), .int (nI (cs_n zc 3)), va_rf (opN (cs_n zc 4) (fun _ => cs_X zc 5 0)), .int 2])), cR7 cA zc, cGaK zc jg 2] := hD.sub [2, 0, 1] (by decide) rfl
          have hlf := lf_as_4 cA zc k jg hjg hk c10 c12 hI
          exact W.iret (v := -10 - 2) hx hb hr (fun t ht hW => have hJ := kjoin hPk hDk hks rfl (hS.F ht) (by rw [ht]; exact hP9) hD9 hlf.2.1 hlf.2.2; ⟨⟨-10 - 2, (va_up (cs_i zc) 2 2, cs_n zc, cs_I zc, cs_L zc, cs_N zc, cs_S zc, cs_X zc), rfl, ⟨⟨hlf.1, rfl⟩, (Or.inr (Or.inr (Or.inr (Or.inr (Or.inl ⟨jg, rfl, hjg, hk, c10, c12, rfl, rfl⟩)))))⟩, hJ.1, va_K.moved hW.alike hKk, hJ.2.1⟩, hJ.2.2⟩) (fun q h => kAll_A hks _ (hS.2.2 q h)) dX10_as_46
        · skip
          have c12 := (fa_bool_prop hr11).2.mp c12
          refine lv_iconst (v := 1) hx hb dX10_as_37 (by decide) ?_
          refine lv_goto (tgt := 46) hx hb dX10_as_38 (by decide) ?_
          subst hQ
          have hP9 : va_P (dC, dI) vwCl [(cs_X zc 0 0, .inr (10, [.ref (cs_X zc 0 1), .ref (cs_X zc 0 6), .ref (cs_X zc 0 7), .ref (cs_X zc 0 8), .ref (cs_X zc 0 9), .ref (cs_X zc 0 10), .ref (cs_X zc 0 11), .int (nI (cs_n zc 0)), .int (nI (cs_n zc 1)), .int (nI (cs_n zc 2)), .int (nI (cs_n zc 3)), va_rf (opN (cs_n zc 4) (fun _ => cs_X zc 5 0)), .int 0])), cR7 cA zc, cGaK zc jg 2] H := hP.sub [0, 1, 2] rfl
          have hD9 : va_D (va_A [cTP zc, cR7 cA zc, cGaK zc jg 2] s.heap.size) [(cs_X zc 0 0, .inr (10, [.ref (cs_X zc 0 1), .ref (cs_X zc 0 6), .ref (cs_X zc 0 7), .ref (cs_X zc 0 8), .ref (cs_X zc 0 9), .ref (cs_X zc 0 10), .ref (cs_X zc 0 11), .int (nI (cs_n zc 0)), .int (nI (cs_n zc 1)), .int (nI (cs_n zc 2)), .int (nI (cs_n zc 3)), va_rf (opN (cs_n zc 4) (fun _ => cs_X zc 5 0)), .int 0])), cR7 cA zc, cGaK zc jg 2] := hD.sub [0, 1, 2] (by decide) rfl
          have hlf := lf_as_5 cA zc k jg hjg hk c10 c12 hI
          exact W.iret (v := 1) hx hb hr (fun t ht hW => have hJ := kjoin hPk hDk hks rfl (hS.F ht) (by rw [ht]; exact hP9) hD9 hlf.2.1 hlf.2.2; ⟨⟨1, (va_up (cs_i zc) 2 0, cs_n zc, cs_I zc, cs_L zc, cs_N zc, cs_S zc, cs_X zc), rfl, ⟨⟨hlf.1, rfl⟩, (Or.inr (Or.inr (Or.inr (Or.inr (Or.inr (Or.inl ⟨jg, rfl, hjg, hk, c10, c12, rfl, rfl⟩))))))⟩, hJ.1, va_K.moved hW.alike hKk, hJ.2.1⟩, hJ.2.2⟩) (fun q h => kAll_A hks _ (hS.2.2 q h)) dX10_as_46
      · skip
        have c10 := (fa_bool_prop hr9).1.mp c10
        refine lv_bipush (v := (-2)) hx hb dX10_as_26 (by decide) ?_
        subst hQ
        have hP9 : va_P (dC, dI) vwCl [(cs_X zc 0 0, .inr (10, [.ref (cs_X zc 0 1), .ref (cs_X zc 0 6), .ref (cs_X zc 0 7), .ref (cs_X zc 0 8), .ref (cs_X zc 0 9), .ref (cs_X zc 0 10), .ref (cs_X zc 0 11), .int (nI (cs_n zc 0)), .int (nI (cs_n zc 1)), .int (nI (cs_n zc 2)), .int (nI (cs_n zc 3)), va_rf (opN (cs_n zc 4) (fun _ => cs_X zc 5 0)), .int 0])), cR7 cA zc, cGaK zc jg 2] H := hP.sub [0, 1, 2] rfl
        have hD9 : va_D (va_A [cTP zc, cR7 cA zc, cGaK zc jg 2] s.heap.size) [(cs_X zc 0 0, .inr (10, [.ref (cs_X zc 0 1), .ref (cs_X zc 0 6), .ref (cs_X zc 0 7), .ref (cs_X zc 0 8), .ref (cs_X zc 0 9), .ref (cs_X zc 0 10), .ref (cs_X zc 0 11), .int (nI (cs_n zc 0)), .int (nI (cs_n zc 1)), .int (nI (cs_n zc 2)), .int (nI (cs_n zc 3)), va_rf (opN (cs_n zc 4) (fun _ => cs_X zc 5 0)), .int 0])), cR7 cA zc, cGaK zc jg 2] := hD.sub [0, 1, 2] (by decide) rfl
        have hlf := lf_as_6 cA zc k jg hjg hk c10 hI
        exact W.iret (v := (-2)) hx hb hr (fun t ht hW => have hJ := kjoin hPk hDk hks rfl (hS.F ht) (by rw [ht]; exact hP9) hD9 hlf.2.1 hlf.2.2; ⟨⟨(-2), (va_up (cs_i zc) 2 0, cs_n zc, cs_I zc, cs_L zc, cs_N zc, cs_S zc, cs_X zc), rfl, ⟨⟨hlf.1, rfl⟩, (Or.inr (Or.inr (Or.inr (Or.inr (Or.inr (Or.inr (Or.inl ⟨jg, rfl, hjg, hk, c10, rfl, rfl⟩)))))))⟩, hJ.1, va_K.moved hW.alike hKk, hJ.2.1⟩, hJ.2.2⟩) (fun q h => kAll_A hks _ (hS.2.2 q h)) dX10_as_28
    · skip
      have hks : kAll (cF cA zc) [(0, 0), (0, 7), (2, jg)] [cTP zc, cR7 cA zc, cGaK zc jg 4] := ⟨(kF_tp (cA := cA) (z := zc)), (kF_r7 (cA := cA) (z := zc)), (kF_gaK (z := zc) (j := jg) hjg hk), trivial⟩
      have hP : va_P (dC, dI) vwCl [cTP zc, cR7 cA zc, cGaK zc jg 4] s.heap := kAll_P hPk hks
      have hD : va_D (va_A [cTP zc, cR7 cA zc, cGaK zc jg 4] s.heap.size) [cTP zc, cR7 cA zc, cGaK zc jg 4] := (kAll_D hDk hks (by simp)).self
      have hA : ∀ q : Nat, s.heap.size ≤ q → va_A [cTP zc, cR7 cA zc, cGaK zc jg 4] s.heap.size q := fun q h => Or.inr h
      have hS : va_S (va_A [cTP zc, cR7 cA zc, cGaK zc jg 4] s.heap.size) s.heap s.heap [] := va_S.rf
      refine lv_aload_n hx hb dX10_as_0 rfl (lv_at hl 0 rfl) ?_
      refine lv_iconst (v := 0) hx hb dX10_as_1 (by decide) ?_
      refine va_put (D := (dC, dI)) (ci := 10) (v := .int 0) (ty := .int) (C := RX10) (T := TX10) (N := 13) hx hb hts hiX10 tyX10 tyX10_ok nmX10 hown hK hP hD hS 0 rfl rfl 12 (by decide) (hts (.fieldLink RX10 56 "TributePitches" "latestFault" "I") (List.mem_of_getElem? (i := 1) rfl)) (fun _ h9 => h9) rfl (by decide +kernel) rfl rfl (Nat.le_of_ble_eq_true rfl) dX10_as_2 (fun H locs hP hD hS => ?_)
      have hP : va_P (dC, dI) vwCl [(cs_X zc 0 0, .inr (10, [.ref (cs_X zc 0 1), .ref (cs_X zc 0 6), .ref (cs_X zc 0 7), .ref (cs_X zc 0 8), .ref (cs_X zc 0 9), .ref (cs_X zc 0 10), .ref (cs_X zc 0 11), .int (nI (cs_n zc 0)), .int (nI (cs_n zc 1)), .int (nI (cs_n zc 2)), .int (nI (cs_n zc 3)), va_rf (opN (cs_n zc 4) (fun _ => cs_X zc 5 0)), .int 0])), cR7 cA zc, cGaK zc jg 4] H := hP
      have hD : va_D _ [(cs_X zc 0 0, .inr (10, [.ref (cs_X zc 0 1), .ref (cs_X zc 0 6), .ref (cs_X zc 0 7), .ref (cs_X zc 0 8), .ref (cs_X zc 0 9), .ref (cs_X zc 0 10), .ref (cs_X zc 0 11), .int (nI (cs_n zc 0)), .int (nI (cs_n zc 1)), .int (nI (cs_n zc 2)), .int (nI (cs_n zc 3)), va_rf (opN (cs_n zc 4) (fun _ => cs_X zc 5 0)), .int 0])), cR7 cA zc, cGaK zc jg 4] := hD
      refine lv_aload_n hx hb dX10_as_5 rfl (lv_at hl 0 rfl) ?_
      refine lv_iload_n hx hb dX10_as_6 rfl (lv_at hl 1 rfl) ?_
      have hPc := hP.sub (ws' := [(cs_X zc 0 0, .inr (10, [.ref (cs_X zc 0 1), .ref (cs_X zc 0 6), .ref (cs_X zc 0 7), .ref (cs_X zc 0 8), .ref (cs_X zc 0 9), .ref (cs_X zc 0 10), .ref (cs_X zc 0 11), .int (nI (cs_n zc 0)), .int (nI (cs_n zc 1)), .int (nI (cs_n zc 2)), .int (nI (cs_n zc 3)), va_rf (opN (cs_n zc 4) (fun _ => cs_X zc 5 0)), .int 0])), cR7 cA zc]) [0, 1] rfl
      have hDc := hD.sub (ws' := [(cs_X zc 0 0, .inr (10, [.ref (cs_X zc 0 1), .ref (cs_X zc 0 6), .ref (cs_X zc 0 7), .ref (cs_X zc 0 8), .ref (cs_X zc 0 9), .ref (cs_X zc 0 10), .ref (cs_X zc 0 11), .int (nI (cs_n zc 0)), .int (nI (cs_n zc 1)), .int (nI (cs_n zc 2)), .int (nI (cs_n zc 3)), va_rf (opN (cs_n zc 4) (fun _ => cs_X zc 5 0)), .int 0])), cR7 cA zc]) [0, 1] (by decide) rfl
      have hKc := hK.sub (tys' := [(cA 2, .object RX2)]) [2] rfl
      refine va_csq (va_Run.run (va_runV (As := [.int (nI jg)]) (rest := []) ⟨hx, hb, hml, hown, hts⟩ (s_gangAt_yes l dC dI (cA 2) _ (cs_X zc 0 0) (.ref (cs_X zc 0 1)) (.ref (cs_X zc 0 6)) (.ref (cs_X zc 0 8)) (.ref (cs_X zc 0 9)) (.ref (cs_X zc 0 10)) (.ref (cs_X zc 0 11)) (.int (nI (cs_n zc 0))) (.int (nI (cs_n zc 2))) (.int (nI (cs_n zc 3))) (va_rf (opN (cs_n zc 4) (fun _ => cs_X zc 5 0))) (.int 0) (cs_X zc 0 7) jg (cs_n zc 1) (cs_X zc 2 jg) (rfN (cs_n zc 1) (cs_X zc 2)) hjg (by omega) (rfN_at hjg)) (cwV 1 hts gX10_as_X10_gangAt rfl rfl rfl (by decide +kernel) ⟨Nat.le_of_ble_eq_true rfl, Nat.le_of_ble_eq_true rfl⟩) (pw_preV (va_recv hKc hPc (ci := 10) (q0 := 0) rfl rfl) hPc hKc hDc hN) rfl rfl hl.1 rfl (lv_room (Nat.le_of_ble_eq_true rfl)) dX10_as_7 ⟨Nat.le_of_ble_eq_true rfl, Nat.le_of_ble_eq_true rfl⟩)) (fun r14 hr14 => ?_)
      have hr14 : r14 = some (cs_X zc 2 jg) := hr14
      subst hr14
      refine W.eq (g2 := F0 m 10 ls [.ref (cs_X zc 2 jg)]) rfl ?_
      refine lv_astore_n (lv' := [(3, .ref (cs_X zc 2 jg)), (0, .ref (cs_X zc 0 0)), (1, .int (nI jg)), (2, .int k)]) hx hb dX10_as_10 rfl hl (by decide) rfl (fun ls hl => ?_)
      refine lv_aload_n hx hb dX10_as_11 rfl (lv_at hl 0 rfl) ?_
      refine lv_ifnonnull (tgt := 17) hx hb dX10_as_12 (by decide) ?_
      refine lv_iload_n hx hb dX10_as_17 rfl (lv_at hl 3 rfl) ?_
      refine lv_iconst (v := 0) hx hb dX10_as_18 (by decide) ?_
      refine lv_iconst (v := 2) hx hb dX10_as_19 (by decide) ?_
      refine vp_callSi (va_Run.run (va_runS (As := [.int k, .int 0, .int 2]) (rest := []) ⟨hx, hb, hml, hown, hts⟩ (c_X10_isWithin l k 0 2 ) (va_cwS 3 hts gX10_as_X10_isWithin rfl rfl rfl (by decide +kernel) ⟨Nat.le_of_ble_eq_true rfl, Nat.le_of_ble_eq_true rfl⟩) (p0_preS hN) rfl rfl hl.1 rfl (lv_room (Nat.le_of_ble_eq_true rfl)) dX10_as_20 ⟨Nat.le_of_ble_eq_true rfl, Nat.le_of_ble_eq_true rfl⟩)) (fun r15 hr15 => ?_)
      have hr15 : r15 = if 0 ≤ k ∧ k ≤ 2 then 1 else 0 := hr15
      refine lv_if_ne (tgt := 29) hx hb dX10_as_23 (by decide) (fun c16 => ?_) (fun c16 => ?_)
      · skip
        have c16 := (fa_bool_prop hr15).2.mp c16
        refine lv_aload_n hx hb dX10_as_29 rfl (lv_at hl 0 rfl) ?_
        refine lv_iload_n hx hb dX10_as_30 rfl (lv_at hl 3 rfl) ?_
        have hPc := hP.sub (ws' := [cGaK zc jg 4]) [2] rfl
        have hDc := hD.sub (ws' := [cGaK zc jg 4]) [2] (by decide) rfl
        have hKc := hK.sub (tys' := []) [] rfl
        refine vp_callSi (va_Run.run (va_runS (As := [.ref (cs_X zc 2 jg), .int k]) (rest := []) ⟨hx, hb, hml, hown, hts⟩ (s_isOfKind_4 l dC dI  _ (cs_X zc 2 jg) (nI jg) (cs_I zc 21 jg) (cs_I zc 22 jg) (cs_L zc 0 jg) k ) (va_cwS 2 hts gX10_as_X10_isOfKind rfl rfl rfl (by decide +kernel) ⟨Nat.le_of_ble_eq_true rfl, Nat.le_of_ble_eq_true rfl⟩) (pw_preS hPc hKc hDc hN) rfl rfl hl.1 rfl (lv_room (Nat.le_of_ble_eq_true rfl)) dX10_as_31 ⟨Nat.le_of_ble_eq_true rfl, Nat.le_of_ble_eq_true rfl⟩)) (fun r17 hr17 => ?_)
        have hr17 : r17 = if k = k then 1 else 0 := hr17
        refine lv_if_eq (tgt := 41) hx hb dX10_as_34 (by decide) (fun c18 => ?_) (fun c18 => ?_)
        · skip
          have c18 := (fa_bool_prop hr17).1.mp c18
          refine lv_aload_n hx hb dX10_as_41 rfl (lv_at hl 1 rfl) ?_
          refine lv_iconst (v := 2) hx hb dX10_as_42 (by decide) ?_
          have hPc := hP.sub (ws' := [(cs_X zc 0 0, .inr (10, [.ref (cs_X zc 0 1), .ref (cs_X zc 0 6), .ref (cs_X zc 0 7), .ref (cs_X zc 0 8), .ref (cs_X zc 0 9), .ref (cs_X zc 0 10), .ref (cs_X zc 0 11), .int (nI (cs_n zc 0)), .int (nI (cs_n zc 1)), .int (nI (cs_n zc 2)), .int (nI (cs_n zc 3)), va_rf (opN (cs_n zc 4) (fun _ => cs_X zc 5 0)), .int 0]))]) [0] rfl
          have hDc := hD.sub (ws' := [(cs_X zc 0 0, .inr (10, [.ref (cs_X zc 0 1), .ref (cs_X zc 0 6), .ref (cs_X zc 0 7), .ref (cs_X zc 0 8), .ref (cs_X zc 0 9), .ref (cs_X zc 0 10), .ref (cs_X zc 0 11), .int (nI (cs_n zc 0)), .int (nI (cs_n zc 1)), .int (nI (cs_n zc 2)), .int (nI (cs_n zc 3)), va_rf (opN (cs_n zc 4) (fun _ => cs_X zc 5 0)), .int 0]))]) [0] (by decide) rfl
          have hKc := hK.sub (tys' := []) [] rfl
          have hFc := va_free (wc := [(cs_X zc 0 0, .inr (10, [.ref (cs_X zc 0 1), .ref (cs_X zc 0 6), .ref (cs_X zc 0 7), .ref (cs_X zc 0 8), .ref (cs_X zc 0 9), .ref (cs_X zc 0 10), .ref (cs_X zc 0 11), .int (nI (cs_n zc 0)), .int (nI (cs_n zc 1)), .int (nI (cs_n zc 2)), .int (nI (cs_n zc 3)), va_rf (opN (cs_n zc 4) (fun _ => cs_X zc 5 0)), .int 0]))]) hD hS hA [0] rfl
          refine va_calli (va_runV (As := [.int 2]) (rest := []) ⟨hx, hb, hml, hown, hts⟩ (c_X10_faulted l dC dI  _ (cs_X zc 0 0) (.ref (cs_X zc 0 1)) (.ref (cs_X zc 0 6)) (.ref (cs_X zc 0 7)) (.ref (cs_X zc 0 8)) (.ref (cs_X zc 0 9)) (.ref (cs_X zc 0 10)) (.ref (cs_X zc 0 11)) (.int (nI (cs_n zc 0))) (.int (nI (cs_n zc 1))) (.int (nI (cs_n zc 2))) (.int (nI (cs_n zc 3))) (va_rf (opN (cs_n zc 4) (fun _ => cs_X zc 5 0))) (.int 0) 2 ) (cwV 1 hts gX10_as_X10_faulted rfl rfl rfl (by decide +kernel) ⟨Nat.le_of_ble_eq_true rfl, Nat.le_of_ble_eq_true rfl⟩) (pw_preV (va_recv hKc hPc (ci := 10) (q0 := 0) rfl rfl) hPc hKc hDc hN) rfl rfl hl.1 rfl (lv_room (Nat.le_of_ble_eq_true rfl)) dX10_as_43 ⟨Nat.le_of_ble_eq_true rfl, Nat.le_of_ble_eq_true rfl⟩) hS (fun q _ h => hFc q h) hFc (fun r19 u t H1 locs ht hvm hw hB hz1 hk1 hS => ?_)
          have hr19 : r19 = -10 - 2 := hw
          obtain ⟨hP1, hK1, hD1⟩ := hB
          rw [ht] at hP1
          obtain ⟨hP, hD⟩ := va_join (wr := [cR7 cA zc, cGaK zc jg 4]) (w1 := [(cs_X zc 0 0, .inr (10, [.ref (cs_X zc 0 1), .ref (cs_X zc 0 6), .ref (cs_X zc 0 7), .ref (cs_X zc 0 8), .ref (cs_X zc 0 9), .ref (cs_X zc 0 10), .ref (cs_X zc 0 11), .int (nI (cs_n zc 0)), .int (nI (cs_n zc 1)), .int (nI (cs_n zc 2)), .int (nI (cs_n zc 3)), va_rf (opN (cs_n zc 4) (fun _ => cs_X zc 5 0)), .int 2]))]) hP hD [0] [1, 2] rfl rfl (by decide) (by decide) hk1 hFc hP1 hD1
          generalize H1 = H at hP hS ⊢
          have hP : va_P (dC, dI) vwCl [cR7 cA zc, cGaK zc jg 4, (cs_X zc 0 0, .inr (10, [.ref (cs_X zc 0 1), .ref (cs_X zc 0 6), .ref (cs_X zc 0 7), .ref (cs_X zc 0 8), .ref (cs_X zc 0 9), .ref (cs_X zc 0 10), .ref (cs_X zc 0 11), .int (nI (cs_n zc 0)), .int (nI (cs_n zc 1)), .int (nI (cs_n zc 2)), .int (nI (cs_n zc 3)), va_rf (opN (cs_n zc 4) (fun _ => cs_X zc 5 0)), .int 2]))] H := hP
          have hD : va_D _ [cR7 cA zc, cGaK zc jg 4, (cs_X zc 0 0, .inr (10, [.ref (cs_X zc 0 1), .ref (cs_X zc 0 6), .ref (cs_X zc 0 7), .ref (cs_X zc 0 8), .ref (cs_X zc 0 9), .ref (cs_X zc 0 10), .ref (cs_X zc 0 11), .int (nI (cs_n zc 0)), .int (nI (cs_n zc 1)), .int (nI (cs_n zc 2)), .int (nI (cs_n zc 3)), va_rf (opN (cs_n zc 4) (fun _ => cs_X zc 5 0)), .int 2]))] := hD
          have hr19 := hr19.symm
          subst hr19
          refine W.eq (g2 := F0 m 46 ls [.int (-10 - 2)]) rfl ?_
          subst hQ
          have hP9 : va_P (dC, dI) vwCl [(cs_X zc 0 0, .inr (10, [.ref (cs_X zc 0 1), .ref (cs_X zc 0 6), .ref (cs_X zc 0 7), .ref (cs_X zc 0 8), .ref (cs_X zc 0 9), .ref (cs_X zc 0 10), .ref (cs_X zc 0 11), .int (nI (cs_n zc 0)), .int (nI (cs_n zc 1)), .int (nI (cs_n zc 2)), .int (nI (cs_n zc 3)), va_rf (opN (cs_n zc 4) (fun _ => cs_X zc 5 0)), .int 2])), cR7 cA zc, cGaK zc jg 4] H := hP.sub [2, 0, 1] rfl
          have hD9 : va_D (va_A [cTP zc, cR7 cA zc, cGaK zc jg 4] s.heap.size) [(cs_X zc 0 0, .inr (10, [.ref (cs_X zc 0 1), .ref (cs_X zc 0 6), .ref (cs_X zc 0 7), .ref (cs_X zc 0 8), .ref (cs_X zc 0 9), .ref (cs_X zc 0 10), .ref (cs_X zc 0 11), .int (nI (cs_n zc 0)), .int (nI (cs_n zc 1)), .int (nI (cs_n zc 2)), .int (nI (cs_n zc 3)), va_rf (opN (cs_n zc 4) (fun _ => cs_X zc 5 0)), .int 2])), cR7 cA zc, cGaK zc jg 4] := hD.sub [2, 0, 1] (by decide) rfl
          have hlf := lf_as_7 cA zc k jg hjg hk c16 c18 hI
          exact W.iret (v := -10 - 2) hx hb hr (fun t ht hW => have hJ := kjoin hPk hDk hks rfl (hS.F ht) (by rw [ht]; exact hP9) hD9 hlf.2.1 hlf.2.2; ⟨⟨-10 - 2, (va_up (cs_i zc) 2 2, cs_n zc, cs_I zc, cs_L zc, cs_N zc, cs_S zc, cs_X zc), rfl, ⟨⟨hlf.1, rfl⟩, (Or.inr (Or.inr (Or.inr (Or.inr (Or.inr (Or.inr (Or.inr (Or.inl ⟨jg, rfl, hjg, hk, c16, c18, rfl, rfl⟩))))))))⟩, hJ.1, va_K.moved hW.alike hKk, hJ.2.1⟩, hJ.2.2⟩) (fun q h => kAll_A hks _ (hS.2.2 q h)) dX10_as_46
        · skip
          have c18 := (fa_bool_prop hr17).2.mp c18
          refine lv_iconst (v := 1) hx hb dX10_as_37 (by decide) ?_
          refine lv_goto (tgt := 46) hx hb dX10_as_38 (by decide) ?_
          subst hQ
          have hP9 : va_P (dC, dI) vwCl [(cs_X zc 0 0, .inr (10, [.ref (cs_X zc 0 1), .ref (cs_X zc 0 6), .ref (cs_X zc 0 7), .ref (cs_X zc 0 8), .ref (cs_X zc 0 9), .ref (cs_X zc 0 10), .ref (cs_X zc 0 11), .int (nI (cs_n zc 0)), .int (nI (cs_n zc 1)), .int (nI (cs_n zc 2)), .int (nI (cs_n zc 3)), va_rf (opN (cs_n zc 4) (fun _ => cs_X zc 5 0)), .int 0])), cR7 cA zc, cGaK zc jg 4] H := hP.sub [0, 1, 2] rfl
          have hD9 : va_D (va_A [cTP zc, cR7 cA zc, cGaK zc jg 4] s.heap.size) [(cs_X zc 0 0, .inr (10, [.ref (cs_X zc 0 1), .ref (cs_X zc 0 6), .ref (cs_X zc 0 7), .ref (cs_X zc 0 8), .ref (cs_X zc 0 9), .ref (cs_X zc 0 10), .ref (cs_X zc 0 11), .int (nI (cs_n zc 0)), .int (nI (cs_n zc 1)), .int (nI (cs_n zc 2)), .int (nI (cs_n zc 3)), va_rf (opN (cs_n zc 4) (fun _ => cs_X zc 5 0)), .int 0])), cR7 cA zc, cGaK zc jg 4] := hD.sub [0, 1, 2] (by decide) rfl
          have hlf := lf_as_8 cA zc k jg hjg hk c16 c18 hI
          exact W.iret (v := 1) hx hb hr (fun t ht hW => have hJ := kjoin hPk hDk hks rfl (hS.F ht) (by rw [ht]; exact hP9) hD9 hlf.2.1 hlf.2.2; ⟨⟨1, (va_up (cs_i zc) 2 0, cs_n zc, cs_I zc, cs_L zc, cs_N zc, cs_S zc, cs_X zc), rfl, ⟨⟨hlf.1, rfl⟩, (Or.inr (Or.inr (Or.inr (Or.inr (Or.inr (Or.inr (Or.inr (Or.inr (Or.inl ⟨jg, rfl, hjg, hk, c16, c18, rfl, rfl⟩)))))))))⟩, hJ.1, va_K.moved hW.alike hKk, hJ.2.1⟩, hJ.2.2⟩) (fun q h => kAll_A hks _ (hS.2.2 q h)) dX10_as_46
      · skip
        have c16 := (fa_bool_prop hr15).1.mp c16
        refine lv_bipush (v := (-2)) hx hb dX10_as_26 (by decide) ?_
        subst hQ
        have hP9 : va_P (dC, dI) vwCl [(cs_X zc 0 0, .inr (10, [.ref (cs_X zc 0 1), .ref (cs_X zc 0 6), .ref (cs_X zc 0 7), .ref (cs_X zc 0 8), .ref (cs_X zc 0 9), .ref (cs_X zc 0 10), .ref (cs_X zc 0 11), .int (nI (cs_n zc 0)), .int (nI (cs_n zc 1)), .int (nI (cs_n zc 2)), .int (nI (cs_n zc 3)), va_rf (opN (cs_n zc 4) (fun _ => cs_X zc 5 0)), .int 0])), cR7 cA zc, cGaK zc jg 4] H := hP.sub [0, 1, 2] rfl
        have hD9 : va_D (va_A [cTP zc, cR7 cA zc, cGaK zc jg 4] s.heap.size) [(cs_X zc 0 0, .inr (10, [.ref (cs_X zc 0 1), .ref (cs_X zc 0 6), .ref (cs_X zc 0 7), .ref (cs_X zc 0 8), .ref (cs_X zc 0 9), .ref (cs_X zc 0 10), .ref (cs_X zc 0 11), .int (nI (cs_n zc 0)), .int (nI (cs_n zc 1)), .int (nI (cs_n zc 2)), .int (nI (cs_n zc 3)), va_rf (opN (cs_n zc 4) (fun _ => cs_X zc 5 0)), .int 0])), cR7 cA zc, cGaK zc jg 4] := hD.sub [0, 1, 2] (by decide) rfl
        have hlf := lf_as_9 cA zc k jg hjg hk c16 hI
        exact W.iret (v := (-2)) hx hb hr (fun t ht hW => have hJ := kjoin hPk hDk hks rfl (hS.F ht) (by rw [ht]; exact hP9) hD9 hlf.2.1 hlf.2.2; ⟨⟨(-2), (va_up (cs_i zc) 2 0, cs_n zc, cs_I zc, cs_L zc, cs_N zc, cs_S zc, cs_X zc), rfl, ⟨⟨hlf.1, rfl⟩, (Or.inr (Or.inr (Or.inr (Or.inr (Or.inr (Or.inr (Or.inr (Or.inr (Or.inr ⟨jg, rfl, hjg, hk, c16, rfl, rfl⟩)))))))))⟩, hJ.1, va_K.moved hW.alike hKk, hJ.2.1⟩, hJ.2.2⟩) (fun q h => kAll_A hks _ (hS.2.2 q h)) dX10_as_28
def pC_taken (zc : CS) (t : Int32) (wh : Int32) (r : Int32) (u : CS) : Prop :=
  ((∀ j, j < cs_n zc 2 → t ≠ nI j) ∧ r = ((-1)) ∧ u = zc) ∨
  (∃ jt : Nat, t = nI jt ∧ (jt < cs_n zc 2) ∧ (cs_N zc 1 (cs_N zc 2 jt) = 1) ∧ wh = 0 ∧ r = (nI (cs_N zc 2 jt)) ∧ u = zc) ∨
  (∃ jt : Nat, t = nI jt ∧ (jt < cs_n zc 2) ∧ (cs_N zc 1 (cs_N zc 2 jt) = 1) ∧ wh = 1 ∧ r = (nI (cs_N zc 3 jt)) ∧ u = zc) ∨
  (∃ jt : Nat, t = nI jt ∧ (jt < cs_n zc 2) ∧ (cs_N zc 1 (cs_N zc 2 jt) = 1) ∧ wh = 2 ∧ r = (cs_I zc 31 jt) ∧ u = zc) ∨
  (∃ jt : Nat, t = nI jt ∧ (jt < cs_n zc 2) ∧ (cs_N zc 1 (cs_N zc 2 jt) = 1) ∧ wh = 3 ∧ ((cs_I zc 33 jt) = 0) ∧ r = (0) ∧ u = zc) ∨
  (∃ jt : Nat, t = nI jt ∧ (jt < cs_n zc 2) ∧ (cs_N zc 1 (cs_N zc 2 jt) = 1) ∧ wh = 3 ∧ (¬ (cs_I zc 33 jt) = 0) ∧ r = (1) ∧ u = zc) ∨
  (∃ jt : Nat, t = nI jt ∧ (jt < cs_n zc 2) ∧ (cs_N zc 1 (cs_N zc 2 jt) = 1) ∧ wh = 4 ∧ r = (cs_I zc 32 jt) ∧ u = zc) ∨
  (∃ jt : Nat, t = nI jt ∧ (jt < cs_n zc 2) ∧ (cs_N zc 1 (cs_N zc 2 jt) = 1) ∧ (¬ wh = 0) ∧ (¬ wh = 1) ∧ (¬ wh = 2) ∧ (¬ wh = 3) ∧ (¬ wh = 4) ∧ r = ((-2)) ∧ u = zc) ∨
  (∃ jt : Nat, t = nI jt ∧ (jt < cs_n zc 2) ∧ (cs_N zc 1 (cs_N zc 2 jt) = 2) ∧ wh = 0 ∧ r = (nI (cs_N zc 2 jt)) ∧ u = zc) ∨
  (∃ jt : Nat, t = nI jt ∧ (jt < cs_n zc 2) ∧ (cs_N zc 1 (cs_N zc 2 jt) = 2) ∧ wh = 1 ∧ r = (nI (cs_N zc 3 jt)) ∧ u = zc) ∨
  (∃ jt : Nat, t = nI jt ∧ (jt < cs_n zc 2) ∧ (cs_N zc 1 (cs_N zc 2 jt) = 2) ∧ wh = 2 ∧ r = (cs_I zc 31 jt) ∧ u = zc) ∨
  (∃ jt : Nat, t = nI jt ∧ (jt < cs_n zc 2) ∧ (cs_N zc 1 (cs_N zc 2 jt) = 2) ∧ wh = 3 ∧ ((cs_I zc 33 jt) = 0) ∧ r = (0) ∧ u = zc) ∨
  (∃ jt : Nat, t = nI jt ∧ (jt < cs_n zc 2) ∧ (cs_N zc 1 (cs_N zc 2 jt) = 2) ∧ wh = 3 ∧ (¬ (cs_I zc 33 jt) = 0) ∧ r = (1) ∧ u = zc) ∨
  (∃ jt : Nat, t = nI jt ∧ (jt < cs_n zc 2) ∧ (cs_N zc 1 (cs_N zc 2 jt) = 2) ∧ wh = 4 ∧ r = (cs_I zc 32 jt) ∧ u = zc) ∨
  (∃ jt : Nat, t = nI jt ∧ (jt < cs_n zc 2) ∧ (cs_N zc 1 (cs_N zc 2 jt) = 2) ∧ (¬ wh = 0) ∧ (¬ wh = 1) ∧ (¬ wh = 2) ∧ (¬ wh = 3) ∧ (¬ wh = 4) ∧ r = ((-2)) ∧ u = zc) ∨
  (∃ jt : Nat, t = nI jt ∧ (jt < cs_n zc 2) ∧ (cs_N zc 1 (cs_N zc 2 jt) = 4) ∧ wh = 0 ∧ r = (nI (cs_N zc 2 jt)) ∧ u = zc) ∨
  (∃ jt : Nat, t = nI jt ∧ (jt < cs_n zc 2) ∧ (cs_N zc 1 (cs_N zc 2 jt) = 4) ∧ wh = 1 ∧ r = (nI (cs_N zc 3 jt)) ∧ u = zc) ∨
  (∃ jt : Nat, t = nI jt ∧ (jt < cs_n zc 2) ∧ (cs_N zc 1 (cs_N zc 2 jt) = 4) ∧ wh = 2 ∧ r = (cs_I zc 31 jt) ∧ u = zc) ∨
  (∃ jt : Nat, t = nI jt ∧ (jt < cs_n zc 2) ∧ (cs_N zc 1 (cs_N zc 2 jt) = 4) ∧ wh = 3 ∧ ((cs_I zc 33 jt) = 0) ∧ r = (0) ∧ u = zc) ∨
  (∃ jt : Nat, t = nI jt ∧ (jt < cs_n zc 2) ∧ (cs_N zc 1 (cs_N zc 2 jt) = 4) ∧ wh = 3 ∧ (¬ (cs_I zc 33 jt) = 0) ∧ r = (1) ∧ u = zc) ∨
  (∃ jt : Nat, t = nI jt ∧ (jt < cs_n zc 2) ∧ (cs_N zc 1 (cs_N zc 2 jt) = 4) ∧ wh = 4 ∧ r = (cs_I zc 32 jt) ∧ u = zc) ∨
  (∃ jt : Nat, t = nI jt ∧ (jt < cs_n zc 2) ∧ (cs_N zc 1 (cs_N zc 2 jt) = 4) ∧ (¬ wh = 0) ∧ (¬ wh = 1) ∧ (¬ wh = 2) ∧ (¬ wh = 3) ∧ (¬ wh = 4) ∧ r = ((-2)) ∧ u = zc)
set_option maxHeartbeats 4000000 in
set_option maxRecDepth 100000 in
theorem K_taken (l : Launch) (dC : Nat → ClassId) (dI : Nat → Nat → Nat) (cA : Nat → ClassId) (sz : Nat) (zc : CS) (t : Int32) (wh : Int32) (hI : invC zc) : Met l yX10_taken wsX10_taken ({ frames := 2, cells := 0, slots := 0, locals := 60 }) (kw (dC, dI) (ctys cA) (cF cA zc) sz [.ref (cs_X zc 0 0), .int t, .int wh]) (kQi (dC, dI) (ctys cA) (cF cA zc) sz (cF cA) (fun r u => (invC u ∧ cs_X u 0 0 = cs_X zc 0 0) ∧ pC_taken zc t wh r u)) 0 0 (kA (cF cA zc) sz) := by
  refine kw_met (cc := cX10_taken) (maxL := 4) (ret := (some .int)) (by decide) rfl (Nat.le_of_ble_eq_true rfl) ?_
  intro p e s m below meth c0 hx hb hr hml hown hlocks hnm hts hPk hKk hDk hN hsz ls hl
  subst hsz
  have hK : va_K (dC, dI) vwCl [(cA 0, .int), (cA 1, .object RX6), (cA 2, .object RX2), (cA 3, .object RX8), (cA 4, .object RX5), (cA 5, .object RX7)] s := hKk
  obtain ⟨⟨hn0, hn1, hn2, hn3, hn4, hn5⟩, hpi, hgk, htk, hpk, hsh⟩ := id hI
  have hl : lv_has ls 4 [(0, .ref (cs_X zc 0 0)), (1, .int t), (2, .int wh)] := hl
  have hiX1 : ∀ w ∈ wsX10, w ∈ wsX10_taken := fun _ h => List.mem_cons_of_mem _ (List.mem_append_left _ (List.mem_append_left _ (List.mem_append_left _ (List.mem_append_left _ (List.mem_append_right _ (h))))))
  have hiX2 : ∀ w ∈ wsX20, w ∈ wsX10_taken := fun _ h => List.mem_cons_of_mem _ (List.mem_append_left _ (List.mem_append_left _ (List.mem_append_left _ (List.mem_append_right _ (h)))))
  have hiX4 : ∀ w ∈ wsX40, w ∈ wsX10_taken := fun _ h => List.mem_cons_of_mem _ (List.mem_append_left _ (List.mem_append_left _ (List.mem_append_right _ (h))))
  have hiX6 : ∀ w ∈ wsX60, w ∈ wsX10_taken := fun _ h => List.mem_cons_of_mem _ (List.mem_append_left _ (List.mem_append_right _ (h)))
  have hiX8 : ∀ w ∈ wsX80, w ∈ wsX10_taken := fun _ h => List.mem_cons_of_mem _ (List.mem_append_left _ (List.mem_append_left _ (List.mem_append_left _ (List.mem_append_left _ (List.mem_append_left _ (List.mem_append_right _ (h)))))))
  generalize hQ : MQ _ _ _ _ _ _ _ = Q
  rcases ixd t (cs_n zc 2) with hnojt | ⟨jt, hjt, rfl⟩
  · skip
    have hks : kAll (cF cA zc) [(0, 0), (0, 8)] [cTP zc, cR8 cA zc] := ⟨(kF_tp (cA := cA) (z := zc)), (kF_r8 (cA := cA) (z := zc)), trivial⟩
    have hP : va_P (dC, dI) vwCl [cTP zc, cR8 cA zc] s.heap := kAll_P hPk hks
    have hD : va_D (va_A [cTP zc, cR8 cA zc] s.heap.size) [cTP zc, cR8 cA zc] := (kAll_D hDk hks (by simp)).self
    have hA : ∀ q : Nat, s.heap.size ≤ q → va_A [cTP zc, cR8 cA zc] s.heap.size q := fun q h => Or.inr h
    have hS : va_S (va_A [cTP zc, cR8 cA zc] s.heap.size) s.heap s.heap [] := va_S.rf
    refine lv_aload_n hx hb dX10_taken_0 rfl (lv_at hl 0 rfl) ?_
    refine lv_iload_n hx hb dX10_taken_1 rfl (lv_at hl 1 rfl) ?_
    have hPc := hP.sub (ws' := [cTP zc]) [0] rfl
    have hDc := hD.sub (ws' := [cTP zc]) [0] (by decide) rfl
    have hKc := hK.sub (tys' := []) [] rfl
    refine va_csq (va_Run.run (va_runV (As := [.int t]) (rest := []) ⟨hx, hb, hml, hown, hts⟩ (s_takeAt_no l dC dI  _ (cs_X zc 0 0) (.ref (cs_X zc 0 1)) (.ref (cs_X zc 0 6)) (.ref (cs_X zc 0 7)) (.ref (cs_X zc 0 8)) (.ref (cs_X zc 0 9)) (.ref (cs_X zc 0 10)) (.ref (cs_X zc 0 11)) (.int (nI (cs_n zc 0))) (.int (nI (cs_n zc 1))) (.int (nI (cs_n zc 3))) (va_rf (opN (cs_n zc 4) (fun _ => cs_X zc 5 0))) (.int (cs_i zc 2)) t (cs_n zc 2) (by omega) hnojt) (cwV 1 hts gX10_taken_X10_takeAt rfl rfl rfl (by decide +kernel) ⟨Nat.le_of_ble_eq_true rfl, Nat.le_of_ble_eq_true rfl⟩) (pw_preV (va_recv hKc hPc (ci := 10) (q0 := 0) rfl rfl) hPc hKc hDc hN) rfl rfl hl.1 rfl (lv_room (Nat.le_of_ble_eq_true rfl)) dX10_taken_2 ⟨Nat.le_of_ble_eq_true rfl, Nat.le_of_ble_eq_true rfl⟩)) (fun r1 hr1 => ?_)
    have hr1 : r1 = none := hr1
    subst hr1
    refine W.eq (g2 := F0 m 5 ls [.null]) rfl ?_
    refine lv_astore_nN (lv' := [(3, .null), (0, .ref (cs_X zc 0 0)), (1, .int t), (2, .int wh)]) hx hb dX10_taken_5 rfl hl (by decide) rfl (fun ls hl => ?_)
    refine lv_aload_nN hx hb dX10_taken_6 rfl (lv_at hl 0 rfl) ?_
    refine lv_ifnonnullN hx hb dX10_taken_7 ?_
    refine lv_iconst (v := (-1)) hx hb dX10_taken_10 (by decide) ?_
    subst hQ
    exact W.iret (v := (-1)) hx hb hr (fun t ht hW => ⟨⟨(-1), zc, rfl, ⟨⟨hI, rfl⟩, (Or.inl ⟨hnojt, rfl, rfl⟩)⟩, (by rw [ht]; exact hPk), va_K.moved hW.alike hKk, kDA_self hDk⟩, (kw_same hPk ht).2⟩) (fun q h => absurd h List.not_mem_nil) dX10_taken_11
  · skip
    rcases (hgk (cs_N zc 2 jt) (htk jt hjt).1) with hk | hk | hk
    · skip
      have hks : kAll (cF cA zc) [(0, 0), (0, 8), (3, jt), (2, cs_N zc 2 jt), (1, cs_N zc 3 jt)] [cTP zc, cR8 cA zc, cTa zc jt, cGaK zc (cs_N zc 2 jt) 1, cPi zc (cs_N zc 3 jt)] := ⟨(kF_tp (cA := cA) (z := zc)), (kF_r8 (cA := cA) (z := zc)), (kF_ta (z := zc) hjt), (kF_gaK (z := zc) (j := cs_N zc 2 jt) (htk jt hjt).1 hk), (kF_pi (z := zc) (j := cs_N zc 3 jt) (htk jt hjt).2), trivial⟩
      have hP : va_P (dC, dI) vwCl [cTP zc, cR8 cA zc, cTa zc jt, cGaK zc (cs_N zc 2 jt) 1, cPi zc (cs_N zc 3 jt)] s.heap := kAll_P hPk hks
      have hD : va_D (va_A [cTP zc, cR8 cA zc, cTa zc jt, cGaK zc (cs_N zc 2 jt) 1, cPi zc (cs_N zc 3 jt)] s.heap.size) [cTP zc, cR8 cA zc, cTa zc jt, cGaK zc (cs_N zc 2 jt) 1, cPi zc (cs_N zc 3 jt)] := (kAll_D hDk hks (by simp)).self
      have hA : ∀ q : Nat, s.heap.size ≤ q → va_A [cTP zc, cR8 cA zc, cTa zc jt, cGaK zc (cs_N zc 2 jt) 1, cPi zc (cs_N zc 3 jt)] s.heap.size q := fun q h => Or.inr h
      have hS : va_S (va_A [cTP zc, cR8 cA zc, cTa zc jt, cGaK zc (cs_N zc 2 jt) 1, cPi zc (cs_N zc 3 jt)] s.heap.size) s.heap s.heap [] := va_S.rf
      refine lv_aload_n hx hb dX10_taken_0 rfl (lv_at hl 0 rfl) ?_
      refine lv_iload_n hx hb dX10_taken_1 rfl (lv_at hl 1 rfl) ?_
      have hPc := hP.sub (ws' := [cTP zc, cR8 cA zc]) [0, 1] rfl
      have hDc := hD.sub (ws' := [cTP zc, cR8 cA zc]) [0, 1] (by decide) rfl
      have hKc := hK.sub (tys' := [(cA 3, .object RX8)]) [3] rfl
      refine va_csq (va_Run.run (va_runV (As := [.int (nI jt)]) (rest := []) ⟨hx, hb, hml, hown, hts⟩ (s_takeAt_yes l dC dI (cA 3) _ (cs_X zc 0 0) (.ref (cs_X zc 0 1)) (.ref (cs_X zc 0 6)) (.ref (cs_X zc 0 7)) (.ref (cs_X zc 0 9)) (.ref (cs_X zc 0 10)) (.ref (cs_X zc 0 11)) (.int (nI (cs_n zc 0))) (.int (nI (cs_n zc 1))) (.int (nI (cs_n zc 3))) (va_rf (opN (cs_n zc 4) (fun _ => cs_X zc 5 0))) (.int (cs_i zc 2)) (cs_X zc 0 8) jt (cs_n zc 2) (cs_X zc 3 jt) (rfN (cs_n zc 2) (cs_X zc 3)) hjt (by omega) (rfN_at hjt)) (cwV 1 hts gX10_taken_X10_takeAt rfl rfl rfl (by decide +kernel) ⟨Nat.le_of_ble_eq_true rfl, Nat.le_of_ble_eq_true rfl⟩) (pw_preV (va_recv hKc hPc (ci := 10) (q0 := 0) rfl rfl) hPc hKc hDc hN) rfl rfl hl.1 rfl (lv_room (Nat.le_of_ble_eq_true rfl)) dX10_taken_2 ⟨Nat.le_of_ble_eq_true rfl, Nat.le_of_ble_eq_true rfl⟩)) (fun r2 hr2 => ?_)
      have hr2 : r2 = some (cs_X zc 3 jt) := hr2
      subst hr2
      refine W.eq (g2 := F0 m 5 ls [.ref (cs_X zc 3 jt)]) rfl ?_
      refine lv_astore_n (lv' := [(3, .ref (cs_X zc 3 jt)), (0, .ref (cs_X zc 0 0)), (1, .int (nI jt)), (2, .int wh)]) hx hb dX10_taken_5 rfl hl (by decide) rfl (fun ls hl => ?_)
      refine lv_aload_n hx hb dX10_taken_6 rfl (lv_at hl 0 rfl) ?_
      refine lv_ifnonnull (tgt := 12) hx hb dX10_taken_7 (by decide) ?_
      refine lv_iload_n hx hb dX10_taken_12 rfl (lv_at hl 3 rfl) ?_
      by_cases hw3 : wh = 0
      · subst hw3
        refine lv_tableIn (off := 35) (tgt := 48) hx hb dX10_taken_13 (by decide) (by decide) rfl (by decide) ?_
        refine lv_aload_n hx hb dX10_taken_48 rfl (lv_at hl 0 rfl) ?_
        refine va_get (D := (dC, dI)) (ci := 8) (v := .ref (cs_X zc 2 (cs_N zc 2 jt))) (C := RX8) (T := TX8) (N := 12) hx hb hts hiX8 hown hK hP 2 rfl rfl 2 (by decide) (hts (.fieldLink RX10 265 "TributePitches$Take" "gang" "LTributePitches$Gang;") (List.mem_of_getElem? (i := 1) rfl)) (fun _ h9 => h9) rfl dX10_taken_49 ?_
        refine va_get (D := (dC, dI)) (ci := 1) (v := .int (nI (cs_N zc 2 jt))) (C := RX1) (T := TX1) (N := 4) hx hb hts hiX1 hown hK hP 3 rfl rfl 0 (by decide) (hts (.fieldLink RX10 268 "TributePitches$Gang" "number" "I") (List.mem_of_getElem? (i := 2) rfl)) (fun _ h9 => h9) rfl dX10_taken_52 ?_
        subst hQ
        exact W.iret (v := nI (cs_N zc 2 jt)) hx hb hr (fun t ht hW => ⟨⟨nI (cs_N zc 2 jt), zc, rfl, ⟨⟨hI, rfl⟩, (Or.inr (Or.inl ⟨jt, rfl, hjt, hk, rfl, rfl, rfl⟩))⟩, (by rw [ht]; exact hPk), va_K.moved hW.alike hKk, kDA_self hDk⟩, (kw_same hPk ht).2⟩) (fun q h => absurd h List.not_mem_nil) dX10_taken_55
      by_cases hw4 : wh = 1
      · subst hw4
        refine lv_tableIn (off := 43) (tgt := 56) hx hb dX10_taken_13 (by decide) (by decide) rfl (by decide) ?_
        refine lv_aload_n hx hb dX10_taken_56 rfl (lv_at hl 0 rfl) ?_
        refine va_get (D := (dC, dI)) (ci := 8) (v := .ref (cs_X zc 1 (cs_N zc 3 jt))) (C := RX8) (T := TX8) (N := 12) hx hb hts hiX8 hown hK hP 2 rfl rfl 3 (by decide) (hts (.fieldLink RX10 245 "TributePitches$Take" "pitch" "LTributePitches$Pitch;") (List.mem_of_getElem? (i := 3) rfl)) (fun _ h9 => h9) rfl dX10_taken_57 ?_
        refine va_get (D := (dC, dI)) (ci := 6) (v := .int (nI (cs_N zc 3 jt))) (C := RX6) (T := TX6) (N := 8) hx hb hts hiX6 hown hK hP 4 rfl rfl 0 (by decide) (hts (.fieldLink RX10 269 "TributePitches$Pitch" "number" "I") (List.mem_of_getElem? (i := 4) rfl)) (fun _ h9 => h9) rfl dX10_taken_60 ?_
        subst hQ
        exact W.iret (v := nI (cs_N zc 3 jt)) hx hb hr (fun t ht hW => ⟨⟨nI (cs_N zc 3 jt), zc, rfl, ⟨⟨hI, rfl⟩, (Or.inr (Or.inr (Or.inl ⟨jt, rfl, hjt, hk, rfl, rfl, rfl⟩)))⟩, (by rw [ht]; exact hPk), va_K.moved hW.alike hKk, kDA_self hDk⟩, (kw_same hPk ht).2⟩) (fun q h => absurd h List.not_mem_nil) dX10_taken_63
      by_cases hw5 : wh = 2
      · subst hw5
        refine lv_tableIn (off := 51) (tgt := 64) hx hb dX10_taken_13 (by decide) (by decide) rfl (by decide) ?_
        refine lv_aload_n hx hb dX10_taken_64 rfl (lv_at hl 0 rfl) ?_
        refine va_get (D := (dC, dI)) (ci := 8) (v := .int (cs_I zc 31 jt)) (C := RX8) (T := TX8) (N := 12) hx hb hts hiX8 hown hK hP 2 rfl rfl 1 (by decide) (hts (.fieldLink RX10 270 "TributePitches$Take" "share" "I") (List.mem_of_getElem? (i := 5) rfl)) (fun _ h9 => h9) rfl dX10_taken_65 ?_
        subst hQ
        exact W.iret (v := cs_I zc 31 jt) hx hb hr (fun t ht hW => ⟨⟨cs_I zc 31 jt, zc, rfl, ⟨⟨hI, rfl⟩, (Or.inr (Or.inr (Or.inr (Or.inl ⟨jt, rfl, hjt, hk, rfl, rfl, rfl⟩))))⟩, (by rw [ht]; exact hPk), va_K.moved hW.alike hKk, kDA_self hDk⟩, (kw_same hPk ht).2⟩) (fun q h => absurd h List.not_mem_nil) dX10_taken_68
      by_cases hw6 : wh = 3
      · subst hw6
        refine lv_tableIn (off := 56) (tgt := 69) hx hb dX10_taken_13 (by decide) (by decide) rfl (by decide) ?_
        refine lv_aload_n hx hb dX10_taken_69 rfl (lv_at hl 0 rfl) ?_
        refine va_get (D := (dC, dI)) (ci := 8) (v := .int (cs_I zc 33 jt)) (C := RX8) (T := TX8) (N := 12) hx hb hts hiX8 hown hK hP 2 rfl rfl 11 (by decide) (hts (.fieldLink RX10 238 "TributePitches$Take" "settled" "Z") (List.mem_of_getElem? (i := 6) rfl)) (fun _ h9 => h9) rfl dX10_taken_70 ?_
        refine lv_if_eq (tgt := 80) hx hb dX10_taken_73 (by decide) (fun c7 => ?_) (fun c7 => ?_)
        · skip
          refine lv_iconst (v := 0) hx hb dX10_taken_80 (by decide) ?_
          subst hQ
          exact W.iret (v := 0) hx hb hr (fun t ht hW => ⟨⟨0, zc, rfl, ⟨⟨hI, rfl⟩, (Or.inr (Or.inr (Or.inr (Or.inr (Or.inl ⟨jt, rfl, hjt, hk, rfl, c7, rfl, rfl⟩)))))⟩, (by rw [ht]; exact hPk), va_K.moved hW.alike hKk, kDA_self hDk⟩, (kw_same hPk ht).2⟩) (fun q h => absurd h List.not_mem_nil) dX10_taken_81
        · skip
          refine lv_iconst (v := 1) hx hb dX10_taken_76 (by decide) ?_
          refine lv_goto (tgt := 81) hx hb dX10_taken_77 (by decide) ?_
          subst hQ
          exact W.iret (v := 1) hx hb hr (fun t ht hW => ⟨⟨1, zc, rfl, ⟨⟨hI, rfl⟩, (Or.inr (Or.inr (Or.inr (Or.inr (Or.inr (Or.inl ⟨jt, rfl, hjt, hk, rfl, c7, rfl, rfl⟩))))))⟩, (by rw [ht]; exact hPk), va_K.moved hW.alike hKk, kDA_self hDk⟩, (kw_same hPk ht).2⟩) (fun q h => absurd h List.not_mem_nil) dX10_taken_81
      by_cases hw8 : wh = 4
      · subst hw8
        refine lv_tableIn (off := 69) (tgt := 82) hx hb dX10_taken_13 (by decide) (by decide) rfl (by decide) ?_
        refine lv_aload_n hx hb dX10_taken_82 rfl (lv_at hl 0 rfl) ?_
        refine va_get (D := (dC, dI)) (ci := 8) (v := .int (cs_I zc 32 jt)) (C := RX8) (T := TX8) (N := 12) hx hb hts hiX8 hown hK hP 2 rfl rfl 10 (by decide) (hts (.fieldLink RX10 247 "TributePitches$Take" "parcels" "I") (List.mem_of_getElem? (i := 7) rfl)) (fun _ h9 => h9) rfl dX10_taken_83 ?_
        subst hQ
        exact W.iret (v := cs_I zc 32 jt) hx hb hr (fun t ht hW => ⟨⟨cs_I zc 32 jt, zc, rfl, ⟨⟨hI, rfl⟩, (Or.inr (Or.inr (Or.inr (Or.inr (Or.inr (Or.inr (Or.inl ⟨jt, rfl, hjt, hk, rfl, rfl, rfl⟩)))))))⟩, (by rw [ht]; exact hPk), va_K.moved hW.alike hKk, kDA_self hDk⟩, (kw_same hPk ht).2⟩) (fun q h => absurd h List.not_mem_nil) dX10_taken_86
      refine lv_tableOut (tgt := 87) hx hb dX10_taken_13 (tb_out5 hw3 hw4 hw5 hw6 hw8) (by decide) ?_
      refine lv_bipush (v := (-2)) hx hb dX10_taken_87 (by decide) ?_
      subst hQ
      exact W.iret (v := (-2)) hx hb hr (fun t ht hW => ⟨⟨(-2), zc, rfl, ⟨⟨hI, rfl⟩, (Or.inr (Or.inr (Or.inr (Or.inr (Or.inr (Or.inr (Or.inr (Or.inl ⟨jt, rfl, hjt, hk, hw3, hw4, hw5, hw6, hw8, rfl, rfl⟩))))))))⟩, (by rw [ht]; exact hPk), va_K.moved hW.alike hKk, kDA_self hDk⟩, (kw_same hPk ht).2⟩) (fun q h => absurd h List.not_mem_nil) dX10_taken_89
    · skip
      have hks : kAll (cF cA zc) [(0, 0), (0, 8), (3, jt), (2, cs_N zc 2 jt), (1, cs_N zc 3 jt)] [cTP zc, cR8 cA zc, cTa zc jt, cGaK zc (cs_N zc 2 jt) 2, cPi zc (cs_N zc 3 jt)] := ⟨(kF_tp (cA := cA) (z := zc)), (kF_r8 (cA := cA) (z := zc)), (kF_ta (z := zc) hjt), (kF_gaK (z := zc) (j := cs_N zc 2 jt) (htk jt hjt).1 hk), (kF_pi (z := zc) (j := cs_N zc 3 jt) (htk jt hjt).2), trivial⟩
      have hP : va_P (dC, dI) vwCl [cTP zc, cR8 cA zc, cTa zc jt, cGaK zc (cs_N zc 2 jt) 2, cPi zc (cs_N zc 3 jt)] s.heap := kAll_P hPk hks
      have hD : va_D (va_A [cTP zc, cR8 cA zc, cTa zc jt, cGaK zc (cs_N zc 2 jt) 2, cPi zc (cs_N zc 3 jt)] s.heap.size) [cTP zc, cR8 cA zc, cTa zc jt, cGaK zc (cs_N zc 2 jt) 2, cPi zc (cs_N zc 3 jt)] := (kAll_D hDk hks (by simp)).self
      have hA : ∀ q : Nat, s.heap.size ≤ q → va_A [cTP zc, cR8 cA zc, cTa zc jt, cGaK zc (cs_N zc 2 jt) 2, cPi zc (cs_N zc 3 jt)] s.heap.size q := fun q h => Or.inr h
      have hS : va_S (va_A [cTP zc, cR8 cA zc, cTa zc jt, cGaK zc (cs_N zc 2 jt) 2, cPi zc (cs_N zc 3 jt)] s.heap.size) s.heap s.heap [] := va_S.rf
      refine lv_aload_n hx hb dX10_taken_0 rfl (lv_at hl 0 rfl) ?_
      refine lv_iload_n hx hb dX10_taken_1 rfl (lv_at hl 1 rfl) ?_
      have hPc := hP.sub (ws' := [cTP zc, cR8 cA zc]) [0, 1] rfl
      have hDc := hD.sub (ws' := [cTP zc, cR8 cA zc]) [0, 1] (by decide) rfl
      have hKc := hK.sub (tys' := [(cA 3, .object RX8)]) [3] rfl
      refine va_csq (va_Run.run (va_runV (As := [.int (nI jt)]) (rest := []) ⟨hx, hb, hml, hown, hts⟩ (s_takeAt_yes l dC dI (cA 3) _ (cs_X zc 0 0) (.ref (cs_X zc 0 1)) (.ref (cs_X zc 0 6)) (.ref (cs_X zc 0 7)) (.ref (cs_X zc 0 9)) (.ref (cs_X zc 0 10)) (.ref (cs_X zc 0 11)) (.int (nI (cs_n zc 0))) (.int (nI (cs_n zc 1))) (.int (nI (cs_n zc 3))) (va_rf (opN (cs_n zc 4) (fun _ => cs_X zc 5 0))) (.int (cs_i zc 2)) (cs_X zc 0 8) jt (cs_n zc 2) (cs_X zc 3 jt) (rfN (cs_n zc 2) (cs_X zc 3)) hjt (by omega) (rfN_at hjt)) (cwV 1 hts gX10_taken_X10_takeAt rfl rfl rfl (by decide +kernel) ⟨Nat.le_of_ble_eq_true rfl, Nat.le_of_ble_eq_true rfl⟩) (pw_preV (va_recv hKc hPc (ci := 10) (q0 := 0) rfl rfl) hPc hKc hDc hN) rfl rfl hl.1 rfl (lv_room (Nat.le_of_ble_eq_true rfl)) dX10_taken_2 ⟨Nat.le_of_ble_eq_true rfl, Nat.le_of_ble_eq_true rfl⟩)) (fun r9 hr9 => ?_)
      have hr9 : r9 = some (cs_X zc 3 jt) := hr9
      subst hr9
      refine W.eq (g2 := F0 m 5 ls [.ref (cs_X zc 3 jt)]) rfl ?_
      refine lv_astore_n (lv' := [(3, .ref (cs_X zc 3 jt)), (0, .ref (cs_X zc 0 0)), (1, .int (nI jt)), (2, .int wh)]) hx hb dX10_taken_5 rfl hl (by decide) rfl (fun ls hl => ?_)
      refine lv_aload_n hx hb dX10_taken_6 rfl (lv_at hl 0 rfl) ?_
      refine lv_ifnonnull (tgt := 12) hx hb dX10_taken_7 (by decide) ?_
      refine lv_iload_n hx hb dX10_taken_12 rfl (lv_at hl 3 rfl) ?_
      by_cases hw10 : wh = 0
      · subst hw10
        refine lv_tableIn (off := 35) (tgt := 48) hx hb dX10_taken_13 (by decide) (by decide) rfl (by decide) ?_
        refine lv_aload_n hx hb dX10_taken_48 rfl (lv_at hl 0 rfl) ?_
        refine va_get (D := (dC, dI)) (ci := 8) (v := .ref (cs_X zc 2 (cs_N zc 2 jt))) (C := RX8) (T := TX8) (N := 12) hx hb hts hiX8 hown hK hP 2 rfl rfl 2 (by decide) (hts (.fieldLink RX10 265 "TributePitches$Take" "gang" "LTributePitches$Gang;") (List.mem_of_getElem? (i := 1) rfl)) (fun _ h9 => h9) rfl dX10_taken_49 ?_
        refine va_get (D := (dC, dI)) (ci := 2) (v := .int (nI (cs_N zc 2 jt))) (C := RX2) (T := TX2) (N := 4) hx hb hts hiX2 hown hK hP 3 rfl rfl 0 (by decide) (hts (.fieldLink RX10 268 "TributePitches$Gang" "number" "I") (List.mem_of_getElem? (i := 2) rfl)) (fun _ h9 => h9) rfl dX10_taken_52 ?_
        subst hQ
        exact W.iret (v := nI (cs_N zc 2 jt)) hx hb hr (fun t ht hW => ⟨⟨nI (cs_N zc 2 jt), zc, rfl, ⟨⟨hI, rfl⟩, (Or.inr (Or.inr (Or.inr (Or.inr (Or.inr (Or.inr (Or.inr (Or.inr (Or.inl ⟨jt, rfl, hjt, hk, rfl, rfl, rfl⟩)))))))))⟩, (by rw [ht]; exact hPk), va_K.moved hW.alike hKk, kDA_self hDk⟩, (kw_same hPk ht).2⟩) (fun q h => absurd h List.not_mem_nil) dX10_taken_55
      by_cases hw11 : wh = 1
      · subst hw11
        refine lv_tableIn (off := 43) (tgt := 56) hx hb dX10_taken_13 (by decide) (by decide) rfl (by decide) ?_
        refine lv_aload_n hx hb dX10_taken_56 rfl (lv_at hl 0 rfl) ?_
        refine va_get (D := (dC, dI)) (ci := 8) (v := .ref (cs_X zc 1 (cs_N zc 3 jt))) (C := RX8) (T := TX8) (N := 12) hx hb hts hiX8 hown hK hP 2 rfl rfl 3 (by decide) (hts (.fieldLink RX10 245 "TributePitches$Take" "pitch" "LTributePitches$Pitch;") (List.mem_of_getElem? (i := 3) rfl)) (fun _ h9 => h9) rfl dX10_taken_57 ?_
        refine va_get (D := (dC, dI)) (ci := 6) (v := .int (nI (cs_N zc 3 jt))) (C := RX6) (T := TX6) (N := 8) hx hb hts hiX6 hown hK hP 4 rfl rfl 0 (by decide) (hts (.fieldLink RX10 269 "TributePitches$Pitch" "number" "I") (List.mem_of_getElem? (i := 4) rfl)) (fun _ h9 => h9) rfl dX10_taken_60 ?_
        subst hQ
        exact W.iret (v := nI (cs_N zc 3 jt)) hx hb hr (fun t ht hW => ⟨⟨nI (cs_N zc 3 jt), zc, rfl, ⟨⟨hI, rfl⟩, (Or.inr (Or.inr (Or.inr (Or.inr (Or.inr (Or.inr (Or.inr (Or.inr (Or.inr (Or.inl ⟨jt, rfl, hjt, hk, rfl, rfl, rfl⟩))))))))))⟩, (by rw [ht]; exact hPk), va_K.moved hW.alike hKk, kDA_self hDk⟩, (kw_same hPk ht).2⟩) (fun q h => absurd h List.not_mem_nil) dX10_taken_63
      by_cases hw12 : wh = 2
      · subst hw12
        refine lv_tableIn (off := 51) (tgt := 64) hx hb dX10_taken_13 (by decide) (by decide) rfl (by decide) ?_
        refine lv_aload_n hx hb dX10_taken_64 rfl (lv_at hl 0 rfl) ?_
        refine va_get (D := (dC, dI)) (ci := 8) (v := .int (cs_I zc 31 jt)) (C := RX8) (T := TX8) (N := 12) hx hb hts hiX8 hown hK hP 2 rfl rfl 1 (by decide) (hts (.fieldLink RX10 270 "TributePitches$Take" "share" "I") (List.mem_of_getElem? (i := 5) rfl)) (fun _ h9 => h9) rfl dX10_taken_65 ?_
        subst hQ
        exact W.iret (v := cs_I zc 31 jt) hx hb hr (fun t ht hW => ⟨⟨cs_I zc 31 jt, zc, rfl, ⟨⟨hI, rfl⟩, (Or.inr (Or.inr (Or.inr (Or.inr (Or.inr (Or.inr (Or.inr (Or.inr (Or.inr (Or.inr (Or.inl ⟨jt, rfl, hjt, hk, rfl, rfl, rfl⟩)))))))))))⟩, (by rw [ht]; exact hPk), va_K.moved hW.alike hKk, kDA_self hDk⟩, (kw_same hPk ht).2⟩) (fun q h => absurd h List.not_mem_nil) dX10_taken_68
      by_cases hw13 : wh = 3
      · subst hw13
        refine lv_tableIn (off := 56) (tgt := 69) hx hb dX10_taken_13 (by decide) (by decide) rfl (by decide) ?_
        refine lv_aload_n hx hb dX10_taken_69 rfl (lv_at hl 0 rfl) ?_
        refine va_get (D := (dC, dI)) (ci := 8) (v := .int (cs_I zc 33 jt)) (C := RX8) (T := TX8) (N := 12) hx hb hts hiX8 hown hK hP 2 rfl rfl 11 (by decide) (hts (.fieldLink RX10 238 "TributePitches$Take" "settled" "Z") (List.mem_of_getElem? (i := 6) rfl)) (fun _ h9 => h9) rfl dX10_taken_70 ?_
        refine lv_if_eq (tgt := 80) hx hb dX10_taken_73 (by decide) (fun c14 => ?_) (fun c14 => ?_)
        · skip
          refine lv_iconst (v := 0) hx hb dX10_taken_80 (by decide) ?_
          subst hQ
          exact W.iret (v := 0) hx hb hr (fun t ht hW => ⟨⟨0, zc, rfl, ⟨⟨hI, rfl⟩, (Or.inr (Or.inr (Or.inr (Or.inr (Or.inr (Or.inr (Or.inr (Or.inr (Or.inr (Or.inr (Or.inr (Or.inl ⟨jt, rfl, hjt, hk, rfl, c14, rfl, rfl⟩))))))))))))⟩, (by rw [ht]; exact hPk), va_K.moved hW.alike hKk, kDA_self hDk⟩, (kw_same hPk ht).2⟩) (fun q h => absurd h List.not_mem_nil) dX10_taken_81
        · skip
          refine lv_iconst (v := 1) hx hb dX10_taken_76 (by decide) ?_
          refine lv_goto (tgt := 81) hx hb dX10_taken_77 (by decide) ?_
          subst hQ
          exact W.iret (v := 1) hx hb hr (fun t ht hW => ⟨⟨1, zc, rfl, ⟨⟨hI, rfl⟩, (Or.inr (Or.inr (Or.inr (Or.inr (Or.inr (Or.inr (Or.inr (Or.inr (Or.inr (Or.inr (Or.inr (Or.inr (Or.inl ⟨jt, rfl, hjt, hk, rfl, c14, rfl, rfl⟩)))))))))))))⟩, (by rw [ht]; exact hPk), va_K.moved hW.alike hKk, kDA_self hDk⟩, (kw_same hPk ht).2⟩) (fun q h => absurd h List.not_mem_nil) dX10_taken_81
      by_cases hw15 : wh = 4
      · subst hw15
        refine lv_tableIn (off := 69) (tgt := 82) hx hb dX10_taken_13 (by decide) (by decide) rfl (by decide) ?_
        refine lv_aload_n hx hb dX10_taken_82 rfl (lv_at hl 0 rfl) ?_
        refine va_get (D := (dC, dI)) (ci := 8) (v := .int (cs_I zc 32 jt)) (C := RX8) (T := TX8) (N := 12) hx hb hts hiX8 hown hK hP 2 rfl rfl 10 (by decide) (hts (.fieldLink RX10 247 "TributePitches$Take" "parcels" "I") (List.mem_of_getElem? (i := 7) rfl)) (fun _ h9 => h9) rfl dX10_taken_83 ?_
        subst hQ
        exact W.iret (v := cs_I zc 32 jt) hx hb hr (fun t ht hW => ⟨⟨cs_I zc 32 jt, zc, rfl, ⟨⟨hI, rfl⟩, (Or.inr (Or.inr (Or.inr (Or.inr (Or.inr (Or.inr (Or.inr (Or.inr (Or.inr (Or.inr (Or.inr (Or.inr (Or.inr (Or.inl ⟨jt, rfl, hjt, hk, rfl, rfl, rfl⟩))))))))))))))⟩, (by rw [ht]; exact hPk), va_K.moved hW.alike hKk, kDA_self hDk⟩, (kw_same hPk ht).2⟩) (fun q h => absurd h List.not_mem_nil) dX10_taken_86
      refine lv_tableOut (tgt := 87) hx hb dX10_taken_13 (tb_out5 hw10 hw11 hw12 hw13 hw15) (by decide) ?_
      refine lv_bipush (v := (-2)) hx hb dX10_taken_87 (by decide) ?_
      subst hQ
      exact W.iret (v := (-2)) hx hb hr (fun t ht hW => ⟨⟨(-2), zc, rfl, ⟨⟨hI, rfl⟩, (Or.inr (Or.inr (Or.inr (Or.inr (Or.inr (Or.inr (Or.inr (Or.inr (Or.inr (Or.inr (Or.inr (Or.inr (Or.inr (Or.inr (Or.inl ⟨jt, rfl, hjt, hk, hw10, hw11, hw12, hw13, hw15, rfl, rfl⟩)))))))))))))))⟩, (by rw [ht]; exact hPk), va_K.moved hW.alike hKk, kDA_self hDk⟩, (kw_same hPk ht).2⟩) (fun q h => absurd h List.not_mem_nil) dX10_taken_89
    · skip
      have hks : kAll (cF cA zc) [(0, 0), (0, 8), (3, jt), (2, cs_N zc 2 jt), (1, cs_N zc 3 jt)] [cTP zc, cR8 cA zc, cTa zc jt, cGaK zc (cs_N zc 2 jt) 4, cPi zc (cs_N zc 3 jt)] := ⟨(kF_tp (cA := cA) (z := zc)), (kF_r8 (cA := cA) (z := zc)), (kF_ta (z := zc) hjt), (kF_gaK (z := zc) (j := cs_N zc 2 jt) (htk jt hjt).1 hk), (kF_pi (z := zc) (j := cs_N zc 3 jt) (htk jt hjt).2), trivial⟩
      have hP : va_P (dC, dI) vwCl [cTP zc, cR8 cA zc, cTa zc jt, cGaK zc (cs_N zc 2 jt) 4, cPi zc (cs_N zc 3 jt)] s.heap := kAll_P hPk hks
      have hD : va_D (va_A [cTP zc, cR8 cA zc, cTa zc jt, cGaK zc (cs_N zc 2 jt) 4, cPi zc (cs_N zc 3 jt)] s.heap.size) [cTP zc, cR8 cA zc, cTa zc jt, cGaK zc (cs_N zc 2 jt) 4, cPi zc (cs_N zc 3 jt)] := (kAll_D hDk hks (by simp)).self
      have hA : ∀ q : Nat, s.heap.size ≤ q → va_A [cTP zc, cR8 cA zc, cTa zc jt, cGaK zc (cs_N zc 2 jt) 4, cPi zc (cs_N zc 3 jt)] s.heap.size q := fun q h => Or.inr h
      have hS : va_S (va_A [cTP zc, cR8 cA zc, cTa zc jt, cGaK zc (cs_N zc 2 jt) 4, cPi zc (cs_N zc 3 jt)] s.heap.size) s.heap s.heap [] := va_S.rf
      refine lv_aload_n hx hb dX10_taken_0 rfl (lv_at hl 0 rfl) ?_
      refine lv_iload_n hx hb dX10_taken_1 rfl (lv_at hl 1 rfl) ?_
      have hPc := hP.sub (ws' := [cTP zc, cR8 cA zc]) [0, 1] rfl
      have hDc := hD.sub (ws' := [cTP zc, cR8 cA zc]) [0, 1] (by decide) rfl
      have hKc := hK.sub (tys' := [(cA 3, .object RX8)]) [3] rfl
      refine va_csq (va_Run.run (va_runV (As := [.int (nI jt)]) (rest := []) ⟨hx, hb, hml, hown, hts⟩ (s_takeAt_yes l dC dI (cA 3) _ (cs_X zc 0 0) (.ref (cs_X zc 0 1)) (.ref (cs_X zc 0 6)) (.ref (cs_X zc 0 7)) (.ref (cs_X zc 0 9)) (.ref (cs_X zc 0 10)) (.ref (cs_X zc 0 11)) (.int (nI (cs_n zc 0))) (.int (nI (cs_n zc 1))) (.int (nI (cs_n zc 3))) (va_rf (opN (cs_n zc 4) (fun _ => cs_X zc 5 0))) (.int (cs_i zc 2)) (cs_X zc 0 8) jt (cs_n zc 2) (cs_X zc 3 jt) (rfN (cs_n zc 2) (cs_X zc 3)) hjt (by omega) (rfN_at hjt)) (cwV 1 hts gX10_taken_X10_takeAt rfl rfl rfl (by decide +kernel) ⟨Nat.le_of_ble_eq_true rfl, Nat.le_of_ble_eq_true rfl⟩) (pw_preV (va_recv hKc hPc (ci := 10) (q0 := 0) rfl rfl) hPc hKc hDc hN) rfl rfl hl.1 rfl (lv_room (Nat.le_of_ble_eq_true rfl)) dX10_taken_2 ⟨Nat.le_of_ble_eq_true rfl, Nat.le_of_ble_eq_true rfl⟩)) (fun r16 hr16 => ?_)
      have hr16 : r16 = some (cs_X zc 3 jt) := hr16
      subst hr16
      refine W.eq (g2 := F0 m 5 ls [.ref (cs_X zc 3 jt)]) rfl ?_
      refine lv_astore_n (lv' := [(3, .ref (cs_X zc 3 jt)), (0, .ref (cs_X zc 0 0)), (1, .int (nI jt)), (2, .int wh)]) hx hb dX10_taken_5 rfl hl (by decide) rfl (fun ls hl => ?_)
      refine lv_aload_n hx hb dX10_taken_6 rfl (lv_at hl 0 rfl) ?_
      refine lv_ifnonnull (tgt := 12) hx hb dX10_taken_7 (by decide) ?_
      refine lv_iload_n hx hb dX10_taken_12 rfl (lv_at hl 3 rfl) ?_
      by_cases hw17 : wh = 0
      · subst hw17
        refine lv_tableIn (off := 35) (tgt := 48) hx hb dX10_taken_13 (by decide) (by decide) rfl (by decide) ?_
        refine lv_aload_n hx hb dX10_taken_48 rfl (lv_at hl 0 rfl) ?_
        refine va_get (D := (dC, dI)) (ci := 8) (v := .ref (cs_X zc 2 (cs_N zc 2 jt))) (C := RX8) (T := TX8) (N := 12) hx hb hts hiX8 hown hK hP 2 rfl rfl 2 (by decide) (hts (.fieldLink RX10 265 "TributePitches$Take" "gang" "LTributePitches$Gang;") (List.mem_of_getElem? (i := 1) rfl)) (fun _ h9 => h9) rfl dX10_taken_49 ?_
        refine va_get (D := (dC, dI)) (ci := 4) (v := .int (nI (cs_N zc 2 jt))) (C := RX4) (T := TX4) (N := 4) hx hb hts hiX4 hown hK hP 3 rfl rfl 0 (by decide) (hts (.fieldLink RX10 268 "TributePitches$Gang" "number" "I") (List.mem_of_getElem? (i := 2) rfl)) (fun _ h9 => h9) rfl dX10_taken_52 ?_
        subst hQ
        exact W.iret (v := nI (cs_N zc 2 jt)) hx hb hr (fun t ht hW => ⟨⟨nI (cs_N zc 2 jt), zc, rfl, ⟨⟨hI, rfl⟩, (Or.inr (Or.inr (Or.inr (Or.inr (Or.inr (Or.inr (Or.inr (Or.inr (Or.inr (Or.inr (Or.inr (Or.inr (Or.inr (Or.inr (Or.inr (Or.inl ⟨jt, rfl, hjt, hk, rfl, rfl, rfl⟩))))))))))))))))⟩, (by rw [ht]; exact hPk), va_K.moved hW.alike hKk, kDA_self hDk⟩, (kw_same hPk ht).2⟩) (fun q h => absurd h List.not_mem_nil) dX10_taken_55
      by_cases hw18 : wh = 1
      · subst hw18
        refine lv_tableIn (off := 43) (tgt := 56) hx hb dX10_taken_13 (by decide) (by decide) rfl (by decide) ?_
        refine lv_aload_n hx hb dX10_taken_56 rfl (lv_at hl 0 rfl) ?_
        refine va_get (D := (dC, dI)) (ci := 8) (v := .ref (cs_X zc 1 (cs_N zc 3 jt))) (C := RX8) (T := TX8) (N := 12) hx hb hts hiX8 hown hK hP 2 rfl rfl 3 (by decide) (hts (.fieldLink RX10 245 "TributePitches$Take" "pitch" "LTributePitches$Pitch;") (List.mem_of_getElem? (i := 3) rfl)) (fun _ h9 => h9) rfl dX10_taken_57 ?_
        refine va_get (D := (dC, dI)) (ci := 6) (v := .int (nI (cs_N zc 3 jt))) (C := RX6) (T := TX6) (N := 8) hx hb hts hiX6 hown hK hP 4 rfl rfl 0 (by decide) (hts (.fieldLink RX10 269 "TributePitches$Pitch" "number" "I") (List.mem_of_getElem? (i := 4) rfl)) (fun _ h9 => h9) rfl dX10_taken_60 ?_
        subst hQ
        exact W.iret (v := nI (cs_N zc 3 jt)) hx hb hr (fun t ht hW => ⟨⟨nI (cs_N zc 3 jt), zc, rfl, ⟨⟨hI, rfl⟩, (Or.inr (Or.inr (Or.inr (Or.inr (Or.inr (Or.inr (Or.inr (Or.inr (Or.inr (Or.inr (Or.inr (Or.inr (Or.inr (Or.inr (Or.inr (Or.inr (Or.inl ⟨jt, rfl, hjt, hk, rfl, rfl, rfl⟩)))))))))))))))))⟩, (by rw [ht]; exact hPk), va_K.moved hW.alike hKk, kDA_self hDk⟩, (kw_same hPk ht).2⟩) (fun q h => absurd h List.not_mem_nil) dX10_taken_63
      by_cases hw19 : wh = 2
      · subst hw19
        refine lv_tableIn (off := 51) (tgt := 64) hx hb dX10_taken_13 (by decide) (by decide) rfl (by decide) ?_
        refine lv_aload_n hx hb dX10_taken_64 rfl (lv_at hl 0 rfl) ?_
        refine va_get (D := (dC, dI)) (ci := 8) (v := .int (cs_I zc 31 jt)) (C := RX8) (T := TX8) (N := 12) hx hb hts hiX8 hown hK hP 2 rfl rfl 1 (by decide) (hts (.fieldLink RX10 270 "TributePitches$Take" "share" "I") (List.mem_of_getElem? (i := 5) rfl)) (fun _ h9 => h9) rfl dX10_taken_65 ?_
        subst hQ
        exact W.iret (v := cs_I zc 31 jt) hx hb hr (fun t ht hW => ⟨⟨cs_I zc 31 jt, zc, rfl, ⟨⟨hI, rfl⟩, (Or.inr (Or.inr (Or.inr (Or.inr (Or.inr (Or.inr (Or.inr (Or.inr (Or.inr (Or.inr (Or.inr (Or.inr (Or.inr (Or.inr (Or.inr (Or.inr (Or.inr (Or.inl ⟨jt, rfl, hjt, hk, rfl, rfl, rfl⟩))))))))))))))))))⟩, (by rw [ht]; exact hPk), va_K.moved hW.alike hKk, kDA_self hDk⟩, (kw_same hPk ht).2⟩) (fun q h => absurd h List.not_mem_nil) dX10_taken_68
      by_cases hw20 : wh = 3
      · subst hw20
        refine lv_tableIn (off := 56) (tgt := 69) hx hb dX10_taken_13 (by decide) (by decide) rfl (by decide) ?_
        refine lv_aload_n hx hb dX10_taken_69 rfl (lv_at hl 0 rfl) ?_
        refine va_get (D := (dC, dI)) (ci := 8) (v := .int (cs_I zc 33 jt)) (C := RX8) (T := TX8) (N := 12) hx hb hts hiX8 hown hK hP 2 rfl rfl 11 (by decide) (hts (.fieldLink RX10 238 "TributePitches$Take" "settled" "Z") (List.mem_of_getElem? (i := 6) rfl)) (fun _ h9 => h9) rfl dX10_taken_70 ?_
        refine lv_if_eq (tgt := 80) hx hb dX10_taken_73 (by decide) (fun c21 => ?_) (fun c21 => ?_)
        · skip
          refine lv_iconst (v := 0) hx hb dX10_taken_80 (by decide) ?_
          subst hQ
          exact W.iret (v := 0) hx hb hr (fun t ht hW => ⟨⟨0, zc, rfl, ⟨⟨hI, rfl⟩, (Or.inr (Or.inr (Or.inr (Or.inr (Or.inr (Or.inr (Or.inr (Or.inr (Or.inr (Or.inr (Or.inr (Or.inr (Or.inr (Or.inr (Or.inr (Or.inr (Or.inr (Or.inr (Or.inl ⟨jt, rfl, hjt, hk, rfl, c21, rfl, rfl⟩)))))))))))))))))))⟩, (by rw [ht]; exact hPk), va_K.moved hW.alike hKk, kDA_self hDk⟩, (kw_same hPk ht).2⟩) (fun q h => absurd h List.not_mem_nil) dX10_taken_81
        · skip
          refine lv_iconst (v := 1) hx hb dX10_taken_76 (by decide) ?_
          refine lv_goto (tgt := 81) hx hb dX10_taken_77 (by decide) ?_
          subst hQ
          exact W.iret (v := 1) hx hb hr (fun t ht hW => ⟨⟨1, zc, rfl, ⟨⟨hI, rfl⟩, (Or.inr (Or.inr (Or.inr (Or.inr (Or.inr (Or.inr (Or.inr (Or.inr (Or.inr (Or.inr (Or.inr (Or.inr (Or.inr (Or.inr (Or.inr (Or.inr (Or.inr (Or.inr (Or.inr (Or.inl ⟨jt, rfl, hjt, hk, rfl, c21, rfl, rfl⟩))))))))))))))))))))⟩, (by rw [ht]; exact hPk), va_K.moved hW.alike hKk, kDA_self hDk⟩, (kw_same hPk ht).2⟩) (fun q h => absurd h List.not_mem_nil) dX10_taken_81
      by_cases hw22 : wh = 4
      · subst hw22
        refine lv_tableIn (off := 69) (tgt := 82) hx hb dX10_taken_13 (by decide) (by decide) rfl (by decide) ?_
        refine lv_aload_n hx hb dX10_taken_82 rfl (lv_at hl 0 rfl) ?_
        refine va_get (D := (dC, dI)) (ci := 8) (v := .int (cs_I zc 32 jt)) (C := RX8) (T := TX8) (N := 12) hx hb hts hiX8 hown hK hP 2 rfl rfl 10 (by decide) (hts (.fieldLink RX10 247 "TributePitches$Take" "parcels" "I") (List.mem_of_getElem? (i := 7) rfl)) (fun _ h9 => h9) rfl dX10_taken_83 ?_
        subst hQ
        exact W.iret (v := cs_I zc 32 jt) hx hb hr (fun t ht hW => ⟨⟨cs_I zc 32 jt, zc, rfl, ⟨⟨hI, rfl⟩, (Or.inr (Or.inr (Or.inr (Or.inr (Or.inr (Or.inr (Or.inr (Or.inr (Or.inr (Or.inr (Or.inr (Or.inr (Or.inr (Or.inr (Or.inr (Or.inr (Or.inr (Or.inr (Or.inr (Or.inr (Or.inl ⟨jt, rfl, hjt, hk, rfl, rfl, rfl⟩)))))))))))))))))))))⟩, (by rw [ht]; exact hPk), va_K.moved hW.alike hKk, kDA_self hDk⟩, (kw_same hPk ht).2⟩) (fun q h => absurd h List.not_mem_nil) dX10_taken_86
      refine lv_tableOut (tgt := 87) hx hb dX10_taken_13 (tb_out5 hw17 hw18 hw19 hw20 hw22) (by decide) ?_
      refine lv_bipush (v := (-2)) hx hb dX10_taken_87 (by decide) ?_
      subst hQ
      exact W.iret (v := (-2)) hx hb hr (fun t ht hW => ⟨⟨(-2), zc, rfl, ⟨⟨hI, rfl⟩, (Or.inr (Or.inr (Or.inr (Or.inr (Or.inr (Or.inr (Or.inr (Or.inr (Or.inr (Or.inr (Or.inr (Or.inr (Or.inr (Or.inr (Or.inr (Or.inr (Or.inr (Or.inr (Or.inr (Or.inr (Or.inr ⟨jt, rfl, hjt, hk, hw17, hw18, hw19, hw20, hw22, rfl, rfl⟩)))))))))))))))))))))⟩, (by rw [ht]; exact hPk), va_K.moved hW.alike hKk, kDA_self hDk⟩, (kw_same hPk ht).2⟩) (fun q h => absurd h List.not_mem_nil) dX10_taken_89
