def pC_tell (zc : CS) (g : Int32) (r : Int32) (u : CS) : Prop :=
  ((∀ j, j < cs_n zc 1 → g ≠ nI j) ∧ r = ((-1)) ∧ u = zc) ∨
  (∃ jg : Nat, g = nI jg ∧ (jg < cs_n zc 1) ∧ (cs_N zc 1 jg = 1) ∧ r = (10 + (cs_I zc 21 jg)) ∧ u = (va_up (cs_i zc) 1 ((31 * ((31 * (cs_i zc 1)) + 2)) + 1), cs_n zc, cs_I zc, cs_L zc, cs_N zc, cs_S zc, cs_X zc)) ∨
  (∃ jg : Nat, g = nI jg ∧ (jg < cs_n zc 1) ∧ (cs_N zc 1 jg = 2) ∧ r = ((cs_I zc 21 jg)) ∧ u = (va_up (cs_i zc) 1 ((31 * (cs_i zc 1)) + 1), cs_n zc, cs_I zc, cs_L zc, cs_N zc, cs_S zc, cs_X zc)) ∨
  (∃ jg : Nat, g = nI jg ∧ (jg < cs_n zc 1) ∧ (cs_N zc 1 jg = 4) ∧ r = (3 * (cs_I zc 21 jg)) ∧ u = (va_up (cs_i zc) 1 ((31 * ((31 * (cs_i zc 1)) + 3)) + 1), cs_n zc, cs_I zc, cs_L zc, cs_N zc, cs_S zc, cs_X zc))
set_option maxHeartbeats 4000000 in
theorem lf_tell_1 (cA : Nat → ClassId) (zc : CS) (jg : Nat) (hjg : jg < cs_n zc 1) (hk : cs_N zc 1 jg = 1) (hI : invC zc) : invC (va_up (cs_i zc) 1 ((31 * ((31 * (cs_i zc 1)) + 2)) + 1), cs_n zc, cs_I zc, cs_L zc, cs_N zc, cs_S zc, cs_X zc) ∧ kAll (cF cA (va_up (cs_i zc) 1 ((31 * ((31 * (cs_i zc 1)) + 2)) + 1), cs_n zc, cs_I zc, cs_L zc, cs_N zc, cs_S zc, cs_X zc)) [(0, 0), (0, 7), (2, jg), (0, 11)] [cTP zc, cR7 cA zc, (cs_X zc 2 jg, .inr (1, [.int (nI jg), .int (cs_I zc 21 jg), .int (cs_I zc 22 jg), .long (cs_L zc 0 jg)])), (cs_X zc 0 11, .inr (9, [.int ((31 * ((31 * (cs_i zc 1)) + 2)) + 1)]))] ∧ ∀ i j, (i, j) ∉ ([(0, 0), (0, 7), (2, jg), (0, 11)] : List (Nat × Nat)) → cF cA (va_up (cs_i zc) 1 ((31 * ((31 * (cs_i zc 1)) + 2)) + 1), cs_n zc, cs_I zc, cs_L zc, cs_N zc, cs_S zc, cs_X zc) i j = none ∨ ((i, j) ∉ ([(0, 0), (0, 7), (2, jg), (0, 11)] : List (Nat × Nat)) ∧ cF cA (va_up (cs_i zc) 1 ((31 * ((31 * (cs_i zc 1)) + 2)) + 1), cs_n zc, cs_I zc, cs_L zc, cs_N zc, cs_S zc, cs_X zc) i j = cF cA zc i j) := by
  obtain ⟨⟨hn0, hn1, hn2, hn3, hn4, hn5⟩, hpi, hgk, htk, hpk, hsh⟩ := id hI
  refine ⟨hI, ⟨(by (rw [(kF_tp (cA := cA) (z := (va_up (cs_i zc) 1 ((31 * ((31 * (cs_i zc 1)) + 2)) + 1), cs_n zc, cs_I zc, cs_L zc, cs_N zc, cs_S zc, cs_X zc)))]) <;> simp [cTP, cTPN, cTPA, cLo, cA2, cA3, cA4, cA5, cR6, cR7, cR8, cR9, cR10, cTr, cPi, cPiN, cPiT, cGa, cGaK, cTa, cPa, cAu, cAuN, cAuB, cSh, cSc, cs_i, cs_n, cs_I, cs_L, cs_N, cs_S, cs_X, va_up, upd, opN]), (by (rw [(kF_r7 (cA := cA) (z := (va_up (cs_i zc) 1 ((31 * ((31 * (cs_i zc 1)) + 2)) + 1), cs_n zc, cs_I zc, cs_L zc, cs_N zc, cs_S zc, cs_X zc)))]) <;> simp [cTP, cTPN, cTPA, cLo, cA2, cA3, cA4, cA5, cR6, cR7, cR8, cR9, cR10, cTr, cPi, cPiN, cPiT, cGa, cGaK, cTa, cPa, cAu, cAuN, cAuB, cSh, cSc, cs_i, cs_n, cs_I, cs_L, cs_N, cs_S, cs_X, va_up, upd, opN]), (by (rw [(kF_gaK (z := (va_up (cs_i zc) 1 ((31 * ((31 * (cs_i zc 1)) + 2)) + 1), cs_n zc, cs_I zc, cs_L zc, cs_N zc, cs_S zc, cs_X zc)) (j := jg) hjg hk)]) <;> simp [cTP, cTPN, cTPA, cLo, cA2, cA3, cA4, cA5, cR6, cR7, cR8, cR9, cR10, cTr, cPi, cPiN, cPiT, cGa, cGaK, cTa, cPa, cAu, cAuN, cAuB, cSh, cSc, cs_i, cs_n, cs_I, cs_L, cs_N, cs_S, cs_X, va_up, upd, opN]), (by (rw [(kF_tr (cA := cA) (z := (va_up (cs_i zc) 1 ((31 * ((31 * (cs_i zc 1)) + 2)) + 1), cs_n zc, cs_I zc, cs_L zc, cs_N zc, cs_S zc, cs_X zc)))]) <;> simp [cTP, cTPN, cTPA, cLo, cA2, cA3, cA4, cA5, cR6, cR7, cR8, cR9, cR10, cTr, cPi, cPiN, cPiT, cGa, cGaK, cTa, cPa, cAu, cAuN, cAuB, cSh, cSc, cs_i, cs_n, cs_I, cs_L, cs_N, cs_S, cs_X, va_up, upd, opN]), trivial⟩, ?_⟩
  intro i j hij
  refine Or.inr ⟨hij, ?_⟩
  rcases i with _ | _ | _ | _ | _ | _ | _ | _ | i
  · rcases j with _ | _ | _ | _ | _ | _ | _ | _ | _ | _ | _ | _ | j
    · exact absurd (by simp) hij
    · show some (cLo (va_up (cs_i zc) 1 ((31 * ((31 * (cs_i zc 1)) + 2)) + 1), cs_n zc, cs_I zc, cs_L zc, cs_N zc, cs_S zc, cs_X zc)) = some (cLo zc); simp [cLo, cs_i, cs_n, cs_I, cs_L, cs_N, cs_S, cs_X, va_up]
    · show some (cA2 cA (va_up (cs_i zc) 1 ((31 * ((31 * (cs_i zc 1)) + 2)) + 1), cs_n zc, cs_I zc, cs_L zc, cs_N zc, cs_S zc, cs_X zc)) = some (cA2 cA zc); simp [cA2, cs_i, cs_n, cs_I, cs_L, cs_N, cs_S, cs_X, va_up]
    · show some (cA3 cA (va_up (cs_i zc) 1 ((31 * ((31 * (cs_i zc 1)) + 2)) + 1), cs_n zc, cs_I zc, cs_L zc, cs_N zc, cs_S zc, cs_X zc)) = some (cA3 cA zc); simp [cA3, cs_i, cs_n, cs_I, cs_L, cs_N, cs_S, cs_X, va_up]
    · show some (cA4 cA (va_up (cs_i zc) 1 ((31 * ((31 * (cs_i zc 1)) + 2)) + 1), cs_n zc, cs_I zc, cs_L zc, cs_N zc, cs_S zc, cs_X zc)) = some (cA4 cA zc); simp [cA4, cs_i, cs_n, cs_I, cs_L, cs_N, cs_S, cs_X, va_up]
    · show some (cA5 cA (va_up (cs_i zc) 1 ((31 * ((31 * (cs_i zc 1)) + 2)) + 1), cs_n zc, cs_I zc, cs_L zc, cs_N zc, cs_S zc, cs_X zc)) = some (cA5 cA zc); simp [cA5, cs_i, cs_n, cs_I, cs_L, cs_N, cs_S, cs_X, va_up]
    · show some (cR6 cA (va_up (cs_i zc) 1 ((31 * ((31 * (cs_i zc 1)) + 2)) + 1), cs_n zc, cs_I zc, cs_L zc, cs_N zc, cs_S zc, cs_X zc)) = some (cR6 cA zc); simp [cR6, cs_i, cs_n, cs_I, cs_L, cs_N, cs_S, cs_X, va_up]
    · exact absurd (by simp) hij
    · show some (cR8 cA (va_up (cs_i zc) 1 ((31 * ((31 * (cs_i zc 1)) + 2)) + 1), cs_n zc, cs_I zc, cs_L zc, cs_N zc, cs_S zc, cs_X zc)) = some (cR8 cA zc); simp [cR8, cs_i, cs_n, cs_I, cs_L, cs_N, cs_S, cs_X, va_up]
    · show some (cR9 cA (va_up (cs_i zc) 1 ((31 * ((31 * (cs_i zc 1)) + 2)) + 1), cs_n zc, cs_I zc, cs_L zc, cs_N zc, cs_S zc, cs_X zc)) = some (cR9 cA zc); simp [cR9, cs_i, cs_n, cs_I, cs_L, cs_N, cs_S, cs_X, va_up]
    · show some (cR10 cA (va_up (cs_i zc) 1 ((31 * ((31 * (cs_i zc 1)) + 2)) + 1), cs_n zc, cs_I zc, cs_L zc, cs_N zc, cs_S zc, cs_X zc)) = some (cR10 cA zc); simp [cR10, cs_i, cs_n, cs_I, cs_L, cs_N, cs_S, cs_X, va_up]
    · exact absurd (by simp) hij
    · show (none : Option (Nat × va_E)) = none; rfl
  · show (if j < cs_n (va_up (cs_i zc) 1 ((31 * ((31 * (cs_i zc 1)) + 2)) + 1), cs_n zc, cs_I zc, cs_L zc, cs_N zc, cs_S zc, cs_X zc) 0 then some (cPi (va_up (cs_i zc) 1 ((31 * ((31 * (cs_i zc 1)) + 2)) + 1), cs_n zc, cs_I zc, cs_L zc, cs_N zc, cs_S zc, cs_X zc) j) else none) = if j < cs_n zc 0 then some (cPi zc j) else none
    simp [cPi, cs_i, cs_n, cs_I, cs_L, cs_N, cs_S, cs_X, va_up]
  · show (if j < cs_n (va_up (cs_i zc) 1 ((31 * ((31 * (cs_i zc 1)) + 2)) + 1), cs_n zc, cs_I zc, cs_L zc, cs_N zc, cs_S zc, cs_X zc) 1 then some (cGa (va_up (cs_i zc) 1 ((31 * ((31 * (cs_i zc 1)) + 2)) + 1), cs_n zc, cs_I zc, cs_L zc, cs_N zc, cs_S zc, cs_X zc) j) else none) = if j < cs_n zc 1 then some (cGa zc j) else none
    simp [cGa, cs_i, cs_n, cs_I, cs_L, cs_N, cs_S, cs_X, va_up]
  · show (if j < cs_n (va_up (cs_i zc) 1 ((31 * ((31 * (cs_i zc 1)) + 2)) + 1), cs_n zc, cs_I zc, cs_L zc, cs_N zc, cs_S zc, cs_X zc) 2 then some (cTa (va_up (cs_i zc) 1 ((31 * ((31 * (cs_i zc 1)) + 2)) + 1), cs_n zc, cs_I zc, cs_L zc, cs_N zc, cs_S zc, cs_X zc) j) else none) = if j < cs_n zc 2 then some (cTa zc j) else none
    simp [cTa, cs_i, cs_n, cs_I, cs_L, cs_N, cs_S, cs_X, va_up]
  · show (if j < cs_n (va_up (cs_i zc) 1 ((31 * ((31 * (cs_i zc 1)) + 2)) + 1), cs_n zc, cs_I zc, cs_L zc, cs_N zc, cs_S zc, cs_X zc) 3 then some (cPa (va_up (cs_i zc) 1 ((31 * ((31 * (cs_i zc 1)) + 2)) + 1), cs_n zc, cs_I zc, cs_L zc, cs_N zc, cs_S zc, cs_X zc) j) else none) = if j < cs_n zc 3 then some (cPa zc j) else none
    simp [cPa, cs_i, cs_n, cs_I, cs_L, cs_N, cs_S, cs_X, va_up]
  · show (if j = 0 ∧ ¬ cs_n (va_up (cs_i zc) 1 ((31 * ((31 * (cs_i zc 1)) + 2)) + 1), cs_n zc, cs_I zc, cs_L zc, cs_N zc, cs_S zc, cs_X zc) 4 = 0 then some (cAu (va_up (cs_i zc) 1 ((31 * ((31 * (cs_i zc 1)) + 2)) + 1), cs_n zc, cs_I zc, cs_L zc, cs_N zc, cs_S zc, cs_X zc)) else none) = if j = 0 ∧ ¬ cs_n zc 4 = 0 then some (cAu zc) else none
    simp [cAu, cs_i, cs_n, cs_I, cs_L, cs_N, cs_S, cs_X, va_up]
  · show (if j < 4 then some (cSh (va_up (cs_i zc) 1 ((31 * ((31 * (cs_i zc 1)) + 2)) + 1), cs_n zc, cs_I zc, cs_L zc, cs_N zc, cs_S zc, cs_X zc) j) else none) = if j < 4 then some (cSh zc j) else none
    simp [cSh, cs_i, cs_n, cs_I, cs_L, cs_N, cs_S, cs_X, va_up]
  · show (if j < 4 then some (cSc cA (va_up (cs_i zc) 1 ((31 * ((31 * (cs_i zc 1)) + 2)) + 1), cs_n zc, cs_I zc, cs_L zc, cs_N zc, cs_S zc, cs_X zc) j) else none) = if j < 4 then some (cSc cA zc j) else none
    simp [cSc, cs_i, cs_n, cs_I, cs_L, cs_N, cs_S, cs_X, va_up]
  · show (none : Option (Nat × va_E)) = none; rfl
set_option maxHeartbeats 4000000 in
theorem lf_tell_2 (cA : Nat → ClassId) (zc : CS) (jg : Nat) (hjg : jg < cs_n zc 1) (hk : cs_N zc 1 jg = 2) (hI : invC zc) : invC (va_up (cs_i zc) 1 ((31 * (cs_i zc 1)) + 1), cs_n zc, cs_I zc, cs_L zc, cs_N zc, cs_S zc, cs_X zc) ∧ kAll (cF cA (va_up (cs_i zc) 1 ((31 * (cs_i zc 1)) + 1), cs_n zc, cs_I zc, cs_L zc, cs_N zc, cs_S zc, cs_X zc)) [(0, 0), (0, 7), (2, jg), (0, 11)] [cTP zc, cR7 cA zc, (cs_X zc 2 jg, .inr (2, [.int (nI jg), .int (cs_I zc 21 jg), .int (cs_I zc 22 jg), .long (cs_L zc 0 jg)])), (cs_X zc 0 11, .inr (9, [.int ((31 * (cs_i zc 1)) + 1)]))] ∧ ∀ i j, (i, j) ∉ ([(0, 0), (0, 7), (2, jg), (0, 11)] : List (Nat × Nat)) → cF cA (va_up (cs_i zc) 1 ((31 * (cs_i zc 1)) + 1), cs_n zc, cs_I zc, cs_L zc, cs_N zc, cs_S zc, cs_X zc) i j = none ∨ ((i, j) ∉ ([(0, 0), (0, 7), (2, jg), (0, 11)] : List (Nat × Nat)) ∧ cF cA (va_up (cs_i zc) 1 ((31 * (cs_i zc 1)) + 1), cs_n zc, cs_I zc, cs_L zc, cs_N zc, cs_S zc, cs_X zc) i j = cF cA zc i j) := by
  obtain ⟨⟨hn0, hn1, hn2, hn3, hn4, hn5⟩, hpi, hgk, htk, hpk, hsh⟩ := id hI
  refine ⟨hI, ⟨(by (rw [(kF_tp (cA := cA) (z := (va_up (cs_i zc) 1 ((31 * (cs_i zc 1)) + 1), cs_n zc, cs_I zc, cs_L zc, cs_N zc, cs_S zc, cs_X zc)))]) <;> simp [cTP, cTPN, cTPA, cLo, cA2, cA3, cA4, cA5, cR6, cR7, cR8, cR9, cR10, cTr, cPi, cPiN, cPiT, cGa, cGaK, cTa, cPa, cAu, cAuN, cAuB, cSh, cSc, cs_i, cs_n, cs_I, cs_L, cs_N, cs_S, cs_X, va_up, upd, opN]), (by (rw [(kF_r7 (cA := cA) (z := (va_up (cs_i zc) 1 ((31 * (cs_i zc 1)) + 1), cs_n zc, cs_I zc, cs_L zc, cs_N zc, cs_S zc, cs_X zc)))]) <;> simp [cTP, cTPN, cTPA, cLo, cA2, cA3, cA4, cA5, cR6, cR7, cR8, cR9, cR10, cTr, cPi, cPiN, cPiT, cGa, cGaK, cTa, cPa, cAu, cAuN, cAuB, cSh, cSc, cs_i, cs_n, cs_I, cs_L, cs_N, cs_S, cs_X, va_up, upd, opN]), (by (rw [(kF_gaK (z := (va_up (cs_i zc) 1 ((31 * (cs_i zc 1)) + 1), cs_n zc, cs_I zc, cs_L zc, cs_N zc, cs_S zc, cs_X zc)) (j := jg) hjg hk)]) <;> simp [cTP, cTPN, cTPA, cLo, cA2, cA3, cA4, cA5, cR6, cR7, cR8, cR9, cR10, cTr, cPi, cPiN, cPiT, cGa, cGaK, cTa, cPa, cAu, cAuN, cAuB, cSh, cSc, cs_i, cs_n, cs_I, cs_L, cs_N, cs_S, cs_X, va_up, upd, opN]), (by (rw [(kF_tr (cA := cA) (z := (va_up (cs_i zc) 1 ((31 * (cs_i zc 1)) + 1), cs_n zc, cs_I zc, cs_L zc, cs_N zc, cs_S zc, cs_X zc)))]) <;> simp [cTP, cTPN, cTPA, cLo, cA2, cA3, cA4, cA5, cR6, cR7, cR8, cR9, cR10, cTr, cPi, cPiN, cPiT, cGa, cGaK, cTa, cPa, cAu, cAuN, cAuB, cSh, cSc, cs_i, cs_n, cs_I, cs_L, cs_N, cs_S, cs_X, va_up, upd, opN]), trivial⟩, ?_⟩
  intro i j hij
  refine Or.inr ⟨hij, ?_⟩
  rcases i with _ | _ | _ | _ | _ | _ | _ | _ | i
  · rcases j with _ | _ | _ | _ | _ | _ | _ | _ | _ | _ | _ | _ | j
    · exact absurd (by simp) hij
    · show some (cLo (va_up (cs_i zc) 1 ((31 * (cs_i zc 1)) + 1), cs_n zc, cs_I zc, cs_L zc, cs_N zc, cs_S zc, cs_X zc)) = some (cLo zc); simp [cLo, cs_i, cs_n, cs_I, cs_L, cs_N, cs_S, cs_X, va_up]
    · show some (cA2 cA (va_up (cs_i zc) 1 ((31 * (cs_i zc 1)) + 1), cs_n zc, cs_I zc, cs_L zc, cs_N zc, cs_S zc, cs_X zc)) = some (cA2 cA zc); simp [cA2, cs_i, cs_n, cs_I, cs_L, cs_N, cs_S, cs_X, va_up]
    · show some (cA3 cA (va_up (cs_i zc) 1 ((31 * (cs_i zc 1)) + 1), cs_n zc, cs_I zc, cs_L zc, cs_N zc, cs_S zc, cs_X zc)) = some (cA3 cA zc); simp [cA3, cs_i, cs_n, cs_I, cs_L, cs_N, cs_S, cs_X, va_up]
    · show some (cA4 cA (va_up (cs_i zc) 1 ((31 * (cs_i zc 1)) + 1), cs_n zc, cs_I zc, cs_L zc, cs_N zc, cs_S zc, cs_X zc)) = some (cA4 cA zc); simp [cA4, cs_i, cs_n, cs_I, cs_L, cs_N, cs_S, cs_X, va_up]
    · show some (cA5 cA (va_up (cs_i zc) 1 ((31 * (cs_i zc 1)) + 1), cs_n zc, cs_I zc, cs_L zc, cs_N zc, cs_S zc, cs_X zc)) = some (cA5 cA zc); simp [cA5, cs_i, cs_n, cs_I, cs_L, cs_N, cs_S, cs_X, va_up]
    · show some (cR6 cA (va_up (cs_i zc) 1 ((31 * (cs_i zc 1)) + 1), cs_n zc, cs_I zc, cs_L zc, cs_N zc, cs_S zc, cs_X zc)) = some (cR6 cA zc); simp [cR6, cs_i, cs_n, cs_I, cs_L, cs_N, cs_S, cs_X, va_up]
    · exact absurd (by simp) hij
    · show some (cR8 cA (va_up (cs_i zc) 1 ((31 * (cs_i zc 1)) + 1), cs_n zc, cs_I zc, cs_L zc, cs_N zc, cs_S zc, cs_X zc)) = some (cR8 cA zc); simp [cR8, cs_i, cs_n, cs_I, cs_L, cs_N, cs_S, cs_X, va_up]
    · show some (cR9 cA (va_up (cs_i zc) 1 ((31 * (cs_i zc 1)) + 1), cs_n zc, cs_I zc, cs_L zc, cs_N zc, cs_S zc, cs_X zc)) = some (cR9 cA zc); simp [cR9, cs_i, cs_n, cs_I, cs_L, cs_N, cs_S, cs_X, va_up]
    · show some (cR10 cA (va_up (cs_i zc) 1 ((31 * (cs_i zc 1)) + 1), cs_n zc, cs_I zc, cs_L zc, cs_N zc, cs_S zc, cs_X zc)) = some (cR10 cA zc); simp [cR10, cs_i, cs_n, cs_I, cs_L, cs_N, cs_S, cs_X, va_up]
    · exact absurd (by simp) hij
    · show (none : Option (Nat × va_E)) = none; rfl
  · show (if j < cs_n (va_up (cs_i zc) 1 ((31 * (cs_i zc 1)) + 1), cs_n zc, cs_I zc, cs_L zc, cs_N zc, cs_S zc, cs_X zc) 0 then some (cPi (va_up (cs_i zc) 1 ((31 * (cs_i zc 1)) + 1), cs_n zc, cs_I zc, cs_L zc, cs_N zc, cs_S zc, cs_X zc) j) else none) = if j < cs_n zc 0 then some (cPi zc j) else none
    simp [cPi, cs_i, cs_n, cs_I, cs_L, cs_N, cs_S, cs_X, va_up]
  · show (if j < cs_n (va_up (cs_i zc) 1 ((31 * (cs_i zc 1)) + 1), cs_n zc, cs_I zc, cs_L zc, cs_N zc, cs_S zc, cs_X zc) 1 then some (cGa (va_up (cs_i zc) 1 ((31 * (cs_i zc 1)) + 1), cs_n zc, cs_I zc, cs_L zc, cs_N zc, cs_S zc, cs_X zc) j) else none) = if j < cs_n zc 1 then some (cGa zc j) else none
    simp [cGa, cs_i, cs_n, cs_I, cs_L, cs_N, cs_S, cs_X, va_up]
  · show (if j < cs_n (va_up (cs_i zc) 1 ((31 * (cs_i zc 1)) + 1), cs_n zc, cs_I zc, cs_L zc, cs_N zc, cs_S zc, cs_X zc) 2 then some (cTa (va_up (cs_i zc) 1 ((31 * (cs_i zc 1)) + 1), cs_n zc, cs_I zc, cs_L zc, cs_N zc, cs_S zc, cs_X zc) j) else none) = if j < cs_n zc 2 then some (cTa zc j) else none
    simp [cTa, cs_i, cs_n, cs_I, cs_L, cs_N, cs_S, cs_X, va_up]
  · show (if j < cs_n (va_up (cs_i zc) 1 ((31 * (cs_i zc 1)) + 1), cs_n zc, cs_I zc, cs_L zc, cs_N zc, cs_S zc, cs_X zc) 3 then some (cPa (va_up (cs_i zc) 1 ((31 * (cs_i zc 1)) + 1), cs_n zc, cs_I zc, cs_L zc, cs_N zc, cs_S zc, cs_X zc) j) else none) = if j < cs_n zc 3 then some (cPa zc j) else none
    simp [cPa, cs_i, cs_n, cs_I, cs_L, cs_N, cs_S, cs_X, va_up]
  · show (if j = 0 ∧ ¬ cs_n (va_up (cs_i zc) 1 ((31 * (cs_i zc 1)) + 1), cs_n zc, cs_I zc, cs_L zc, cs_N zc, cs_S zc, cs_X zc) 4 = 0 then some (cAu (va_up (cs_i zc) 1 ((31 * (cs_i zc 1)) + 1), cs_n zc, cs_I zc, cs_L zc, cs_N zc, cs_S zc, cs_X zc)) else none) = if j = 0 ∧ ¬ cs_n zc 4 = 0 then some (cAu zc) else none
    simp [cAu, cs_i, cs_n, cs_I, cs_L, cs_N, cs_S, cs_X, va_up]
  · show (if j < 4 then some (cSh (va_up (cs_i zc) 1 ((31 * (cs_i zc 1)) + 1), cs_n zc, cs_I zc, cs_L zc, cs_N zc, cs_S zc, cs_X zc) j) else none) = if j < 4 then some (cSh zc j) else none
    simp [cSh, cs_i, cs_n, cs_I, cs_L, cs_N, cs_S, cs_X, va_up]
  · show (if j < 4 then some (cSc cA (va_up (cs_i zc) 1 ((31 * (cs_i zc 1)) + 1), cs_n zc, cs_I zc, cs_L zc, cs_N zc, cs_S zc, cs_X zc) j) else none) = if j < 4 then some (cSc cA zc j) else none
    simp [cSc, cs_i, cs_n, cs_I, cs_L, cs_N, cs_S, cs_X, va_up]
  · show (none : Option (Nat × va_E)) = none; rfl
set_option maxHeartbeats 4000000 in
theorem lf_tell_3 (cA : Nat → ClassId) (zc : CS) (jg : Nat) (hjg : jg < cs_n zc 1) (hk : cs_N zc 1 jg = 4) (hI : invC zc) : invC (va_up (cs_i zc) 1 ((31 * ((31 * (cs_i zc 1)) + 3)) + 1), cs_n zc, cs_I zc, cs_L zc, cs_N zc, cs_S zc, cs_X zc) ∧ kAll (cF cA (va_up (cs_i zc) 1 ((31 * ((31 * (cs_i zc 1)) + 3)) + 1), cs_n zc, cs_I zc, cs_L zc, cs_N zc, cs_S zc, cs_X zc)) [(0, 0), (0, 7), (2, jg), (0, 11)] [cTP zc, cR7 cA zc, (cs_X zc 2 jg, .inr (4, [.int (nI jg), .int (cs_I zc 21 jg), .int (cs_I zc 22 jg), .long (cs_L zc 0 jg)])), (cs_X zc 0 11, .inr (9, [.int ((31 * ((31 * (cs_i zc 1)) + 3)) + 1)]))] ∧ ∀ i j, (i, j) ∉ ([(0, 0), (0, 7), (2, jg), (0, 11)] : List (Nat × Nat)) → cF cA (va_up (cs_i zc) 1 ((31 * ((31 * (cs_i zc 1)) + 3)) + 1), cs_n zc, cs_I zc, cs_L zc, cs_N zc, cs_S zc, cs_X zc) i j = none ∨ ((i, j) ∉ ([(0, 0), (0, 7), (2, jg), (0, 11)] : List (Nat × Nat)) ∧ cF cA (va_up (cs_i zc) 1 ((31 * ((31 * (cs_i zc 1)) + 3)) + 1), cs_n zc, cs_I zc, cs_L zc, cs_N zc, cs_S zc, cs_X zc) i j = cF cA zc i j) := by
  obtain ⟨⟨hn0, hn1, hn2, hn3, hn4, hn5⟩, hpi, hgk, htk, hpk, hsh⟩ := id hI
  refine ⟨hI, ⟨(by (rw [(kF_tp (cA := cA) (z := (va_up (cs_i zc) 1 ((31 * ((31 * (cs_i zc 1)) + 3)) + 1), cs_n zc, cs_I zc, cs_L zc, cs_N zc, cs_S zc, cs_X zc)))]) <;> simp [cTP, cTPN, cTPA, cLo, cA2, cA3, cA4, cA5, cR6, cR7, cR8, cR9, cR10, cTr, cPi, cPiN, cPiT, cGa, cGaK, cTa, cPa, cAu, cAuN, cAuB, cSh, cSc, cs_i, cs_n, cs_I, cs_L, cs_N, cs_S, cs_X, va_up, upd, opN]), (by (rw [(kF_r7 (cA := cA) (z := (va_up (cs_i zc) 1 ((31 * ((31 * (cs_i zc 1)) + 3)) + 1), cs_n zc, cs_I zc, cs_L zc, cs_N zc, cs_S zc, cs_X zc)))]) <;> simp [cTP, cTPN, cTPA, cLo, cA2, cA3, cA4, cA5, cR6, cR7, cR8, cR9, cR10, cTr, cPi, cPiN, cPiT, cGa, cGaK, cTa, cPa, cAu, cAuN, cAuB, cSh, cSc, cs_i, cs_n, cs_I, cs_L, cs_N, cs_S, cs_X, va_up, upd, opN]), (by (rw [(kF_gaK (z := (va_up (cs_i zc) 1 ((31 * ((31 * (cs_i zc 1)) + 3)) + 1), cs_n zc, cs_I zc, cs_L zc, cs_N zc, cs_S zc, cs_X zc)) (j := jg) hjg hk)]) <;> simp [cTP, cTPN, cTPA, cLo, cA2, cA3, cA4, cA5, cR6, cR7, cR8, cR9, cR10, cTr, cPi, cPiN, cPiT, cGa, cGaK, cTa, cPa, cAu, cAuN, cAuB, cSh, cSc, cs_i, cs_n, cs_I, cs_L, cs_N, cs_S, cs_X, va_up, upd, opN]), (by (rw [(kF_tr (cA := cA) (z := (va_up (cs_i zc) 1 ((31 * ((31 * (cs_i zc 1)) + 3)) + 1), cs_n zc, cs_I zc, cs_L zc, cs_N zc, cs_S zc, cs_X zc)))]) <;> simp [cTP, cTPN, cTPA, cLo, cA2, cA3, cA4, cA5, cR6, cR7, cR8, cR9, cR10, cTr, cPi, cPiN, cPiT, cGa, cGaK, cTa, cPa, cAu, cAuN, cAuB, cSh, cSc, cs_i, cs_n, cs_I, cs_L, cs_N, cs_S, cs_X, va_up, upd, opN]), trivial⟩, ?_⟩
  intro i j hij
  refine Or.inr ⟨hij, ?_⟩
  rcases i with _ | _ | _ | _ | _ | _ | _ | _ | i
  · rcases j with _ | _ | _ | _ | _ | _ | _ | _ | _ | _ | _ | _ | j
    · exact absurd (by simp) hij
    · show some (cLo (va_up (cs_i zc) 1 ((31 * ((31 * (cs_i zc 1)) + 3)) + 1), cs_n zc, cs_I zc, cs_L zc, cs_N zc, cs_S zc, cs_X zc)) = some (cLo zc); simp [cLo, cs_i, cs_n, cs_I, cs_L, cs_N, cs_S, cs_X, va_up]
    · show some (cA2 cA (va_up (cs_i zc) 1 ((31 * ((31 * (cs_i zc 1)) + 3)) + 1), cs_n zc, cs_I zc, cs_L zc, cs_N zc, cs_S zc, cs_X zc)) = some (cA2 cA zc); simp [cA2, cs_i, cs_n, cs_I, cs_L, cs_N, cs_S, cs_X, va_up]
    · show some (cA3 cA (va_up (cs_i zc) 1 ((31 * ((31 * (cs_i zc 1)) + 3)) + 1), cs_n zc, cs_I zc, cs_L zc, cs_N zc, cs_S zc, cs_X zc)) = some (cA3 cA zc); simp [cA3, cs_i, cs_n, cs_I, cs_L, cs_N, cs_S, cs_X, va_up]
    · show some (cA4 cA (va_up (cs_i zc) 1 ((31 * ((31 * (cs_i zc 1)) + 3)) + 1), cs_n zc, cs_I zc, cs_L zc, cs_N zc, cs_S zc, cs_X zc)) = some (cA4 cA zc); simp [cA4, cs_i, cs_n, cs_I, cs_L, cs_N, cs_S, cs_X, va_up]
    · show some (cA5 cA (va_up (cs_i zc) 1 ((31 * ((31 * (cs_i zc 1)) + 3)) + 1), cs_n zc, cs_I zc, cs_L zc, cs_N zc, cs_S zc, cs_X zc)) = some (cA5 cA zc); simp [cA5, cs_i, cs_n, cs_I, cs_L, cs_N, cs_S, cs_X, va_up]
    · show some (cR6 cA (va_up (cs_i zc) 1 ((31 * ((31 * (cs_i zc 1)) + 3)) + 1), cs_n zc, cs_I zc, cs_L zc, cs_N zc, cs_S zc, cs_X zc)) = some (cR6 cA zc); simp [cR6, cs_i, cs_n, cs_I, cs_L, cs_N, cs_S, cs_X, va_up]
    · exact absurd (by simp) hij
    · show some (cR8 cA (va_up (cs_i zc) 1 ((31 * ((31 * (cs_i zc 1)) + 3)) + 1), cs_n zc, cs_I zc, cs_L zc, cs_N zc, cs_S zc, cs_X zc)) = some (cR8 cA zc); simp [cR8, cs_i, cs_n, cs_I, cs_L, cs_N, cs_S, cs_X, va_up]
    · show some (cR9 cA (va_up (cs_i zc) 1 ((31 * ((31 * (cs_i zc 1)) + 3)) + 1), cs_n zc, cs_I zc, cs_L zc, cs_N zc, cs_S zc, cs_X zc)) = some (cR9 cA zc); simp [cR9, cs_i, cs_n, cs_I, cs_L, cs_N, cs_S, cs_X, va_up]
    · show some (cR10 cA (va_up (cs_i zc) 1 ((31 * ((31 * (cs_i zc 1)) + 3)) + 1), cs_n zc, cs_I zc, cs_L zc, cs_N zc, cs_S zc, cs_X zc)) = some (cR10 cA zc); simp [cR10, cs_i, cs_n, cs_I, cs_L, cs_N, cs_S, cs_X, va_up]
    · exact absurd (by simp) hij
    · show (none : Option (Nat × va_E)) = none; rfl
  · show (if j < cs_n (va_up (cs_i zc) 1 ((31 * ((31 * (cs_i zc 1)) + 3)) + 1), cs_n zc, cs_I zc, cs_L zc, cs_N zc, cs_S zc, cs_X zc) 0 then some (cPi (va_up (cs_i zc) 1 ((31 * ((31 * (cs_i zc 1)) + 3)) + 1), cs_n zc, cs_I zc, cs_L zc, cs_N zc, cs_S zc, cs_X zc) j) else none) = if j < cs_n zc 0 then some (cPi zc j) else none
    simp [cPi, cs_i, cs_n, cs_I, cs_L, cs_N, cs_S, cs_X, va_up]
  · show (if j < cs_n (va_up (cs_i zc) 1 ((31 * ((31 * (cs_i zc 1)) + 3)) + 1), cs_n zc, cs_I zc, cs_L zc, cs_N zc, cs_S zc, cs_X zc) 1 then some (cGa (va_up (cs_i zc) 1 ((31 * ((31 * (cs_i zc 1)) + 3)) + 1), cs_n zc, cs_I zc, cs_L zc, cs_N zc, cs_S zc, cs_X zc) j) else none) = if j < cs_n zc 1 then some (cGa zc j) else none
    simp [cGa, cs_i, cs_n, cs_I, cs_L, cs_N, cs_S, cs_X, va_up]
  · show (if j < cs_n (va_up (cs_i zc) 1 ((31 * ((31 * (cs_i zc 1)) + 3)) + 1), cs_n zc, cs_I zc, cs_L zc, cs_N zc, cs_S zc, cs_X zc) 2 then some (cTa (va_up (cs_i zc) 1 ((31 * ((31 * (cs_i zc 1)) + 3)) + 1), cs_n zc, cs_I zc, cs_L zc, cs_N zc, cs_S zc, cs_X zc) j) else none) = if j < cs_n zc 2 then some (cTa zc j) else none
    simp [cTa, cs_i, cs_n, cs_I, cs_L, cs_N, cs_S, cs_X, va_up]
  · show (if j < cs_n (va_up (cs_i zc) 1 ((31 * ((31 * (cs_i zc 1)) + 3)) + 1), cs_n zc, cs_I zc, cs_L zc, cs_N zc, cs_S zc, cs_X zc) 3 then some (cPa (va_up (cs_i zc) 1 ((31 * ((31 * (cs_i zc 1)) + 3)) + 1), cs_n zc, cs_I zc, cs_L zc, cs_N zc, cs_S zc, cs_X zc) j) else none) = if j < cs_n zc 3 then some (cPa zc j) else none
    simp [cPa, cs_i, cs_n, cs_I, cs_L, cs_N, cs_S, cs_X, va_up]
  · show (if j = 0 ∧ ¬ cs_n (va_up (cs_i zc) 1 ((31 * ((31 * (cs_i zc 1)) + 3)) + 1), cs_n zc, cs_I zc, cs_L zc, cs_N zc, cs_S zc, cs_X zc) 4 = 0 then some (cAu (va_up (cs_i zc) 1 ((31 * ((31 * (cs_i zc 1)) + 3)) + 1), cs_n zc, cs_I zc, cs_L zc, cs_N zc, cs_S zc, cs_X zc)) else none) = if j = 0 ∧ ¬ cs_n zc 4 = 0 then some (cAu zc) else none
    simp [cAu, cs_i, cs_n, cs_I, cs_L, cs_N, cs_S, cs_X, va_up]
  · show (if j < 4 then some (cSh (va_up (cs_i zc) 1 ((31 * ((31 * (cs_i zc 1)) + 3)) + 1), cs_n zc, cs_I zc, cs_L zc, cs_N zc, cs_S zc, cs_X zc) j) else none) = if j < 4 then some (cSh zc j) else none
    simp [cSh, cs_i, cs_n, cs_I, cs_L, cs_N, cs_S, cs_X, va_up]
  · show (if j < 4 then some (cSc cA (va_up (cs_i zc) 1 ((31 * ((31 * (cs_i zc 1)) + 3)) + 1), cs_n zc, cs_I zc, cs_L zc, cs_N zc, cs_S zc, cs_X zc) j) else none) = if j < 4 then some (cSc cA zc j) else none
    simp [cSc, cs_i, cs_n, cs_I, cs_L, cs_N, cs_S, cs_X, va_up]
  · show (none : Option (Nat × va_E)) = none; rfl
set_option maxHeartbeats 4000000 in
set_option maxRecDepth 100000 in
theorem K_tell (l : Launch) (dC : Nat → ClassId) (dI : Nat → Nat → Nat) (cA : Nat → ClassId) (sz : Nat) (zc : CS) (g : Int32) (hI : invC zc) : Met l yX10_tell wsX10_tell ({ frames := 3, cells := 0, slots := 0, locals := 90 }) (kw (dC, dI) (ctys cA) (cF cA zc) sz [.ref (cs_X zc 0 0), .int g]) (kQi (dC, dI) (ctys cA) (cF cA zc) sz (cF cA) (fun r u => (invC u ∧ cs_X u 0 0 = cs_X zc 0 0) ∧ pC_tell zc g r u)) 0 0 (kA (cF cA zc) sz) := by
  refine kw_met (cc := cX10_tell) (maxL := 3) (ret := (some .int)) (by decide) rfl (Nat.le_of_ble_eq_true rfl) ?_
  intro p e s m below meth c0 hx hb hr hml hown hlocks hnm hts hPk hKk hDk hN hsz ls hl
  subst hsz
  have hK : va_K (dC, dI) vwCl [(cA 0, .int), (cA 1, .object RX6), (cA 2, .object RX2), (cA 3, .object RX8), (cA 4, .object RX5), (cA 5, .object RX7)] s := hKk
  obtain ⟨⟨hn0, hn1, hn2, hn3, hn4, hn5⟩, hpi, hgk, htk, hpk, hsh⟩ := id hI
  have hl : lv_has ls 3 [(0, .ref (cs_X zc 0 0)), (1, .int g)] := hl
  have hiX10 : ∀ w ∈ wsX100, w ∈ wsX10_tell := by decide +kernel
  generalize hQ : MQ _ _ _ _ _ _ _ = Q
  rcases ixd g (cs_n zc 1) with hnojg | ⟨jg, hjg, rfl⟩
  · skip
    have hks : kAll (cF cA zc) [(0, 0), (0, 7)] [cTP zc, cR7 cA zc] := ⟨(kF_tp (cA := cA) (z := zc)), (kF_r7 (cA := cA) (z := zc)), trivial⟩
    have hP : va_P (dC, dI) vwCl [cTP zc, cR7 cA zc] s.heap := kAll_P hPk hks
    have hD : va_D (va_A [cTP zc, cR7 cA zc] s.heap.size) [cTP zc, cR7 cA zc] := (kAll_D hDk hks (by simp)).self
    have hA : ∀ q : Nat, s.heap.size ≤ q → va_A [cTP zc, cR7 cA zc] s.heap.size q := fun q h => Or.inr h
    have hS : va_S (va_A [cTP zc, cR7 cA zc] s.heap.size) s.heap s.heap [] := va_S.rf
    refine lv_aload_n hx hb dX10_tell_0 rfl (lv_at hl 0 rfl) ?_
    refine lv_iload_n hx hb dX10_tell_1 rfl (lv_at hl 1 rfl) ?_
    have hPc := hP.sub (ws' := [cTP zc]) [0] rfl
    have hDc := hD.sub (ws' := [cTP zc]) [0] (by decide) rfl
    have hKc := hK.sub (tys' := []) [] rfl
    refine va_csq (va_Run.run (va_runV (As := [.int g]) (rest := []) ⟨hx, hb, hml, hown, hts⟩ (s_gangAt_no l dC dI  _ (cs_X zc 0 0) (.ref (cs_X zc 0 1)) (.ref (cs_X zc 0 6)) (.ref (cs_X zc 0 7)) (.ref (cs_X zc 0 8)) (.ref (cs_X zc 0 9)) (.ref (cs_X zc 0 10)) (.ref (cs_X zc 0 11)) (.int (nI (cs_n zc 0))) (.int (nI (cs_n zc 2))) (.int (nI (cs_n zc 3))) (va_rf (opN (cs_n zc 4) (fun _ => cs_X zc 5 0))) (.int (cs_i zc 2)) g (cs_n zc 1) (by omega) hnojg) (cwV 1 hts gX10_tell_X10_gangAt rfl rfl rfl (by decide +kernel) ⟨Nat.le_of_ble_eq_true rfl, Nat.le_of_ble_eq_true rfl⟩) (pw_preV (va_recv hKc hPc (ci := 10) (q0 := 0) rfl rfl) hPc hKc hDc hN) rfl rfl hl.1 rfl (lv_room (Nat.le_of_ble_eq_true rfl)) dX10_tell_2 ⟨Nat.le_of_ble_eq_true rfl, Nat.le_of_ble_eq_true rfl⟩)) (fun r1 hr1 => ?_)
    have hr1 : r1 = none := hr1
    subst hr1
    refine W.eq (g2 := F0 m 5 ls [.null]) rfl ?_
    refine lv_astore_nN (lv' := [(2, .null), (0, .ref (cs_X zc 0 0)), (1, .int g)]) hx hb dX10_tell_5 rfl hl (by decide) rfl (fun ls hl => ?_)
    refine lv_aload_nN hx hb dX10_tell_6 rfl (lv_at hl 0 rfl) ?_
    refine lv_ifnonnullN hx hb dX10_tell_7 ?_
    refine lv_iconst (v := (-1)) hx hb dX10_tell_10 (by decide) ?_
    refine lv_goto (tgt := 22) hx hb dX10_tell_11 (by decide) ?_
    subst hQ
    exact W.iret (v := (-1)) hx hb hr (fun t ht hW => ⟨⟨(-1), zc, rfl, ⟨⟨hI, rfl⟩, (Or.inl ⟨hnojg, rfl, rfl⟩)⟩, (by rw [ht]; exact hPk), va_K.moved hW.alike hKk, kDA_self hDk⟩, (kw_same hPk ht).2⟩) (fun q h => absurd h List.not_mem_nil) dX10_tell_22
  · skip
    rcases (hgk jg hjg) with hk | hk | hk
    · skip
      have hks : kAll (cF cA zc) [(0, 0), (0, 7), (2, jg), (0, 11)] [cTP zc, cR7 cA zc, cGaK zc jg 1, cTr zc] := ⟨(kF_tp (cA := cA) (z := zc)), (kF_r7 (cA := cA) (z := zc)), (kF_gaK (z := zc) (j := jg) hjg hk), (kF_tr (cA := cA) (z := zc)), trivial⟩
      have hP : va_P (dC, dI) vwCl [cTP zc, cR7 cA zc, cGaK zc jg 1, cTr zc] s.heap := kAll_P hPk hks
      have hD : va_D (va_A [cTP zc, cR7 cA zc, cGaK zc jg 1, cTr zc] s.heap.size) [cTP zc, cR7 cA zc, cGaK zc jg 1, cTr zc] := (kAll_D hDk hks (by simp)).self
      have hA : ∀ q : Nat, s.heap.size ≤ q → va_A [cTP zc, cR7 cA zc, cGaK zc jg 1, cTr zc] s.heap.size q := fun q h => Or.inr h
      have hS : va_S (va_A [cTP zc, cR7 cA zc, cGaK zc jg 1, cTr zc] s.heap.size) s.heap s.heap [] := va_S.rf
      refine lv_aload_n hx hb dX10_tell_0 rfl (lv_at hl 0 rfl) ?_
      refine lv_iload_n hx hb dX10_tell_1 rfl (lv_at hl 1 rfl) ?_
      have hPc := hP.sub (ws' := [cTP zc, cR7 cA zc]) [0, 1] rfl
      have hDc := hD.sub (ws' := [cTP zc, cR7 cA zc]) [0, 1] (by decide) rfl
      have hKc := hK.sub (tys' := [(cA 2, .object RX2)]) [2] rfl
      refine va_csq (va_Run.run (va_runV (As := [.int (nI jg)]) (rest := []) ⟨hx, hb, hml, hown, hts⟩ (s_gangAt_yes l dC dI (cA 2) _ (cs_X zc 0 0) (.ref (cs_X zc 0 1)) (.ref (cs_X zc 0 6)) (.ref (cs_X zc 0 8)) (.ref (cs_X zc 0 9)) (.ref (cs_X zc 0 10)) (.ref (cs_X zc 0 11)) (.int (nI (cs_n zc 0))) (.int (nI (cs_n zc 2))) (.int (nI (cs_n zc 3))) (va_rf (opN (cs_n zc 4) (fun _ => cs_X zc 5 0))) (.int (cs_i zc 2)) (cs_X zc 0 7) jg (cs_n zc 1) (cs_X zc 2 jg) (rfN (cs_n zc 1) (cs_X zc 2)) hjg (by omega) (rfN_at hjg)) (cwV 1 hts gX10_tell_X10_gangAt rfl rfl rfl (by decide +kernel) ⟨Nat.le_of_ble_eq_true rfl, Nat.le_of_ble_eq_true rfl⟩) (pw_preV (va_recv hKc hPc (ci := 10) (q0 := 0) rfl rfl) hPc hKc hDc hN) rfl rfl hl.1 rfl (lv_room (Nat.le_of_ble_eq_true rfl)) dX10_tell_2 ⟨Nat.le_of_ble_eq_true rfl, Nat.le_of_ble_eq_true rfl⟩)) (fun r2 hr2 => ?_)
      have hr2 : r2 = some (cs_X zc 2 jg) := hr2
      subst hr2
      refine W.eq (g2 := F0 m 5 ls [.ref (cs_X zc 2 jg)]) rfl ?_
      refine lv_astore_n (lv' := [(2, .ref (cs_X zc 2 jg)), (0, .ref (cs_X zc 0 0)), (1, .int (nI jg))]) hx hb dX10_tell_5 rfl hl (by decide) rfl (fun ls hl => ?_)
      refine lv_aload_n hx hb dX10_tell_6 rfl (lv_at hl 0 rfl) ?_
      refine lv_ifnonnull (tgt := 14) hx hb dX10_tell_7 (by decide) ?_
      refine lv_aload_n hx hb dX10_tell_14 rfl (lv_at hl 0 rfl) ?_
      refine lv_aload_n hx hb dX10_tell_15 rfl (lv_at hl 1 rfl) ?_
      refine va_get (D := (dC, dI)) (ci := 10) (v := .ref (cs_X zc 0 11)) (C := RX10) (T := TX10) (N := 13) hx hb hts hiX10 hown hK hP 0 rfl rfl 6 (by decide) (hts (.fieldLink RX10 52 "TributePitches" "steps" "LTributePitches$Trace;") (by decide +kernel)) (fun _ h9 => h9) rfl dX10_tell_16 ?_
      have hPc := hP.sub (ws' := [cGaK zc jg 1, cTr zc]) [2, 3] rfl
      have hDc := hD.sub (ws' := [cGaK zc jg 1, cTr zc]) [2, 3] (by decide) rfl
      have hKc := hK.sub (tys' := []) [] rfl
      have hFc := va_free (wc := [cGaK zc jg 1, cTr zc]) hD hS hA [2, 3] rfl
      refine va_calli (va_runU (As := [.ref (cs_X zc 0 11)]) (rest := []) ⟨hx, hb, hml, hown, hts⟩ (s_tell_1 l dC dI  _ (cs_X zc 2 jg) (nI jg) (cs_I zc 21 jg) (cs_I zc 22 jg) (cs_L zc 0 jg) (cs_X zc 0 11) (cs_i zc 1) ) (va_cwO 1 hts gX10_tell_X1_telling_u304X1 rfl rfl rfl (b0 := cX2_telling) (m0 := 2) (r0 := (some .int)) (by decide +kernel) (by decide +kernel) ⟨Nat.le_of_ble_eq_true rfl, Nat.le_of_ble_eq_true rfl⟩) (pw_preV (va_recv hKc hPc (ci := 1) (q0 := 0) rfl rfl) hPc hKc hDc hN) rfl rfl hl.1 rfl (lv_room (Nat.le_of_ble_eq_true rfl)) dX10_tell_19 ⟨Nat.le_of_ble_eq_true rfl, Nat.le_of_ble_eq_true rfl⟩) hS (fun q _ h => hFc q h) hFc (fun r3 u t H1 locs ht hvm hw hB hz1 hk1 hS => ?_)
      have hr3 : r3 = 10 + (cs_I zc 21 jg) := hw
      obtain ⟨hP1, hK1, hD1⟩ := hB
      rw [ht] at hP1
      obtain ⟨hP, hD⟩ := va_join (wr := [cTP zc, cR7 cA zc]) (w1 := [(cs_X zc 2 jg, .inr (1, [.int (nI jg), .int (cs_I zc 21 jg), .int (cs_I zc 22 jg), .long (cs_L zc 0 jg)])), (cs_X zc 0 11, .inr (9, [.int ((31 * ((31 * (cs_i zc 1)) + 2)) + 1)]))]) hP hD [2, 3] [0, 1] rfl rfl (by decide) (by decide) hk1 hFc hP1 hD1
      generalize H1 = H at hP hS ⊢
      have hP : va_P (dC, dI) vwCl [cTP zc, cR7 cA zc, (cs_X zc 2 jg, .inr (1, [.int (nI jg), .int (cs_I zc 21 jg), .int (cs_I zc 22 jg), .long (cs_L zc 0 jg)])), (cs_X zc 0 11, .inr (9, [.int ((31 * ((31 * (cs_i zc 1)) + 2)) + 1)]))] H := hP
      have hD : va_D _ [cTP zc, cR7 cA zc, (cs_X zc 2 jg, .inr (1, [.int (nI jg), .int (cs_I zc 21 jg), .int (cs_I zc 22 jg), .long (cs_L zc 0 jg)])), (cs_X zc 0 11, .inr (9, [.int ((31 * ((31 * (cs_i zc 1)) + 2)) + 1)]))] := hD
      have hr3 := hr3.symm
      subst hr3
      refine W.eq (g2 := F0 m 22 ls [.int (10 + (cs_I zc 21 jg))]) rfl ?_
      subst hQ
      have hP9 : va_P (dC, dI) vwCl [cTP zc, cR7 cA zc, (cs_X zc 2 jg, .inr (1, [.int (nI jg), .int (cs_I zc 21 jg), .int (cs_I zc 22 jg), .long (cs_L zc 0 jg)])), (cs_X zc 0 11, .inr (9, [.int ((31 * ((31 * (cs_i zc 1)) + 2)) + 1)]))] H := hP.sub [0, 1, 2, 3] rfl
      have hD9 : va_D (va_A [cTP zc, cR7 cA zc, cGaK zc jg 1, cTr zc] s.heap.size) [cTP zc, cR7 cA zc, (cs_X zc 2 jg, .inr (1, [.int (nI jg), .int (cs_I zc 21 jg), .int (cs_I zc 22 jg), .long (cs_L zc 0 jg)])), (cs_X zc 0 11, .inr (9, [.int ((31 * ((31 * (cs_i zc 1)) + 2)) + 1)]))] := hD.sub [0, 1, 2, 3] (by decide) rfl
      have hlf := lf_tell_1 cA zc jg hjg hk hI
      exact W.iret (v := 10 + (cs_I zc 21 jg)) hx hb hr (fun t ht hW => have hJ := kjoin hPk hDk hks rfl (hS.F ht) (by rw [ht]; exact hP9) hD9 hlf.2.1 hlf.2.2; ⟨⟨10 + (cs_I zc 21 jg), (va_up (cs_i zc) 1 ((31 * ((31 * (cs_i zc 1)) + 2)) + 1), cs_n zc, cs_I zc, cs_L zc, cs_N zc, cs_S zc, cs_X zc), rfl, ⟨⟨hlf.1, rfl⟩, (Or.inr (Or.inl ⟨jg, rfl, hjg, hk, rfl, rfl⟩))⟩, hJ.1, va_K.moved hW.alike hKk, hJ.2.1⟩, hJ.2.2⟩) (fun q h => kAll_A hks _ (hS.2.2 q h)) dX10_tell_22
    · skip
      have hks : kAll (cF cA zc) [(0, 0), (0, 7), (2, jg), (0, 11)] [cTP zc, cR7 cA zc, cGaK zc jg 2, cTr zc] := ⟨(kF_tp (cA := cA) (z := zc)), (kF_r7 (cA := cA) (z := zc)), (kF_gaK (z := zc) (j := jg) hjg hk), (kF_tr (cA := cA) (z := zc)), trivial⟩
      have hP : va_P (dC, dI) vwCl [cTP zc, cR7 cA zc, cGaK zc jg 2, cTr zc] s.heap := kAll_P hPk hks
      have hD : va_D (va_A [cTP zc, cR7 cA zc, cGaK zc jg 2, cTr zc] s.heap.size) [cTP zc, cR7 cA zc, cGaK zc jg 2, cTr zc] := (kAll_D hDk hks (by simp)).self
      have hA : ∀ q : Nat, s.heap.size ≤ q → va_A [cTP zc, cR7 cA zc, cGaK zc jg 2, cTr zc] s.heap.size q := fun q h => Or.inr h
      have hS : va_S (va_A [cTP zc, cR7 cA zc, cGaK zc jg 2, cTr zc] s.heap.size) s.heap s.heap [] := va_S.rf
      refine lv_aload_n hx hb dX10_tell_0 rfl (lv_at hl 0 rfl) ?_
      refine lv_iload_n hx hb dX10_tell_1 rfl (lv_at hl 1 rfl) ?_
      have hPc := hP.sub (ws' := [cTP zc, cR7 cA zc]) [0, 1] rfl
      have hDc := hD.sub (ws' := [cTP zc, cR7 cA zc]) [0, 1] (by decide) rfl
      have hKc := hK.sub (tys' := [(cA 2, .object RX2)]) [2] rfl
      refine va_csq (va_Run.run (va_runV (As := [.int (nI jg)]) (rest := []) ⟨hx, hb, hml, hown, hts⟩ (s_gangAt_yes l dC dI (cA 2) _ (cs_X zc 0 0) (.ref (cs_X zc 0 1)) (.ref (cs_X zc 0 6)) (.ref (cs_X zc 0 8)) (.ref (cs_X zc 0 9)) (.ref (cs_X zc 0 10)) (.ref (cs_X zc 0 11)) (.int (nI (cs_n zc 0))) (.int (nI (cs_n zc 2))) (.int (nI (cs_n zc 3))) (va_rf (opN (cs_n zc 4) (fun _ => cs_X zc 5 0))) (.int (cs_i zc 2)) (cs_X zc 0 7) jg (cs_n zc 1) (cs_X zc 2 jg) (rfN (cs_n zc 1) (cs_X zc 2)) hjg (by omega) (rfN_at hjg)) (cwV 1 hts gX10_tell_X10_gangAt rfl rfl rfl (by decide +kernel) ⟨Nat.le_of_ble_eq_true rfl, Nat.le_of_ble_eq_true rfl⟩) (pw_preV (va_recv hKc hPc (ci := 10) (q0 := 0) rfl rfl) hPc hKc hDc hN) rfl rfl hl.1 rfl (lv_room (Nat.le_of_ble_eq_true rfl)) dX10_tell_2 ⟨Nat.le_of_ble_eq_true rfl, Nat.le_of_ble_eq_true rfl⟩)) (fun r4 hr4 => ?_)
      have hr4 : r4 = some (cs_X zc 2 jg) := hr4
      subst hr4
      refine W.eq (g2 := F0 m 5 ls [.ref (cs_X zc 2 jg)]) rfl ?_
      refine lv_astore_n (lv' := [(2, .ref (cs_X zc 2 jg)), (0, .ref (cs_X zc 0 0)), (1, .int (nI jg))]) hx hb dX10_tell_5 rfl hl (by decide) rfl (fun ls hl => ?_)
      refine lv_aload_n hx hb dX10_tell_6 rfl (lv_at hl 0 rfl) ?_
      refine lv_ifnonnull (tgt := 14) hx hb dX10_tell_7 (by decide) ?_
      refine lv_aload_n hx hb dX10_tell_14 rfl (lv_at hl 0 rfl) ?_
      refine lv_aload_n hx hb dX10_tell_15 rfl (lv_at hl 1 rfl) ?_
      refine va_get (D := (dC, dI)) (ci := 10) (v := .ref (cs_X zc 0 11)) (C := RX10) (T := TX10) (N := 13) hx hb hts hiX10 hown hK hP 0 rfl rfl 6 (by decide) (hts (.fieldLink RX10 52 "TributePitches" "steps" "LTributePitches$Trace;") (by decide +kernel)) (fun _ h9 => h9) rfl dX10_tell_16 ?_
      have hPc := hP.sub (ws' := [cGaK zc jg 2, cTr zc]) [2, 3] rfl
      have hDc := hD.sub (ws' := [cGaK zc jg 2, cTr zc]) [2, 3] (by decide) rfl
      have hKc := hK.sub (tys' := []) [] rfl
      have hFc := va_free (wc := [cGaK zc jg 2, cTr zc]) hD hS hA [2, 3] rfl
      refine va_calli (va_runV (As := [.ref (cs_X zc 0 11)]) (rest := []) ⟨hx, hb, hml, hown, hts⟩ (s_tell_2 l dC dI  _ (cs_X zc 2 jg) (nI jg) (cs_I zc 21 jg) (cs_I zc 22 jg) (cs_L zc 0 jg) (cs_X zc 0 11) (cs_i zc 1) ) (cwV 1 hts gX10_tell_X2_telling rfl rfl rfl (by decide +kernel) ⟨Nat.le_of_ble_eq_true rfl, Nat.le_of_ble_eq_true rfl⟩) (pw_preV (va_recv hKc hPc (ci := 2) (q0 := 0) rfl rfl) hPc hKc hDc hN) rfl rfl hl.1 rfl (lv_room (Nat.le_of_ble_eq_true rfl)) dX10_tell_19 ⟨Nat.le_of_ble_eq_true rfl, Nat.le_of_ble_eq_true rfl⟩) hS (fun q _ h => hFc q h) hFc (fun r5 u t H1 locs ht hvm hw hB hz1 hk1 hS => ?_)
      have hr5 : r5 = (cs_I zc 21 jg) := hw
      obtain ⟨hP1, hK1, hD1⟩ := hB
      rw [ht] at hP1
      obtain ⟨hP, hD⟩ := va_join (wr := [cTP zc, cR7 cA zc]) (w1 := [(cs_X zc 2 jg, .inr (2, [.int (nI jg), .int (cs_I zc 21 jg), .int (cs_I zc 22 jg), .long (cs_L zc 0 jg)])), (cs_X zc 0 11, .inr (9, [.int ((31 * (cs_i zc 1)) + 1)]))]) hP hD [2, 3] [0, 1] rfl rfl (by decide) (by decide) hk1 hFc hP1 hD1
      generalize H1 = H at hP hS ⊢
      have hP : va_P (dC, dI) vwCl [cTP zc, cR7 cA zc, (cs_X zc 2 jg, .inr (2, [.int (nI jg), .int (cs_I zc 21 jg), .int (cs_I zc 22 jg), .long (cs_L zc 0 jg)])), (cs_X zc 0 11, .inr (9, [.int ((31 * (cs_i zc 1)) + 1)]))] H := hP
      have hD : va_D _ [cTP zc, cR7 cA zc, (cs_X zc 2 jg, .inr (2, [.int (nI jg), .int (cs_I zc 21 jg), .int (cs_I zc 22 jg), .long (cs_L zc 0 jg)])), (cs_X zc 0 11, .inr (9, [.int ((31 * (cs_i zc 1)) + 1)]))] := hD
      have hr5 := hr5.symm
      subst hr5
      refine W.eq (g2 := F0 m 22 ls [.int (cs_I zc 21 jg)]) rfl ?_
      subst hQ
      have hP9 : va_P (dC, dI) vwCl [cTP zc, cR7 cA zc, (cs_X zc 2 jg, .inr (2, [.int (nI jg), .int (cs_I zc 21 jg), .int (cs_I zc 22 jg), .long (cs_L zc 0 jg)])), (cs_X zc 0 11, .inr (9, [.int ((31 * (cs_i zc 1)) + 1)]))] H := hP.sub [0, 1, 2, 3] rfl
      have hD9 : va_D (va_A [cTP zc, cR7 cA zc, cGaK zc jg 2, cTr zc] s.heap.size) [cTP zc, cR7 cA zc, (cs_X zc 2 jg, .inr (2, [.int (nI jg), .int (cs_I zc 21 jg), .int (cs_I zc 22 jg), .long (cs_L zc 0 jg)])), (cs_X zc 0 11, .inr (9, [.int ((31 * (cs_i zc 1)) + 1)]))] := hD.sub [0, 1, 2, 3] (by decide) rfl
      have hlf := lf_tell_2 cA zc jg hjg hk hI
      exact W.iret (v := (cs_I zc 21 jg)) hx hb hr (fun t ht hW => have hJ := kjoin hPk hDk hks rfl (hS.F ht) (by rw [ht]; exact hP9) hD9 hlf.2.1 hlf.2.2; ⟨⟨(cs_I zc 21 jg), (va_up (cs_i zc) 1 ((31 * (cs_i zc 1)) + 1), cs_n zc, cs_I zc, cs_L zc, cs_N zc, cs_S zc, cs_X zc), rfl, ⟨⟨hlf.1, rfl⟩, (Or.inr (Or.inr (Or.inl ⟨jg, rfl, hjg, hk, rfl, rfl⟩)))⟩, hJ.1, va_K.moved hW.alike hKk, hJ.2.1⟩, hJ.2.2⟩) (fun q h => kAll_A hks _ (hS.2.2 q h)) dX10_tell_22
    · skip
      have hks : kAll (cF cA zc) [(0, 0), (0, 7), (2, jg), (0, 11)] [cTP zc, cR7 cA zc, cGaK zc jg 4, cTr zc] := ⟨(kF_tp (cA := cA) (z := zc)), (kF_r7 (cA := cA) (z := zc)), (kF_gaK (z := zc) (j := jg) hjg hk), (kF_tr (cA := cA) (z := zc)), trivial⟩
      have hP : va_P (dC, dI) vwCl [cTP zc, cR7 cA zc, cGaK zc jg 4, cTr zc] s.heap := kAll_P hPk hks
      have hD : va_D (va_A [cTP zc, cR7 cA zc, cGaK zc jg 4, cTr zc] s.heap.size) [cTP zc, cR7 cA zc, cGaK zc jg 4, cTr zc] := (kAll_D hDk hks (by simp)).self
      have hA : ∀ q : Nat, s.heap.size ≤ q → va_A [cTP zc, cR7 cA zc, cGaK zc jg 4, cTr zc] s.heap.size q := fun q h => Or.inr h
      have hS : va_S (va_A [cTP zc, cR7 cA zc, cGaK zc jg 4, cTr zc] s.heap.size) s.heap s.heap [] := va_S.rf
      refine lv_aload_n hx hb dX10_tell_0 rfl (lv_at hl 0 rfl) ?_
      refine lv_iload_n hx hb dX10_tell_1 rfl (lv_at hl 1 rfl) ?_
      have hPc := hP.sub (ws' := [cTP zc, cR7 cA zc]) [0, 1] rfl
      have hDc := hD.sub (ws' := [cTP zc, cR7 cA zc]) [0, 1] (by decide) rfl
      have hKc := hK.sub (tys' := [(cA 2, .object RX2)]) [2] rfl
      refine va_csq (va_Run.run (va_runV (As := [.int (nI jg)]) (rest := []) ⟨hx, hb, hml, hown, hts⟩ (s_gangAt_yes l dC dI (cA 2) _ (cs_X zc 0 0) (.ref (cs_X zc 0 1)) (.ref (cs_X zc 0 6)) (.ref (cs_X zc 0 8)) (.ref (cs_X zc 0 9)) (.ref (cs_X zc 0 10)) (.ref (cs_X zc 0 11)) (.int (nI (cs_n zc 0))) (.int (nI (cs_n zc 2))) (.int (nI (cs_n zc 3))) (va_rf (opN (cs_n zc 4) (fun _ => cs_X zc 5 0))) (.int (cs_i zc 2)) (cs_X zc 0 7) jg (cs_n zc 1) (cs_X zc 2 jg) (rfN (cs_n zc 1) (cs_X zc 2)) hjg (by omega) (rfN_at hjg)) (cwV 1 hts gX10_tell_X10_gangAt rfl rfl rfl (by decide +kernel) ⟨Nat.le_of_ble_eq_true rfl, Nat.le_of_ble_eq_true rfl⟩) (pw_preV (va_recv hKc hPc (ci := 10) (q0 := 0) rfl rfl) hPc hKc hDc hN) rfl rfl hl.1 rfl (lv_room (Nat.le_of_ble_eq_true rfl)) dX10_tell_2 ⟨Nat.le_of_ble_eq_true rfl, Nat.le_of_ble_eq_true rfl⟩)) (fun r6 hr6 => ?_)
      have hr6 : r6 = some (cs_X zc 2 jg) := hr6
      subst hr6
      refine W.eq (g2 := F0 m 5 ls [.ref (cs_X zc 2 jg)]) rfl ?_
      refine lv_astore_n (lv' := [(2, .ref (cs_X zc 2 jg)), (0, .ref (cs_X zc 0 0)), (1, .int (nI jg))]) hx hb dX10_tell_5 rfl hl (by decide) rfl (fun ls hl => ?_)
      refine lv_aload_n hx hb dX10_tell_6 rfl (lv_at hl 0 rfl) ?_
      refine lv_ifnonnull (tgt := 14) hx hb dX10_tell_7 (by decide) ?_
      refine lv_aload_n hx hb dX10_tell_14 rfl (lv_at hl 0 rfl) ?_
      refine lv_aload_n hx hb dX10_tell_15 rfl (lv_at hl 1 rfl) ?_
      refine va_get (D := (dC, dI)) (ci := 10) (v := .ref (cs_X zc 0 11)) (C := RX10) (T := TX10) (N := 13) hx hb hts hiX10 hown hK hP 0 rfl rfl 6 (by decide) (hts (.fieldLink RX10 52 "TributePitches" "steps" "LTributePitches$Trace;") (by decide +kernel)) (fun _ h9 => h9) rfl dX10_tell_16 ?_
      have hPc := hP.sub (ws' := [cGaK zc jg 4, cTr zc]) [2, 3] rfl
      have hDc := hD.sub (ws' := [cGaK zc jg 4, cTr zc]) [2, 3] (by decide) rfl
      have hKc := hK.sub (tys' := []) [] rfl
      have hFc := va_free (wc := [cGaK zc jg 4, cTr zc]) hD hS hA [2, 3] rfl
      refine va_calli (va_runU (As := [.ref (cs_X zc 0 11)]) (rest := []) ⟨hx, hb, hml, hown, hts⟩ (s_tell_4 l dC dI  _ (cs_X zc 2 jg) (nI jg) (cs_I zc 21 jg) (cs_I zc 22 jg) (cs_L zc 0 jg) (cs_X zc 0 11) (cs_i zc 1) ) (va_cwO 1 hts gX10_tell_X4_telling_u304X4 rfl rfl rfl (b0 := cX2_telling) (m0 := 2) (r0 := (some .int)) (by decide +kernel) (by decide +kernel) ⟨Nat.le_of_ble_eq_true rfl, Nat.le_of_ble_eq_true rfl⟩) (pw_preV (va_recv hKc hPc (ci := 4) (q0 := 0) rfl rfl) hPc hKc hDc hN) rfl rfl hl.1 rfl (lv_room (Nat.le_of_ble_eq_true rfl)) dX10_tell_19 ⟨Nat.le_of_ble_eq_true rfl, Nat.le_of_ble_eq_true rfl⟩) hS (fun q _ h => hFc q h) hFc (fun r7 u t H1 locs ht hvm hw hB hz1 hk1 hS => ?_)
      have hr7 : r7 = 3 * (cs_I zc 21 jg) := hw
      obtain ⟨hP1, hK1, hD1⟩ := hB
      rw [ht] at hP1
      obtain ⟨hP, hD⟩ := va_join (wr := [cTP zc, cR7 cA zc]) (w1 := [(cs_X zc 2 jg, .inr (4, [.int (nI jg), .int (cs_I zc 21 jg), .int (cs_I zc 22 jg), .long (cs_L zc 0 jg)])), (cs_X zc 0 11, .inr (9, [.int ((31 * ((31 * (cs_i zc 1)) + 3)) + 1)]))]) hP hD [2, 3] [0, 1] rfl rfl (by decide) (by decide) hk1 hFc hP1 hD1
      generalize H1 = H at hP hS ⊢
      have hP : va_P (dC, dI) vwCl [cTP zc, cR7 cA zc, (cs_X zc 2 jg, .inr (4, [.int (nI jg), .int (cs_I zc 21 jg), .int (cs_I zc 22 jg), .long (cs_L zc 0 jg)])), (cs_X zc 0 11, .inr (9, [.int ((31 * ((31 * (cs_i zc 1)) + 3)) + 1)]))] H := hP
      have hD : va_D _ [cTP zc, cR7 cA zc, (cs_X zc 2 jg, .inr (4, [.int (nI jg), .int (cs_I zc 21 jg), .int (cs_I zc 22 jg), .long (cs_L zc 0 jg)])), (cs_X zc 0 11, .inr (9, [.int ((31 * ((31 * (cs_i zc 1)) + 3)) + 1)]))] := hD
      have hr7 := hr7.symm
      subst hr7
      refine W.eq (g2 := F0 m 22 ls [.int (3 * (cs_I zc 21 jg))]) rfl ?_
      subst hQ
      have hP9 : va_P (dC, dI) vwCl [cTP zc, cR7 cA zc, (cs_X zc 2 jg, .inr (4, [.int (nI jg), .int (cs_I zc 21 jg), .int (cs_I zc 22 jg), .long (cs_L zc 0 jg)])), (cs_X zc 0 11, .inr (9, [.int ((31 * ((31 * (cs_i zc 1)) + 3)) + 1)]))] H := hP.sub [0, 1, 2, 3] rfl
      have hD9 : va_D (va_A [cTP zc, cR7 cA zc, cGaK zc jg 4, cTr zc] s.heap.size) [cTP zc, cR7 cA zc, (cs_X zc 2 jg, .inr (4, [.int (nI jg), .int (cs_I zc 21 jg), .int (cs_I zc 22 jg), .long (cs_L zc 0 jg)])), (cs_X zc 0 11, .inr (9, [.int ((31 * ((31 * (cs_i zc 1)) + 3)) + 1)]))] := hD.sub [0, 1, 2, 3] (by decide) rfl
      have hlf := lf_tell_3 cA zc jg hjg hk hI
      exact W.iret (v := 3 * (cs_I zc 21 jg)) hx hb hr (fun t ht hW => have hJ := kjoin hPk hDk hks rfl (hS.F ht) (by rw [ht]; exact hP9) hD9 hlf.2.1 hlf.2.2; ⟨⟨3 * (cs_I zc 21 jg), (va_up (cs_i zc) 1 ((31 * ((31 * (cs_i zc 1)) + 3)) + 1), cs_n zc, cs_I zc, cs_L zc, cs_N zc, cs_S zc, cs_X zc), rfl, ⟨⟨hlf.1, rfl⟩, (Or.inr (Or.inr (Or.inr ⟨jg, rfl, hjg, hk, rfl, rfl⟩)))⟩, hJ.1, va_K.moved hW.alike hKk, hJ.2.1⟩, hJ.2.2⟩) (fun q h => kAll_A hks _ (hS.2.2 q h)) dX10_tell_22
