def pC_sheet (zc : CS) (k : Int32) (ln : Int32) (n : Int32) (r : Int32) (u : CS) : Prop :=
  ((∀ j, j < 4 → k ≠ nI j) ∧ r = ((-1)) ∧ u = (va_up (cs_i zc) 2 0, cs_n zc, cs_I zc, cs_L zc, cs_N zc, cs_S zc, cs_X zc)) ∨
  (∃ js : Nat, k = nI js ∧ (js < 4) ∧ (¬ (0 ≤ ln ∧ ln ≤ 2)) ∧ r = ((-2)) ∧ u = (va_up (cs_i zc) 2 0, cs_n zc, cs_I zc, cs_L zc, cs_N zc, cs_S zc, cs_X zc)) ∨
  (∃ js : Nat, k = nI js ∧ (js < 4) ∧ (0 ≤ ln ∧ ln ≤ 2) ∧ (n ≤ 48) ∧ (0 ≤ n) ∧ r = (1) ∧ u = (va_up (cs_i zc) 2 0, cs_n zc, va_up (va_up (cs_I zc) 8 (va_up (cs_I zc 8) js ln)) 9 (va_up (cs_I zc 9) js n), cs_L zc, cs_N zc, va_up (cs_S zc) js (fun _ => 0), cs_X zc)) ∨
  (∃ js : Nat, k = nI js ∧ (js < 4) ∧ (0 ≤ ln ∧ ln ≤ 2) ∧ (n ≤ 48) ∧ (¬ 0 ≤ n) ∧ r = (-10 - 4) ∧ u = (va_up (cs_i zc) 2 4, cs_n zc, cs_I zc, cs_L zc, cs_N zc, cs_S zc, cs_X zc)) ∨
  (∃ js : Nat, k = nI js ∧ (js < 4) ∧ (0 ≤ ln ∧ ln ≤ 2) ∧ (¬ n ≤ 48) ∧ r = ((-2)) ∧ u = (va_up (cs_i zc) 2 0, cs_n zc, cs_I zc, cs_L zc, cs_N zc, cs_S zc, cs_X zc))
set_option maxHeartbeats 4000000 in
theorem lf_sheet_0 (cA : Nat → ClassId) (zc : CS) (k : Int32) (ln : Int32) (n : Int32) (hnojs : ∀ j, j < 4 → k ≠ nI j) (hI : invC zc) : invC (va_up (cs_i zc) 2 0, cs_n zc, cs_I zc, cs_L zc, cs_N zc, cs_S zc, cs_X zc) ∧ kAll (cF cA (va_up (cs_i zc) 2 0, cs_n zc, cs_I zc, cs_L zc, cs_N zc, cs_S zc, cs_X zc)) [(0, 0), (0, 10)] [(cs_X zc 0 0, .inr (10, [.ref (cs_X zc 0 1), .ref (cs_X zc 0 6), .ref (cs_X zc 0 7), .ref (cs_X zc 0 8), .ref (cs_X zc 0 9), .ref (cs_X zc 0 10), .ref (cs_X zc 0 11), .int (nI (cs_n zc 0)), .int (nI (cs_n zc 1)), .int (nI (cs_n zc 2)), .int (nI (cs_n zc 3)), va_rf (opN (cs_n zc 4) (fun _ => cs_X zc 5 0)), .int 0])), cR10 cA zc] ∧ ∀ i j, (i, j) ∉ ([(0, 0), (0, 10)] : List (Nat × Nat)) → cF cA (va_up (cs_i zc) 2 0, cs_n zc, cs_I zc, cs_L zc, cs_N zc, cs_S zc, cs_X zc) i j = none ∨ ((i, j) ∉ ([(0, 0), (0, 10)] : List (Nat × Nat)) ∧ cF cA (va_up (cs_i zc) 2 0, cs_n zc, cs_I zc, cs_L zc, cs_N zc, cs_S zc, cs_X zc) i j = cF cA zc i j) := by
  obtain ⟨⟨hn0, hn1, hn2, hn3, hn4, hn5⟩, hpi, hgk, htk, hpk, hsh⟩ := id hI
  refine ⟨hI, ⟨(by (rw [(kF_tp (cA := cA) (z := (va_up (cs_i zc) 2 0, cs_n zc, cs_I zc, cs_L zc, cs_N zc, cs_S zc, cs_X zc)))]) <;> simp [cTP, cTPN, cTPA, cLo, cA2, cA3, cA4, cA5, cR6, cR7, cR8, cR9, cR10, cTr, cPi, cPiN, cPiT, cGa, cGaK, cTa, cPa, cAu, cAuN, cAuB, cSh, cSc, cs_i, cs_n, cs_I, cs_L, cs_N, cs_S, cs_X, va_up, upd, opN]), (by (rw [(kF_r10 (cA := cA) (z := (va_up (cs_i zc) 2 0, cs_n zc, cs_I zc, cs_L zc, cs_N zc, cs_S zc, cs_X zc)))]) <;> simp [cTP, cTPN, cTPA, cLo, cA2, cA3, cA4, cA5, cR6, cR7, cR8, cR9, cR10, cTr, cPi, cPiN, cPiT, cGa, cGaK, cTa, cPa, cAu, cAuN, cAuB, cSh, cSc, cs_i, cs_n, cs_I, cs_L, cs_N, cs_S, cs_X, va_up, upd, opN]), trivial⟩, ?_⟩
  intro i j hij
  refine Or.inr ⟨hij, ?_⟩
  rcases i with _ | _ | _ | _ | _ | _ | _ | _ | i
  · rcases j with _ | _ | _ | _ | _ | _ | _ | _ | _ | _ | _ | _ | j
    · exact absurd (by simp) hij
    · show some (cLo (va_up (cs_i zc) 2 0, cs_n zc, cs_I zc, cs_L zc, cs_N zc, cs_S zc, cs_X zc)) = some (cLo zc); simp [cLo, cs_i, cs_n, cs_I, cs_L, cs_N, cs_S, cs_X, va_up]
    · show some (cA2 cA (va_up (cs_i zc) 2 0, cs_n zc, cs_I zc, cs_L zc, cs_N zc, cs_S zc, cs_X zc)) = some (cA2 cA zc); simp [cA2, cs_i, cs_n, cs_I, cs_L, cs_N, cs_S, cs_X, va_up]
    · show some (cA3 cA (va_up (cs_i zc) 2 0, cs_n zc, cs_I zc, cs_L zc, cs_N zc, cs_S zc, cs_X zc)) = some (cA3 cA zc); simp [cA3, cs_i, cs_n, cs_I, cs_L, cs_N, cs_S, cs_X, va_up]
    · show some (cA4 cA (va_up (cs_i zc) 2 0, cs_n zc, cs_I zc, cs_L zc, cs_N zc, cs_S zc, cs_X zc)) = some (cA4 cA zc); simp [cA4, cs_i, cs_n, cs_I, cs_L, cs_N, cs_S, cs_X, va_up]
    · show some (cA5 cA (va_up (cs_i zc) 2 0, cs_n zc, cs_I zc, cs_L zc, cs_N zc, cs_S zc, cs_X zc)) = some (cA5 cA zc); simp [cA5, cs_i, cs_n, cs_I, cs_L, cs_N, cs_S, cs_X, va_up]
    · show some (cR6 cA (va_up (cs_i zc) 2 0, cs_n zc, cs_I zc, cs_L zc, cs_N zc, cs_S zc, cs_X zc)) = some (cR6 cA zc); simp [cR6, cs_i, cs_n, cs_I, cs_L, cs_N, cs_S, cs_X, va_up]
    · show some (cR7 cA (va_up (cs_i zc) 2 0, cs_n zc, cs_I zc, cs_L zc, cs_N zc, cs_S zc, cs_X zc)) = some (cR7 cA zc); simp [cR7, cs_i, cs_n, cs_I, cs_L, cs_N, cs_S, cs_X, va_up]
    · show some (cR8 cA (va_up (cs_i zc) 2 0, cs_n zc, cs_I zc, cs_L zc, cs_N zc, cs_S zc, cs_X zc)) = some (cR8 cA zc); simp [cR8, cs_i, cs_n, cs_I, cs_L, cs_N, cs_S, cs_X, va_up]
    · show some (cR9 cA (va_up (cs_i zc) 2 0, cs_n zc, cs_I zc, cs_L zc, cs_N zc, cs_S zc, cs_X zc)) = some (cR9 cA zc); simp [cR9, cs_i, cs_n, cs_I, cs_L, cs_N, cs_S, cs_X, va_up]
    · exact absurd (by simp) hij
    · show some (cTr (va_up (cs_i zc) 2 0, cs_n zc, cs_I zc, cs_L zc, cs_N zc, cs_S zc, cs_X zc)) = some (cTr zc); simp [cTr, cs_i, cs_n, cs_I, cs_L, cs_N, cs_S, cs_X, va_up]
    · show (none : Option (Nat × va_E)) = none; rfl
  · show (if j < cs_n (va_up (cs_i zc) 2 0, cs_n zc, cs_I zc, cs_L zc, cs_N zc, cs_S zc, cs_X zc) 0 then some (cPi (va_up (cs_i zc) 2 0, cs_n zc, cs_I zc, cs_L zc, cs_N zc, cs_S zc, cs_X zc) j) else none) = if j < cs_n zc 0 then some (cPi zc j) else none
    simp [cPi, cs_i, cs_n, cs_I, cs_L, cs_N, cs_S, cs_X, va_up]
  · show (if j < cs_n (va_up (cs_i zc) 2 0, cs_n zc, cs_I zc, cs_L zc, cs_N zc, cs_S zc, cs_X zc) 1 then some (cGa (va_up (cs_i zc) 2 0, cs_n zc, cs_I zc, cs_L zc, cs_N zc, cs_S zc, cs_X zc) j) else none) = if j < cs_n zc 1 then some (cGa zc j) else none
    simp [cGa, cs_i, cs_n, cs_I, cs_L, cs_N, cs_S, cs_X, va_up]
  · show (if j < cs_n (va_up (cs_i zc) 2 0, cs_n zc, cs_I zc, cs_L zc, cs_N zc, cs_S zc, cs_X zc) 2 then some (cTa (va_up (cs_i zc) 2 0, cs_n zc, cs_I zc, cs_L zc, cs_N zc, cs_S zc, cs_X zc) j) else none) = if j < cs_n zc 2 then some (cTa zc j) else none
    simp [cTa, cs_i, cs_n, cs_I, cs_L, cs_N, cs_S, cs_X, va_up]
  · show (if j < cs_n (va_up (cs_i zc) 2 0, cs_n zc, cs_I zc, cs_L zc, cs_N zc, cs_S zc, cs_X zc) 3 then some (cPa (va_up (cs_i zc) 2 0, cs_n zc, cs_I zc, cs_L zc, cs_N zc, cs_S zc, cs_X zc) j) else none) = if j < cs_n zc 3 then some (cPa zc j) else none
    simp [cPa, cs_i, cs_n, cs_I, cs_L, cs_N, cs_S, cs_X, va_up]
  · show (if j = 0 ∧ ¬ cs_n (va_up (cs_i zc) 2 0, cs_n zc, cs_I zc, cs_L zc, cs_N zc, cs_S zc, cs_X zc) 4 = 0 then some (cAu (va_up (cs_i zc) 2 0, cs_n zc, cs_I zc, cs_L zc, cs_N zc, cs_S zc, cs_X zc)) else none) = if j = 0 ∧ ¬ cs_n zc 4 = 0 then some (cAu zc) else none
    simp [cAu, cs_i, cs_n, cs_I, cs_L, cs_N, cs_S, cs_X, va_up]
  · show (if j < 4 then some (cSh (va_up (cs_i zc) 2 0, cs_n zc, cs_I zc, cs_L zc, cs_N zc, cs_S zc, cs_X zc) j) else none) = if j < 4 then some (cSh zc j) else none
    simp [cSh, cs_i, cs_n, cs_I, cs_L, cs_N, cs_S, cs_X, va_up]
  · show (if j < 4 then some (cSc cA (va_up (cs_i zc) 2 0, cs_n zc, cs_I zc, cs_L zc, cs_N zc, cs_S zc, cs_X zc) j) else none) = if j < 4 then some (cSc cA zc j) else none
    simp [cSc, cs_i, cs_n, cs_I, cs_L, cs_N, cs_S, cs_X, va_up]
  · show (none : Option (Nat × va_E)) = none; rfl
set_option maxHeartbeats 4000000 in
theorem lf_sheet_1 (cA : Nat → ClassId) (zc : CS) (ln : Int32) (n : Int32) (js : Nat) (hjs : js < 4) (c4 : ¬ (0 ≤ ln ∧ ln ≤ 2)) (hI : invC zc) : invC (va_up (cs_i zc) 2 0, cs_n zc, cs_I zc, cs_L zc, cs_N zc, cs_S zc, cs_X zc) ∧ kAll (cF cA (va_up (cs_i zc) 2 0, cs_n zc, cs_I zc, cs_L zc, cs_N zc, cs_S zc, cs_X zc)) [(0, 0), (0, 10), (6, js), (7, js)] [(cs_X zc 0 0, .inr (10, [.ref (cs_X zc 0 1), .ref (cs_X zc 0 6), .ref (cs_X zc 0 7), .ref (cs_X zc 0 8), .ref (cs_X zc 0 9), .ref (cs_X zc 0 10), .ref (cs_X zc 0 11), .int (nI (cs_n zc 0)), .int (nI (cs_n zc 1)), .int (nI (cs_n zc 2)), .int (nI (cs_n zc 3)), va_rf (opN (cs_n zc 4) (fun _ => cs_X zc 5 0)), .int 0])), cR10 cA zc, cSh zc js, cSc cA zc js] ∧ ∀ i j, (i, j) ∉ ([(0, 0), (0, 10), (6, js), (7, js)] : List (Nat × Nat)) → cF cA (va_up (cs_i zc) 2 0, cs_n zc, cs_I zc, cs_L zc, cs_N zc, cs_S zc, cs_X zc) i j = none ∨ ((i, j) ∉ ([(0, 0), (0, 10), (6, js), (7, js)] : List (Nat × Nat)) ∧ cF cA (va_up (cs_i zc) 2 0, cs_n zc, cs_I zc, cs_L zc, cs_N zc, cs_S zc, cs_X zc) i j = cF cA zc i j) := by
  obtain ⟨⟨hn0, hn1, hn2, hn3, hn4, hn5⟩, hpi, hgk, htk, hpk, hsh⟩ := id hI
  refine ⟨hI, ⟨(by (rw [(kF_tp (cA := cA) (z := (va_up (cs_i zc) 2 0, cs_n zc, cs_I zc, cs_L zc, cs_N zc, cs_S zc, cs_X zc)))]) <;> simp [cTP, cTPN, cTPA, cLo, cA2, cA3, cA4, cA5, cR6, cR7, cR8, cR9, cR10, cTr, cPi, cPiN, cPiT, cGa, cGaK, cTa, cPa, cAu, cAuN, cAuB, cSh, cSc, cs_i, cs_n, cs_I, cs_L, cs_N, cs_S, cs_X, va_up, upd, opN]), (by (rw [(kF_r10 (cA := cA) (z := (va_up (cs_i zc) 2 0, cs_n zc, cs_I zc, cs_L zc, cs_N zc, cs_S zc, cs_X zc)))]) <;> simp [cTP, cTPN, cTPA, cLo, cA2, cA3, cA4, cA5, cR6, cR7, cR8, cR9, cR10, cTr, cPi, cPiN, cPiT, cGa, cGaK, cTa, cPa, cAu, cAuN, cAuB, cSh, cSc, cs_i, cs_n, cs_I, cs_L, cs_N, cs_S, cs_X, va_up, upd, opN]), (by (rw [(kF_sh (z := (va_up (cs_i zc) 2 0, cs_n zc, cs_I zc, cs_L zc, cs_N zc, cs_S zc, cs_X zc)) hjs)]) <;> simp [cTP, cTPN, cTPA, cLo, cA2, cA3, cA4, cA5, cR6, cR7, cR8, cR9, cR10, cTr, cPi, cPiN, cPiT, cGa, cGaK, cTa, cPa, cAu, cAuN, cAuB, cSh, cSc, cs_i, cs_n, cs_I, cs_L, cs_N, cs_S, cs_X, va_up, upd, opN]), (by (rw [(kF_sc (z := (va_up (cs_i zc) 2 0, cs_n zc, cs_I zc, cs_L zc, cs_N zc, cs_S zc, cs_X zc)) hjs)]) <;> simp [cTP, cTPN, cTPA, cLo, cA2, cA3, cA4, cA5, cR6, cR7, cR8, cR9, cR10, cTr, cPi, cPiN, cPiT, cGa, cGaK, cTa, cPa, cAu, cAuN, cAuB, cSh, cSc, cs_i, cs_n, cs_I, cs_L, cs_N, cs_S, cs_X, va_up, upd, opN]), trivial⟩, ?_⟩
  intro i j hij
  refine Or.inr ⟨hij, ?_⟩
  rcases i with _ | _ | _ | _ | _ | _ | _ | _ | i
  · rcases j with _ | _ | _ | _ | _ | _ | _ | _ | _ | _ | _ | _ | j
    · exact absurd (by simp) hij
    · show some (cLo (va_up (cs_i zc) 2 0, cs_n zc, cs_I zc, cs_L zc, cs_N zc, cs_S zc, cs_X zc)) = some (cLo zc); simp [cLo, cs_i, cs_n, cs_I, cs_L, cs_N, cs_S, cs_X, va_up]
    · show some (cA2 cA (va_up (cs_i zc) 2 0, cs_n zc, cs_I zc, cs_L zc, cs_N zc, cs_S zc, cs_X zc)) = some (cA2 cA zc); simp [cA2, cs_i, cs_n, cs_I, cs_L, cs_N, cs_S, cs_X, va_up]
    · show some (cA3 cA (va_up (cs_i zc) 2 0, cs_n zc, cs_I zc, cs_L zc, cs_N zc, cs_S zc, cs_X zc)) = some (cA3 cA zc); simp [cA3, cs_i, cs_n, cs_I, cs_L, cs_N, cs_S, cs_X, va_up]
    · show some (cA4 cA (va_up (cs_i zc) 2 0, cs_n zc, cs_I zc, cs_L zc, cs_N zc, cs_S zc, cs_X zc)) = some (cA4 cA zc); simp [cA4, cs_i, cs_n, cs_I, cs_L, cs_N, cs_S, cs_X, va_up]
    · show some (cA5 cA (va_up (cs_i zc) 2 0, cs_n zc, cs_I zc, cs_L zc, cs_N zc, cs_S zc, cs_X zc)) = some (cA5 cA zc); simp [cA5, cs_i, cs_n, cs_I, cs_L, cs_N, cs_S, cs_X, va_up]
    · show some (cR6 cA (va_up (cs_i zc) 2 0, cs_n zc, cs_I zc, cs_L zc, cs_N zc, cs_S zc, cs_X zc)) = some (cR6 cA zc); simp [cR6, cs_i, cs_n, cs_I, cs_L, cs_N, cs_S, cs_X, va_up]
    · show some (cR7 cA (va_up (cs_i zc) 2 0, cs_n zc, cs_I zc, cs_L zc, cs_N zc, cs_S zc, cs_X zc)) = some (cR7 cA zc); simp [cR7, cs_i, cs_n, cs_I, cs_L, cs_N, cs_S, cs_X, va_up]
    · show some (cR8 cA (va_up (cs_i zc) 2 0, cs_n zc, cs_I zc, cs_L zc, cs_N zc, cs_S zc, cs_X zc)) = some (cR8 cA zc); simp [cR8, cs_i, cs_n, cs_I, cs_L, cs_N, cs_S, cs_X, va_up]
    · show some (cR9 cA (va_up (cs_i zc) 2 0, cs_n zc, cs_I zc, cs_L zc, cs_N zc, cs_S zc, cs_X zc)) = some (cR9 cA zc); simp [cR9, cs_i, cs_n, cs_I, cs_L, cs_N, cs_S, cs_X, va_up]
    · exact absurd (by simp) hij
    · show some (cTr (va_up (cs_i zc) 2 0, cs_n zc, cs_I zc, cs_L zc, cs_N zc, cs_S zc, cs_X zc)) = some (cTr zc); simp [cTr, cs_i, cs_n, cs_I, cs_L, cs_N, cs_S, cs_X, va_up]
    · show (none : Option (Nat × va_E)) = none; rfl
  · show (if j < cs_n (va_up (cs_i zc) 2 0, cs_n zc, cs_I zc, cs_L zc, cs_N zc, cs_S zc, cs_X zc) 0 then some (cPi (va_up (cs_i zc) 2 0, cs_n zc, cs_I zc, cs_L zc, cs_N zc, cs_S zc, cs_X zc) j) else none) = if j < cs_n zc 0 then some (cPi zc j) else none
    simp [cPi, cs_i, cs_n, cs_I, cs_L, cs_N, cs_S, cs_X, va_up]
  · show (if j < cs_n (va_up (cs_i zc) 2 0, cs_n zc, cs_I zc, cs_L zc, cs_N zc, cs_S zc, cs_X zc) 1 then some (cGa (va_up (cs_i zc) 2 0, cs_n zc, cs_I zc, cs_L zc, cs_N zc, cs_S zc, cs_X zc) j) else none) = if j < cs_n zc 1 then some (cGa zc j) else none
    simp [cGa, cs_i, cs_n, cs_I, cs_L, cs_N, cs_S, cs_X, va_up]
  · show (if j < cs_n (va_up (cs_i zc) 2 0, cs_n zc, cs_I zc, cs_L zc, cs_N zc, cs_S zc, cs_X zc) 2 then some (cTa (va_up (cs_i zc) 2 0, cs_n zc, cs_I zc, cs_L zc, cs_N zc, cs_S zc, cs_X zc) j) else none) = if j < cs_n zc 2 then some (cTa zc j) else none
    simp [cTa, cs_i, cs_n, cs_I, cs_L, cs_N, cs_S, cs_X, va_up]
  · show (if j < cs_n (va_up (cs_i zc) 2 0, cs_n zc, cs_I zc, cs_L zc, cs_N zc, cs_S zc, cs_X zc) 3 then some (cPa (va_up (cs_i zc) 2 0, cs_n zc, cs_I zc, cs_L zc, cs_N zc, cs_S zc, cs_X zc) j) else none) = if j < cs_n zc 3 then some (cPa zc j) else none
    simp [cPa, cs_i, cs_n, cs_I, cs_L, cs_N, cs_S, cs_X, va_up]
  · show (if j = 0 ∧ ¬ cs_n (va_up (cs_i zc) 2 0, cs_n zc, cs_I zc, cs_L zc, cs_N zc, cs_S zc, cs_X zc) 4 = 0 then some (cAu (va_up (cs_i zc) 2 0, cs_n zc, cs_I zc, cs_L zc, cs_N zc, cs_S zc, cs_X zc)) else none) = if j = 0 ∧ ¬ cs_n zc 4 = 0 then some (cAu zc) else none
    simp [cAu, cs_i, cs_n, cs_I, cs_L, cs_N, cs_S, cs_X, va_up]
  · show (if j < 4 then some (cSh (va_up (cs_i zc) 2 0, cs_n zc, cs_I zc, cs_L zc, cs_N zc, cs_S zc, cs_X zc) j) else none) = if j < 4 then some (cSh zc j) else none
    simp [cSh, cs_i, cs_n, cs_I, cs_L, cs_N, cs_S, cs_X, va_up]
  · show (if j < 4 then some (cSc cA (va_up (cs_i zc) 2 0, cs_n zc, cs_I zc, cs_L zc, cs_N zc, cs_S zc, cs_X zc) j) else none) = if j < 4 then some (cSc cA zc j) else none
    simp [cSc, cs_i, cs_n, cs_I, cs_L, cs_N, cs_S, cs_X, va_up]
  · show (none : Option (Nat × va_E)) = none; rfl
set_option maxHeartbeats 4000000 in
theorem lf_sheet_2 (cA : Nat → ClassId) (zc : CS) (ln : Int32) (n : Int32) (js : Nat) (hjs : js < 4) (c4 : 0 ≤ ln ∧ ln ≤ 2) (c5 : n ≤ 48) (c6 : 0 ≤ n) (hI : invC zc) : invC (va_up (cs_i zc) 2 0, cs_n zc, va_up (va_up (cs_I zc) 8 (va_up (cs_I zc 8) js ln)) 9 (va_up (cs_I zc 9) js n), cs_L zc, cs_N zc, va_up (cs_S zc) js (fun _ => 0), cs_X zc) ∧ kAll (cF cA (va_up (cs_i zc) 2 0, cs_n zc, va_up (va_up (cs_I zc) 8 (va_up (cs_I zc 8) js ln)) 9 (va_up (cs_I zc 9) js n), cs_L zc, cs_N zc, va_up (cs_S zc) js (fun _ => 0), cs_X zc)) [(0, 0), (0, 10), (6, js), (7, js)] [(cs_X zc 0 0, .inr (10, [.ref (cs_X zc 0 1), .ref (cs_X zc 0 6), .ref (cs_X zc 0 7), .ref (cs_X zc 0 8), .ref (cs_X zc 0 9), .ref (cs_X zc 0 10), .ref (cs_X zc 0 11), .int (nI (cs_n zc 0)), .int (nI (cs_n zc 1)), .int (nI (cs_n zc 2)), .int (nI (cs_n zc 3)), va_rf (opN (cs_n zc 4) (fun _ => cs_X zc 5 0)), .int 0])), cR10 cA zc, (cs_X zc 6 js, .inr (7, [.ref (cs_X zc 7 js), .int ln, .int n])), (cs_X zc 7 js, .inl (cA 0, 48, .inl (fun _ => 0)))] ∧ ∀ i j, (i, j) ∉ ([(0, 0), (0, 10), (6, js), (7, js)] : List (Nat × Nat)) → cF cA (va_up (cs_i zc) 2 0, cs_n zc, va_up (va_up (cs_I zc) 8 (va_up (cs_I zc 8) js ln)) 9 (va_up (cs_I zc 9) js n), cs_L zc, cs_N zc, va_up (cs_S zc) js (fun _ => 0), cs_X zc) i j = none ∨ ((i, j) ∉ ([(0, 0), (0, 10), (6, js), (7, js)] : List (Nat × Nat)) ∧ cF cA (va_up (cs_i zc) 2 0, cs_n zc, va_up (va_up (cs_I zc) 8 (va_up (cs_I zc 8) js ln)) 9 (va_up (cs_I zc 9) js n), cs_L zc, cs_N zc, va_up (cs_S zc) js (fun _ => 0), cs_X zc) i j = cF cA zc i j) := by
  obtain ⟨⟨hn0, hn1, hn2, hn3, hn4, hn5⟩, hpi, hgk, htk, hpk, hsh⟩ := id hI
  refine ⟨(by refine ⟨⟨hn0, hn1, hn2, hn3, hn4, hn5⟩, hpi, hgk, htk, hpk, (fun k hk => ?_)⟩; show 0 ≤ (va_up (cs_I zc 9) js n k).toInt ∧ (va_up (cs_I zc 9) js n k).toInt ≤ 48; by_cases h9 : k = js; (rw [h9, va_up_self]; exact ⟨(fa_le _ _).mp c6, (fa_le _ _).mp c5⟩); (rw [va_up_ne _ _ h9]; exact hsh k hk)), ⟨(by (rw [(kF_tp (cA := cA) (z := (va_up (cs_i zc) 2 0, cs_n zc, va_up (va_up (cs_I zc) 8 (va_up (cs_I zc 8) js ln)) 9 (va_up (cs_I zc 9) js n), cs_L zc, cs_N zc, va_up (cs_S zc) js (fun _ => 0), cs_X zc)))]) <;> simp [cTP, cTPN, cTPA, cLo, cA2, cA3, cA4, cA5, cR6, cR7, cR8, cR9, cR10, cTr, cPi, cPiN, cPiT, cGa, cGaK, cTa, cPa, cAu, cAuN, cAuB, cSh, cSc, cs_i, cs_n, cs_I, cs_L, cs_N, cs_S, cs_X, va_up, upd, opN]), (by (rw [(kF_r10 (cA := cA) (z := (va_up (cs_i zc) 2 0, cs_n zc, va_up (va_up (cs_I zc) 8 (va_up (cs_I zc 8) js ln)) 9 (va_up (cs_I zc 9) js n), cs_L zc, cs_N zc, va_up (cs_S zc) js (fun _ => 0), cs_X zc)))]) <;> simp [cTP, cTPN, cTPA, cLo, cA2, cA3, cA4, cA5, cR6, cR7, cR8, cR9, cR10, cTr, cPi, cPiN, cPiT, cGa, cGaK, cTa, cPa, cAu, cAuN, cAuB, cSh, cSc, cs_i, cs_n, cs_I, cs_L, cs_N, cs_S, cs_X, va_up, upd, opN]), (by (rw [(kF_sh (z := (va_up (cs_i zc) 2 0, cs_n zc, va_up (va_up (cs_I zc) 8 (va_up (cs_I zc 8) js ln)) 9 (va_up (cs_I zc 9) js n), cs_L zc, cs_N zc, va_up (cs_S zc) js (fun _ => 0), cs_X zc)) hjs)]) <;> simp [cTP, cTPN, cTPA, cLo, cA2, cA3, cA4, cA5, cR6, cR7, cR8, cR9, cR10, cTr, cPi, cPiN, cPiT, cGa, cGaK, cTa, cPa, cAu, cAuN, cAuB, cSh, cSc, cs_i, cs_n, cs_I, cs_L, cs_N, cs_S, cs_X, va_up, upd, opN]), (by (rw [(kF_sc (z := (va_up (cs_i zc) 2 0, cs_n zc, va_up (va_up (cs_I zc) 8 (va_up (cs_I zc 8) js ln)) 9 (va_up (cs_I zc 9) js n), cs_L zc, cs_N zc, va_up (cs_S zc) js (fun _ => 0), cs_X zc)) hjs)]) <;> simp [cTP, cTPN, cTPA, cLo, cA2, cA3, cA4, cA5, cR6, cR7, cR8, cR9, cR10, cTr, cPi, cPiN, cPiT, cGa, cGaK, cTa, cPa, cAu, cAuN, cAuB, cSh, cSc, cs_i, cs_n, cs_I, cs_L, cs_N, cs_S, cs_X, va_up, upd, opN]), trivial⟩, ?_⟩
  intro i j hij
  refine Or.inr ⟨hij, ?_⟩
  rcases i with _ | _ | _ | _ | _ | _ | _ | _ | i
  · rcases j with _ | _ | _ | _ | _ | _ | _ | _ | _ | _ | _ | _ | j
    · exact absurd (by simp) hij
    · show some (cLo (va_up (cs_i zc) 2 0, cs_n zc, va_up (va_up (cs_I zc) 8 (va_up (cs_I zc 8) js ln)) 9 (va_up (cs_I zc 9) js n), cs_L zc, cs_N zc, va_up (cs_S zc) js (fun _ => 0), cs_X zc)) = some (cLo zc); simp [cLo, cs_i, cs_n, cs_I, cs_L, cs_N, cs_S, cs_X, va_up]
    · show some (cA2 cA (va_up (cs_i zc) 2 0, cs_n zc, va_up (va_up (cs_I zc) 8 (va_up (cs_I zc 8) js ln)) 9 (va_up (cs_I zc 9) js n), cs_L zc, cs_N zc, va_up (cs_S zc) js (fun _ => 0), cs_X zc)) = some (cA2 cA zc); simp [cA2, cs_i, cs_n, cs_I, cs_L, cs_N, cs_S, cs_X, va_up]
    · show some (cA3 cA (va_up (cs_i zc) 2 0, cs_n zc, va_up (va_up (cs_I zc) 8 (va_up (cs_I zc 8) js ln)) 9 (va_up (cs_I zc 9) js n), cs_L zc, cs_N zc, va_up (cs_S zc) js (fun _ => 0), cs_X zc)) = some (cA3 cA zc); simp [cA3, cs_i, cs_n, cs_I, cs_L, cs_N, cs_S, cs_X, va_up]
    · show some (cA4 cA (va_up (cs_i zc) 2 0, cs_n zc, va_up (va_up (cs_I zc) 8 (va_up (cs_I zc 8) js ln)) 9 (va_up (cs_I zc 9) js n), cs_L zc, cs_N zc, va_up (cs_S zc) js (fun _ => 0), cs_X zc)) = some (cA4 cA zc); simp [cA4, cs_i, cs_n, cs_I, cs_L, cs_N, cs_S, cs_X, va_up]
    · show some (cA5 cA (va_up (cs_i zc) 2 0, cs_n zc, va_up (va_up (cs_I zc) 8 (va_up (cs_I zc 8) js ln)) 9 (va_up (cs_I zc 9) js n), cs_L zc, cs_N zc, va_up (cs_S zc) js (fun _ => 0), cs_X zc)) = some (cA5 cA zc); simp [cA5, cs_i, cs_n, cs_I, cs_L, cs_N, cs_S, cs_X, va_up]
    · show some (cR6 cA (va_up (cs_i zc) 2 0, cs_n zc, va_up (va_up (cs_I zc) 8 (va_up (cs_I zc 8) js ln)) 9 (va_up (cs_I zc 9) js n), cs_L zc, cs_N zc, va_up (cs_S zc) js (fun _ => 0), cs_X zc)) = some (cR6 cA zc); simp [cR6, cs_i, cs_n, cs_I, cs_L, cs_N, cs_S, cs_X, va_up]
    · show some (cR7 cA (va_up (cs_i zc) 2 0, cs_n zc, va_up (va_up (cs_I zc) 8 (va_up (cs_I zc 8) js ln)) 9 (va_up (cs_I zc 9) js n), cs_L zc, cs_N zc, va_up (cs_S zc) js (fun _ => 0), cs_X zc)) = some (cR7 cA zc); simp [cR7, cs_i, cs_n, cs_I, cs_L, cs_N, cs_S, cs_X, va_up]
    · show some (cR8 cA (va_up (cs_i zc) 2 0, cs_n zc, va_up (va_up (cs_I zc) 8 (va_up (cs_I zc 8) js ln)) 9 (va_up (cs_I zc 9) js n), cs_L zc, cs_N zc, va_up (cs_S zc) js (fun _ => 0), cs_X zc)) = some (cR8 cA zc); simp [cR8, cs_i, cs_n, cs_I, cs_L, cs_N, cs_S, cs_X, va_up]
    · show some (cR9 cA (va_up (cs_i zc) 2 0, cs_n zc, va_up (va_up (cs_I zc) 8 (va_up (cs_I zc 8) js ln)) 9 (va_up (cs_I zc 9) js n), cs_L zc, cs_N zc, va_up (cs_S zc) js (fun _ => 0), cs_X zc)) = some (cR9 cA zc); simp [cR9, cs_i, cs_n, cs_I, cs_L, cs_N, cs_S, cs_X, va_up]
    · exact absurd (by simp) hij
    · show some (cTr (va_up (cs_i zc) 2 0, cs_n zc, va_up (va_up (cs_I zc) 8 (va_up (cs_I zc 8) js ln)) 9 (va_up (cs_I zc 9) js n), cs_L zc, cs_N zc, va_up (cs_S zc) js (fun _ => 0), cs_X zc)) = some (cTr zc); simp [cTr, cs_i, cs_n, cs_I, cs_L, cs_N, cs_S, cs_X, va_up]
    · show (none : Option (Nat × va_E)) = none; rfl
  · show (if j < cs_n (va_up (cs_i zc) 2 0, cs_n zc, va_up (va_up (cs_I zc) 8 (va_up (cs_I zc 8) js ln)) 9 (va_up (cs_I zc 9) js n), cs_L zc, cs_N zc, va_up (cs_S zc) js (fun _ => 0), cs_X zc) 0 then some (cPi (va_up (cs_i zc) 2 0, cs_n zc, va_up (va_up (cs_I zc) 8 (va_up (cs_I zc 8) js ln)) 9 (va_up (cs_I zc 9) js n), cs_L zc, cs_N zc, va_up (cs_S zc) js (fun _ => 0), cs_X zc) j) else none) = if j < cs_n zc 0 then some (cPi zc j) else none
    simp [cPi, cs_i, cs_n, cs_I, cs_L, cs_N, cs_S, cs_X, va_up]
  · show (if j < cs_n (va_up (cs_i zc) 2 0, cs_n zc, va_up (va_up (cs_I zc) 8 (va_up (cs_I zc 8) js ln)) 9 (va_up (cs_I zc 9) js n), cs_L zc, cs_N zc, va_up (cs_S zc) js (fun _ => 0), cs_X zc) 1 then some (cGa (va_up (cs_i zc) 2 0, cs_n zc, va_up (va_up (cs_I zc) 8 (va_up (cs_I zc 8) js ln)) 9 (va_up (cs_I zc 9) js n), cs_L zc, cs_N zc, va_up (cs_S zc) js (fun _ => 0), cs_X zc) j) else none) = if j < cs_n zc 1 then some (cGa zc j) else none
    simp [cGa, cs_i, cs_n, cs_I, cs_L, cs_N, cs_S, cs_X, va_up]
  · show (if j < cs_n (va_up (cs_i zc) 2 0, cs_n zc, va_up (va_up (cs_I zc) 8 (va_up (cs_I zc 8) js ln)) 9 (va_up (cs_I zc 9) js n), cs_L zc, cs_N zc, va_up (cs_S zc) js (fun _ => 0), cs_X zc) 2 then some (cTa (va_up (cs_i zc) 2 0, cs_n zc, va_up (va_up (cs_I zc) 8 (va_up (cs_I zc 8) js ln)) 9 (va_up (cs_I zc 9) js n), cs_L zc, cs_N zc, va_up (cs_S zc) js (fun _ => 0), cs_X zc) j) else none) = if j < cs_n zc 2 then some (cTa zc j) else none
    simp [cTa, cs_i, cs_n, cs_I, cs_L, cs_N, cs_S, cs_X, va_up]
  · show (if j < cs_n (va_up (cs_i zc) 2 0, cs_n zc, va_up (va_up (cs_I zc) 8 (va_up (cs_I zc 8) js ln)) 9 (va_up (cs_I zc 9) js n), cs_L zc, cs_N zc, va_up (cs_S zc) js (fun _ => 0), cs_X zc) 3 then some (cPa (va_up (cs_i zc) 2 0, cs_n zc, va_up (va_up (cs_I zc) 8 (va_up (cs_I zc 8) js ln)) 9 (va_up (cs_I zc 9) js n), cs_L zc, cs_N zc, va_up (cs_S zc) js (fun _ => 0), cs_X zc) j) else none) = if j < cs_n zc 3 then some (cPa zc j) else none
    simp [cPa, cs_i, cs_n, cs_I, cs_L, cs_N, cs_S, cs_X, va_up]
  · show (if j = 0 ∧ ¬ cs_n (va_up (cs_i zc) 2 0, cs_n zc, va_up (va_up (cs_I zc) 8 (va_up (cs_I zc 8) js ln)) 9 (va_up (cs_I zc 9) js n), cs_L zc, cs_N zc, va_up (cs_S zc) js (fun _ => 0), cs_X zc) 4 = 0 then some (cAu (va_up (cs_i zc) 2 0, cs_n zc, va_up (va_up (cs_I zc) 8 (va_up (cs_I zc 8) js ln)) 9 (va_up (cs_I zc 9) js n), cs_L zc, cs_N zc, va_up (cs_S zc) js (fun _ => 0), cs_X zc)) else none) = if j = 0 ∧ ¬ cs_n zc 4 = 0 then some (cAu zc) else none
    simp [cAu, cs_i, cs_n, cs_I, cs_L, cs_N, cs_S, cs_X, va_up]
  · have hne0 : j ≠ js := fun q => hij (by rw [q]; simp)
    have e9 : cSh (va_up (cs_i zc) 2 0, cs_n zc, va_up (va_up (cs_I zc) 8 (va_up (cs_I zc 8) js ln)) 9 (va_up (cs_I zc 9) js n), cs_L zc, cs_N zc, va_up (cs_S zc) js (fun _ => 0), cs_X zc) j = cSh zc j := by simp [cSh, cs_i, cs_n, cs_I, cs_L, cs_N, cs_S, cs_X, va_up, hne0]
    show (if j < 4 then some (cSh (va_up (cs_i zc) 2 0, cs_n zc, va_up (va_up (cs_I zc) 8 (va_up (cs_I zc 8) js ln)) 9 (va_up (cs_I zc 9) js n), cs_L zc, cs_N zc, va_up (cs_S zc) js (fun _ => 0), cs_X zc) j) else none) = if j < 4 then some (cSh zc j) else none
    (rw [e9]) <;> simp [cs_n, va_up]
  · have hne0 : j ≠ js := fun q => hij (by rw [q]; simp)
    have e9 : cSc cA (va_up (cs_i zc) 2 0, cs_n zc, va_up (va_up (cs_I zc) 8 (va_up (cs_I zc 8) js ln)) 9 (va_up (cs_I zc 9) js n), cs_L zc, cs_N zc, va_up (cs_S zc) js (fun _ => 0), cs_X zc) j = cSc cA zc j := by simp [cSc, cs_i, cs_n, cs_I, cs_L, cs_N, cs_S, cs_X, va_up, hne0]
    show (if j < 4 then some (cSc cA (va_up (cs_i zc) 2 0, cs_n zc, va_up (va_up (cs_I zc) 8 (va_up (cs_I zc 8) js ln)) 9 (va_up (cs_I zc 9) js n), cs_L zc, cs_N zc, va_up (cs_S zc) js (fun _ => 0), cs_X zc) j) else none) = if j < 4 then some (cSc cA zc j) else none
    (rw [e9]) <;> simp [cs_n, va_up]
  · show (none : Option (Nat × va_E)) = none; rfl
set_option maxHeartbeats 4000000 in
theorem lf_sheet_3 (cA : Nat → ClassId) (zc : CS) (ln : Int32) (n : Int32) (js : Nat) (hjs : js < 4) (c4 : 0 ≤ ln ∧ ln ≤ 2) (c5 : n ≤ 48) (c6 : ¬ 0 ≤ n) (hI : invC zc) : invC (va_up (cs_i zc) 2 4, cs_n zc, cs_I zc, cs_L zc, cs_N zc, cs_S zc, cs_X zc) ∧ kAll (cF cA (va_up (cs_i zc) 2 4, cs_n zc, cs_I zc, cs_L zc, cs_N zc, cs_S zc, cs_X zc)) [(0, 0), (0, 10), (6, js), (7, js)] [(cs_X zc 0 0, .inr (10, [.ref (cs_X zc 0 1), .ref (cs_X zc 0 6), .ref (cs_X zc 0 7), .ref (cs_X zc 0 8), .ref (cs_X zc 0 9), .ref (cs_X zc 0 10), .ref (cs_X zc 0 11), .int (nI (cs_n zc 0)), .int (nI (cs_n zc 1)), .int (nI (cs_n zc 2)), .int (nI (cs_n zc 3)), va_rf (opN (cs_n zc 4) (fun _ => cs_X zc 5 0)), .int 4])), cR10 cA zc, cSh zc js, cSc cA zc js] ∧ ∀ i j, (i, j) ∉ ([(0, 0), (0, 10), (6, js), (7, js)] : List (Nat × Nat)) → cF cA (va_up (cs_i zc) 2 4, cs_n zc, cs_I zc, cs_L zc, cs_N zc, cs_S zc, cs_X zc) i j = none ∨ ((i, j) ∉ ([(0, 0), (0, 10), (6, js), (7, js)] : List (Nat × Nat)) ∧ cF cA (va_up (cs_i zc) 2 4, cs_n zc, cs_I zc, cs_L zc, cs_N zc, cs_S zc, cs_X zc) i j = cF cA zc i j) := by
  obtain ⟨⟨hn0, hn1, hn2, hn3, hn4, hn5⟩, hpi, hgk, htk, hpk, hsh⟩ := id hI
  refine ⟨hI, ⟨(by (rw [(kF_tp (cA := cA) (z := (va_up (cs_i zc) 2 4, cs_n zc, cs_I zc, cs_L zc, cs_N zc, cs_S zc, cs_X zc)))]) <;> simp [cTP, cTPN, cTPA, cLo, cA2, cA3, cA4, cA5, cR6, cR7, cR8, cR9, cR10, cTr, cPi, cPiN, cPiT, cGa, cGaK, cTa, cPa, cAu, cAuN, cAuB, cSh, cSc, cs_i, cs_n, cs_I, cs_L, cs_N, cs_S, cs_X, va_up, upd, opN]), (by (rw [(kF_r10 (cA := cA) (z := (va_up (cs_i zc) 2 4, cs_n zc, cs_I zc, cs_L zc, cs_N zc, cs_S zc, cs_X zc)))]) <;> simp [cTP, cTPN, cTPA, cLo, cA2, cA3, cA4, cA5, cR6, cR7, cR8, cR9, cR10, cTr, cPi, cPiN, cPiT, cGa, cGaK, cTa, cPa, cAu, cAuN, cAuB, cSh, cSc, cs_i, cs_n, cs_I, cs_L, cs_N, cs_S, cs_X, va_up, upd, opN]), (by (rw [(kF_sh (z := (va_up (cs_i zc) 2 4, cs_n zc, cs_I zc, cs_L zc, cs_N zc, cs_S zc, cs_X zc)) hjs)]) <;> simp [cTP, cTPN, cTPA, cLo, cA2, cA3, cA4, cA5, cR6, cR7, cR8, cR9, cR10, cTr, cPi, cPiN, cPiT, cGa, cGaK, cTa, cPa, cAu, cAuN, cAuB, cSh, cSc, cs_i, cs_n, cs_I, cs_L, cs_N, cs_S, cs_X, va_up, upd, opN]), (by (rw [(kF_sc (z := (va_up (cs_i zc) 2 4, cs_n zc, cs_I zc, cs_L zc, cs_N zc, cs_S zc, cs_X zc)) hjs)]) <;> simp [cTP, cTPN, cTPA, cLo, cA2, cA3, cA4, cA5, cR6, cR7, cR8, cR9, cR10, cTr, cPi, cPiN, cPiT, cGa, cGaK, cTa, cPa, cAu, cAuN, cAuB, cSh, cSc, cs_i, cs_n, cs_I, cs_L, cs_N, cs_S, cs_X, va_up, upd, opN]), trivial⟩, ?_⟩
  intro i j hij
  refine Or.inr ⟨hij, ?_⟩
  rcases i with _ | _ | _ | _ | _ | _ | _ | _ | i
  · rcases j with _ | _ | _ | _ | _ | _ | _ | _ | _ | _ | _ | _ | j
    · exact absurd (by simp) hij
    · show some (cLo (va_up (cs_i zc) 2 4, cs_n zc, cs_I zc, cs_L zc, cs_N zc, cs_S zc, cs_X zc)) = some (cLo zc); simp [cLo, cs_i, cs_n, cs_I, cs_L, cs_N, cs_S, cs_X, va_up]
    · show some (cA2 cA (va_up (cs_i zc) 2 4, cs_n zc, cs_I zc, cs_L zc, cs_N zc, cs_S zc, cs_X zc)) = some (cA2 cA zc); simp [cA2, cs_i, cs_n, cs_I, cs_L, cs_N, cs_S, cs_X, va_up]
    · show some (cA3 cA (va_up (cs_i zc) 2 4, cs_n zc, cs_I zc, cs_L zc, cs_N zc, cs_S zc, cs_X zc)) = some (cA3 cA zc); simp [cA3, cs_i, cs_n, cs_I, cs_L, cs_N, cs_S, cs_X, va_up]
    · show some (cA4 cA (va_up (cs_i zc) 2 4, cs_n zc, cs_I zc, cs_L zc, cs_N zc, cs_S zc, cs_X zc)) = some (cA4 cA zc); simp [cA4, cs_i, cs_n, cs_I, cs_L, cs_N, cs_S, cs_X, va_up]
    · show some (cA5 cA (va_up (cs_i zc) 2 4, cs_n zc, cs_I zc, cs_L zc, cs_N zc, cs_S zc, cs_X zc)) = some (cA5 cA zc); simp [cA5, cs_i, cs_n, cs_I, cs_L, cs_N, cs_S, cs_X, va_up]
    · show some (cR6 cA (va_up (cs_i zc) 2 4, cs_n zc, cs_I zc, cs_L zc, cs_N zc, cs_S zc, cs_X zc)) = some (cR6 cA zc); simp [cR6, cs_i, cs_n, cs_I, cs_L, cs_N, cs_S, cs_X, va_up]
    · show some (cR7 cA (va_up (cs_i zc) 2 4, cs_n zc, cs_I zc, cs_L zc, cs_N zc, cs_S zc, cs_X zc)) = some (cR7 cA zc); simp [cR7, cs_i, cs_n, cs_I, cs_L, cs_N, cs_S, cs_X, va_up]
    · show some (cR8 cA (va_up (cs_i zc) 2 4, cs_n zc, cs_I zc, cs_L zc, cs_N zc, cs_S zc, cs_X zc)) = some (cR8 cA zc); simp [cR8, cs_i, cs_n, cs_I, cs_L, cs_N, cs_S, cs_X, va_up]
    · show some (cR9 cA (va_up (cs_i zc) 2 4, cs_n zc, cs_I zc, cs_L zc, cs_N zc, cs_S zc, cs_X zc)) = some (cR9 cA zc); simp [cR9, cs_i, cs_n, cs_I, cs_L, cs_N, cs_S, cs_X, va_up]
    · exact absurd (by simp) hij
    · show some (cTr (va_up (cs_i zc) 2 4, cs_n zc, cs_I zc, cs_L zc, cs_N zc, cs_S zc, cs_X zc)) = some (cTr zc); simp [cTr, cs_i, cs_n, cs_I, cs_L, cs_N, cs_S, cs_X, va_up]
    · show (none : Option (Nat × va_E)) = none; rfl
  · show (if j < cs_n (va_up (cs_i zc) 2 4, cs_n zc, cs_I zc, cs_L zc, cs_N zc, cs_S zc, cs_X zc) 0 then some (cPi (va_up (cs_i zc) 2 4, cs_n zc, cs_I zc, cs_L zc, cs_N zc, cs_S zc, cs_X zc) j) else none) = if j < cs_n zc 0 then some (cPi zc j) else none
    simp [cPi, cs_i, cs_n, cs_I, cs_L, cs_N, cs_S, cs_X, va_up]
  · show (if j < cs_n (va_up (cs_i zc) 2 4, cs_n zc, cs_I zc, cs_L zc, cs_N zc, cs_S zc, cs_X zc) 1 then some (cGa (va_up (cs_i zc) 2 4, cs_n zc, cs_I zc, cs_L zc, cs_N zc, cs_S zc, cs_X zc) j) else none) = if j < cs_n zc 1 then some (cGa zc j) else none
    simp [cGa, cs_i, cs_n, cs_I, cs_L, cs_N, cs_S, cs_X, va_up]
  · show (if j < cs_n (va_up (cs_i zc) 2 4, cs_n zc, cs_I zc, cs_L zc, cs_N zc, cs_S zc, cs_X zc) 2 then some (cTa (va_up (cs_i zc) 2 4, cs_n zc, cs_I zc, cs_L zc, cs_N zc, cs_S zc, cs_X zc) j) else none) = if j < cs_n zc 2 then some (cTa zc j) else none
    simp [cTa, cs_i, cs_n, cs_I, cs_L, cs_N, cs_S, cs_X, va_up]
  · show (if j < cs_n (va_up (cs_i zc) 2 4, cs_n zc, cs_I zc, cs_L zc, cs_N zc, cs_S zc, cs_X zc) 3 then some (cPa (va_up (cs_i zc) 2 4, cs_n zc, cs_I zc, cs_L zc, cs_N zc, cs_S zc, cs_X zc) j) else none) = if j < cs_n zc 3 then some (cPa zc j) else none
    simp [cPa, cs_i, cs_n, cs_I, cs_L, cs_N, cs_S, cs_X, va_up]
  · show (if j = 0 ∧ ¬ cs_n (va_up (cs_i zc) 2 4, cs_n zc, cs_I zc, cs_L zc, cs_N zc, cs_S zc, cs_X zc) 4 = 0 then some (cAu (va_up (cs_i zc) 2 4, cs_n zc, cs_I zc, cs_L zc, cs_N zc, cs_S zc, cs_X zc)) else none) = if j = 0 ∧ ¬ cs_n zc 4 = 0 then some (cAu zc) else none
    simp [cAu, cs_i, cs_n, cs_I, cs_L, cs_N, cs_S, cs_X, va_up]
  · show (if j < 4 then some (cSh (va_up (cs_i zc) 2 4, cs_n zc, cs_I zc, cs_L zc, cs_N zc, cs_S zc, cs_X zc) j) else none) = if j < 4 then some (cSh zc j) else none
    simp [cSh, cs_i, cs_n, cs_I, cs_L, cs_N, cs_S, cs_X, va_up]
  · show (if j < 4 then some (cSc cA (va_up (cs_i zc) 2 4, cs_n zc, cs_I zc, cs_L zc, cs_N zc, cs_S zc, cs_X zc) j) else none) = if j < 4 then some (cSc cA zc j) else none
    simp [cSc, cs_i, cs_n, cs_I, cs_L, cs_N, cs_S, cs_X, va_up]
  · show (none : Option (Nat × va_E)) = none; rfl
set_option maxHeartbeats 4000000 in
theorem lf_sheet_4 (cA : Nat → ClassId) (zc : CS) (ln : Int32) (n : Int32) (js : Nat) (hjs : js < 4) (c4 : 0 ≤ ln ∧ ln ≤ 2) (c5 : ¬ n ≤ 48) (hI : invC zc) : invC (va_up (cs_i zc) 2 0, cs_n zc, cs_I zc, cs_L zc, cs_N zc, cs_S zc, cs_X zc) ∧ kAll (cF cA (va_up (cs_i zc) 2 0, cs_n zc, cs_I zc, cs_L zc, cs_N zc, cs_S zc, cs_X zc)) [(0, 0), (0, 10), (6, js), (7, js)] [(cs_X zc 0 0, .inr (10, [.ref (cs_X zc 0 1), .ref (cs_X zc 0 6), .ref (cs_X zc 0 7), .ref (cs_X zc 0 8), .ref (cs_X zc 0 9), .ref (cs_X zc 0 10), .ref (cs_X zc 0 11), .int (nI (cs_n zc 0)), .int (nI (cs_n zc 1)), .int (nI (cs_n zc 2)), .int (nI (cs_n zc 3)), va_rf (opN (cs_n zc 4) (fun _ => cs_X zc 5 0)), .int 0])), cR10 cA zc, cSh zc js, cSc cA zc js] ∧ ∀ i j, (i, j) ∉ ([(0, 0), (0, 10), (6, js), (7, js)] : List (Nat × Nat)) → cF cA (va_up (cs_i zc) 2 0, cs_n zc, cs_I zc, cs_L zc, cs_N zc, cs_S zc, cs_X zc) i j = none ∨ ((i, j) ∉ ([(0, 0), (0, 10), (6, js), (7, js)] : List (Nat × Nat)) ∧ cF cA (va_up (cs_i zc) 2 0, cs_n zc, cs_I zc, cs_L zc, cs_N zc, cs_S zc, cs_X zc) i j = cF cA zc i j) := by
  obtain ⟨⟨hn0, hn1, hn2, hn3, hn4, hn5⟩, hpi, hgk, htk, hpk, hsh⟩ := id hI
  refine ⟨hI, ⟨(by (rw [(kF_tp (cA := cA) (z := (va_up (cs_i zc) 2 0, cs_n zc, cs_I zc, cs_L zc, cs_N zc, cs_S zc, cs_X zc)))]) <;> simp [cTP, cTPN, cTPA, cLo, cA2, cA3, cA4, cA5, cR6, cR7, cR8, cR9, cR10, cTr, cPi, cPiN, cPiT, cGa, cGaK, cTa, cPa, cAu, cAuN, cAuB, cSh, cSc, cs_i, cs_n, cs_I, cs_L, cs_N, cs_S, cs_X, va_up, upd, opN]), (by (rw [(kF_r10 (cA := cA) (z := (va_up (cs_i zc) 2 0, cs_n zc, cs_I zc, cs_L zc, cs_N zc, cs_S zc, cs_X zc)))]) <;> simp [cTP, cTPN, cTPA, cLo, cA2, cA3, cA4, cA5, cR6, cR7, cR8, cR9, cR10, cTr, cPi, cPiN, cPiT, cGa, cGaK, cTa, cPa, cAu, cAuN, cAuB, cSh, cSc, cs_i, cs_n, cs_I, cs_L, cs_N, cs_S, cs_X, va_up, upd, opN]), (by (rw [(kF_sh (z := (va_up (cs_i zc) 2 0, cs_n zc, cs_I zc, cs_L zc, cs_N zc, cs_S zc, cs_X zc)) hjs)]) <;> simp [cTP, cTPN, cTPA, cLo, cA2, cA3, cA4, cA5, cR6, cR7, cR8, cR9, cR10, cTr, cPi, cPiN, cPiT, cGa, cGaK, cTa, cPa, cAu, cAuN, cAuB, cSh, cSc, cs_i, cs_n, cs_I, cs_L, cs_N, cs_S, cs_X, va_up, upd, opN]), (by (rw [(kF_sc (z := (va_up (cs_i zc) 2 0, cs_n zc, cs_I zc, cs_L zc, cs_N zc, cs_S zc, cs_X zc)) hjs)]) <;> simp [cTP, cTPN, cTPA, cLo, cA2, cA3, cA4, cA5, cR6, cR7, cR8, cR9, cR10, cTr, cPi, cPiN, cPiT, cGa, cGaK, cTa, cPa, cAu, cAuN, cAuB, cSh, cSc, cs_i, cs_n, cs_I, cs_L, cs_N, cs_S, cs_X, va_up, upd, opN]), trivial⟩, ?_⟩
  intro i j hij
  refine Or.inr ⟨hij, ?_⟩
  rcases i with _ | _ | _ | _ | _ | _ | _ | _ | i
  · rcases j with _ | _ | _ | _ | _ | _ | _ | _ | _ | _ | _ | _ | j
    · exact absurd (by simp) hij
    · show some (cLo (va_up (cs_i zc) 2 0, cs_n zc, cs_I zc, cs_L zc, cs_N zc, cs_S zc, cs_X zc)) = some (cLo zc); simp [cLo, cs_i, cs_n, cs_I, cs_L, cs_N, cs_S, cs_X, va_up]
    · show some (cA2 cA (va_up (cs_i zc) 2 0, cs_n zc, cs_I zc, cs_L zc, cs_N zc, cs_S zc, cs_X zc)) = some (cA2 cA zc); simp [cA2, cs_i, cs_n, cs_I, cs_L, cs_N, cs_S, cs_X, va_up]
    · show some (cA3 cA (va_up (cs_i zc) 2 0, cs_n zc, cs_I zc, cs_L zc, cs_N zc, cs_S zc, cs_X zc)) = some (cA3 cA zc); simp [cA3, cs_i, cs_n, cs_I, cs_L, cs_N, cs_S, cs_X, va_up]
    · show some (cA4 cA (va_up (cs_i zc) 2 0, cs_n zc, cs_I zc, cs_L zc, cs_N zc, cs_S zc, cs_X zc)) = some (cA4 cA zc); simp [cA4, cs_i, cs_n, cs_I, cs_L, cs_N, cs_S, cs_X, va_up]
    · show some (cA5 cA (va_up (cs_i zc) 2 0, cs_n zc, cs_I zc, cs_L zc, cs_N zc, cs_S zc, cs_X zc)) = some (cA5 cA zc); simp [cA5, cs_i, cs_n, cs_I, cs_L, cs_N, cs_S, cs_X, va_up]
    · show some (cR6 cA (va_up (cs_i zc) 2 0, cs_n zc, cs_I zc, cs_L zc, cs_N zc, cs_S zc, cs_X zc)) = some (cR6 cA zc); simp [cR6, cs_i, cs_n, cs_I, cs_L, cs_N, cs_S, cs_X, va_up]
    · show some (cR7 cA (va_up (cs_i zc) 2 0, cs_n zc, cs_I zc, cs_L zc, cs_N zc, cs_S zc, cs_X zc)) = some (cR7 cA zc); simp [cR7, cs_i, cs_n, cs_I, cs_L, cs_N, cs_S, cs_X, va_up]
    · show some (cR8 cA (va_up (cs_i zc) 2 0, cs_n zc, cs_I zc, cs_L zc, cs_N zc, cs_S zc, cs_X zc)) = some (cR8 cA zc); simp [cR8, cs_i, cs_n, cs_I, cs_L, cs_N, cs_S, cs_X, va_up]
    · show some (cR9 cA (va_up (cs_i zc) 2 0, cs_n zc, cs_I zc, cs_L zc, cs_N zc, cs_S zc, cs_X zc)) = some (cR9 cA zc); simp [cR9, cs_i, cs_n, cs_I, cs_L, cs_N, cs_S, cs_X, va_up]
    · exact absurd (by simp) hij
    · show some (cTr (va_up (cs_i zc) 2 0, cs_n zc, cs_I zc, cs_L zc, cs_N zc, cs_S zc, cs_X zc)) = some (cTr zc); simp [cTr, cs_i, cs_n, cs_I, cs_L, cs_N, cs_S, cs_X, va_up]
    · show (none : Option (Nat × va_E)) = none; rfl
  · show (if j < cs_n (va_up (cs_i zc) 2 0, cs_n zc, cs_I zc, cs_L zc, cs_N zc, cs_S zc, cs_X zc) 0 then some (cPi (va_up (cs_i zc) 2 0, cs_n zc, cs_I zc, cs_L zc, cs_N zc, cs_S zc, cs_X zc) j) else none) = if j < cs_n zc 0 then some (cPi zc j) else none
    simp [cPi, cs_i, cs_n, cs_I, cs_L, cs_N, cs_S, cs_X, va_up]
  · show (if j < cs_n (va_up (cs_i zc) 2 0, cs_n zc, cs_I zc, cs_L zc, cs_N zc, cs_S zc, cs_X zc) 1 then some (cGa (va_up (cs_i zc) 2 0, cs_n zc, cs_I zc, cs_L zc, cs_N zc, cs_S zc, cs_X zc) j) else none) = if j < cs_n zc 1 then some (cGa zc j) else none
    simp [cGa, cs_i, cs_n, cs_I, cs_L, cs_N, cs_S, cs_X, va_up]
  · show (if j < cs_n (va_up (cs_i zc) 2 0, cs_n zc, cs_I zc, cs_L zc, cs_N zc, cs_S zc, cs_X zc) 2 then some (cTa (va_up (cs_i zc) 2 0, cs_n zc, cs_I zc, cs_L zc, cs_N zc, cs_S zc, cs_X zc) j) else none) = if j < cs_n zc 2 then some (cTa zc j) else none
    simp [cTa, cs_i, cs_n, cs_I, cs_L, cs_N, cs_S, cs_X, va_up]
  · show (if j < cs_n (va_up (cs_i zc) 2 0, cs_n zc, cs_I zc, cs_L zc, cs_N zc, cs_S zc, cs_X zc) 3 then some (cPa (va_up (cs_i zc) 2 0, cs_n zc, cs_I zc, cs_L zc, cs_N zc, cs_S zc, cs_X zc) j) else none) = if j < cs_n zc 3 then some (cPa zc j) else none
    simp [cPa, cs_i, cs_n, cs_I, cs_L, cs_N, cs_S, cs_X, va_up]
  · show (if j = 0 ∧ ¬ cs_n (va_up (cs_i zc) 2 0, cs_n zc, cs_I zc, cs_L zc, cs_N zc, cs_S zc, cs_X zc) 4 = 0 then some (cAu (va_up (cs_i zc) 2 0, cs_n zc, cs_I zc, cs_L zc, cs_N zc, cs_S zc, cs_X zc)) else none) = if j = 0 ∧ ¬ cs_n zc 4 = 0 then some (cAu zc) else none
    simp [cAu, cs_i, cs_n, cs_I, cs_L, cs_N, cs_S, cs_X, va_up]
  · show (if j < 4 then some (cSh (va_up (cs_i zc) 2 0, cs_n zc, cs_I zc, cs_L zc, cs_N zc, cs_S zc, cs_X zc) j) else none) = if j < 4 then some (cSh zc j) else none
    simp [cSh, cs_i, cs_n, cs_I, cs_L, cs_N, cs_S, cs_X, va_up]
  · show (if j < 4 then some (cSc cA (va_up (cs_i zc) 2 0, cs_n zc, cs_I zc, cs_L zc, cs_N zc, cs_S zc, cs_X zc) j) else none) = if j < 4 then some (cSc cA zc j) else none
    simp [cSc, cs_i, cs_n, cs_I, cs_L, cs_N, cs_S, cs_X, va_up]
  · show (none : Option (Nat × va_E)) = none; rfl
set_option maxHeartbeats 4000000 in
set_option maxRecDepth 100000 in
theorem K_sheet (l : Launch) (dC : Nat → ClassId) (dI : Nat → Nat → Nat) (cA : Nat → ClassId) (sz : Nat) (zc : CS) (k : Int32) (ln : Int32) (n : Int32) (hI : invC zc) : Met l yX10_sheet wsX10_sheet ({ frames := 3, cells := 0, slots := 0, locals := 90 }) (kw (dC, dI) (ctys cA) (cF cA zc) sz [.ref (cs_X zc 0 0), .int k, .int ln, .int n]) (kQi (dC, dI) (ctys cA) (cF cA zc) sz (cF cA) (fun r u => (invC u ∧ cs_X u 0 0 = cs_X zc 0 0) ∧ pC_sheet zc k ln n r u)) 0 0 (kA (cF cA zc) sz) := by
  refine kw_met (cc := cX10_sheet) (maxL := 5) (ret := (some .int)) (by decide) rfl (Nat.le_of_ble_eq_true rfl) ?_
  intro p e s m below meth c0 hx hb hr hml hown hlocks hnm hts hPk hKk hDk hN hsz ls hl
  subst hsz
  have hK : va_K (dC, dI) vwCl [(cA 0, .int), (cA 1, .object RX6), (cA 2, .object RX2), (cA 3, .object RX8), (cA 4, .object RX5), (cA 5, .object RX7)] s := hKk
  obtain ⟨⟨hn0, hn1, hn2, hn3, hn4, hn5⟩, hpi, hgk, htk, hpk, hsh⟩ := id hI
  have hl : lv_has ls 5 [(0, .ref (cs_X zc 0 0)), (1, .int k), (2, .int ln), (3, .int n)] := hl
  have hiX10 : ∀ w ∈ wsX100, w ∈ wsX10_sheet := by decide +kernel
  generalize hQ : MQ _ _ _ _ _ _ _ = Q
  rcases ixd k 4 with hnojs | ⟨js, hjs, rfl⟩
  · skip
    have hks : kAll (cF cA zc) [(0, 0), (0, 10)] [cTP zc, cR10 cA zc] := ⟨(kF_tp (cA := cA) (z := zc)), (kF_r10 (cA := cA) (z := zc)), trivial⟩
    have hP : va_P (dC, dI) vwCl [cTP zc, cR10 cA zc] s.heap := kAll_P hPk hks
    have hD : va_D (va_A [cTP zc, cR10 cA zc] s.heap.size) [cTP zc, cR10 cA zc] := (kAll_D hDk hks (by simp)).self
    have hA : ∀ q : Nat, s.heap.size ≤ q → va_A [cTP zc, cR10 cA zc] s.heap.size q := fun q h => Or.inr h
    have hS : va_S (va_A [cTP zc, cR10 cA zc] s.heap.size) s.heap s.heap [] := va_S.rf
    refine lv_aload_n hx hb dX10_sheet_0 rfl (lv_at hl 0 rfl) ?_
    refine lv_iconst (v := 0) hx hb dX10_sheet_1 (by decide) ?_
    refine va_put (D := (dC, dI)) (ci := 10) (v := .int 0) (ty := .int) (C := RX10) (T := TX10) (N := 13) hx hb hts hiX10 tyX10 tyX10_ok nmX10 hown hK hP hD hS 0 rfl rfl 12 (by decide) (hts (.fieldLink RX10 56 "TributePitches" "latestFault" "I") (by decide +kernel)) (fun _ h9 => h9) rfl (by decide +kernel) rfl rfl (Nat.le_of_ble_eq_true rfl) dX10_sheet_2 (fun H locs hP hD hS => ?_)
    have hP : va_P (dC, dI) vwCl [(cs_X zc 0 0, .inr (10, [.ref (cs_X zc 0 1), .ref (cs_X zc 0 6), .ref (cs_X zc 0 7), .ref (cs_X zc 0 8), .ref (cs_X zc 0 9), .ref (cs_X zc 0 10), .ref (cs_X zc 0 11), .int (nI (cs_n zc 0)), .int (nI (cs_n zc 1)), .int (nI (cs_n zc 2)), .int (nI (cs_n zc 3)), va_rf (opN (cs_n zc 4) (fun _ => cs_X zc 5 0)), .int 0])), cR10 cA zc] H := hP
    have hD : va_D _ [(cs_X zc 0 0, .inr (10, [.ref (cs_X zc 0 1), .ref (cs_X zc 0 6), .ref (cs_X zc 0 7), .ref (cs_X zc 0 8), .ref (cs_X zc 0 9), .ref (cs_X zc 0 10), .ref (cs_X zc 0 11), .int (nI (cs_n zc 0)), .int (nI (cs_n zc 1)), .int (nI (cs_n zc 2)), .int (nI (cs_n zc 3)), va_rf (opN (cs_n zc 4) (fun _ => cs_X zc 5 0)), .int 0])), cR10 cA zc] := hD
    refine lv_aload_n hx hb dX10_sheet_5 rfl (lv_at hl 0 rfl) ?_
    refine lv_iload_n hx hb dX10_sheet_6 rfl (lv_at hl 1 rfl) ?_
    have hPc := hP.sub (ws' := [(cs_X zc 0 0, .inr (10, [.ref (cs_X zc 0 1), .ref (cs_X zc 0 6), .ref (cs_X zc 0 7), .ref (cs_X zc 0 8), .ref (cs_X zc 0 9), .ref (cs_X zc 0 10), .ref (cs_X zc 0 11), .int (nI (cs_n zc 0)), .int (nI (cs_n zc 1)), .int (nI (cs_n zc 2)), .int (nI (cs_n zc 3)), va_rf (opN (cs_n zc 4) (fun _ => cs_X zc 5 0)), .int 0])), cR10 cA zc]) [0, 1] rfl
    have hDc := hD.sub (ws' := [(cs_X zc 0 0, .inr (10, [.ref (cs_X zc 0 1), .ref (cs_X zc 0 6), .ref (cs_X zc 0 7), .ref (cs_X zc 0 8), .ref (cs_X zc 0 9), .ref (cs_X zc 0 10), .ref (cs_X zc 0 11), .int (nI (cs_n zc 0)), .int (nI (cs_n zc 1)), .int (nI (cs_n zc 2)), .int (nI (cs_n zc 3)), va_rf (opN (cs_n zc 4) (fun _ => cs_X zc 5 0)), .int 0])), cR10 cA zc]) [0, 1] (by decide) rfl
    have hKc := hK.sub (tys' := [(cA 5, .object RX7)]) [5] rfl
    refine va_csq (va_Run.run (va_runV (As := [.int k]) (rest := []) ⟨hx, hb, hml, hown, hts⟩ (s_sheetAt_no l dC dI (cA 5) _ (cs_X zc 0 0) (.ref (cs_X zc 0 1)) (.ref (cs_X zc 0 6)) (.ref (cs_X zc 0 7)) (.ref (cs_X zc 0 8)) (.ref (cs_X zc 0 9)) (.ref (cs_X zc 0 11)) (.int (nI (cs_n zc 0))) (.int (nI (cs_n zc 1))) (.int (nI (cs_n zc 2))) (.int (nI (cs_n zc 3))) (va_rf (opN (cs_n zc 4) (fun _ => cs_X zc 5 0))) (.int 0) (cs_X zc 0 10) (rfN 4 (cs_X zc 6)) k (shNo hnojs)) (cwV 1 hts gX10_sheet_X10_sheetAt rfl rfl rfl (by decide +kernel) ⟨Nat.le_of_ble_eq_true rfl, Nat.le_of_ble_eq_true rfl⟩) (pw_preV (va_recv hKc hPc (ci := 10) (q0 := 0) rfl rfl) hPc hKc hDc hN) rfl rfl hl.1 rfl (lv_room (Nat.le_of_ble_eq_true rfl)) dX10_sheet_7 ⟨Nat.le_of_ble_eq_true rfl, Nat.le_of_ble_eq_true rfl⟩)) (fun r1 hr1 => ?_)
    have hr1 : r1 = none := hr1
    subst hr1
    refine W.eq (g2 := F0 m 10 ls [.null]) rfl ?_
    refine lv_astoreN (lv' := [(4, .null), (0, .ref (cs_X zc 0 0)), (1, .int k), (2, .int ln), (3, .int n)]) hx hb dX10_sheet_10 hl (by decide) rfl (fun ls hl => ?_)
    refine lv_aloadN hx hb dX10_sheet_12 (lv_at hl 0 rfl) ?_
    refine lv_ifnonnullN hx hb dX10_sheet_14 ?_
    refine lv_iconst (v := (-1)) hx hb dX10_sheet_17 (by decide) ?_
    subst hQ
    have hP9 : va_P (dC, dI) vwCl [(cs_X zc 0 0, .inr (10, [.ref (cs_X zc 0 1), .ref (cs_X zc 0 6), .ref (cs_X zc 0 7), .ref (cs_X zc 0 8), .ref (cs_X zc 0 9), .ref (cs_X zc 0 10), .ref (cs_X zc 0 11), .int (nI (cs_n zc 0)), .int (nI (cs_n zc 1)), .int (nI (cs_n zc 2)), .int (nI (cs_n zc 3)), va_rf (opN (cs_n zc 4) (fun _ => cs_X zc 5 0)), .int 0])), cR10 cA zc] H := hP.sub [0, 1] rfl
    have hD9 : va_D (va_A [cTP zc, cR10 cA zc] s.heap.size) [(cs_X zc 0 0, .inr (10, [.ref (cs_X zc 0 1), .ref (cs_X zc 0 6), .ref (cs_X zc 0 7), .ref (cs_X zc 0 8), .ref (cs_X zc 0 9), .ref (cs_X zc 0 10), .ref (cs_X zc 0 11), .int (nI (cs_n zc 0)), .int (nI (cs_n zc 1)), .int (nI (cs_n zc 2)), .int (nI (cs_n zc 3)), va_rf (opN (cs_n zc 4) (fun _ => cs_X zc 5 0)), .int 0])), cR10 cA zc] := hD.sub [0, 1] (by decide) rfl
    have hlf := lf_sheet_0 cA zc k ln n hnojs hI
    exact W.iret (v := (-1)) hx hb hr (fun t ht hW => have hJ := kjoin hPk hDk hks rfl (hS.F ht) (by rw [ht]; exact hP9) hD9 hlf.2.1 hlf.2.2; ⟨⟨(-1), (va_up (cs_i zc) 2 0, cs_n zc, cs_I zc, cs_L zc, cs_N zc, cs_S zc, cs_X zc), rfl, ⟨⟨hlf.1, rfl⟩, (Or.inl ⟨hnojs, rfl, rfl⟩)⟩, hJ.1, va_K.moved hW.alike hKk, hJ.2.1⟩, hJ.2.2⟩) (fun q h => kAll_A hks _ (hS.2.2 q h)) dX10_sheet_18
  · skip
    have hks : kAll (cF cA zc) [(0, 0), (0, 10), (6, js), (7, js)] [cTP zc, cR10 cA zc, cSh zc js, cSc cA zc js] := ⟨(kF_tp (cA := cA) (z := zc)), (kF_r10 (cA := cA) (z := zc)), (kF_sh (z := zc) hjs), (kF_sc (z := zc) hjs), trivial⟩
    have hP : va_P (dC, dI) vwCl [cTP zc, cR10 cA zc, cSh zc js, cSc cA zc js] s.heap := kAll_P hPk hks
    have hD : va_D (va_A [cTP zc, cR10 cA zc, cSh zc js, cSc cA zc js] s.heap.size) [cTP zc, cR10 cA zc, cSh zc js, cSc cA zc js] := (kAll_D hDk hks (by simp)).self
    have hA : ∀ q : Nat, s.heap.size ≤ q → va_A [cTP zc, cR10 cA zc, cSh zc js, cSc cA zc js] s.heap.size q := fun q h => Or.inr h
    have hS : va_S (va_A [cTP zc, cR10 cA zc, cSh zc js, cSc cA zc js] s.heap.size) s.heap s.heap [] := va_S.rf
    refine lv_aload_n hx hb dX10_sheet_0 rfl (lv_at hl 0 rfl) ?_
    refine lv_iconst (v := 0) hx hb dX10_sheet_1 (by decide) ?_
    refine va_put (D := (dC, dI)) (ci := 10) (v := .int 0) (ty := .int) (C := RX10) (T := TX10) (N := 13) hx hb hts hiX10 tyX10 tyX10_ok nmX10 hown hK hP hD hS 0 rfl rfl 12 (by decide) (hts (.fieldLink RX10 56 "TributePitches" "latestFault" "I") (by decide +kernel)) (fun _ h9 => h9) rfl (by decide +kernel) rfl rfl (Nat.le_of_ble_eq_true rfl) dX10_sheet_2 (fun H locs hP hD hS => ?_)
    have hP : va_P (dC, dI) vwCl [(cs_X zc 0 0, .inr (10, [.ref (cs_X zc 0 1), .ref (cs_X zc 0 6), .ref (cs_X zc 0 7), .ref (cs_X zc 0 8), .ref (cs_X zc 0 9), .ref (cs_X zc 0 10), .ref (cs_X zc 0 11), .int (nI (cs_n zc 0)), .int (nI (cs_n zc 1)), .int (nI (cs_n zc 2)), .int (nI (cs_n zc 3)), va_rf (opN (cs_n zc 4) (fun _ => cs_X zc 5 0)), .int 0])), cR10 cA zc, cSh zc js, cSc cA zc js] H := hP
    have hD : va_D _ [(cs_X zc 0 0, .inr (10, [.ref (cs_X zc 0 1), .ref (cs_X zc 0 6), .ref (cs_X zc 0 7), .ref (cs_X zc 0 8), .ref (cs_X zc 0 9), .ref (cs_X zc 0 10), .ref (cs_X zc 0 11), .int (nI (cs_n zc 0)), .int (nI (cs_n zc 1)), .int (nI (cs_n zc 2)), .int (nI (cs_n zc 3)), va_rf (opN (cs_n zc 4) (fun _ => cs_X zc 5 0)), .int 0])), cR10 cA zc, cSh zc js, cSc cA zc js] := hD
    refine lv_aload_n hx hb dX10_sheet_5 rfl (lv_at hl 0 rfl) ?_
    refine lv_iload_n hx hb dX10_sheet_6 rfl (lv_at hl 1 rfl) ?_
    have hPc := hP.sub (ws' := [(cs_X zc 0 0, .inr (10, [.ref (cs_X zc 0 1), .ref (cs_X zc 0 6), .ref (cs_X zc 0 7), .ref (cs_X zc 0 8), .ref (cs_X zc 0 9), .ref (cs_X zc 0 10), .ref (cs_X zc 0 11), .int (nI (cs_n zc 0)), .int (nI (cs_n zc 1)), .int (nI (cs_n zc 2)), .int (nI (cs_n zc 3)), va_rf (opN (cs_n zc 4) (fun _ => cs_X zc 5 0)), .int 0])), cR10 cA zc]) [0, 1] rfl
    have hDc := hD.sub (ws' := [(cs_X zc 0 0, .inr (10, [.ref (cs_X zc 0 1), .ref (cs_X zc 0 6), .ref (cs_X zc 0 7), .ref (cs_X zc 0 8), .ref (cs_X zc 0 9), .ref (cs_X zc 0 10), .ref (cs_X zc 0 11), .int (nI (cs_n zc 0)), .int (nI (cs_n zc 1)), .int (nI (cs_n zc 2)), .int (nI (cs_n zc 3)), va_rf (opN (cs_n zc 4) (fun _ => cs_X zc 5 0)), .int 0])), cR10 cA zc]) [0, 1] (by decide) rfl
    have hKc := hK.sub (tys' := [(cA 5, .object RX7)]) [5] rfl
    refine va_csq (va_Run.run (va_runV (As := [.int (nI js)]) (rest := []) ⟨hx, hb, hml, hown, hts⟩ (s_sheetAt_yes l dC dI (cA 5) _ (cs_X zc 0 0) (.ref (cs_X zc 0 1)) (.ref (cs_X zc 0 6)) (.ref (cs_X zc 0 7)) (.ref (cs_X zc 0 8)) (.ref (cs_X zc 0 9)) (.ref (cs_X zc 0 11)) (.int (nI (cs_n zc 0))) (.int (nI (cs_n zc 1))) (.int (nI (cs_n zc 2))) (.int (nI (cs_n zc 3))) (va_rf (opN (cs_n zc 4) (fun _ => cs_X zc 5 0))) (.int 0) (cs_X zc 0 10) js (cs_X zc 6 js) (rfN 4 (cs_X zc 6)) hjs (rfN_at hjs)) (cwV 1 hts gX10_sheet_X10_sheetAt rfl rfl rfl (by decide +kernel) ⟨Nat.le_of_ble_eq_true rfl, Nat.le_of_ble_eq_true rfl⟩) (pw_preV (va_recv hKc hPc (ci := 10) (q0 := 0) rfl rfl) hPc hKc hDc hN) rfl rfl hl.1 rfl (lv_room (Nat.le_of_ble_eq_true rfl)) dX10_sheet_7 ⟨Nat.le_of_ble_eq_true rfl, Nat.le_of_ble_eq_true rfl⟩)) (fun r2 hr2 => ?_)
    have hr2 : r2 = some (cs_X zc 6 js) := hr2
    subst hr2
    refine W.eq (g2 := F0 m 10 ls [.ref (cs_X zc 6 js)]) rfl ?_
    refine lv_astore (lv' := [(4, .ref (cs_X zc 6 js)), (0, .ref (cs_X zc 0 0)), (1, .int (nI js)), (2, .int ln), (3, .int n)]) hx hb dX10_sheet_10 hl (by decide) rfl (fun ls hl => ?_)
    refine lv_aload hx hb dX10_sheet_12 (lv_at hl 0 rfl) ?_
    refine lv_ifnonnull (tgt := 19) hx hb dX10_sheet_14 (by decide) ?_
    refine lv_iload_n hx hb dX10_sheet_19 rfl (lv_at hl 3 rfl) ?_
    refine vp_callSi (va_Run.run (va_runS (As := [.int ln]) (rest := []) ⟨hx, hb, hml, hown, hts⟩ (c_X7_isLane l ln ) (va_cwS 1 hts gX10_sheet_X7_isLane rfl rfl rfl (by decide +kernel) ⟨Nat.le_of_ble_eq_true rfl, Nat.le_of_ble_eq_true rfl⟩) (p0_preS hN) rfl rfl hl.1 rfl (lv_room (Nat.le_of_ble_eq_true rfl)) dX10_sheet_20 ⟨Nat.le_of_ble_eq_true rfl, Nat.le_of_ble_eq_true rfl⟩)) (fun r3 hr3 => ?_)
    have hr3 : r3 = if 0 ≤ ln ∧ ln ≤ 2 then 1 else 0 := hr3
    refine lv_if_eq (tgt := 32) hx hb dX10_sheet_23 (by decide) (fun c4 => ?_) (fun c4 => ?_)
    · skip
      have c4 := (fa_bool_prop hr3).1.mp c4
      refine lv_bipush (v := (-2)) hx hb dX10_sheet_32 (by decide) ?_
      subst hQ
      have hP9 : va_P (dC, dI) vwCl [(cs_X zc 0 0, .inr (10, [.ref (cs_X zc 0 1), .ref (cs_X zc 0 6), .ref (cs_X zc 0 7), .ref (cs_X zc 0 8), .ref (cs_X zc 0 9), .ref (cs_X zc 0 10), .ref (cs_X zc 0 11), .int (nI (cs_n zc 0)), .int (nI (cs_n zc 1)), .int (nI (cs_n zc 2)), .int (nI (cs_n zc 3)), va_rf (opN (cs_n zc 4) (fun _ => cs_X zc 5 0)), .int 0])), cR10 cA zc, cSh zc js, cSc cA zc js] H := hP.sub [0, 1, 2, 3] rfl
      have hD9 : va_D (va_A [cTP zc, cR10 cA zc, cSh zc js, cSc cA zc js] s.heap.size) [(cs_X zc 0 0, .inr (10, [.ref (cs_X zc 0 1), .ref (cs_X zc 0 6), .ref (cs_X zc 0 7), .ref (cs_X zc 0 8), .ref (cs_X zc 0 9), .ref (cs_X zc 0 10), .ref (cs_X zc 0 11), .int (nI (cs_n zc 0)), .int (nI (cs_n zc 1)), .int (nI (cs_n zc 2)), .int (nI (cs_n zc 3)), va_rf (opN (cs_n zc 4) (fun _ => cs_X zc 5 0)), .int 0])), cR10 cA zc, cSh zc js, cSc cA zc js] := hD.sub [0, 1, 2, 3] (by decide) rfl
      have hlf := lf_sheet_1 cA zc ln n js hjs c4 hI
      exact W.iret (v := (-2)) hx hb hr (fun t ht hW => have hJ := kjoin hPk hDk hks rfl (hS.F ht) (by rw [ht]; exact hP9) hD9 hlf.2.1 hlf.2.2; ⟨⟨(-2), (va_up (cs_i zc) 2 0, cs_n zc, cs_I zc, cs_L zc, cs_N zc, cs_S zc, cs_X zc), rfl, ⟨⟨hlf.1, rfl⟩, (Or.inr (Or.inl ⟨js, rfl, hjs, c4, rfl, rfl⟩))⟩, hJ.1, va_K.moved hW.alike hKk, hJ.2.1⟩, hJ.2.2⟩) (fun q h => kAll_A hks _ (hS.2.2 q h)) dX10_sheet_34
    · skip
      have c4 := (fa_bool_prop hr3).2.mp c4
      refine lv_iload_n hx hb dX10_sheet_26 rfl (lv_at hl 4 rfl) ?_
      refine lv_bipush (v := 48) hx hb dX10_sheet_27 (by decide) ?_
      refine lv_icmp_le (tgt := 35) hx hb dX10_sheet_29 (by decide) (fun c5 => ?_) (fun c5 => ?_)
      · skip
        refine lv_iload_n hx hb dX10_sheet_35 rfl (lv_at hl 4 rfl) ?_
        refine lv_if_ge (tgt := 45) hx hb dX10_sheet_36 (by decide) (fun c6 => ?_) (fun c6 => ?_)
        · skip
          refine lv_aload hx hb dX10_sheet_45 (lv_at hl 0 rfl) ?_
          refine lv_iload_n hx hb dX10_sheet_47 rfl (lv_at hl 3 rfl) ?_
          refine lv_iload_n hx hb dX10_sheet_48 rfl (lv_at hl 4 rfl) ?_
          have hPc := hP.sub (ws' := [cSh zc js, cSc cA zc js]) [2, 3] rfl
          have hDc := hD.sub (ws' := [cSh zc js, cSc cA zc js]) [2, 3] (by decide) rfl
          have hKc := hK.sub (tys' := [(cA 0, .int)]) [0] rfl
          have hFc := va_free (wc := [cSh zc js, cSc cA zc js]) hD hS hA [2, 3] rfl
          refine va_callv (va_runV (As := [.int ln, .int n]) (rest := []) ⟨hx, hb, hml, hown, hts⟩ (s_renew l dC dI (cA 0) _ (cs_X zc 6 js) (cs_X zc 7 js) (.int (cs_I zc 8 js)) (.int (cs_I zc 9 js)) ln n (cs_S zc js) ) (cwV 2 hts gX10_sheet_X7_renew rfl rfl rfl (by decide +kernel) ⟨Nat.le_of_ble_eq_true rfl, Nat.le_of_ble_eq_true rfl⟩) (pw_preV (va_recv hKc hPc (ci := 7) (q0 := 0) rfl rfl) hPc hKc hDc hN) rfl rfl hl.1 rfl (lv_room (Nat.le_of_ble_eq_true rfl)) dX10_sheet_49 ⟨Nat.le_of_ble_eq_true rfl, Nat.le_of_ble_eq_true rfl⟩) hS (fun q _ h => hFc q h) hFc (fun u t H1 locs ht hvm hw hB hz1 hk1 hS => ?_)
          obtain ⟨hP1, hK1, hD1⟩ := hB
          rw [ht] at hP1
          obtain ⟨hP, hD⟩ := va_join (wr := [(cs_X zc 0 0, .inr (10, [.ref (cs_X zc 0 1), .ref (cs_X zc 0 6), .ref (cs_X zc 0 7), .ref (cs_X zc 0 8), .ref (cs_X zc 0 9), .ref (cs_X zc 0 10), .ref (cs_X zc 0 11), .int (nI (cs_n zc 0)), .int (nI (cs_n zc 1)), .int (nI (cs_n zc 2)), .int (nI (cs_n zc 3)), va_rf (opN (cs_n zc 4) (fun _ => cs_X zc 5 0)), .int 0])), cR10 cA zc]) (w1 := [(cs_X zc 6 js, .inr (7, [.ref (cs_X zc 7 js), .int ln, .int n])), (cs_X zc 7 js, .inl (cA 0, 48, .inl (fun _ => 0)))]) hP hD [2, 3] [0, 1] rfl rfl (by decide) (by decide) hk1 hFc hP1 hD1
          generalize H1 = H at hP hS ⊢
          have hP : va_P (dC, dI) vwCl [(cs_X zc 0 0, .inr (10, [.ref (cs_X zc 0 1), .ref (cs_X zc 0 6), .ref (cs_X zc 0 7), .ref (cs_X zc 0 8), .ref (cs_X zc 0 9), .ref (cs_X zc 0 10), .ref (cs_X zc 0 11), .int (nI (cs_n zc 0)), .int (nI (cs_n zc 1)), .int (nI (cs_n zc 2)), .int (nI (cs_n zc 3)), va_rf (opN (cs_n zc 4) (fun _ => cs_X zc 5 0)), .int 0])), cR10 cA zc, (cs_X zc 6 js, .inr (7, [.ref (cs_X zc 7 js), .int ln, .int n])), (cs_X zc 7 js, .inl (cA 0, 48, .inl (fun _ => 0)))] H := hP
          have hD : va_D _ [(cs_X zc 0 0, .inr (10, [.ref (cs_X zc 0 1), .ref (cs_X zc 0 6), .ref (cs_X zc 0 7), .ref (cs_X zc 0 8), .ref (cs_X zc 0 9), .ref (cs_X zc 0 10), .ref (cs_X zc 0 11), .int (nI (cs_n zc 0)), .int (nI (cs_n zc 1)), .int (nI (cs_n zc 2)), .int (nI (cs_n zc 3)), va_rf (opN (cs_n zc 4) (fun _ => cs_X zc 5 0)), .int 0])), cR10 cA zc, (cs_X zc 6 js, .inr (7, [.ref (cs_X zc 7 js), .int ln, .int n])), (cs_X zc 7 js, .inl (cA 0, 48, .inl (fun _ => 0)))] := hD
          refine lv_iconst (v := 1) hx hb dX10_sheet_52 (by decide) ?_
          subst hQ
          have hP9 : va_P (dC, dI) vwCl [(cs_X zc 0 0, .inr (10, [.ref (cs_X zc 0 1), .ref (cs_X zc 0 6), .ref (cs_X zc 0 7), .ref (cs_X zc 0 8), .ref (cs_X zc 0 9), .ref (cs_X zc 0 10), .ref (cs_X zc 0 11), .int (nI (cs_n zc 0)), .int (nI (cs_n zc 1)), .int (nI (cs_n zc 2)), .int (nI (cs_n zc 3)), va_rf (opN (cs_n zc 4) (fun _ => cs_X zc 5 0)), .int 0])), cR10 cA zc, (cs_X zc 6 js, .inr (7, [.ref (cs_X zc 7 js), .int ln, .int n])), (cs_X zc 7 js, .inl (cA 0, 48, .inl (fun _ => 0)))] H := hP.sub [0, 1, 2, 3] rfl
          have hD9 : va_D (va_A [cTP zc, cR10 cA zc, cSh zc js, cSc cA zc js] s.heap.size) [(cs_X zc 0 0, .inr (10, [.ref (cs_X zc 0 1), .ref (cs_X zc 0 6), .ref (cs_X zc 0 7), .ref (cs_X zc 0 8), .ref (cs_X zc 0 9), .ref (cs_X zc 0 10), .ref (cs_X zc 0 11), .int (nI (cs_n zc 0)), .int (nI (cs_n zc 1)), .int (nI (cs_n zc 2)), .int (nI (cs_n zc 3)), va_rf (opN (cs_n zc 4) (fun _ => cs_X zc 5 0)), .int 0])), cR10 cA zc, (cs_X zc 6 js, .inr (7, [.ref (cs_X zc 7 js), .int ln, .int n])), (cs_X zc 7 js, .inl (cA 0, 48, .inl (fun _ => 0)))] := hD.sub [0, 1, 2, 3] (by decide) rfl
          have hlf := lf_sheet_2 cA zc ln n js hjs c4 c5 c6 hI
          exact W.iret (v := 1) hx hb hr (fun t ht hW => have hJ := kjoin hPk hDk hks rfl (hS.F ht) (by rw [ht]; exact hP9) hD9 hlf.2.1 hlf.2.2; ⟨⟨1, (va_up (cs_i zc) 2 0, cs_n zc, va_up (va_up (cs_I zc) 8 (va_up (cs_I zc 8) js ln)) 9 (va_up (cs_I zc 9) js n), cs_L zc, cs_N zc, va_up (cs_S zc) js (fun _ => 0), cs_X zc), rfl, ⟨⟨hlf.1, rfl⟩, (Or.inr (Or.inr (Or.inl ⟨js, rfl, hjs, c4, c5, c6, rfl, rfl⟩)))⟩, hJ.1, va_K.moved hW.alike hKk, hJ.2.1⟩, hJ.2.2⟩) (fun q h => kAll_A hks _ (hS.2.2 q h)) dX10_sheet_53
        · skip
          refine lv_aload_n hx hb dX10_sheet_39 rfl (lv_at hl 1 rfl) ?_
          refine lv_iconst (v := 4) hx hb dX10_sheet_40 (by decide) ?_
          have hPc := hP.sub (ws' := [(cs_X zc 0 0, .inr (10, [.ref (cs_X zc 0 1), .ref (cs_X zc 0 6), .ref (cs_X zc 0 7), .ref (cs_X zc 0 8), .ref (cs_X zc 0 9), .ref (cs_X zc 0 10), .ref (cs_X zc 0 11), .int (nI (cs_n zc 0)), .int (nI (cs_n zc 1)), .int (nI (cs_n zc 2)), .int (nI (cs_n zc 3)), va_rf (opN (cs_n zc 4) (fun _ => cs_X zc 5 0)), .int 0]))]) [0] rfl
          have hDc := hD.sub (ws' := [(cs_X zc 0 0, .inr (10, [.ref (cs_X zc 0 1), .ref (cs_X zc 0 6), .ref (cs_X zc 0 7), .ref (cs_X zc 0 8), .ref (cs_X zc 0 9), .ref (cs_X zc 0 10), .ref (cs_X zc 0 11), .int (nI (cs_n zc 0)), .int (nI (cs_n zc 1)), .int (nI (cs_n zc 2)), .int (nI (cs_n zc 3)), va_rf (opN (cs_n zc 4) (fun _ => cs_X zc 5 0)), .int 0]))]) [0] (by decide) rfl
          have hKc := hK.sub (tys' := []) [] rfl
          have hFc := va_free (wc := [(cs_X zc 0 0, .inr (10, [.ref (cs_X zc 0 1), .ref (cs_X zc 0 6), .ref (cs_X zc 0 7), .ref (cs_X zc 0 8), .ref (cs_X zc 0 9), .ref (cs_X zc 0 10), .ref (cs_X zc 0 11), .int (nI (cs_n zc 0)), .int (nI (cs_n zc 1)), .int (nI (cs_n zc 2)), .int (nI (cs_n zc 3)), va_rf (opN (cs_n zc 4) (fun _ => cs_X zc 5 0)), .int 0]))]) hD hS hA [0] rfl
          refine va_calli (va_runV (As := [.int 4]) (rest := []) ⟨hx, hb, hml, hown, hts⟩ (c_X10_faulted l dC dI  _ (cs_X zc 0 0) (.ref (cs_X zc 0 1)) (.ref (cs_X zc 0 6)) (.ref (cs_X zc 0 7)) (.ref (cs_X zc 0 8)) (.ref (cs_X zc 0 9)) (.ref (cs_X zc 0 10)) (.ref (cs_X zc 0 11)) (.int (nI (cs_n zc 0))) (.int (nI (cs_n zc 1))) (.int (nI (cs_n zc 2))) (.int (nI (cs_n zc 3))) (va_rf (opN (cs_n zc 4) (fun _ => cs_X zc 5 0))) (.int 0) 4 ) (cwV 1 hts gX10_sheet_X10_faulted rfl rfl rfl (by decide +kernel) ⟨Nat.le_of_ble_eq_true rfl, Nat.le_of_ble_eq_true rfl⟩) (pw_preV (va_recv hKc hPc (ci := 10) (q0 := 0) rfl rfl) hPc hKc hDc hN) rfl rfl hl.1 rfl (lv_room (Nat.le_of_ble_eq_true rfl)) dX10_sheet_41 ⟨Nat.le_of_ble_eq_true rfl, Nat.le_of_ble_eq_true rfl⟩) hS (fun q _ h => hFc q h) hFc (fun r8 u t H1 locs ht hvm hw hB hz1 hk1 hS => ?_)
          have hr8 : r8 = -10 - 4 := hw
          obtain ⟨hP1, hK1, hD1⟩ := hB
          rw [ht] at hP1
          obtain ⟨hP, hD⟩ := va_join (wr := [cR10 cA zc, cSh zc js, cSc cA zc js]) (w1 := [(cs_X zc 0 0, .inr (10, [.ref (cs_X zc 0 1), .ref (cs_X zc 0 6), .ref (cs_X zc 0 7), .ref (cs_X zc 0 8), .ref (cs_X zc 0 9), .ref (cs_X zc 0 10), .ref (cs_X zc 0 11), .int (nI (cs_n zc 0)), .int (nI (cs_n zc 1)), .int (nI (cs_n zc 2)), .int (nI (cs_n zc 3)), va_rf (opN (cs_n zc 4) (fun _ => cs_X zc 5 0)), .int 4]))]) hP hD [0] [1, 2, 3] rfl rfl (by decide) (by decide) hk1 hFc hP1 hD1
          generalize H1 = H at hP hS ⊢
          have hP : va_P (dC, dI) vwCl [cR10 cA zc, cSh zc js, cSc cA zc js, (cs_X zc 0 0, .inr (10, [.ref (cs_X zc 0 1), .ref (cs_X zc 0 6), .ref (cs_X zc 0 7), .ref (cs_X zc 0 8), .ref (cs_X zc 0 9), .ref (cs_X zc 0 10), .ref (cs_X zc 0 11), .int (nI (cs_n zc 0)), .int (nI (cs_n zc 1)), .int (nI (cs_n zc 2)), .int (nI (cs_n zc 3)), va_rf (opN (cs_n zc 4) (fun _ => cs_X zc 5 0)), .int 4]))] H := hP
          have hD : va_D _ [cR10 cA zc, cSh zc js, cSc cA zc js, (cs_X zc 0 0, .inr (10, [.ref (cs_X zc 0 1), .ref (cs_X zc 0 6), .ref (cs_X zc 0 7), .ref (cs_X zc 0 8), .ref (cs_X zc 0 9), .ref (cs_X zc 0 10), .ref (cs_X zc 0 11), .int (nI (cs_n zc 0)), .int (nI (cs_n zc 1)), .int (nI (cs_n zc 2)), .int (nI (cs_n zc 3)), va_rf (opN (cs_n zc 4) (fun _ => cs_X zc 5 0)), .int 4]))] := hD
          have hr8 := hr8.symm
          subst hr8
          refine W.eq (g2 := F0 m 44 ls [.int (-10 - 4)]) rfl ?_
          subst hQ
          have hP9 : va_P (dC, dI) vwCl [(cs_X zc 0 0, .inr (10, [.ref (cs_X zc 0 1), .ref (cs_X zc 0 6), .ref (cs_X zc 0 7), .ref (cs_X zc 0 8), .ref (cs_X zc 0 9), .ref (cs_X zc 0 10), .ref (cs_X zc 0 11), .int (nI (cs_n zc 0)), .int (nI (cs_n zc 1)), .int (nI (cs_n zc 2)), .int (nI (cs_n zc 3)), va_rf (opN (cs_n zc 4) (fun _ => cs_X zc 5 0)), .int 4])), cR10 cA zc, cSh zc js, cSc cA zc js] H := hP.sub [3, 0, 1, 2] rfl
          have hD9 : va_D (va_A [cTP zc, cR10 cA zc, cSh zc js, cSc cA zc js] s.heap.size) [(cs_X zc 0 0, .inr (10, [.ref (cs_X zc 0 1), .ref (cs_X zc 0 6), .ref (cs_X zc 0 7), .ref (cs_X zc 0 8), .ref (cs_X zc 0 9), .ref (cs_X zc 0 10), .ref (cs_X zc 0 11), .int (nI (cs_n zc 0)), .int (nI (cs_n zc 1)), .int (nI (cs_n zc 2)), .int (nI (cs_n zc 3)), va_rf (opN (cs_n zc 4) (fun _ => cs_X zc 5 0)), .int 4])), cR10 cA zc, cSh zc js, cSc cA zc js] := hD.sub [3, 0, 1, 2] (by decide) rfl
          have hlf := lf_sheet_3 cA zc ln n js hjs c4 c5 c6 hI
          exact W.iret (v := -10 - 4) hx hb hr (fun t ht hW => have hJ := kjoin hPk hDk hks rfl (hS.F ht) (by rw [ht]; exact hP9) hD9 hlf.2.1 hlf.2.2; ⟨⟨-10 - 4, (va_up (cs_i zc) 2 4, cs_n zc, cs_I zc, cs_L zc, cs_N zc, cs_S zc, cs_X zc), rfl, ⟨⟨hlf.1, rfl⟩, (Or.inr (Or.inr (Or.inr (Or.inl ⟨js, rfl, hjs, c4, c5, c6, rfl, rfl⟩))))⟩, hJ.1, va_K.moved hW.alike hKk, hJ.2.1⟩, hJ.2.2⟩) (fun q h => kAll_A hks _ (hS.2.2 q h)) dX10_sheet_44
      · skip
        refine lv_bipush (v := (-2)) hx hb dX10_sheet_32 (by decide) ?_
        subst hQ
        have hP9 : va_P (dC, dI) vwCl [(cs_X zc 0 0, .inr (10, [.ref (cs_X zc 0 1), .ref (cs_X zc 0 6), .ref (cs_X zc 0 7), .ref (cs_X zc 0 8), .ref (cs_X zc 0 9), .ref (cs_X zc 0 10), .ref (cs_X zc 0 11), .int (nI (cs_n zc 0)), .int (nI (cs_n zc 1)), .int (nI (cs_n zc 2)), .int (nI (cs_n zc 3)), va_rf (opN (cs_n zc 4) (fun _ => cs_X zc 5 0)), .int 0])), cR10 cA zc, cSh zc js, cSc cA zc js] H := hP.sub [0, 1, 2, 3] rfl
        have hD9 : va_D (va_A [cTP zc, cR10 cA zc, cSh zc js, cSc cA zc js] s.heap.size) [(cs_X zc 0 0, .inr (10, [.ref (cs_X zc 0 1), .ref (cs_X zc 0 6), .ref (cs_X zc 0 7), .ref (cs_X zc 0 8), .ref (cs_X zc 0 9), .ref (cs_X zc 0 10), .ref (cs_X zc 0 11), .int (nI (cs_n zc 0)), .int (nI (cs_n zc 1)), .int (nI (cs_n zc 2)), .int (nI (cs_n zc 3)), va_rf (opN (cs_n zc 4) (fun _ => cs_X zc 5 0)), .int 0])), cR10 cA zc, cSh zc js, cSc cA zc js] := hD.sub [0, 1, 2, 3] (by decide) rfl
        have hlf := lf_sheet_4 cA zc ln n js hjs c4 c5 hI
        exact W.iret (v := (-2)) hx hb hr (fun t ht hW => have hJ := kjoin hPk hDk hks rfl (hS.F ht) (by rw [ht]; exact hP9) hD9 hlf.2.1 hlf.2.2; ⟨⟨(-2), (va_up (cs_i zc) 2 0, cs_n zc, cs_I zc, cs_L zc, cs_N zc, cs_S zc, cs_X zc), rfl, ⟨⟨hlf.1, rfl⟩, (Or.inr (Or.inr (Or.inr (Or.inr ⟨js, rfl, hjs, c4, c5, rfl, rfl⟩))))⟩, hJ.1, va_K.moved hW.alike hKk, hJ.2.1⟩, hJ.2.2⟩) (fun q h => kAll_A hks _ (hS.2.2 q h)) dX10_sheet_34
