def pC_spend (zc : CS) (t : Int32) (wh : Int32) (pn : Int32) (r : Int64) (u : CS) : Prop :=
  ((∀ j, j < cs_n zc 2 → t ≠ nI j) ∧ r = ((-9223372036854775808)) ∧ u = zc) ∨
  (∃ jt : Nat, t = nI jt ∧ (jt < cs_n zc 2) ∧ (¬ (0 ≤ wh ∧ wh ≤ 1)) ∧ r = ((-9223372036854775808)) ∧ u = zc) ∨
  (∃ jt : Nat, t = nI jt ∧ (jt < cs_n zc 2) ∧ (0 ≤ wh ∧ wh ≤ 1) ∧ (0 ≤ pn ∧ pn ≤ 100000) ∧ ((cs_I zc 33 jt) = 0) ∧ (¬ wh = 0) ∧ r = ((cs_L zc 5 jt) + pn.toInt64) ∧ u = (cs_i zc, cs_n zc, cs_I zc, va_up (cs_L zc) 5 (va_up (cs_L zc 5) jt ((cs_L zc 5 jt) + pn.toInt64)), cs_N zc, cs_S zc, cs_X zc)) ∨
  (∃ jt : Nat, t = nI jt ∧ (jt < cs_n zc 2) ∧ (0 ≤ wh ∧ wh ≤ 1) ∧ (0 ≤ pn ∧ pn ≤ 100000) ∧ ((cs_I zc 33 jt) = 0) ∧ (wh = 0) ∧ r = ((cs_L zc 4 jt) + pn.toInt64) ∧ u = (cs_i zc, cs_n zc, cs_I zc, va_up (cs_L zc) 4 (va_up (cs_L zc 4) jt ((cs_L zc 4 jt) + pn.toInt64)), cs_N zc, cs_S zc, cs_X zc)) ∨
  (∃ jt : Nat, t = nI jt ∧ (jt < cs_n zc 2) ∧ (0 ≤ wh ∧ wh ≤ 1) ∧ (0 ≤ pn ∧ pn ≤ 100000) ∧ (¬ (cs_I zc 33 jt) = 0) ∧ r = ((-9223372036854775808)) ∧ u = zc) ∨
  (∃ jt : Nat, t = nI jt ∧ (jt < cs_n zc 2) ∧ (0 ≤ wh ∧ wh ≤ 1) ∧ (¬ (0 ≤ pn ∧ pn ≤ 100000)) ∧ r = ((-9223372036854775808)) ∧ u = zc)
set_option maxHeartbeats 4000000 in
theorem lf_spend_2 (cA : Nat → ClassId) (zc : CS) (wh : Int32) (pn : Int32) (jt : Nat) (hjt : jt < cs_n zc 2) (c4 : 0 ≤ wh ∧ wh ≤ 1) (c6 : 0 ≤ pn ∧ pn ≤ 100000) (c7 : (cs_I zc 33 jt) = 0) (c8 : ¬ wh = 0) (hI : invC zc) : invC (cs_i zc, cs_n zc, cs_I zc, va_up (cs_L zc) 5 (va_up (cs_L zc 5) jt ((cs_L zc 5 jt) + pn.toInt64)), cs_N zc, cs_S zc, cs_X zc) ∧ kAll (cF cA (cs_i zc, cs_n zc, cs_I zc, va_up (cs_L zc) 5 (va_up (cs_L zc 5) jt ((cs_L zc 5 jt) + pn.toInt64)), cs_N zc, cs_S zc, cs_X zc)) [(0, 0), (0, 8), (3, jt)] [cTP zc, cR8 cA zc, (cs_X zc 3 jt, .inr (8, [.int (nI jt), .int (cs_I zc 31 jt), .ref (cs_X zc 2 (cs_N zc 2 jt)), .ref (cs_X zc 1 (cs_N zc 3 jt)), .long (cs_L zc 1 jt), .long (cs_L zc 2 jt), .long (cs_L zc 3 jt), .long (cs_L zc 4 jt), .long ((cs_L zc 5 jt) + pn.toInt64), .long (cs_L zc 6 jt), .int (cs_I zc 32 jt), .int (cs_I zc 33 jt)]))] ∧ ∀ i j, (i, j) ∉ ([(0, 0), (0, 8), (3, jt)] : List (Nat × Nat)) → cF cA (cs_i zc, cs_n zc, cs_I zc, va_up (cs_L zc) 5 (va_up (cs_L zc 5) jt ((cs_L zc 5 jt) + pn.toInt64)), cs_N zc, cs_S zc, cs_X zc) i j = none ∨ ((i, j) ∉ ([(0, 0), (0, 8), (3, jt)] : List (Nat × Nat)) ∧ cF cA (cs_i zc, cs_n zc, cs_I zc, va_up (cs_L zc) 5 (va_up (cs_L zc 5) jt ((cs_L zc 5 jt) + pn.toInt64)), cs_N zc, cs_S zc, cs_X zc) i j = cF cA zc i j) := by
  obtain ⟨⟨hn0, hn1, hn2, hn3, hn4, hn5⟩, hpi, hgk, htk, hpk, hsh⟩ := id hI
  refine ⟨hI, ⟨(by (rw [(kF_tp (cA := cA) (z := (cs_i zc, cs_n zc, cs_I zc, va_up (cs_L zc) 5 (va_up (cs_L zc 5) jt ((cs_L zc 5 jt) + pn.toInt64)), cs_N zc, cs_S zc, cs_X zc)))]) <;> simp [cTP, cTPN, cTPA, cLo, cA2, cA3, cA4, cA5, cR6, cR7, cR8, cR9, cR10, cTr, cPi, cPiN, cPiT, cGa, cGaK, cTa, cPa, cAu, cAuN, cAuB, cSh, cSc, cs_i, cs_n, cs_I, cs_L, cs_N, cs_S, cs_X, va_up, upd, opN]), (by (rw [(kF_r8 (cA := cA) (z := (cs_i zc, cs_n zc, cs_I zc, va_up (cs_L zc) 5 (va_up (cs_L zc 5) jt ((cs_L zc 5 jt) + pn.toInt64)), cs_N zc, cs_S zc, cs_X zc)))]) <;> simp [cTP, cTPN, cTPA, cLo, cA2, cA3, cA4, cA5, cR6, cR7, cR8, cR9, cR10, cTr, cPi, cPiN, cPiT, cGa, cGaK, cTa, cPa, cAu, cAuN, cAuB, cSh, cSc, cs_i, cs_n, cs_I, cs_L, cs_N, cs_S, cs_X, va_up, upd, opN]), (by (rw [(kF_ta (z := (cs_i zc, cs_n zc, cs_I zc, va_up (cs_L zc) 5 (va_up (cs_L zc 5) jt ((cs_L zc 5 jt) + pn.toInt64)), cs_N zc, cs_S zc, cs_X zc)) hjt)]) <;> simp [cTP, cTPN, cTPA, cLo, cA2, cA3, cA4, cA5, cR6, cR7, cR8, cR9, cR10, cTr, cPi, cPiN, cPiT, cGa, cGaK, cTa, cPa, cAu, cAuN, cAuB, cSh, cSc, cs_i, cs_n, cs_I, cs_L, cs_N, cs_S, cs_X, va_up, upd, opN]), trivial⟩, ?_⟩
  intro i j hij
  refine Or.inr ⟨hij, ?_⟩
  rcases i with _ | _ | _ | _ | _ | _ | _ | _ | i
  · rcases j with _ | _ | _ | _ | _ | _ | _ | _ | _ | _ | _ | _ | j
    · exact absurd (by simp) hij
    · show some (cLo (cs_i zc, cs_n zc, cs_I zc, va_up (cs_L zc) 5 (va_up (cs_L zc 5) jt ((cs_L zc 5 jt) + pn.toInt64)), cs_N zc, cs_S zc, cs_X zc)) = some (cLo zc); simp [cLo, cs_i, cs_n, cs_I, cs_L, cs_N, cs_S, cs_X, va_up]
    · show some (cA2 cA (cs_i zc, cs_n zc, cs_I zc, va_up (cs_L zc) 5 (va_up (cs_L zc 5) jt ((cs_L zc 5 jt) + pn.toInt64)), cs_N zc, cs_S zc, cs_X zc)) = some (cA2 cA zc); simp [cA2, cs_i, cs_n, cs_I, cs_L, cs_N, cs_S, cs_X, va_up]
    · show some (cA3 cA (cs_i zc, cs_n zc, cs_I zc, va_up (cs_L zc) 5 (va_up (cs_L zc 5) jt ((cs_L zc 5 jt) + pn.toInt64)), cs_N zc, cs_S zc, cs_X zc)) = some (cA3 cA zc); simp [cA3, cs_i, cs_n, cs_I, cs_L, cs_N, cs_S, cs_X, va_up]
    · show some (cA4 cA (cs_i zc, cs_n zc, cs_I zc, va_up (cs_L zc) 5 (va_up (cs_L zc 5) jt ((cs_L zc 5 jt) + pn.toInt64)), cs_N zc, cs_S zc, cs_X zc)) = some (cA4 cA zc); simp [cA4, cs_i, cs_n, cs_I, cs_L, cs_N, cs_S, cs_X, va_up]
    · show some (cA5 cA (cs_i zc, cs_n zc, cs_I zc, va_up (cs_L zc) 5 (va_up (cs_L zc 5) jt ((cs_L zc 5 jt) + pn.toInt64)), cs_N zc, cs_S zc, cs_X zc)) = some (cA5 cA zc); simp [cA5, cs_i, cs_n, cs_I, cs_L, cs_N, cs_S, cs_X, va_up]
    · show some (cR6 cA (cs_i zc, cs_n zc, cs_I zc, va_up (cs_L zc) 5 (va_up (cs_L zc 5) jt ((cs_L zc 5 jt) + pn.toInt64)), cs_N zc, cs_S zc, cs_X zc)) = some (cR6 cA zc); simp [cR6, cs_i, cs_n, cs_I, cs_L, cs_N, cs_S, cs_X, va_up]
    · show some (cR7 cA (cs_i zc, cs_n zc, cs_I zc, va_up (cs_L zc) 5 (va_up (cs_L zc 5) jt ((cs_L zc 5 jt) + pn.toInt64)), cs_N zc, cs_S zc, cs_X zc)) = some (cR7 cA zc); simp [cR7, cs_i, cs_n, cs_I, cs_L, cs_N, cs_S, cs_X, va_up]
    · exact absurd (by simp) hij
    · show some (cR9 cA (cs_i zc, cs_n zc, cs_I zc, va_up (cs_L zc) 5 (va_up (cs_L zc 5) jt ((cs_L zc 5 jt) + pn.toInt64)), cs_N zc, cs_S zc, cs_X zc)) = some (cR9 cA zc); simp [cR9, cs_i, cs_n, cs_I, cs_L, cs_N, cs_S, cs_X, va_up]
    · show some (cR10 cA (cs_i zc, cs_n zc, cs_I zc, va_up (cs_L zc) 5 (va_up (cs_L zc 5) jt ((cs_L zc 5 jt) + pn.toInt64)), cs_N zc, cs_S zc, cs_X zc)) = some (cR10 cA zc); simp [cR10, cs_i, cs_n, cs_I, cs_L, cs_N, cs_S, cs_X, va_up]
    · show some (cTr (cs_i zc, cs_n zc, cs_I zc, va_up (cs_L zc) 5 (va_up (cs_L zc 5) jt ((cs_L zc 5 jt) + pn.toInt64)), cs_N zc, cs_S zc, cs_X zc)) = some (cTr zc); simp [cTr, cs_i, cs_n, cs_I, cs_L, cs_N, cs_S, cs_X, va_up]
    · show (none : Option (Nat × va_E)) = none; rfl
  · show (if j < cs_n (cs_i zc, cs_n zc, cs_I zc, va_up (cs_L zc) 5 (va_up (cs_L zc 5) jt ((cs_L zc 5 jt) + pn.toInt64)), cs_N zc, cs_S zc, cs_X zc) 0 then some (cPi (cs_i zc, cs_n zc, cs_I zc, va_up (cs_L zc) 5 (va_up (cs_L zc 5) jt ((cs_L zc 5 jt) + pn.toInt64)), cs_N zc, cs_S zc, cs_X zc) j) else none) = if j < cs_n zc 0 then some (cPi zc j) else none
    simp [cPi, cs_i, cs_n, cs_I, cs_L, cs_N, cs_S, cs_X, va_up]
  · show (if j < cs_n (cs_i zc, cs_n zc, cs_I zc, va_up (cs_L zc) 5 (va_up (cs_L zc 5) jt ((cs_L zc 5 jt) + pn.toInt64)), cs_N zc, cs_S zc, cs_X zc) 1 then some (cGa (cs_i zc, cs_n zc, cs_I zc, va_up (cs_L zc) 5 (va_up (cs_L zc 5) jt ((cs_L zc 5 jt) + pn.toInt64)), cs_N zc, cs_S zc, cs_X zc) j) else none) = if j < cs_n zc 1 then some (cGa zc j) else none
    simp [cGa, cs_i, cs_n, cs_I, cs_L, cs_N, cs_S, cs_X, va_up]
  · have hne0 : j ≠ jt := fun q => hij (by rw [q]; simp)
    have e9 : cTa (cs_i zc, cs_n zc, cs_I zc, va_up (cs_L zc) 5 (va_up (cs_L zc 5) jt ((cs_L zc 5 jt) + pn.toInt64)), cs_N zc, cs_S zc, cs_X zc) j = cTa zc j := by simp [cTa, cs_i, cs_n, cs_I, cs_L, cs_N, cs_S, cs_X, va_up, hne0]
    show (if j < cs_n (cs_i zc, cs_n zc, cs_I zc, va_up (cs_L zc) 5 (va_up (cs_L zc 5) jt ((cs_L zc 5 jt) + pn.toInt64)), cs_N zc, cs_S zc, cs_X zc) 2 then some (cTa (cs_i zc, cs_n zc, cs_I zc, va_up (cs_L zc) 5 (va_up (cs_L zc 5) jt ((cs_L zc 5 jt) + pn.toInt64)), cs_N zc, cs_S zc, cs_X zc) j) else none) = if j < cs_n zc 2 then some (cTa zc j) else none
    (rw [e9]) <;> simp [cs_n, va_up]
  · show (if j < cs_n (cs_i zc, cs_n zc, cs_I zc, va_up (cs_L zc) 5 (va_up (cs_L zc 5) jt ((cs_L zc 5 jt) + pn.toInt64)), cs_N zc, cs_S zc, cs_X zc) 3 then some (cPa (cs_i zc, cs_n zc, cs_I zc, va_up (cs_L zc) 5 (va_up (cs_L zc 5) jt ((cs_L zc 5 jt) + pn.toInt64)), cs_N zc, cs_S zc, cs_X zc) j) else none) = if j < cs_n zc 3 then some (cPa zc j) else none
    simp [cPa, cs_i, cs_n, cs_I, cs_L, cs_N, cs_S, cs_X, va_up]
  · show (if j = 0 ∧ ¬ cs_n (cs_i zc, cs_n zc, cs_I zc, va_up (cs_L zc) 5 (va_up (cs_L zc 5) jt ((cs_L zc 5 jt) + pn.toInt64)), cs_N zc, cs_S zc, cs_X zc) 4 = 0 then some (cAu (cs_i zc, cs_n zc, cs_I zc, va_up (cs_L zc) 5 (va_up (cs_L zc 5) jt ((cs_L zc 5 jt) + pn.toInt64)), cs_N zc, cs_S zc, cs_X zc)) else none) = if j = 0 ∧ ¬ cs_n zc 4 = 0 then some (cAu zc) else none
    simp [cAu, cs_i, cs_n, cs_I, cs_L, cs_N, cs_S, cs_X, va_up]
  · show (if j < 4 then some (cSh (cs_i zc, cs_n zc, cs_I zc, va_up (cs_L zc) 5 (va_up (cs_L zc 5) jt ((cs_L zc 5 jt) + pn.toInt64)), cs_N zc, cs_S zc, cs_X zc) j) else none) = if j < 4 then some (cSh zc j) else none
    simp [cSh, cs_i, cs_n, cs_I, cs_L, cs_N, cs_S, cs_X, va_up]
  · show (if j < 4 then some (cSc cA (cs_i zc, cs_n zc, cs_I zc, va_up (cs_L zc) 5 (va_up (cs_L zc 5) jt ((cs_L zc 5 jt) + pn.toInt64)), cs_N zc, cs_S zc, cs_X zc) j) else none) = if j < 4 then some (cSc cA zc j) else none
    simp [cSc, cs_i, cs_n, cs_I, cs_L, cs_N, cs_S, cs_X, va_up]
  · show (none : Option (Nat × va_E)) = none; rfl
set_option maxHeartbeats 4000000 in
theorem lf_spend_3 (cA : Nat → ClassId) (zc : CS) (wh : Int32) (pn : Int32) (jt : Nat) (hjt : jt < cs_n zc 2) (c4 : 0 ≤ wh ∧ wh ≤ 1) (c6 : 0 ≤ pn ∧ pn ≤ 100000) (c7 : (cs_I zc 33 jt) = 0) (c8 : wh = 0) (hI : invC zc) : invC (cs_i zc, cs_n zc, cs_I zc, va_up (cs_L zc) 4 (va_up (cs_L zc 4) jt ((cs_L zc 4 jt) + pn.toInt64)), cs_N zc, cs_S zc, cs_X zc) ∧ kAll (cF cA (cs_i zc, cs_n zc, cs_I zc, va_up (cs_L zc) 4 (va_up (cs_L zc 4) jt ((cs_L zc 4 jt) + pn.toInt64)), cs_N zc, cs_S zc, cs_X zc)) [(0, 0), (0, 8), (3, jt)] [cTP zc, cR8 cA zc, (cs_X zc 3 jt, .inr (8, [.int (nI jt), .int (cs_I zc 31 jt), .ref (cs_X zc 2 (cs_N zc 2 jt)), .ref (cs_X zc 1 (cs_N zc 3 jt)), .long (cs_L zc 1 jt), .long (cs_L zc 2 jt), .long (cs_L zc 3 jt), .long ((cs_L zc 4 jt) + pn.toInt64), .long (cs_L zc 5 jt), .long (cs_L zc 6 jt), .int (cs_I zc 32 jt), .int (cs_I zc 33 jt)]))] ∧ ∀ i j, (i, j) ∉ ([(0, 0), (0, 8), (3, jt)] : List (Nat × Nat)) → cF cA (cs_i zc, cs_n zc, cs_I zc, va_up (cs_L zc) 4 (va_up (cs_L zc 4) jt ((cs_L zc 4 jt) + pn.toInt64)), cs_N zc, cs_S zc, cs_X zc) i j = none ∨ ((i, j) ∉ ([(0, 0), (0, 8), (3, jt)] : List (Nat × Nat)) ∧ cF cA (cs_i zc, cs_n zc, cs_I zc, va_up (cs_L zc) 4 (va_up (cs_L zc 4) jt ((cs_L zc 4 jt) + pn.toInt64)), cs_N zc, cs_S zc, cs_X zc) i j = cF cA zc i j) := by
  obtain ⟨⟨hn0, hn1, hn2, hn3, hn4, hn5⟩, hpi, hgk, htk, hpk, hsh⟩ := id hI
  refine ⟨hI, ⟨(by (rw [(kF_tp (cA := cA) (z := (cs_i zc, cs_n zc, cs_I zc, va_up (cs_L zc) 4 (va_up (cs_L zc 4) jt ((cs_L zc 4 jt) + pn.toInt64)), cs_N zc, cs_S zc, cs_X zc)))]) <;> simp [cTP, cTPN, cTPA, cLo, cA2, cA3, cA4, cA5, cR6, cR7, cR8, cR9, cR10, cTr, cPi, cPiN, cPiT, cGa, cGaK, cTa, cPa, cAu, cAuN, cAuB, cSh, cSc, cs_i, cs_n, cs_I, cs_L, cs_N, cs_S, cs_X, va_up, upd, opN]), (by (rw [(kF_r8 (cA := cA) (z := (cs_i zc, cs_n zc, cs_I zc, va_up (cs_L zc) 4 (va_up (cs_L zc 4) jt ((cs_L zc 4 jt) + pn.toInt64)), cs_N zc, cs_S zc, cs_X zc)))]) <;> simp [cTP, cTPN, cTPA, cLo, cA2, cA3, cA4, cA5, cR6, cR7, cR8, cR9, cR10, cTr, cPi, cPiN, cPiT, cGa, cGaK, cTa, cPa, cAu, cAuN, cAuB, cSh, cSc, cs_i, cs_n, cs_I, cs_L, cs_N, cs_S, cs_X, va_up, upd, opN]), (by (rw [(kF_ta (z := (cs_i zc, cs_n zc, cs_I zc, va_up (cs_L zc) 4 (va_up (cs_L zc 4) jt ((cs_L zc 4 jt) + pn.toInt64)), cs_N zc, cs_S zc, cs_X zc)) hjt)]) <;> simp [cTP, cTPN, cTPA, cLo, cA2, cA3, cA4, cA5, cR6, cR7, cR8, cR9, cR10, cTr, cPi, cPiN, cPiT, cGa, cGaK, cTa, cPa, cAu, cAuN, cAuB, cSh, cSc, cs_i, cs_n, cs_I, cs_L, cs_N, cs_S, cs_X, va_up, upd, opN]), trivial⟩, ?_⟩
  intro i j hij
  refine Or.inr ⟨hij, ?_⟩
  rcases i with _ | _ | _ | _ | _ | _ | _ | _ | i
  · rcases j with _ | _ | _ | _ | _ | _ | _ | _ | _ | _ | _ | _ | j
    · exact absurd (by simp) hij
    · show some (cLo (cs_i zc, cs_n zc, cs_I zc, va_up (cs_L zc) 4 (va_up (cs_L zc 4) jt ((cs_L zc 4 jt) + pn.toInt64)), cs_N zc, cs_S zc, cs_X zc)) = some (cLo zc); simp [cLo, cs_i, cs_n, cs_I, cs_L, cs_N, cs_S, cs_X, va_up]
    · show some (cA2 cA (cs_i zc, cs_n zc, cs_I zc, va_up (cs_L zc) 4 (va_up (cs_L zc 4) jt ((cs_L zc 4 jt) + pn.toInt64)), cs_N zc, cs_S zc, cs_X zc)) = some (cA2 cA zc); simp [cA2, cs_i, cs_n, cs_I, cs_L, cs_N, cs_S, cs_X, va_up]
    · show some (cA3 cA (cs_i zc, cs_n zc, cs_I zc, va_up (cs_L zc) 4 (va_up (cs_L zc 4) jt ((cs_L zc 4 jt) + pn.toInt64)), cs_N zc, cs_S zc, cs_X zc)) = some (cA3 cA zc); simp [cA3, cs_i, cs_n, cs_I, cs_L, cs_N, cs_S, cs_X, va_up]
    · show some (cA4 cA (cs_i zc, cs_n zc, cs_I zc, va_up (cs_L zc) 4 (va_up (cs_L zc 4) jt ((cs_L zc 4 jt) + pn.toInt64)), cs_N zc, cs_S zc, cs_X zc)) = some (cA4 cA zc); simp [cA4, cs_i, cs_n, cs_I, cs_L, cs_N, cs_S, cs_X, va_up]
    · show some (cA5 cA (cs_i zc, cs_n zc, cs_I zc, va_up (cs_L zc) 4 (va_up (cs_L zc 4) jt ((cs_L zc 4 jt) + pn.toInt64)), cs_N zc, cs_S zc, cs_X zc)) = some (cA5 cA zc); simp [cA5, cs_i, cs_n, cs_I, cs_L, cs_N, cs_S, cs_X, va_up]
    · show some (cR6 cA (cs_i zc, cs_n zc, cs_I zc, va_up (cs_L zc) 4 (va_up (cs_L zc 4) jt ((cs_L zc 4 jt) + pn.toInt64)), cs_N zc, cs_S zc, cs_X zc)) = some (cR6 cA zc); simp [cR6, cs_i, cs_n, cs_I, cs_L, cs_N, cs_S, cs_X, va_up]
    · show some (cR7 cA (cs_i zc, cs_n zc, cs_I zc, va_up (cs_L zc) 4 (va_up (cs_L zc 4) jt ((cs_L zc 4 jt) + pn.toInt64)), cs_N zc, cs_S zc, cs_X zc)) = some (cR7 cA zc); simp [cR7, cs_i, cs_n, cs_I, cs_L, cs_N, cs_S, cs_X, va_up]
    · exact absurd (by simp) hij
    · show some (cR9 cA (cs_i zc, cs_n zc, cs_I zc, va_up (cs_L zc) 4 (va_up (cs_L zc 4) jt ((cs_L zc 4 jt) + pn.toInt64)), cs_N zc, cs_S zc, cs_X zc)) = some (cR9 cA zc); simp [cR9, cs_i, cs_n, cs_I, cs_L, cs_N, cs_S, cs_X, va_up]
    · show some (cR10 cA (cs_i zc, cs_n zc, cs_I zc, va_up (cs_L zc) 4 (va_up (cs_L zc 4) jt ((cs_L zc 4 jt) + pn.toInt64)), cs_N zc, cs_S zc, cs_X zc)) = some (cR10 cA zc); simp [cR10, cs_i, cs_n, cs_I, cs_L, cs_N, cs_S, cs_X, va_up]
    · show some (cTr (cs_i zc, cs_n zc, cs_I zc, va_up (cs_L zc) 4 (va_up (cs_L zc 4) jt ((cs_L zc 4 jt) + pn.toInt64)), cs_N zc, cs_S zc, cs_X zc)) = some (cTr zc); simp [cTr, cs_i, cs_n, cs_I, cs_L, cs_N, cs_S, cs_X, va_up]
    · show (none : Option (Nat × va_E)) = none; rfl
  · show (if j < cs_n (cs_i zc, cs_n zc, cs_I zc, va_up (cs_L zc) 4 (va_up (cs_L zc 4) jt ((cs_L zc 4 jt) + pn.toInt64)), cs_N zc, cs_S zc, cs_X zc) 0 then some (cPi (cs_i zc, cs_n zc, cs_I zc, va_up (cs_L zc) 4 (va_up (cs_L zc 4) jt ((cs_L zc 4 jt) + pn.toInt64)), cs_N zc, cs_S zc, cs_X zc) j) else none) = if j < cs_n zc 0 then some (cPi zc j) else none
    simp [cPi, cs_i, cs_n, cs_I, cs_L, cs_N, cs_S, cs_X, va_up]
  · show (if j < cs_n (cs_i zc, cs_n zc, cs_I zc, va_up (cs_L zc) 4 (va_up (cs_L zc 4) jt ((cs_L zc 4 jt) + pn.toInt64)), cs_N zc, cs_S zc, cs_X zc) 1 then some (cGa (cs_i zc, cs_n zc, cs_I zc, va_up (cs_L zc) 4 (va_up (cs_L zc 4) jt ((cs_L zc 4 jt) + pn.toInt64)), cs_N zc, cs_S zc, cs_X zc) j) else none) = if j < cs_n zc 1 then some (cGa zc j) else none
    simp [cGa, cs_i, cs_n, cs_I, cs_L, cs_N, cs_S, cs_X, va_up]
  · have hne0 : j ≠ jt := fun q => hij (by rw [q]; simp)
    have e9 : cTa (cs_i zc, cs_n zc, cs_I zc, va_up (cs_L zc) 4 (va_up (cs_L zc 4) jt ((cs_L zc 4 jt) + pn.toInt64)), cs_N zc, cs_S zc, cs_X zc) j = cTa zc j := by simp [cTa, cs_i, cs_n, cs_I, cs_L, cs_N, cs_S, cs_X, va_up, hne0]
    show (if j < cs_n (cs_i zc, cs_n zc, cs_I zc, va_up (cs_L zc) 4 (va_up (cs_L zc 4) jt ((cs_L zc 4 jt) + pn.toInt64)), cs_N zc, cs_S zc, cs_X zc) 2 then some (cTa (cs_i zc, cs_n zc, cs_I zc, va_up (cs_L zc) 4 (va_up (cs_L zc 4) jt ((cs_L zc 4 jt) + pn.toInt64)), cs_N zc, cs_S zc, cs_X zc) j) else none) = if j < cs_n zc 2 then some (cTa zc j) else none
    (rw [e9]) <;> simp [cs_n, va_up]
  · show (if j < cs_n (cs_i zc, cs_n zc, cs_I zc, va_up (cs_L zc) 4 (va_up (cs_L zc 4) jt ((cs_L zc 4 jt) + pn.toInt64)), cs_N zc, cs_S zc, cs_X zc) 3 then some (cPa (cs_i zc, cs_n zc, cs_I zc, va_up (cs_L zc) 4 (va_up (cs_L zc 4) jt ((cs_L zc 4 jt) + pn.toInt64)), cs_N zc, cs_S zc, cs_X zc) j) else none) = if j < cs_n zc 3 then some (cPa zc j) else none
    simp [cPa, cs_i, cs_n, cs_I, cs_L, cs_N, cs_S, cs_X, va_up]
  · show (if j = 0 ∧ ¬ cs_n (cs_i zc, cs_n zc, cs_I zc, va_up (cs_L zc) 4 (va_up (cs_L zc 4) jt ((cs_L zc 4 jt) + pn.toInt64)), cs_N zc, cs_S zc, cs_X zc) 4 = 0 then some (cAu (cs_i zc, cs_n zc, cs_I zc, va_up (cs_L zc) 4 (va_up (cs_L zc 4) jt ((cs_L zc 4 jt) + pn.toInt64)), cs_N zc, cs_S zc, cs_X zc)) else none) = if j = 0 ∧ ¬ cs_n zc 4 = 0 then some (cAu zc) else none
    simp [cAu, cs_i, cs_n, cs_I, cs_L, cs_N, cs_S, cs_X, va_up]
  · show (if j < 4 then some (cSh (cs_i zc, cs_n zc, cs_I zc, va_up (cs_L zc) 4 (va_up (cs_L zc 4) jt ((cs_L zc 4 jt) + pn.toInt64)), cs_N zc, cs_S zc, cs_X zc) j) else none) = if j < 4 then some (cSh zc j) else none
    simp [cSh, cs_i, cs_n, cs_I, cs_L, cs_N, cs_S, cs_X, va_up]
  · show (if j < 4 then some (cSc cA (cs_i zc, cs_n zc, cs_I zc, va_up (cs_L zc) 4 (va_up (cs_L zc 4) jt ((cs_L zc 4 jt) + pn.toInt64)), cs_N zc, cs_S zc, cs_X zc) j) else none) = if j < 4 then some (cSc cA zc j) else none
    simp [cSc, cs_i, cs_n, cs_I, cs_L, cs_N, cs_S, cs_X, va_up]
  · show (none : Option (Nat × va_E)) = none; rfl
set_option maxHeartbeats 4000000 in
set_option maxRecDepth 100000 in
theorem K_spend (l : Launch) (dC : Nat → ClassId) (dI : Nat → Nat → Nat) (cA : Nat → ClassId) (sz : Nat) (zc : CS) (t : Int32) (wh : Int32) (pn : Int32) (hI : invC zc) : Met l yX10_spend wsX10_spend ({ frames := 2, cells := 0, slots := 0, locals := 60 }) (kw (dC, dI) (ctys cA) (cF cA zc) sz [.ref (cs_X zc 0 0), .int t, .int wh, .int pn]) (kQl (dC, dI) (ctys cA) (cF cA zc) sz (cF cA) (fun r u => (invC u ∧ cs_X u 0 0 = cs_X zc 0 0) ∧ pC_spend zc t wh pn r u)) 0 0 (kA (cF cA zc) sz) := by
  refine kw_met (cc := cX10_spend) (maxL := 5) (ret := (some .long)) (by decide) rfl (Nat.le_of_ble_eq_true rfl) ?_
  intro p e s m below meth c0 hx hb hr hml hown hlocks hnm hts hPk hKk hDk hN hsz ls hl
  subst hsz
  have hK : va_K (dC, dI) vwCl [(cA 0, .int), (cA 1, .object RX6), (cA 2, .object RX2), (cA 3, .object RX8), (cA 4, .object RX5), (cA 5, .object RX7)] s := hKk
  obtain ⟨⟨hn0, hn1, hn2, hn3, hn4, hn5⟩, hpi, hgk, htk, hpk, hsh⟩ := id hI
  have hl : lv_has ls 5 [(0, .ref (cs_X zc 0 0)), (1, .int t), (2, .int wh), (3, .int pn)] := hl
  have hiX8 : ∀ w ∈ wsX80, w ∈ wsX10_spend := by decide +kernel
  generalize hQ : MQ _ _ _ _ _ _ _ = Q
  rcases ixd t (cs_n zc 2) with hnojt | ⟨jt, hjt, rfl⟩
  · skip
    have hks : kAll (cF cA zc) [(0, 0), (0, 8)] [cTP zc, cR8 cA zc] := ⟨(kF_tp (cA := cA) (z := zc)), (kF_r8 (cA := cA) (z := zc)), trivial⟩
    have hP : va_P (dC, dI) vwCl [cTP zc, cR8 cA zc] s.heap := kAll_P hPk hks
    have hD : va_D (va_A [cTP zc, cR8 cA zc] s.heap.size) [cTP zc, cR8 cA zc] := (kAll_D hDk hks (by simp)).self
    have hA : ∀ q : Nat, s.heap.size ≤ q → va_A [cTP zc, cR8 cA zc] s.heap.size q := fun q h => Or.inr h
    have hS : va_S (va_A [cTP zc, cR8 cA zc] s.heap.size) s.heap s.heap [] := va_S.rf
    refine lv_aload_n hx hb dX10_spend_0 rfl (lv_at hl 0 rfl) ?_
    refine lv_iload_n hx hb dX10_spend_1 rfl (lv_at hl 1 rfl) ?_
    have hPc := hP.sub (ws' := [cTP zc]) [0] rfl
    have hDc := hD.sub (ws' := [cTP zc]) [0] (by decide) rfl
    have hKc := hK.sub (tys' := []) [] rfl
    refine va_csq (va_Run.run (va_runV (As := [.int t]) (rest := []) ⟨hx, hb, hml, hown, hts⟩ (s_takeAt_no l dC dI  _ (cs_X zc 0 0) (.ref (cs_X zc 0 1)) (.ref (cs_X zc 0 6)) (.ref (cs_X zc 0 7)) (.ref (cs_X zc 0 8)) (.ref (cs_X zc 0 9)) (.ref (cs_X zc 0 10)) (.ref (cs_X zc 0 11)) (.int (nI (cs_n zc 0))) (.int (nI (cs_n zc 1))) (.int (nI (cs_n zc 3))) (va_rf (opN (cs_n zc 4) (fun _ => cs_X zc 5 0))) (.int (cs_i zc 2)) t (cs_n zc 2) (by omega) hnojt) (cwV 1 hts gX10_spend_X10_takeAt rfl rfl rfl (by decide +kernel) ⟨Nat.le_of_ble_eq_true rfl, Nat.le_of_ble_eq_true rfl⟩) (pw_preV (va_recv hKc hPc (ci := 10) (q0 := 0) rfl rfl) hPc hKc hDc hN) rfl rfl hl.1 rfl (lv_room (Nat.le_of_ble_eq_true rfl)) dX10_spend_2 ⟨Nat.le_of_ble_eq_true rfl, Nat.le_of_ble_eq_true rfl⟩)) (fun r1 hr1 => ?_)
    have hr1 : r1 = none := hr1
    subst hr1
    refine W.eq (g2 := F0 m 5 ls [.null]) rfl ?_
    refine lv_astoreN (lv' := [(4, .null), (0, .ref (cs_X zc 0 0)), (1, .int t), (2, .int wh), (3, .int pn)]) hx hb dX10_spend_5 hl (by decide) rfl (fun ls hl => ?_)
    refine lv_aloadN hx hb dX10_spend_7 (lv_at hl 0 rfl) ?_
    refine lv_ifnullN (tgt := 31) hx hb dX10_spend_9 (by decide) ?_
    refine lv_ldc2 (v := (-9223372036854775808)) hx hb hown (hts (.constantLong RX10 137 (-9223372036854775808)) (by decide +kernel)) dX10_spend_31 ?_
    subst hQ
    exact W.lret (v := (-9223372036854775808)) hx hb hr (fun t ht hW => ⟨⟨(-9223372036854775808), zc, rfl, ⟨⟨hI, rfl⟩, (Or.inl ⟨hnojt, rfl, rfl⟩)⟩, (by rw [ht]; exact hPk), va_K.moved hW.alike hKk, kDA_self hDk⟩, (kw_same hPk ht).2⟩) (fun q h => absurd h List.not_mem_nil) dX10_spend_34
  · skip
    have hks : kAll (cF cA zc) [(0, 0), (0, 8), (3, jt)] [cTP zc, cR8 cA zc, cTa zc jt] := ⟨(kF_tp (cA := cA) (z := zc)), (kF_r8 (cA := cA) (z := zc)), (kF_ta (z := zc) hjt), trivial⟩
    have hP : va_P (dC, dI) vwCl [cTP zc, cR8 cA zc, cTa zc jt] s.heap := kAll_P hPk hks
    have hD : va_D (va_A [cTP zc, cR8 cA zc, cTa zc jt] s.heap.size) [cTP zc, cR8 cA zc, cTa zc jt] := (kAll_D hDk hks (by simp)).self
    have hA : ∀ q : Nat, s.heap.size ≤ q → va_A [cTP zc, cR8 cA zc, cTa zc jt] s.heap.size q := fun q h => Or.inr h
    have hS : va_S (va_A [cTP zc, cR8 cA zc, cTa zc jt] s.heap.size) s.heap s.heap [] := va_S.rf
    refine lv_aload_n hx hb dX10_spend_0 rfl (lv_at hl 0 rfl) ?_
    refine lv_iload_n hx hb dX10_spend_1 rfl (lv_at hl 1 rfl) ?_
    have hPc := hP.sub (ws' := [cTP zc, cR8 cA zc]) [0, 1] rfl
    have hDc := hD.sub (ws' := [cTP zc, cR8 cA zc]) [0, 1] (by decide) rfl
    have hKc := hK.sub (tys' := [(cA 3, .object RX8)]) [3] rfl
    refine va_csq (va_Run.run (va_runV (As := [.int (nI jt)]) (rest := []) ⟨hx, hb, hml, hown, hts⟩ (s_takeAt_yes l dC dI (cA 3) _ (cs_X zc 0 0) (.ref (cs_X zc 0 1)) (.ref (cs_X zc 0 6)) (.ref (cs_X zc 0 7)) (.ref (cs_X zc 0 9)) (.ref (cs_X zc 0 10)) (.ref (cs_X zc 0 11)) (.int (nI (cs_n zc 0))) (.int (nI (cs_n zc 1))) (.int (nI (cs_n zc 3))) (va_rf (opN (cs_n zc 4) (fun _ => cs_X zc 5 0))) (.int (cs_i zc 2)) (cs_X zc 0 8) jt (cs_n zc 2) (cs_X zc 3 jt) (rfN (cs_n zc 2) (cs_X zc 3)) hjt (by omega) (rfN_at hjt)) (cwV 1 hts gX10_spend_X10_takeAt rfl rfl rfl (by decide +kernel) ⟨Nat.le_of_ble_eq_true rfl, Nat.le_of_ble_eq_true rfl⟩) (pw_preV (va_recv hKc hPc (ci := 10) (q0 := 0) rfl rfl) hPc hKc hDc hN) rfl rfl hl.1 rfl (lv_room (Nat.le_of_ble_eq_true rfl)) dX10_spend_2 ⟨Nat.le_of_ble_eq_true rfl, Nat.le_of_ble_eq_true rfl⟩)) (fun r2 hr2 => ?_)
    have hr2 : r2 = some (cs_X zc 3 jt) := hr2
    subst hr2
    refine W.eq (g2 := F0 m 5 ls [.ref (cs_X zc 3 jt)]) rfl ?_
    refine lv_astore (lv' := [(4, .ref (cs_X zc 3 jt)), (0, .ref (cs_X zc 0 0)), (1, .int (nI jt)), (2, .int wh), (3, .int pn)]) hx hb dX10_spend_5 hl (by decide) rfl (fun ls hl => ?_)
    refine lv_aload hx hb dX10_spend_7 (lv_at hl 0 rfl) ?_
    refine lv_ifnull hx hb dX10_spend_9 ?_
    refine lv_iload_n hx hb dX10_spend_12 rfl (lv_at hl 3 rfl) ?_
    refine lv_iconst (v := 0) hx hb dX10_spend_13 (by decide) ?_
    refine lv_iconst (v := 1) hx hb dX10_spend_14 (by decide) ?_
    refine vp_callSi (va_Run.run (va_runS (As := [.int wh, .int 0, .int 1]) (rest := []) ⟨hx, hb, hml, hown, hts⟩ (c_X10_isWithin l wh 0 1 ) (va_cwS 3 hts gX10_spend_X10_isWithin rfl rfl rfl (by decide +kernel) ⟨Nat.le_of_ble_eq_true rfl, Nat.le_of_ble_eq_true rfl⟩) (p0_preS hN) rfl rfl hl.1 rfl (lv_room (Nat.le_of_ble_eq_true rfl)) dX10_spend_15 ⟨Nat.le_of_ble_eq_true rfl, Nat.le_of_ble_eq_true rfl⟩)) (fun r3 hr3 => ?_)
    have hr3 : r3 = if 0 ≤ wh ∧ wh ≤ 1 then 1 else 0 := hr3
    refine lv_if_eq (tgt := 31) hx hb dX10_spend_18 (by decide) (fun c4 => ?_) (fun c4 => ?_)
    · skip
      have c4 := (fa_bool_prop hr3).1.mp c4
      refine lv_ldc2 (v := (-9223372036854775808)) hx hb hown (hts (.constantLong RX10 137 (-9223372036854775808)) (by decide +kernel)) dX10_spend_31 ?_
      subst hQ
      exact W.lret (v := (-9223372036854775808)) hx hb hr (fun t ht hW => ⟨⟨(-9223372036854775808), zc, rfl, ⟨⟨hI, rfl⟩, (Or.inr (Or.inl ⟨jt, rfl, hjt, c4, rfl, rfl⟩))⟩, (by rw [ht]; exact hPk), va_K.moved hW.alike hKk, kDA_self hDk⟩, (kw_same hPk ht).2⟩) (fun q h => absurd h List.not_mem_nil) dX10_spend_34
    · skip
      have c4 := (fa_bool_prop hr3).2.mp c4
      refine lv_iload_n hx hb dX10_spend_21 rfl (lv_at hl 4 rfl) ?_
      refine lv_iconst (v := 0) hx hb dX10_spend_22 (by decide) ?_
      refine lv_ldc (v := 100000) hx hb hown (hts (.constant RX10 252 (100000)) (by decide +kernel)) dX10_spend_23 ?_
      refine vp_callSi (va_Run.run (va_runS (As := [.int pn, .int 0, .int 100000]) (rest := []) ⟨hx, hb, hml, hown, hts⟩ (c_X10_isWithin l pn 0 100000 ) (va_cwS 3 hts gX10_spend_X10_isWithin rfl rfl rfl (by decide +kernel) ⟨Nat.le_of_ble_eq_true rfl, Nat.le_of_ble_eq_true rfl⟩) (p0_preS hN) rfl rfl hl.1 rfl (lv_room (Nat.le_of_ble_eq_true rfl)) dX10_spend_25 ⟨Nat.le_of_ble_eq_true rfl, Nat.le_of_ble_eq_true rfl⟩)) (fun r5 hr5 => ?_)
      have hr5 : r5 = if 0 ≤ pn ∧ pn ≤ 100000 then 1 else 0 := hr5
      refine lv_if_ne (tgt := 35) hx hb dX10_spend_28 (by decide) (fun c6 => ?_) (fun c6 => ?_)
      · skip
        have c6 := (fa_bool_prop hr5).2.mp c6
        refine lv_aload hx hb dX10_spend_35 (lv_at hl 0 rfl) ?_
        refine va_get (D := (dC, dI)) (ci := 8) (v := .int (cs_I zc 33 jt)) (C := RX8) (T := TX8) (N := 12) hx hb hts hiX8 hown hK hP 2 rfl rfl 11 (by decide) (hts (.fieldLink RX10 238 "TributePitches$Take" "settled" "Z") (by decide +kernel)) (fun _ h9 => h9) rfl dX10_spend_37 ?_
        refine lv_if_eq (tgt := 47) hx hb dX10_spend_40 (by decide) (fun c7 => ?_) (fun c7 => ?_)
        · skip
          refine lv_iload_n hx hb dX10_spend_47 rfl (lv_at hl 3 rfl) ?_
          refine lv_if_ne (tgt := 69) hx hb dX10_spend_48 (by decide) (fun c8 => ?_) (fun c8 => ?_)
          · skip
            refine lv_aload hx hb dX10_spend_69 (lv_at hl 0 rfl) ?_
            refine lv_dup hx hb dX10_spend_71 rfl ?_
            refine va_get (D := (dC, dI)) (ci := 8) (v := .long (cs_L zc 5 jt)) (C := RX8) (T := TX8) (N := 12) hx hb hts hiX8 hown hK hP 2 rfl rfl 8 (by decide) (hts (.fieldLink RX10 256 "TributePitches$Take" "ahead" "J") (by decide +kernel)) (fun _ h9 => h9) rfl dX10_spend_72 ?_
            refine lv_iload_n hx hb dX10_spend_75 rfl (lv_at hl 4 rfl) ?_
            refine lv_i2l (v := pn.toInt64) hx hb dX10_spend_76 rfl ?_
            refine lv_ladd hx hb dX10_spend_77 ?_
            refine va_put (D := (dC, dI)) (ci := 8) (v := .long ((cs_L zc 5 jt) + pn.toInt64)) (ty := .long) (C := RX8) (T := TX8) (N := 12) hx hb hts hiX8 tyX8 tyX8_ok nmX8 hown hK hP hD hS 2 rfl rfl 8 (by decide) (hts (.fieldLink RX10 256 "TributePitches$Take" "ahead" "J") (by decide +kernel)) (fun _ h9 => h9) rfl (by decide +kernel) rfl rfl (Nat.le_of_ble_eq_true rfl) dX10_spend_78 (fun H locs hP hD hS => ?_)
            have hP : va_P (dC, dI) vwCl [cTP zc, cR8 cA zc, (cs_X zc 3 jt, .inr (8, [.int (nI jt), .int (cs_I zc 31 jt), .ref (cs_X zc 2 (cs_N zc 2 jt)), .ref (cs_X zc 1 (cs_N zc 3 jt)), .long (cs_L zc 1 jt), .long (cs_L zc 2 jt), .long (cs_L zc 3 jt), .long (cs_L zc 4 jt), .long ((cs_L zc 5 jt) + pn.toInt64), .long (cs_L zc 6 jt), .int (cs_I zc 32 jt), .int (cs_I zc 33 jt)]))] H := hP
            have hD : va_D _ [cTP zc, cR8 cA zc, (cs_X zc 3 jt, .inr (8, [.int (nI jt), .int (cs_I zc 31 jt), .ref (cs_X zc 2 (cs_N zc 2 jt)), .ref (cs_X zc 1 (cs_N zc 3 jt)), .long (cs_L zc 1 jt), .long (cs_L zc 2 jt), .long (cs_L zc 3 jt), .long (cs_L zc 4 jt), .long ((cs_L zc 5 jt) + pn.toInt64), .long (cs_L zc 6 jt), .int (cs_I zc 32 jt), .int (cs_I zc 33 jt)]))] := hD
            refine lv_aload hx hb dX10_spend_81 (lv_at hl 0 rfl) ?_
            refine va_get (D := (dC, dI)) (ci := 8) (v := .long ((cs_L zc 5 jt) + pn.toInt64)) (C := RX8) (T := TX8) (N := 12) hx hb hts hiX8 hown hK hP 2 rfl rfl 8 (by decide) (hts (.fieldLink RX10 256 "TributePitches$Take" "ahead" "J") (by decide +kernel)) (fun _ h9 => h9) rfl dX10_spend_83 ?_
            subst hQ
            have hP9 : va_P (dC, dI) vwCl [cTP zc, cR8 cA zc, (cs_X zc 3 jt, .inr (8, [.int (nI jt), .int (cs_I zc 31 jt), .ref (cs_X zc 2 (cs_N zc 2 jt)), .ref (cs_X zc 1 (cs_N zc 3 jt)), .long (cs_L zc 1 jt), .long (cs_L zc 2 jt), .long (cs_L zc 3 jt), .long (cs_L zc 4 jt), .long ((cs_L zc 5 jt) + pn.toInt64), .long (cs_L zc 6 jt), .int (cs_I zc 32 jt), .int (cs_I zc 33 jt)]))] H := hP.sub [0, 1, 2] rfl
            have hD9 : va_D (va_A [cTP zc, cR8 cA zc, cTa zc jt] s.heap.size) [cTP zc, cR8 cA zc, (cs_X zc 3 jt, .inr (8, [.int (nI jt), .int (cs_I zc 31 jt), .ref (cs_X zc 2 (cs_N zc 2 jt)), .ref (cs_X zc 1 (cs_N zc 3 jt)), .long (cs_L zc 1 jt), .long (cs_L zc 2 jt), .long (cs_L zc 3 jt), .long (cs_L zc 4 jt), .long ((cs_L zc 5 jt) + pn.toInt64), .long (cs_L zc 6 jt), .int (cs_I zc 32 jt), .int (cs_I zc 33 jt)]))] := hD.sub [0, 1, 2] (by decide) rfl
            have hlf := lf_spend_2 cA zc wh pn jt hjt c4 c6 c7 c8 hI
            exact W.lret (v := (cs_L zc 5 jt) + pn.toInt64) hx hb hr (fun t ht hW => have hJ := kjoin hPk hDk hks rfl (hS.F ht) (by rw [ht]; exact hP9) hD9 hlf.2.1 hlf.2.2; ⟨⟨(cs_L zc 5 jt) + pn.toInt64, (cs_i zc, cs_n zc, cs_I zc, va_up (cs_L zc) 5 (va_up (cs_L zc 5) jt ((cs_L zc 5 jt) + pn.toInt64)), cs_N zc, cs_S zc, cs_X zc), rfl, ⟨⟨hlf.1, rfl⟩, (Or.inr (Or.inr (Or.inl ⟨jt, rfl, hjt, c4, c6, c7, c8, rfl, rfl⟩)))⟩, hJ.1, va_K.moved hW.alike hKk, hJ.2.1⟩, hJ.2.2⟩) (fun q h => kAll_A hks _ (hS.2.2 q h)) dX10_spend_86
          · skip
            refine lv_aload hx hb dX10_spend_51 (lv_at hl 0 rfl) ?_
            refine lv_dup hx hb dX10_spend_53 rfl ?_
            refine va_get (D := (dC, dI)) (ci := 8) (v := .long (cs_L zc 4 jt)) (C := RX8) (T := TX8) (N := 12) hx hb hts hiX8 hown hK hP 2 rfl rfl 7 (by decide) (hts (.fieldLink RX10 253 "TributePitches$Take" "costs" "J") (by decide +kernel)) (fun _ h9 => h9) rfl dX10_spend_54 ?_
            refine lv_iload_n hx hb dX10_spend_57 rfl (lv_at hl 4 rfl) ?_
            refine lv_i2l (v := pn.toInt64) hx hb dX10_spend_58 rfl ?_
            refine lv_ladd hx hb dX10_spend_59 ?_
            refine va_put (D := (dC, dI)) (ci := 8) (v := .long ((cs_L zc 4 jt) + pn.toInt64)) (ty := .long) (C := RX8) (T := TX8) (N := 12) hx hb hts hiX8 tyX8 tyX8_ok nmX8 hown hK hP hD hS 2 rfl rfl 7 (by decide) (hts (.fieldLink RX10 253 "TributePitches$Take" "costs" "J") (by decide +kernel)) (fun _ h9 => h9) rfl (by decide +kernel) rfl rfl (Nat.le_of_ble_eq_true rfl) dX10_spend_60 (fun H locs hP hD hS => ?_)
            have hP : va_P (dC, dI) vwCl [cTP zc, cR8 cA zc, (cs_X zc 3 jt, .inr (8, [.int (nI jt), .int (cs_I zc 31 jt), .ref (cs_X zc 2 (cs_N zc 2 jt)), .ref (cs_X zc 1 (cs_N zc 3 jt)), .long (cs_L zc 1 jt), .long (cs_L zc 2 jt), .long (cs_L zc 3 jt), .long ((cs_L zc 4 jt) + pn.toInt64), .long (cs_L zc 5 jt), .long (cs_L zc 6 jt), .int (cs_I zc 32 jt), .int (cs_I zc 33 jt)]))] H := hP
            have hD : va_D _ [cTP zc, cR8 cA zc, (cs_X zc 3 jt, .inr (8, [.int (nI jt), .int (cs_I zc 31 jt), .ref (cs_X zc 2 (cs_N zc 2 jt)), .ref (cs_X zc 1 (cs_N zc 3 jt)), .long (cs_L zc 1 jt), .long (cs_L zc 2 jt), .long (cs_L zc 3 jt), .long ((cs_L zc 4 jt) + pn.toInt64), .long (cs_L zc 5 jt), .long (cs_L zc 6 jt), .int (cs_I zc 32 jt), .int (cs_I zc 33 jt)]))] := hD
            refine lv_aload hx hb dX10_spend_63 (lv_at hl 0 rfl) ?_
            refine va_get (D := (dC, dI)) (ci := 8) (v := .long ((cs_L zc 4 jt) + pn.toInt64)) (C := RX8) (T := TX8) (N := 12) hx hb hts hiX8 hown hK hP 2 rfl rfl 7 (by decide) (hts (.fieldLink RX10 253 "TributePitches$Take" "costs" "J") (by decide +kernel)) (fun _ h9 => h9) rfl dX10_spend_65 ?_
            subst hQ
            have hP9 : va_P (dC, dI) vwCl [cTP zc, cR8 cA zc, (cs_X zc 3 jt, .inr (8, [.int (nI jt), .int (cs_I zc 31 jt), .ref (cs_X zc 2 (cs_N zc 2 jt)), .ref (cs_X zc 1 (cs_N zc 3 jt)), .long (cs_L zc 1 jt), .long (cs_L zc 2 jt), .long (cs_L zc 3 jt), .long ((cs_L zc 4 jt) + pn.toInt64), .long (cs_L zc 5 jt), .long (cs_L zc 6 jt), .int (cs_I zc 32 jt), .int (cs_I zc 33 jt)]))] H := hP.sub [0, 1, 2] rfl
            have hD9 : va_D (va_A [cTP zc, cR8 cA zc, cTa zc jt] s.heap.size) [cTP zc, cR8 cA zc, (cs_X zc 3 jt, .inr (8, [.int (nI jt), .int (cs_I zc 31 jt), .ref (cs_X zc 2 (cs_N zc 2 jt)), .ref (cs_X zc 1 (cs_N zc 3 jt)), .long (cs_L zc 1 jt), .long (cs_L zc 2 jt), .long (cs_L zc 3 jt), .long ((cs_L zc 4 jt) + pn.toInt64), .long (cs_L zc 5 jt), .long (cs_L zc 6 jt), .int (cs_I zc 32 jt), .int (cs_I zc 33 jt)]))] := hD.sub [0, 1, 2] (by decide) rfl
            have hlf := lf_spend_3 cA zc wh pn jt hjt c4 c6 c7 c8 hI
            exact W.lret (v := (cs_L zc 4 jt) + pn.toInt64) hx hb hr (fun t ht hW => have hJ := kjoin hPk hDk hks rfl (hS.F ht) (by rw [ht]; exact hP9) hD9 hlf.2.1 hlf.2.2; ⟨⟨(cs_L zc 4 jt) + pn.toInt64, (cs_i zc, cs_n zc, cs_I zc, va_up (cs_L zc) 4 (va_up (cs_L zc 4) jt ((cs_L zc 4 jt) + pn.toInt64)), cs_N zc, cs_S zc, cs_X zc), rfl, ⟨⟨hlf.1, rfl⟩, (Or.inr (Or.inr (Or.inr (Or.inl ⟨jt, rfl, hjt, c4, c6, c7, c8, rfl, rfl⟩))))⟩, hJ.1, va_K.moved hW.alike hKk, hJ.2.1⟩, hJ.2.2⟩) (fun q h => kAll_A hks _ (hS.2.2 q h)) dX10_spend_68
        · skip
          refine lv_ldc2 (v := (-9223372036854775808)) hx hb hown (hts (.constantLong RX10 137 (-9223372036854775808)) (by decide +kernel)) dX10_spend_43 ?_
          subst hQ
          exact W.lret (v := (-9223372036854775808)) hx hb hr (fun t ht hW => ⟨⟨(-9223372036854775808), zc, rfl, ⟨⟨hI, rfl⟩, (Or.inr (Or.inr (Or.inr (Or.inr (Or.inl ⟨jt, rfl, hjt, c4, c6, c7, rfl, rfl⟩)))))⟩, (by rw [ht]; exact hPk), va_K.moved hW.alike hKk, kDA_self hDk⟩, (kw_same hPk ht).2⟩) (fun q h => absurd h List.not_mem_nil) dX10_spend_46
      · skip
        have c6 := (fa_bool_prop hr5).1.mp c6
        refine lv_ldc2 (v := (-9223372036854775808)) hx hb hown (hts (.constantLong RX10 137 (-9223372036854775808)) (by decide +kernel)) dX10_spend_31 ?_
        subst hQ
        exact W.lret (v := (-9223372036854775808)) hx hb hr (fun t ht hW => ⟨⟨(-9223372036854775808), zc, rfl, ⟨⟨hI, rfl⟩, (Or.inr (Or.inr (Or.inr (Or.inr (Or.inr ⟨jt, rfl, hjt, c4, c6, rfl, rfl⟩)))))⟩, (by rw [ht]; exact hPk), va_K.moved hW.alike hKk, kDA_self hDk⟩, (kw_same hPk ht).2⟩) (fun q h => absurd h List.not_mem_nil) dX10_spend_34
