def pC_copy (zc : CS) (k : Int32) (ix : Int32) (ot : Int32) (jx : Int32) (n : Int32) (r : Int32) (u : CS) : Prop :=
  ((∀ j, j < 4 → k ≠ nI j) ∧ (∀ j, j < 4 → ot ≠ nI j) ∧ r = ((-1)) ∧ u = (va_up (cs_i zc) 2 0, cs_n zc, cs_I zc, cs_L zc, cs_N zc, cs_S zc, cs_X zc)) ∨
  ((∀ j, j < 4 → k ≠ nI j) ∧ ∃ jo : Nat, ot = nI jo ∧ (jo < 4) ∧ r = ((-1)) ∧ u = (va_up (cs_i zc) 2 0, cs_n zc, cs_I zc, cs_L zc, cs_N zc, cs_S zc, cs_X zc)) ∨
  (∃ js : Nat, k = nI js ∧ (js < 4) ∧ (∀ j, j < 4 → ot ≠ nI j) ∧ r = ((-1)) ∧ u = (va_up (cs_i zc) 2 0, cs_n zc, cs_I zc, cs_L zc, cs_N zc, cs_S zc, cs_X zc)) ∨
  (∃ js : Nat, k = nI js ∧ (js < 4) ∧ ot = nI js ∧ ((cs_I zc 8 js) = -1) ∧ r = (-10 - 1) ∧ u = (va_up (cs_i zc) 2 1, cs_n zc, cs_I zc, cs_L zc, cs_N zc, cs_S zc, cs_X zc)) ∨
  (∃ js : Nat, k = nI js ∧ (js < 4) ∧ ot = nI js ∧ (¬ ((cs_I zc 8 js) = -1)) ∧ (¬ ((cs_I zc 8 js) = -1)) ∧ ((cs_I zc 8 js) = (cs_I zc 8 js)) ∧ (¬ (0 ≤ ix ∧ 0 ≤ n ∧ ix.toInt64 + n.toInt64 ≤ (cs_I zc 9 js).toInt64)) ∧ r = (-10 - 3) ∧ u = (va_up (cs_i zc) 2 3, cs_n zc, cs_I zc, cs_L zc, cs_N zc, cs_S zc, cs_X zc)) ∨
  (∃ js : Nat, k = nI js ∧ (js < 4) ∧ ot = nI js ∧ (¬ ((cs_I zc 8 js) = -1)) ∧ (¬ ((cs_I zc 8 js) = -1)) ∧ ((cs_I zc 8 js) = (cs_I zc 8 js)) ∧ ∃ ia : Nat, ∃ ja : Nat, ∃ nn2 : Nat, ix = nI ia ∧ jx = nI ja ∧ n = nI nn2 ∧ (ia + nn2 ≤ 48) ∧ (ja + nn2 ≤ 48) ∧ (((ia + nn2 : Nat) : Int) ≤ (cs_I zc 9 js).toInt) ∧ (((ja + nn2 : Nat) : Int) ≤ (cs_I zc 9 js).toInt) ∧ r = (nI nn2) ∧ u = (va_up (cs_i zc) 2 0, cs_n zc, cs_I zc, cs_L zc, cs_N zc, va_up (cs_S zc) js (va_cpy (cs_S zc js) (cs_S zc js) ia ja nn2), cs_X zc)) ∨
  (∃ js : Nat, k = nI js ∧ (js < 4) ∧ ot = nI js ∧ (¬ ((cs_I zc 8 js) = -1)) ∧ (¬ ((cs_I zc 8 js) = -1)) ∧ ((cs_I zc 8 js) = (cs_I zc 8 js)) ∧ (0 ≤ ix ∧ 0 ≤ n ∧ ix.toInt64 + n.toInt64 ≤ (cs_I zc 9 js).toInt64) ∧ (¬ (0 ≤ jx ∧ 0 ≤ n ∧ jx.toInt64 + n.toInt64 ≤ (cs_I zc 9 js).toInt64)) ∧ r = (-10 - 3) ∧ u = (va_up (cs_i zc) 2 3, cs_n zc, cs_I zc, cs_L zc, cs_N zc, cs_S zc, cs_X zc)) ∨
  (∃ js : Nat, k = nI js ∧ (js < 4) ∧ ot = nI js ∧ (¬ ((cs_I zc 8 js) = -1)) ∧ (¬ ((cs_I zc 8 js) = -1)) ∧ (¬ (cs_I zc 8 js) = (cs_I zc 8 js)) ∧ r = (-10 - 2) ∧ u = (va_up (cs_i zc) 2 2, cs_n zc, cs_I zc, cs_L zc, cs_N zc, cs_S zc, cs_X zc)) ∨
  (∃ js : Nat, k = nI js ∧ (js < 4) ∧ ot = nI js ∧ (¬ ((cs_I zc 8 js) = -1)) ∧ ((cs_I zc 8 js) = -1) ∧ r = (-10 - 1) ∧ u = (va_up (cs_i zc) 2 1, cs_n zc, cs_I zc, cs_L zc, cs_N zc, cs_S zc, cs_X zc)) ∨
  (∃ js : Nat, k = nI js ∧ (js < 4) ∧ ∃ jo : Nat, ot = nI jo ∧ (jo < 4) ∧ (¬ js = jo) ∧ ((cs_I zc 8 js) = -1) ∧ r = (-10 - 1) ∧ u = (va_up (cs_i zc) 2 1, cs_n zc, cs_I zc, cs_L zc, cs_N zc, cs_S zc, cs_X zc)) ∨
  (∃ js : Nat, k = nI js ∧ (js < 4) ∧ ∃ jo : Nat, ot = nI jo ∧ (jo < 4) ∧ (¬ js = jo) ∧ (¬ ((cs_I zc 8 js) = -1)) ∧ (¬ ((cs_I zc 8 jo) = -1)) ∧ ((cs_I zc 8 js) = (cs_I zc 8 jo)) ∧ (¬ (0 ≤ ix ∧ 0 ≤ n ∧ ix.toInt64 + n.toInt64 ≤ (cs_I zc 9 js).toInt64)) ∧ r = (-10 - 3) ∧ u = (va_up (cs_i zc) 2 3, cs_n zc, cs_I zc, cs_L zc, cs_N zc, cs_S zc, cs_X zc)) ∨
  (∃ js : Nat, k = nI js ∧ (js < 4) ∧ ∃ jo : Nat, ot = nI jo ∧ (jo < 4) ∧ (¬ js = jo) ∧ (¬ ((cs_I zc 8 js) = -1)) ∧ (¬ ((cs_I zc 8 jo) = -1)) ∧ ((cs_I zc 8 js) = (cs_I zc 8 jo)) ∧ ∃ ia : Nat, ∃ ja : Nat, ∃ nn2 : Nat, ix = nI ia ∧ jx = nI ja ∧ n = nI nn2 ∧ (ia + nn2 ≤ 48) ∧ (ja + nn2 ≤ 48) ∧ (((ia + nn2 : Nat) : Int) ≤ (cs_I zc 9 js).toInt) ∧ (((ja + nn2 : Nat) : Int) ≤ (cs_I zc 9 jo).toInt) ∧ r = (nI nn2) ∧ u = (va_up (cs_i zc) 2 0, cs_n zc, cs_I zc, cs_L zc, cs_N zc, va_up (cs_S zc) jo (va_cpy (cs_S zc js) (cs_S zc jo) ia ja nn2), cs_X zc)) ∨
  (∃ js : Nat, k = nI js ∧ (js < 4) ∧ ∃ jo : Nat, ot = nI jo ∧ (jo < 4) ∧ (¬ js = jo) ∧ (¬ ((cs_I zc 8 js) = -1)) ∧ (¬ ((cs_I zc 8 jo) = -1)) ∧ ((cs_I zc 8 js) = (cs_I zc 8 jo)) ∧ (0 ≤ ix ∧ 0 ≤ n ∧ ix.toInt64 + n.toInt64 ≤ (cs_I zc 9 js).toInt64) ∧ (¬ (0 ≤ jx ∧ 0 ≤ n ∧ jx.toInt64 + n.toInt64 ≤ (cs_I zc 9 jo).toInt64)) ∧ r = (-10 - 3) ∧ u = (va_up (cs_i zc) 2 3, cs_n zc, cs_I zc, cs_L zc, cs_N zc, cs_S zc, cs_X zc)) ∨
  (∃ js : Nat, k = nI js ∧ (js < 4) ∧ ∃ jo : Nat, ot = nI jo ∧ (jo < 4) ∧ (¬ js = jo) ∧ (¬ ((cs_I zc 8 js) = -1)) ∧ (¬ ((cs_I zc 8 jo) = -1)) ∧ (¬ (cs_I zc 8 js) = (cs_I zc 8 jo)) ∧ r = (-10 - 2) ∧ u = (va_up (cs_i zc) 2 2, cs_n zc, cs_I zc, cs_L zc, cs_N zc, cs_S zc, cs_X zc)) ∨
  (∃ js : Nat, k = nI js ∧ (js < 4) ∧ ∃ jo : Nat, ot = nI jo ∧ (jo < 4) ∧ (¬ js = jo) ∧ (¬ ((cs_I zc 8 js) = -1)) ∧ ((cs_I zc 8 jo) = -1) ∧ r = (-10 - 1) ∧ u = (va_up (cs_i zc) 2 1, cs_n zc, cs_I zc, cs_L zc, cs_N zc, cs_S zc, cs_X zc))
set_option maxHeartbeats 4000000 in
theorem lf_copy_0 (cA : Nat → ClassId) (zc : CS) (k : Int32) (ix : Int32) (ot : Int32) (jx : Int32) (n : Int32) (hnojs : ∀ j, j < 4 → k ≠ nI j) (hnojo : ∀ j, j < 4 → ot ≠ nI j) (hI : invC zc) : invC (va_up (cs_i zc) 2 0, cs_n zc, cs_I zc, cs_L zc, cs_N zc, cs_S zc, cs_X zc) ∧ kAll (cF cA (va_up (cs_i zc) 2 0, cs_n zc, cs_I zc, cs_L zc, cs_N zc, cs_S zc, cs_X zc)) [(0, 0), (0, 10)] [(cs_X zc 0 0, .inr (10, [.ref (cs_X zc 0 1), .ref (cs_X zc 0 6), .ref (cs_X zc 0 7), .ref (cs_X zc 0 8), .ref (cs_X zc 0 9), .ref (cs_X zc 0 10), .ref (cs_X zc 0 11), .int (nI (cs_n zc 0)), .int (nI (cs_n zc 1)), .int (nI (cs_n zc 2)), .int (nI (cs_n zc 3)), va_rf (opN (cs_n zc 4) (fun _ => cs_X zc 5 0)), .int 0])), cR10 cA zc] ∧ ∀ i j, (i, j) ∉ ([(0, 0), (0, 10)] : List (Nat × Nat)) → cF cA (va_up (cs_i zc) 2 0, cs_n zc, cs_I zc, cs_L zc, cs_N zc, cs_S zc, cs_X zc) i j = none ∨ ((i, j) ∉ ([(0, 0), (0, 10)] : List (Nat × Nat)) ∧ cF cA (va_up (cs_i zc) 2 0, cs_n zc, cs_I zc, cs_L zc, cs_N zc, cs_S zc, cs_X zc) i j = cF cA zc i j) := by
  obtain ⟨⟨hn0, hn1, hn2, hn3, hn4, hn5⟩, hpi, hgk, htk, hpk, hsh⟩ := id hI
  refine ⟨hI, ⟨(by (rw [(kF_tp (cA := cA) (z := (va_up (cs_i zc) 2 0, cs_n zc, cs_I zc, cs_L zc, cs_N zc, cs_S zc, cs_X zc)))]) <;> simp [cTP, cTPN, cTPA, cLo, cA2, cA3, cA4, cA5, cR6, cR7, cR8, cR9, cR10, cTr, cPi, cPiN, cPiT, cGa, cGaK, cTa, cPa, cAu, cAuN, cAuB, cSh, cSc, cs_i, cs_n, cs_I, cs_L, cs_N, cs_S, cs_X, va_up, upd, opN]), (by (rw [(kF_r10 (cA := cA) (z := (va_up (cs_i zc) 2 0, cs_n zc, cs_I zc, cs_L zc, cs_N zc, cs_S zc, cs_X zc)))]) <;> simp [cTP, cTPN, cTPA, cLo, cA2, cA3, cA4, cA5, cR6, cR7, cR8, cR9, cR10, cTr, cPi, cPiN, cPiT, cGa, cGaK, cTa, cPa, cAu, cAuN, cAuB, cSh, cSc, cs_i, cs_n, cs_I, cs_L, cs_N, cs_S, cs_X, va_up, upd, opN]), trivial⟩, ?_⟩
  intro i j hij
  refine Or.inr ⟨hij, ?_⟩
  rcases i with _ | _ | _ | _ | _ | _ | _ | _ | i
  · rcases j with _ | _ | _ | _ | _ | _ | _ | _ | _ | _ | _ | _ | j
    · exact absurd (by simp) hij
    · show some (cLo (va_up (cs_i zc) 2 0, cs_n zc, cs_I zc, cs_L zc, cs_N zc, cs_S zc, cs_X zc)) = some (cLo zc); simp [cLo, cs_i, cs_n, cs_I, cs_L, cs_N, cs_S, cs_X, va_up]
    · show some (cA2 cA (va_up (cs_i zc) 2 0, cs_n zc, cs_I zc, cs_L zc, cs_N zc, cs_S zc, cs_X zc)) = some (cA2 cA zc); simp [cA2, cs_i, cs_n, cs_I, cs_L, cs_N, cs_S, cs_X, va_up]
    · show some (cA3 cA (va_up (cs_i zc) 2 0, cs_n zc, cs_I zc, cs_L zc, cs_N zc, cs_S zc, cs_X zc)) = some (cA3 cA zc); simp [cA3, cs_i, cs_n, cs_I, cs_L, cs_N, cs_S, cs_X, va_up]
    · show some (cA4 cA (va_up (cs_i zc) 2 0, cs_n zc, cs_I zc, cs_L zc, cs_N zc, cs_S zc, cs_X zc)) = some (cA4 cA zc); simp [cA4, cs_i, cs_n, cs_I, cs_L, cs_N, cs_S, cs_X, va_up]
    · show some (cA5 cA (va_up (cs_i zc) 2 0, cs_n zc, cs_I zc, cs_L zc, cs_N zc, cs_S zc, cs_X zc)) = some (cA5 cA zc); simp [cA5, cs_i, cs_n, cs_I, cs_L, cs_N, cs_S, cs_X, va_up]
    · show some (cR6 cA (va_up (cs_i zc) 2 0, cs_n zc, cs_I zc, cs_L zc, cs_N zc, cs_S zc, cs_X zc)) = some (cR6 cA zc); simp [cR6, cs_i, cs_n, cs_I, cs_L, cs_N, cs_S, cs_X, va_up]
    · show some (cR7 cA (va_up (cs_i zc) 2 0, cs_n zc, cs_I zc, cs_L zc, cs_N zc, cs_S zc, cs_X zc)) = some (cR7 cA zc); simp [cR7, cs_i, cs_n, cs_I, cs_L, cs_N, cs_S, cs_X, va_up]
    · show some (cR8 cA (va_up (cs_i zc) 2 0, cs_n zc, cs_I zc, cs_L zc, cs_N zc, cs_S zc, cs_X zc)) = some (cR8 cA zc); simp [cR8, cs_i, cs_n, cs_I, cs_L, cs_N, cs_S, cs_X, va_up]
    · show some (cR9 cA (va_up (cs_i zc) 2 0, cs_n zc, cs_I zc, cs_L zc, cs_N zc, cs_S zc, cs_X zc)) = some (cR9 cA zc); simp [cR9, cs_i, cs_n, cs_I, cs_L, cs_N, cs_S, cs_X, va_up]
    · exact absurd (by simp) hij
    · show some (cTr (va_up (cs_i zc) 2 0, cs_n zc, cs_I zc, cs_L zc, cs_N zc, cs_S zc, cs_X zc)) = some (cTr zc); simp [cTr, cs_i, cs_n, cs_I, cs_L, cs_N, cs_S, cs_X, va_up]
    · show (none : Option (Nat × va_E)) = none; rfl
  · show (if j < cs_n (va_up (cs_i zc) 2 0, cs_n zc, cs_I zc, cs_L zc, cs_N zc, cs_S zc, cs_X zc) 0 then some (cPi (va_up (cs_i zc) 2 0, cs_n zc, cs_I zc, cs_L zc, cs_N zc, cs_S zc, cs_X zc) j) else none) = if j < cs_n zc 0 then some (cPi zc j) else none
    simp [cPi, cs_i, cs_n, cs_I, cs_L, cs_N, cs_S, cs_X, va_up]
  · show (if j < cs_n (va_up (cs_i zc) 2 0, cs_n zc, cs_I zc, cs_L zc, cs_N zc, cs_S zc, cs_X zc) 1 then some (cGa (va_up (cs_i zc) 2 0, cs_n zc, cs_I zc, cs_L zc, cs_N zc, cs_S zc, cs_X zc) j) else none) = if j < cs_n zc 1 then some (cGa zc j) else none
    simp [cGa, cs_i, cs_n, cs_I, cs_L, cs_N, cs_S, cs_X, va_up]
  · show (if j < cs_n (va_up (cs_i zc) 2 0, cs_n zc, cs_I zc, cs_L zc, cs_N zc, cs_S zc, cs_X zc) 2 then some (cTa (va_up (cs_i zc) 2 0, cs_n zc, cs_I zc, cs_L zc, cs_N zc, cs_S zc, cs_X zc) j) else none) = if j < cs_n zc 2 then some (cTa zc j) else none
    simp [cTa, cs_i, cs_n, cs_I, cs_L, cs_N, cs_S, cs_X, va_up]
  · show (if j < cs_n (va_up (cs_i zc) 2 0, cs_n zc, cs_I zc, cs_L zc, cs_N zc, cs_S zc, cs_X zc) 3 then some (cPa (va_up (cs_i zc) 2 0, cs_n zc, cs_I zc, cs_L zc, cs_N zc, cs_S zc, cs_X zc) j) else none) = if j < cs_n zc 3 then some (cPa zc j) else none
    simp [cPa, cs_i, cs_n, cs_I, cs_L, cs_N, cs_S, cs_X, va_up]
  · show (if j = 0 ∧ ¬ cs_n (va_up (cs_i zc) 2 0, cs_n zc, cs_I zc, cs_L zc, cs_N zc, cs_S zc, cs_X zc) 4 = 0 then some (cAu (va_up (cs_i zc) 2 0, cs_n zc, cs_I zc, cs_L zc, cs_N zc, cs_S zc, cs_X zc)) else none) = if j = 0 ∧ ¬ cs_n zc 4 = 0 then some (cAu zc) else none
    simp [cAu, cs_i, cs_n, cs_I, cs_L, cs_N, cs_S, cs_X, va_up]
  · show (if j < 4 then some (cSh (va_up (cs_i zc) 2 0, cs_n zc, cs_I zc, cs_L zc, cs_N zc, cs_S zc, cs_X zc) j) else none) = if j < 4 then some (cSh zc j) else none
    simp [cSh, cs_i, cs_n, cs_I, cs_L, cs_N, cs_S, cs_X, va_up]
  · show (if j < 4 then some (cSc cA (va_up (cs_i zc) 2 0, cs_n zc, cs_I zc, cs_L zc, cs_N zc, cs_S zc, cs_X zc) j) else none) = if j < 4 then some (cSc cA zc j) else none
    simp [cSc, cs_i, cs_n, cs_I, cs_L, cs_N, cs_S, cs_X, va_up]
  · show (none : Option (Nat × va_E)) = none; rfl
set_option maxHeartbeats 4000000 in
theorem lf_copy_1 (cA : Nat → ClassId) (zc : CS) (k : Int32) (ix : Int32) (jx : Int32) (n : Int32) (jo : Nat) (hnojs : ∀ j, j < 4 → k ≠ nI j) (hjo : jo < 4) (hI : invC zc) : invC (va_up (cs_i zc) 2 0, cs_n zc, cs_I zc, cs_L zc, cs_N zc, cs_S zc, cs_X zc) ∧ kAll (cF cA (va_up (cs_i zc) 2 0, cs_n zc, cs_I zc, cs_L zc, cs_N zc, cs_S zc, cs_X zc)) [(0, 0), (0, 10)] [(cs_X zc 0 0, .inr (10, [.ref (cs_X zc 0 1), .ref (cs_X zc 0 6), .ref (cs_X zc 0 7), .ref (cs_X zc 0 8), .ref (cs_X zc 0 9), .ref (cs_X zc 0 10), .ref (cs_X zc 0 11), .int (nI (cs_n zc 0)), .int (nI (cs_n zc 1)), .int (nI (cs_n zc 2)), .int (nI (cs_n zc 3)), va_rf (opN (cs_n zc 4) (fun _ => cs_X zc 5 0)), .int 0])), cR10 cA zc] ∧ ∀ i j, (i, j) ∉ ([(0, 0), (0, 10)] : List (Nat × Nat)) → cF cA (va_up (cs_i zc) 2 0, cs_n zc, cs_I zc, cs_L zc, cs_N zc, cs_S zc, cs_X zc) i j = none ∨ ((i, j) ∉ ([(0, 0), (0, 10)] : List (Nat × Nat)) ∧ cF cA (va_up (cs_i zc) 2 0, cs_n zc, cs_I zc, cs_L zc, cs_N zc, cs_S zc, cs_X zc) i j = cF cA zc i j) := by
  obtain ⟨⟨hn0, hn1, hn2, hn3, hn4, hn5⟩, hpi, hgk, htk, hpk, hsh⟩ := id hI
  refine ⟨hI, ⟨(by (rw [(kF_tp (cA := cA) (z := (va_up (cs_i zc) 2 0, cs_n zc, cs_I zc, cs_L zc, cs_N zc, cs_S zc, cs_X zc)))]) <;> simp [cTP, cTPN, cTPA, cLo, cA2, cA3, cA4, cA5, cR6, cR7, cR8, cR9, cR10, cTr, cPi, cPiN, cPiT, cGa, cGaK, cTa, cPa, cAu, cAuN, cAuB, cSh, cSc, cs_i, cs_n, cs_I, cs_L, cs_N, cs_S, cs_X, va_up, upd, opN]), (by (rw [(kF_r10 (cA := cA) (z := (va_up (cs_i zc) 2 0, cs_n zc, cs_I zc, cs_L zc, cs_N zc, cs_S zc, cs_X zc)))]) <;> simp [cTP, cTPN, cTPA, cLo, cA2, cA3, cA4, cA5, cR6, cR7, cR8, cR9, cR10, cTr, cPi, cPiN, cPiT, cGa, cGaK, cTa, cPa, cAu, cAuN, cAuB, cSh, cSc, cs_i, cs_n, cs_I, cs_L, cs_N, cs_S, cs_X, va_up, upd, opN]), trivial⟩, ?_⟩
  intro i j hij
  refine Or.inr ⟨hij, ?_⟩
  rcases i with _ | _ | _ | _ | _ | _ | _ | _ | i
  · rcases j with _ | _ | _ | _ | _ | _ | _ | _ | _ | _ | _ | _ | j
    · exact absurd (by simp) hij
    · show some (cLo (va_up (cs_i zc) 2 0, cs_n zc, cs_I zc, cs_L zc, cs_N zc, cs_S zc, cs_X zc)) = some (cLo zc); simp [cLo, cs_i, cs_n, cs_I, cs_L, cs_N, cs_S, cs_X, va_up]
    · show some (cA2 cA (va_up (cs_i zc) 2 0, cs_n zc, cs_I zc, cs_L zc, cs_N zc, cs_S zc, cs_X zc)) = some (cA2 cA zc); simp [cA2, cs_i, cs_n, cs_I, cs_L, cs_N, cs_S, cs_X, va_up]
    · show some (cA3 cA (va_up (cs_i zc) 2 0, cs_n zc, cs_I zc, cs_L zc, cs_N zc, cs_S zc, cs_X zc)) = some (cA3 cA zc); simp [cA3, cs_i, cs_n, cs_I, cs_L, cs_N, cs_S, cs_X, va_up]
    · show some (cA4 cA (va_up (cs_i zc) 2 0, cs_n zc, cs_I zc, cs_L zc, cs_N zc, cs_S zc, cs_X zc)) = some (cA4 cA zc); simp [cA4, cs_i, cs_n, cs_I, cs_L, cs_N, cs_S, cs_X, va_up]
    · show some (cA5 cA (va_up (cs_i zc) 2 0, cs_n zc, cs_I zc, cs_L zc, cs_N zc, cs_S zc, cs_X zc)) = some (cA5 cA zc); simp [cA5, cs_i, cs_n, cs_I, cs_L, cs_N, cs_S, cs_X, va_up]
    · show some (cR6 cA (va_up (cs_i zc) 2 0, cs_n zc, cs_I zc, cs_L zc, cs_N zc, cs_S zc, cs_X zc)) = some (cR6 cA zc); simp [cR6, cs_i, cs_n, cs_I, cs_L, cs_N, cs_S, cs_X, va_up]
    · show some (cR7 cA (va_up (cs_i zc) 2 0, cs_n zc, cs_I zc, cs_L zc, cs_N zc, cs_S zc, cs_X zc)) = some (cR7 cA zc); simp [cR7, cs_i, cs_n, cs_I, cs_L, cs_N, cs_S, cs_X, va_up]
    · show some (cR8 cA (va_up (cs_i zc) 2 0, cs_n zc, cs_I zc, cs_L zc, cs_N zc, cs_S zc, cs_X zc)) = some (cR8 cA zc); simp [cR8, cs_i, cs_n, cs_I, cs_L, cs_N, cs_S, cs_X, va_up]
    · show some (cR9 cA (va_up (cs_i zc) 2 0, cs_n zc, cs_I zc, cs_L zc, cs_N zc, cs_S zc, cs_X zc)) = some (cR9 cA zc); simp [cR9, cs_i, cs_n, cs_I, cs_L, cs_N, cs_S, cs_X, va_up]
    · exact absurd (by simp) hij
    · show some (cTr (va_up (cs_i zc) 2 0, cs_n zc, cs_I zc, cs_L zc, cs_N zc, cs_S zc, cs_X zc)) = some (cTr zc); simp [cTr, cs_i, cs_n, cs_I, cs_L, cs_N, cs_S, cs_X, va_up]
    · show (none : Option (Nat × va_E)) = none; rfl
  · show (if j < cs_n (va_up (cs_i zc) 2 0, cs_n zc, cs_I zc, cs_L zc, cs_N zc, cs_S zc, cs_X zc) 0 then some (cPi (va_up (cs_i zc) 2 0, cs_n zc, cs_I zc, cs_L zc, cs_N zc, cs_S zc, cs_X zc) j) else none) = if j < cs_n zc 0 then some (cPi zc j) else none
    simp [cPi, cs_i, cs_n, cs_I, cs_L, cs_N, cs_S, cs_X, va_up]
  · show (if j < cs_n (va_up (cs_i zc) 2 0, cs_n zc, cs_I zc, cs_L zc, cs_N zc, cs_S zc, cs_X zc) 1 then some (cGa (va_up (cs_i zc) 2 0, cs_n zc, cs_I zc, cs_L zc, cs_N zc, cs_S zc, cs_X zc) j) else none) = if j < cs_n zc 1 then some (cGa zc j) else none
    simp [cGa, cs_i, cs_n, cs_I, cs_L, cs_N, cs_S, cs_X, va_up]
  · show (if j < cs_n (va_up (cs_i zc) 2 0, cs_n zc, cs_I zc, cs_L zc, cs_N zc, cs_S zc, cs_X zc) 2 then some (cTa (va_up (cs_i zc) 2 0, cs_n zc, cs_I zc, cs_L zc, cs_N zc, cs_S zc, cs_X zc) j) else none) = if j < cs_n zc 2 then some (cTa zc j) else none
    simp [cTa, cs_i, cs_n, cs_I, cs_L, cs_N, cs_S, cs_X, va_up]
  · show (if j < cs_n (va_up (cs_i zc) 2 0, cs_n zc, cs_I zc, cs_L zc, cs_N zc, cs_S zc, cs_X zc) 3 then some (cPa (va_up (cs_i zc) 2 0, cs_n zc, cs_I zc, cs_L zc, cs_N zc, cs_S zc, cs_X zc) j) else none) = if j < cs_n zc 3 then some (cPa zc j) else none
    simp [cPa, cs_i, cs_n, cs_I, cs_L, cs_N, cs_S, cs_X, va_up]
  · show (if j = 0 ∧ ¬ cs_n (va_up (cs_i zc) 2 0, cs_n zc, cs_I zc, cs_L zc, cs_N zc, cs_S zc, cs_X zc) 4 = 0 then some (cAu (va_up (cs_i zc) 2 0, cs_n zc, cs_I zc, cs_L zc, cs_N zc, cs_S zc, cs_X zc)) else none) = if j = 0 ∧ ¬ cs_n zc 4 = 0 then some (cAu zc) else none
    simp [cAu, cs_i, cs_n, cs_I, cs_L, cs_N, cs_S, cs_X, va_up]
  · show (if j < 4 then some (cSh (va_up (cs_i zc) 2 0, cs_n zc, cs_I zc, cs_L zc, cs_N zc, cs_S zc, cs_X zc) j) else none) = if j < 4 then some (cSh zc j) else none
    simp [cSh, cs_i, cs_n, cs_I, cs_L, cs_N, cs_S, cs_X, va_up]
  · show (if j < 4 then some (cSc cA (va_up (cs_i zc) 2 0, cs_n zc, cs_I zc, cs_L zc, cs_N zc, cs_S zc, cs_X zc) j) else none) = if j < 4 then some (cSc cA zc j) else none
    simp [cSc, cs_i, cs_n, cs_I, cs_L, cs_N, cs_S, cs_X, va_up]
  · show (none : Option (Nat × va_E)) = none; rfl
set_option maxHeartbeats 4000000 in
theorem lf_copy_2 (cA : Nat → ClassId) (zc : CS) (ix : Int32) (ot : Int32) (jx : Int32) (n : Int32) (js : Nat) (hjs : js < 4) (hnojo : ∀ j, j < 4 → ot ≠ nI j) (hI : invC zc) : invC (va_up (cs_i zc) 2 0, cs_n zc, cs_I zc, cs_L zc, cs_N zc, cs_S zc, cs_X zc) ∧ kAll (cF cA (va_up (cs_i zc) 2 0, cs_n zc, cs_I zc, cs_L zc, cs_N zc, cs_S zc, cs_X zc)) [(0, 0), (0, 10)] [(cs_X zc 0 0, .inr (10, [.ref (cs_X zc 0 1), .ref (cs_X zc 0 6), .ref (cs_X zc 0 7), .ref (cs_X zc 0 8), .ref (cs_X zc 0 9), .ref (cs_X zc 0 10), .ref (cs_X zc 0 11), .int (nI (cs_n zc 0)), .int (nI (cs_n zc 1)), .int (nI (cs_n zc 2)), .int (nI (cs_n zc 3)), va_rf (opN (cs_n zc 4) (fun _ => cs_X zc 5 0)), .int 0])), cR10 cA zc] ∧ ∀ i j, (i, j) ∉ ([(0, 0), (0, 10)] : List (Nat × Nat)) → cF cA (va_up (cs_i zc) 2 0, cs_n zc, cs_I zc, cs_L zc, cs_N zc, cs_S zc, cs_X zc) i j = none ∨ ((i, j) ∉ ([(0, 0), (0, 10)] : List (Nat × Nat)) ∧ cF cA (va_up (cs_i zc) 2 0, cs_n zc, cs_I zc, cs_L zc, cs_N zc, cs_S zc, cs_X zc) i j = cF cA zc i j) := by
  obtain ⟨⟨hn0, hn1, hn2, hn3, hn4, hn5⟩, hpi, hgk, htk, hpk, hsh⟩ := id hI
  refine ⟨hI, ⟨(by (rw [(kF_tp (cA := cA) (z := (va_up (cs_i zc) 2 0, cs_n zc, cs_I zc, cs_L zc, cs_N zc, cs_S zc, cs_X zc)))]) <;> simp [cTP, cTPN, cTPA, cLo, cA2, cA3, cA4, cA5, cR6, cR7, cR8, cR9, cR10, cTr, cPi, cPiN, cPiT, cGa, cGaK, cTa, cPa, cAu, cAuN, cAuB, cSh, cSc, cs_i, cs_n, cs_I, cs_L, cs_N, cs_S, cs_X, va_up, upd, opN]), (by (rw [(kF_r10 (cA := cA) (z := (va_up (cs_i zc) 2 0, cs_n zc, cs_I zc, cs_L zc, cs_N zc, cs_S zc, cs_X zc)))]) <;> simp [cTP, cTPN, cTPA, cLo, cA2, cA3, cA4, cA5, cR6, cR7, cR8, cR9, cR10, cTr, cPi, cPiN, cPiT, cGa, cGaK, cTa, cPa, cAu, cAuN, cAuB, cSh, cSc, cs_i, cs_n, cs_I, cs_L, cs_N, cs_S, cs_X, va_up, upd, opN]), trivial⟩, ?_⟩
  intro i j hij
  refine Or.inr ⟨hij, ?_⟩
  rcases i with _ | _ | _ | _ | _ | _ | _ | _ | i
  · rcases j with _ | _ | _ | _ | _ | _ | _ | _ | _ | _ | _ | _ | j
    · exact absurd (by simp) hij
    · show some (cLo (va_up (cs_i zc) 2 0, cs_n zc, cs_I zc, cs_L zc, cs_N zc, cs_S zc, cs_X zc)) = some (cLo zc); simp [cLo, cs_i, cs_n, cs_I, cs_L, cs_N, cs_S, cs_X, va_up]
    · show some (cA2 cA (va_up (cs_i zc) 2 0, cs_n zc, cs_I zc, cs_L zc, cs_N zc, cs_S zc, cs_X zc)) = some (cA2 cA zc); simp [cA2, cs_i, cs_n, cs_I, cs_L, cs_N, cs_S, cs_X, va_up]
    · show some (cA3 cA (va_up (cs_i zc) 2 0, cs_n zc, cs_I zc, cs_L zc, cs_N zc, cs_S zc, cs_X zc)) = some (cA3 cA zc); simp [cA3, cs_i, cs_n, cs_I, cs_L, cs_N, cs_S, cs_X, va_up]
    · show some (cA4 cA (va_up (cs_i zc) 2 0, cs_n zc, cs_I zc, cs_L zc, cs_N zc, cs_S zc, cs_X zc)) = some (cA4 cA zc); simp [cA4, cs_i, cs_n, cs_I, cs_L, cs_N, cs_S, cs_X, va_up]
    · show some (cA5 cA (va_up (cs_i zc) 2 0, cs_n zc, cs_I zc, cs_L zc, cs_N zc, cs_S zc, cs_X zc)) = some (cA5 cA zc); simp [cA5, cs_i, cs_n, cs_I, cs_L, cs_N, cs_S, cs_X, va_up]
    · show some (cR6 cA (va_up (cs_i zc) 2 0, cs_n zc, cs_I zc, cs_L zc, cs_N zc, cs_S zc, cs_X zc)) = some (cR6 cA zc); simp [cR6, cs_i, cs_n, cs_I, cs_L, cs_N, cs_S, cs_X, va_up]
    · show some (cR7 cA (va_up (cs_i zc) 2 0, cs_n zc, cs_I zc, cs_L zc, cs_N zc, cs_S zc, cs_X zc)) = some (cR7 cA zc); simp [cR7, cs_i, cs_n, cs_I, cs_L, cs_N, cs_S, cs_X, va_up]
    · show some (cR8 cA (va_up (cs_i zc) 2 0, cs_n zc, cs_I zc, cs_L zc, cs_N zc, cs_S zc, cs_X zc)) = some (cR8 cA zc); simp [cR8, cs_i, cs_n, cs_I, cs_L, cs_N, cs_S, cs_X, va_up]
    · show some (cR9 cA (va_up (cs_i zc) 2 0, cs_n zc, cs_I zc, cs_L zc, cs_N zc, cs_S zc, cs_X zc)) = some (cR9 cA zc); simp [cR9, cs_i, cs_n, cs_I, cs_L, cs_N, cs_S, cs_X, va_up]
    · exact absurd (by simp) hij
    · show some (cTr (va_up (cs_i zc) 2 0, cs_n zc, cs_I zc, cs_L zc, cs_N zc, cs_S zc, cs_X zc)) = some (cTr zc); simp [cTr, cs_i, cs_n, cs_I, cs_L, cs_N, cs_S, cs_X, va_up]
    · show (none : Option (Nat × va_E)) = none; rfl
  · show (if j < cs_n (va_up (cs_i zc) 2 0, cs_n zc, cs_I zc, cs_L zc, cs_N zc, cs_S zc, cs_X zc) 0 then some (cPi (va_up (cs_i zc) 2 0, cs_n zc, cs_I zc, cs_L zc, cs_N zc, cs_S zc, cs_X zc) j) else none) = if j < cs_n zc 0 then some (cPi zc j) else none
    simp [cPi, cs_i, cs_n, cs_I, cs_L, cs_N, cs_S, cs_X, va_up]
  · show (if j < cs_n (va_up (cs_i zc) 2 0, cs_n zc, cs_I zc, cs_L zc, cs_N zc, cs_S zc, cs_X zc) 1 then some (cGa (va_up (cs_i zc) 2 0, cs_n zc, cs_I zc, cs_L zc, cs_N zc, cs_S zc, cs_X zc) j) else none) = if j < cs_n zc 1 then some (cGa zc j) else none
    simp [cGa, cs_i, cs_n, cs_I, cs_L, cs_N, cs_S, cs_X, va_up]
  · show (if j < cs_n (va_up (cs_i zc) 2 0, cs_n zc, cs_I zc, cs_L zc, cs_N zc, cs_S zc, cs_X zc) 2 then some (cTa (va_up (cs_i zc) 2 0, cs_n zc, cs_I zc, cs_L zc, cs_N zc, cs_S zc, cs_X zc) j) else none) = if j < cs_n zc 2 then some (cTa zc j) else none
    simp [cTa, cs_i, cs_n, cs_I, cs_L, cs_N, cs_S, cs_X, va_up]
  · show (if j < cs_n (va_up (cs_i zc) 2 0, cs_n zc, cs_I zc, cs_L zc, cs_N zc, cs_S zc, cs_X zc) 3 then some (cPa (va_up (cs_i zc) 2 0, cs_n zc, cs_I zc, cs_L zc, cs_N zc, cs_S zc, cs_X zc) j) else none) = if j < cs_n zc 3 then some (cPa zc j) else none
    simp [cPa, cs_i, cs_n, cs_I, cs_L, cs_N, cs_S, cs_X, va_up]
  · show (if j = 0 ∧ ¬ cs_n (va_up (cs_i zc) 2 0, cs_n zc, cs_I zc, cs_L zc, cs_N zc, cs_S zc, cs_X zc) 4 = 0 then some (cAu (va_up (cs_i zc) 2 0, cs_n zc, cs_I zc, cs_L zc, cs_N zc, cs_S zc, cs_X zc)) else none) = if j = 0 ∧ ¬ cs_n zc 4 = 0 then some (cAu zc) else none
    simp [cAu, cs_i, cs_n, cs_I, cs_L, cs_N, cs_S, cs_X, va_up]
  · show (if j < 4 then some (cSh (va_up (cs_i zc) 2 0, cs_n zc, cs_I zc, cs_L zc, cs_N zc, cs_S zc, cs_X zc) j) else none) = if j < 4 then some (cSh zc j) else none
    simp [cSh, cs_i, cs_n, cs_I, cs_L, cs_N, cs_S, cs_X, va_up]
  · show (if j < 4 then some (cSc cA (va_up (cs_i zc) 2 0, cs_n zc, cs_I zc, cs_L zc, cs_N zc, cs_S zc, cs_X zc) j) else none) = if j < 4 then some (cSc cA zc j) else none
    simp [cSc, cs_i, cs_n, cs_I, cs_L, cs_N, cs_S, cs_X, va_up]
  · show (none : Option (Nat × va_E)) = none; rfl
set_option maxHeartbeats 4000000 in
theorem lf_copy_3 (cA : Nat → ClassId) (zc : CS) (ix : Int32) (jx : Int32) (n : Int32) (js : Nat) (hjs : js < 4) (c10 : (cs_I zc 8 js) = -1) (hI : invC zc) : invC (va_up (cs_i zc) 2 1, cs_n zc, cs_I zc, cs_L zc, cs_N zc, cs_S zc, cs_X zc) ∧ kAll (cF cA (va_up (cs_i zc) 2 1, cs_n zc, cs_I zc, cs_L zc, cs_N zc, cs_S zc, cs_X zc)) [(0, 0), (0, 10), (6, js), (7, js)] [(cs_X zc 0 0, .inr (10, [.ref (cs_X zc 0 1), .ref (cs_X zc 0 6), .ref (cs_X zc 0 7), .ref (cs_X zc 0 8), .ref (cs_X zc 0 9), .ref (cs_X zc 0 10), .ref (cs_X zc 0 11), .int (nI (cs_n zc 0)), .int (nI (cs_n zc 1)), .int (nI (cs_n zc 2)), .int (nI (cs_n zc 3)), va_rf (opN (cs_n zc 4) (fun _ => cs_X zc 5 0)), .int 1])), cR10 cA zc, cSh zc js, cSc cA zc js] ∧ ∀ i j, (i, j) ∉ ([(0, 0), (0, 10), (6, js), (7, js)] : List (Nat × Nat)) → cF cA (va_up (cs_i zc) 2 1, cs_n zc, cs_I zc, cs_L zc, cs_N zc, cs_S zc, cs_X zc) i j = none ∨ ((i, j) ∉ ([(0, 0), (0, 10), (6, js), (7, js)] : List (Nat × Nat)) ∧ cF cA (va_up (cs_i zc) 2 1, cs_n zc, cs_I zc, cs_L zc, cs_N zc, cs_S zc, cs_X zc) i j = cF cA zc i j) := by
  obtain ⟨⟨hn0, hn1, hn2, hn3, hn4, hn5⟩, hpi, hgk, htk, hpk, hsh⟩ := id hI
  refine ⟨hI, ⟨(by (rw [(kF_tp (cA := cA) (z := (va_up (cs_i zc) 2 1, cs_n zc, cs_I zc, cs_L zc, cs_N zc, cs_S zc, cs_X zc)))]) <;> simp [cTP, cTPN, cTPA, cLo, cA2, cA3, cA4, cA5, cR6, cR7, cR8, cR9, cR10, cTr, cPi, cPiN, cPiT, cGa, cGaK, cTa, cPa, cAu, cAuN, cAuB, cSh, cSc, cs_i, cs_n, cs_I, cs_L, cs_N, cs_S, cs_X, va_up, upd, opN]), (by (rw [(kF_r10 (cA := cA) (z := (va_up (cs_i zc) 2 1, cs_n zc, cs_I zc, cs_L zc, cs_N zc, cs_S zc, cs_X zc)))]) <;> simp [cTP, cTPN, cTPA, cLo, cA2, cA3, cA4, cA5, cR6, cR7, cR8, cR9, cR10, cTr, cPi, cPiN, cPiT, cGa, cGaK, cTa, cPa, cAu, cAuN, cAuB, cSh, cSc, cs_i, cs_n, cs_I, cs_L, cs_N, cs_S, cs_X, va_up, upd, opN]), (by (rw [(kF_sh (z := (va_up (cs_i zc) 2 1, cs_n zc, cs_I zc, cs_L zc, cs_N zc, cs_S zc, cs_X zc)) hjs)]) <;> simp [cTP, cTPN, cTPA, cLo, cA2, cA3, cA4, cA5, cR6, cR7, cR8, cR9, cR10, cTr, cPi, cPiN, cPiT, cGa, cGaK, cTa, cPa, cAu, cAuN, cAuB, cSh, cSc, cs_i, cs_n, cs_I, cs_L, cs_N, cs_S, cs_X, va_up, upd, opN]), (by (rw [(kF_sc (z := (va_up (cs_i zc) 2 1, cs_n zc, cs_I zc, cs_L zc, cs_N zc, cs_S zc, cs_X zc)) hjs)]) <;> simp [cTP, cTPN, cTPA, cLo, cA2, cA3, cA4, cA5, cR6, cR7, cR8, cR9, cR10, cTr, cPi, cPiN, cPiT, cGa, cGaK, cTa, cPa, cAu, cAuN, cAuB, cSh, cSc, cs_i, cs_n, cs_I, cs_L, cs_N, cs_S, cs_X, va_up, upd, opN]), trivial⟩, ?_⟩
  intro i j hij
  refine Or.inr ⟨hij, ?_⟩
  rcases i with _ | _ | _ | _ | _ | _ | _ | _ | i
  · rcases j with _ | _ | _ | _ | _ | _ | _ | _ | _ | _ | _ | _ | j
    · exact absurd (by simp) hij
    · show some (cLo (va_up (cs_i zc) 2 1, cs_n zc, cs_I zc, cs_L zc, cs_N zc, cs_S zc, cs_X zc)) = some (cLo zc); simp [cLo, cs_i, cs_n, cs_I, cs_L, cs_N, cs_S, cs_X, va_up]
    · show some (cA2 cA (va_up (cs_i zc) 2 1, cs_n zc, cs_I zc, cs_L zc, cs_N zc, cs_S zc, cs_X zc)) = some (cA2 cA zc); simp [cA2, cs_i, cs_n, cs_I, cs_L, cs_N, cs_S, cs_X, va_up]
    · show some (cA3 cA (va_up (cs_i zc) 2 1, cs_n zc, cs_I zc, cs_L zc, cs_N zc, cs_S zc, cs_X zc)) = some (cA3 cA zc); simp [cA3, cs_i, cs_n, cs_I, cs_L, cs_N, cs_S, cs_X, va_up]
    · show some (cA4 cA (va_up (cs_i zc) 2 1, cs_n zc, cs_I zc, cs_L zc, cs_N zc, cs_S zc, cs_X zc)) = some (cA4 cA zc); simp [cA4, cs_i, cs_n, cs_I, cs_L, cs_N, cs_S, cs_X, va_up]
    · show some (cA5 cA (va_up (cs_i zc) 2 1, cs_n zc, cs_I zc, cs_L zc, cs_N zc, cs_S zc, cs_X zc)) = some (cA5 cA zc); simp [cA5, cs_i, cs_n, cs_I, cs_L, cs_N, cs_S, cs_X, va_up]
    · show some (cR6 cA (va_up (cs_i zc) 2 1, cs_n zc, cs_I zc, cs_L zc, cs_N zc, cs_S zc, cs_X zc)) = some (cR6 cA zc); simp [cR6, cs_i, cs_n, cs_I, cs_L, cs_N, cs_S, cs_X, va_up]
    · show some (cR7 cA (va_up (cs_i zc) 2 1, cs_n zc, cs_I zc, cs_L zc, cs_N zc, cs_S zc, cs_X zc)) = some (cR7 cA zc); simp [cR7, cs_i, cs_n, cs_I, cs_L, cs_N, cs_S, cs_X, va_up]
    · show some (cR8 cA (va_up (cs_i zc) 2 1, cs_n zc, cs_I zc, cs_L zc, cs_N zc, cs_S zc, cs_X zc)) = some (cR8 cA zc); simp [cR8, cs_i, cs_n, cs_I, cs_L, cs_N, cs_S, cs_X, va_up]
    · show some (cR9 cA (va_up (cs_i zc) 2 1, cs_n zc, cs_I zc, cs_L zc, cs_N zc, cs_S zc, cs_X zc)) = some (cR9 cA zc); simp [cR9, cs_i, cs_n, cs_I, cs_L, cs_N, cs_S, cs_X, va_up]
    · exact absurd (by simp) hij
    · show some (cTr (va_up (cs_i zc) 2 1, cs_n zc, cs_I zc, cs_L zc, cs_N zc, cs_S zc, cs_X zc)) = some (cTr zc); simp [cTr, cs_i, cs_n, cs_I, cs_L, cs_N, cs_S, cs_X, va_up]
    · show (none : Option (Nat × va_E)) = none; rfl
  · show (if j < cs_n (va_up (cs_i zc) 2 1, cs_n zc, cs_I zc, cs_L zc, cs_N zc, cs_S zc, cs_X zc) 0 then some (cPi (va_up (cs_i zc) 2 1, cs_n zc, cs_I zc, cs_L zc, cs_N zc, cs_S zc, cs_X zc) j) else none) = if j < cs_n zc 0 then some (cPi zc j) else none
    simp [cPi, cs_i, cs_n, cs_I, cs_L, cs_N, cs_S, cs_X, va_up]
  · show (if j < cs_n (va_up (cs_i zc) 2 1, cs_n zc, cs_I zc, cs_L zc, cs_N zc, cs_S zc, cs_X zc) 1 then some (cGa (va_up (cs_i zc) 2 1, cs_n zc, cs_I zc, cs_L zc, cs_N zc, cs_S zc, cs_X zc) j) else none) = if j < cs_n zc 1 then some (cGa zc j) else none
    simp [cGa, cs_i, cs_n, cs_I, cs_L, cs_N, cs_S, cs_X, va_up]
  · show (if j < cs_n (va_up (cs_i zc) 2 1, cs_n zc, cs_I zc, cs_L zc, cs_N zc, cs_S zc, cs_X zc) 2 then some (cTa (va_up (cs_i zc) 2 1, cs_n zc, cs_I zc, cs_L zc, cs_N zc, cs_S zc, cs_X zc) j) else none) = if j < cs_n zc 2 then some (cTa zc j) else none
    simp [cTa, cs_i, cs_n, cs_I, cs_L, cs_N, cs_S, cs_X, va_up]
  · show (if j < cs_n (va_up (cs_i zc) 2 1, cs_n zc, cs_I zc, cs_L zc, cs_N zc, cs_S zc, cs_X zc) 3 then some (cPa (va_up (cs_i zc) 2 1, cs_n zc, cs_I zc, cs_L zc, cs_N zc, cs_S zc, cs_X zc) j) else none) = if j < cs_n zc 3 then some (cPa zc j) else none
    simp [cPa, cs_i, cs_n, cs_I, cs_L, cs_N, cs_S, cs_X, va_up]
  · show (if j = 0 ∧ ¬ cs_n (va_up (cs_i zc) 2 1, cs_n zc, cs_I zc, cs_L zc, cs_N zc, cs_S zc, cs_X zc) 4 = 0 then some (cAu (va_up (cs_i zc) 2 1, cs_n zc, cs_I zc, cs_L zc, cs_N zc, cs_S zc, cs_X zc)) else none) = if j = 0 ∧ ¬ cs_n zc 4 = 0 then some (cAu zc) else none
    simp [cAu, cs_i, cs_n, cs_I, cs_L, cs_N, cs_S, cs_X, va_up]
  · show (if j < 4 then some (cSh (va_up (cs_i zc) 2 1, cs_n zc, cs_I zc, cs_L zc, cs_N zc, cs_S zc, cs_X zc) j) else none) = if j < 4 then some (cSh zc j) else none
    simp [cSh, cs_i, cs_n, cs_I, cs_L, cs_N, cs_S, cs_X, va_up]
  · show (if j < 4 then some (cSc cA (va_up (cs_i zc) 2 1, cs_n zc, cs_I zc, cs_L zc, cs_N zc, cs_S zc, cs_X zc) j) else none) = if j < 4 then some (cSc cA zc j) else none
    simp [cSc, cs_i, cs_n, cs_I, cs_L, cs_N, cs_S, cs_X, va_up]
  · show (none : Option (Nat × va_E)) = none; rfl
set_option maxHeartbeats 4000000 in
theorem lf_copy_4 (cA : Nat → ClassId) (zc : CS) (ix : Int32) (jx : Int32) (n : Int32) (js : Nat) (hjs : js < 4) (c10 : ¬ ((cs_I zc 8 js) = -1)) (c13 : ¬ ((cs_I zc 8 js) = -1)) (c14 : (cs_I zc 8 js) = (cs_I zc 8 js)) (c16 : ¬ (0 ≤ ix ∧ 0 ≤ n ∧ ix.toInt64 + n.toInt64 ≤ (cs_I zc 9 js).toInt64)) (hI : invC zc) : invC (va_up (cs_i zc) 2 3, cs_n zc, cs_I zc, cs_L zc, cs_N zc, cs_S zc, cs_X zc) ∧ kAll (cF cA (va_up (cs_i zc) 2 3, cs_n zc, cs_I zc, cs_L zc, cs_N zc, cs_S zc, cs_X zc)) [(0, 0), (0, 10), (6, js), (7, js)] [(cs_X zc 0 0, .inr (10, [.ref (cs_X zc 0 1), .ref (cs_X zc 0 6), .ref (cs_X zc 0 7), .ref (cs_X zc 0 8), .ref (cs_X zc 0 9), .ref (cs_X zc 0 10), .ref (cs_X zc 0 11), .int (nI (cs_n zc 0)), .int (nI (cs_n zc 1)), .int (nI (cs_n zc 2)), .int (nI (cs_n zc 3)), va_rf (opN (cs_n zc 4) (fun _ => cs_X zc 5 0)), .int 3])), cR10 cA zc, cSh zc js, cSc cA zc js] ∧ ∀ i j, (i, j) ∉ ([(0, 0), (0, 10), (6, js), (7, js)] : List (Nat × Nat)) → cF cA (va_up (cs_i zc) 2 3, cs_n zc, cs_I zc, cs_L zc, cs_N zc, cs_S zc, cs_X zc) i j = none ∨ ((i, j) ∉ ([(0, 0), (0, 10), (6, js), (7, js)] : List (Nat × Nat)) ∧ cF cA (va_up (cs_i zc) 2 3, cs_n zc, cs_I zc, cs_L zc, cs_N zc, cs_S zc, cs_X zc) i j = cF cA zc i j) := by
  obtain ⟨⟨hn0, hn1, hn2, hn3, hn4, hn5⟩, hpi, hgk, htk, hpk, hsh⟩ := id hI
  refine ⟨hI, ⟨(by (rw [(kF_tp (cA := cA) (z := (va_up (cs_i zc) 2 3, cs_n zc, cs_I zc, cs_L zc, cs_N zc, cs_S zc, cs_X zc)))]) <;> simp [cTP, cTPN, cTPA, cLo, cA2, cA3, cA4, cA5, cR6, cR7, cR8, cR9, cR10, cTr, cPi, cPiN, cPiT, cGa, cGaK, cTa, cPa, cAu, cAuN, cAuB, cSh, cSc, cs_i, cs_n, cs_I, cs_L, cs_N, cs_S, cs_X, va_up, upd, opN]), (by (rw [(kF_r10 (cA := cA) (z := (va_up (cs_i zc) 2 3, cs_n zc, cs_I zc, cs_L zc, cs_N zc, cs_S zc, cs_X zc)))]) <;> simp [cTP, cTPN, cTPA, cLo, cA2, cA3, cA4, cA5, cR6, cR7, cR8, cR9, cR10, cTr, cPi, cPiN, cPiT, cGa, cGaK, cTa, cPa, cAu, cAuN, cAuB, cSh, cSc, cs_i, cs_n, cs_I, cs_L, cs_N, cs_S, cs_X, va_up, upd, opN]), (by (rw [(kF_sh (z := (va_up (cs_i zc) 2 3, cs_n zc, cs_I zc, cs_L zc, cs_N zc, cs_S zc, cs_X zc)) hjs)]) <;> simp [cTP, cTPN, cTPA, cLo, cA2, cA3, cA4, cA5, cR6, cR7, cR8, cR9, cR10, cTr, cPi, cPiN, cPiT, cGa, cGaK, cTa, cPa, cAu, cAuN, cAuB, cSh, cSc, cs_i, cs_n, cs_I, cs_L, cs_N, cs_S, cs_X, va_up, upd, opN]), (by (rw [(kF_sc (z := (va_up (cs_i zc) 2 3, cs_n zc, cs_I zc, cs_L zc, cs_N zc, cs_S zc, cs_X zc)) hjs)]) <;> simp [cTP, cTPN, cTPA, cLo, cA2, cA3, cA4, cA5, cR6, cR7, cR8, cR9, cR10, cTr, cPi, cPiN, cPiT, cGa, cGaK, cTa, cPa, cAu, cAuN, cAuB, cSh, cSc, cs_i, cs_n, cs_I, cs_L, cs_N, cs_S, cs_X, va_up, upd, opN]), trivial⟩, ?_⟩
  intro i j hij
  refine Or.inr ⟨hij, ?_⟩
  rcases i with _ | _ | _ | _ | _ | _ | _ | _ | i
  · rcases j with _ | _ | _ | _ | _ | _ | _ | _ | _ | _ | _ | _ | j
    · exact absurd (by simp) hij
    · show some (cLo (va_up (cs_i zc) 2 3, cs_n zc, cs_I zc, cs_L zc, cs_N zc, cs_S zc, cs_X zc)) = some (cLo zc); simp [cLo, cs_i, cs_n, cs_I, cs_L, cs_N, cs_S, cs_X, va_up]
    · show some (cA2 cA (va_up (cs_i zc) 2 3, cs_n zc, cs_I zc, cs_L zc, cs_N zc, cs_S zc, cs_X zc)) = some (cA2 cA zc); simp [cA2, cs_i, cs_n, cs_I, cs_L, cs_N, cs_S, cs_X, va_up]
    · show some (cA3 cA (va_up (cs_i zc) 2 3, cs_n zc, cs_I zc, cs_L zc, cs_N zc, cs_S zc, cs_X zc)) = some (cA3 cA zc); simp [cA3, cs_i, cs_n, cs_I, cs_L, cs_N, cs_S, cs_X, va_up]
    · show some (cA4 cA (va_up (cs_i zc) 2 3, cs_n zc, cs_I zc, cs_L zc, cs_N zc, cs_S zc, cs_X zc)) = some (cA4 cA zc); simp [cA4, cs_i, cs_n, cs_I, cs_L, cs_N, cs_S, cs_X, va_up]
    · show some (cA5 cA (va_up (cs_i zc) 2 3, cs_n zc, cs_I zc, cs_L zc, cs_N zc, cs_S zc, cs_X zc)) = some (cA5 cA zc); simp [cA5, cs_i, cs_n, cs_I, cs_L, cs_N, cs_S, cs_X, va_up]
    · show some (cR6 cA (va_up (cs_i zc) 2 3, cs_n zc, cs_I zc, cs_L zc, cs_N zc, cs_S zc, cs_X zc)) = some (cR6 cA zc); simp [cR6, cs_i, cs_n, cs_I, cs_L, cs_N, cs_S, cs_X, va_up]
    · show some (cR7 cA (va_up (cs_i zc) 2 3, cs_n zc, cs_I zc, cs_L zc, cs_N zc, cs_S zc, cs_X zc)) = some (cR7 cA zc); simp [cR7, cs_i, cs_n, cs_I, cs_L, cs_N, cs_S, cs_X, va_up]
    · show some (cR8 cA (va_up (cs_i zc) 2 3, cs_n zc, cs_I zc, cs_L zc, cs_N zc, cs_S zc, cs_X zc)) = some (cR8 cA zc); simp [cR8, cs_i, cs_n, cs_I, cs_L, cs_N, cs_S, cs_X, va_up]
    · show some (cR9 cA (va_up (cs_i zc) 2 3, cs_n zc, cs_I zc, cs_L zc, cs_N zc, cs_S zc, cs_X zc)) = some (cR9 cA zc); simp [cR9, cs_i, cs_n, cs_I, cs_L, cs_N, cs_S, cs_X, va_up]
    · exact absurd (by simp) hij
    · show some (cTr (va_up (cs_i zc) 2 3, cs_n zc, cs_I zc, cs_L zc, cs_N zc, cs_S zc, cs_X zc)) = some (cTr zc); simp [cTr, cs_i, cs_n, cs_I, cs_L, cs_N, cs_S, cs_X, va_up]
    · show (none : Option (Nat × va_E)) = none; rfl
  · show (if j < cs_n (va_up (cs_i zc) 2 3, cs_n zc, cs_I zc, cs_L zc, cs_N zc, cs_S zc, cs_X zc) 0 then some (cPi (va_up (cs_i zc) 2 3, cs_n zc, cs_I zc, cs_L zc, cs_N zc, cs_S zc, cs_X zc) j) else none) = if j < cs_n zc 0 then some (cPi zc j) else none
    simp [cPi, cs_i, cs_n, cs_I, cs_L, cs_N, cs_S, cs_X, va_up]
  · show (if j < cs_n (va_up (cs_i zc) 2 3, cs_n zc, cs_I zc, cs_L zc, cs_N zc, cs_S zc, cs_X zc) 1 then some (cGa (va_up (cs_i zc) 2 3, cs_n zc, cs_I zc, cs_L zc, cs_N zc, cs_S zc, cs_X zc) j) else none) = if j < cs_n zc 1 then some (cGa zc j) else none
    simp [cGa, cs_i, cs_n, cs_I, cs_L, cs_N, cs_S, cs_X, va_up]
  · show (if j < cs_n (va_up (cs_i zc) 2 3, cs_n zc, cs_I zc, cs_L zc, cs_N zc, cs_S zc, cs_X zc) 2 then some (cTa (va_up (cs_i zc) 2 3, cs_n zc, cs_I zc, cs_L zc, cs_N zc, cs_S zc, cs_X zc) j) else none) = if j < cs_n zc 2 then some (cTa zc j) else none
    simp [cTa, cs_i, cs_n, cs_I, cs_L, cs_N, cs_S, cs_X, va_up]
  · show (if j < cs_n (va_up (cs_i zc) 2 3, cs_n zc, cs_I zc, cs_L zc, cs_N zc, cs_S zc, cs_X zc) 3 then some (cPa (va_up (cs_i zc) 2 3, cs_n zc, cs_I zc, cs_L zc, cs_N zc, cs_S zc, cs_X zc) j) else none) = if j < cs_n zc 3 then some (cPa zc j) else none
    simp [cPa, cs_i, cs_n, cs_I, cs_L, cs_N, cs_S, cs_X, va_up]
  · show (if j = 0 ∧ ¬ cs_n (va_up (cs_i zc) 2 3, cs_n zc, cs_I zc, cs_L zc, cs_N zc, cs_S zc, cs_X zc) 4 = 0 then some (cAu (va_up (cs_i zc) 2 3, cs_n zc, cs_I zc, cs_L zc, cs_N zc, cs_S zc, cs_X zc)) else none) = if j = 0 ∧ ¬ cs_n zc 4 = 0 then some (cAu zc) else none
    simp [cAu, cs_i, cs_n, cs_I, cs_L, cs_N, cs_S, cs_X, va_up]
  · show (if j < 4 then some (cSh (va_up (cs_i zc) 2 3, cs_n zc, cs_I zc, cs_L zc, cs_N zc, cs_S zc, cs_X zc) j) else none) = if j < 4 then some (cSh zc j) else none
    simp [cSh, cs_i, cs_n, cs_I, cs_L, cs_N, cs_S, cs_X, va_up]
  · show (if j < 4 then some (cSc cA (va_up (cs_i zc) 2 3, cs_n zc, cs_I zc, cs_L zc, cs_N zc, cs_S zc, cs_X zc) j) else none) = if j < 4 then some (cSc cA zc j) else none
    simp [cSc, cs_i, cs_n, cs_I, cs_L, cs_N, cs_S, cs_X, va_up]
  · show (none : Option (Nat × va_E)) = none; rfl
set_option maxHeartbeats 4000000 in
theorem lf_copy_5 (cA : Nat → ClassId) (zc : CS) (js : Nat) (ia : Nat) (ja : Nat) (nn2 : Nat) (hjs : js < 4) (c10 : ¬ ((cs_I zc 8 js) = -1)) (c13 : ¬ ((cs_I zc 8 js) = -1)) (c14 : (cs_I zc 8 js) = (cs_I zc 8 js)) (hian : ia + nn2 ≤ 48) (hjan : ja + nn2 ≤ 48) (hia2 : ((ia + nn2 : Nat) : Int) ≤ (cs_I zc 9 js).toInt) (hja2 : ((ja + nn2 : Nat) : Int) ≤ (cs_I zc 9 js).toInt) (hI : invC zc) : invC (va_up (cs_i zc) 2 0, cs_n zc, cs_I zc, cs_L zc, cs_N zc, va_up (cs_S zc) js (va_cpy (cs_S zc js) (cs_S zc js) ia ja nn2), cs_X zc) ∧ kAll (cF cA (va_up (cs_i zc) 2 0, cs_n zc, cs_I zc, cs_L zc, cs_N zc, va_up (cs_S zc) js (va_cpy (cs_S zc js) (cs_S zc js) ia ja nn2), cs_X zc)) [(0, 0), (0, 10), (6, js), (7, js)] [(cs_X zc 0 0, .inr (10, [.ref (cs_X zc 0 1), .ref (cs_X zc 0 6), .ref (cs_X zc 0 7), .ref (cs_X zc 0 8), .ref (cs_X zc 0 9), .ref (cs_X zc 0 10), .ref (cs_X zc 0 11), .int (nI (cs_n zc 0)), .int (nI (cs_n zc 1)), .int (nI (cs_n zc 2)), .int (nI (cs_n zc 3)), va_rf (opN (cs_n zc 4) (fun _ => cs_X zc 5 0)), .int 0])), cR10 cA zc, cSh zc js, (cs_X zc 7 js, .inl (cA 0, 48, .inl (va_cpy (cs_S zc js) (cs_S zc js) ia ja nn2)))] ∧ ∀ i j, (i, j) ∉ ([(0, 0), (0, 10), (6, js), (7, js)] : List (Nat × Nat)) → cF cA (va_up (cs_i zc) 2 0, cs_n zc, cs_I zc, cs_L zc, cs_N zc, va_up (cs_S zc) js (va_cpy (cs_S zc js) (cs_S zc js) ia ja nn2), cs_X zc) i j = none ∨ ((i, j) ∉ ([(0, 0), (0, 10), (6, js), (7, js)] : List (Nat × Nat)) ∧ cF cA (va_up (cs_i zc) 2 0, cs_n zc, cs_I zc, cs_L zc, cs_N zc, va_up (cs_S zc) js (va_cpy (cs_S zc js) (cs_S zc js) ia ja nn2), cs_X zc) i j = cF cA zc i j) := by
  obtain ⟨⟨hn0, hn1, hn2, hn3, hn4, hn5⟩, hpi, hgk, htk, hpk, hsh⟩ := id hI
  refine ⟨hI, ⟨(by (rw [(kF_tp (cA := cA) (z := (va_up (cs_i zc) 2 0, cs_n zc, cs_I zc, cs_L zc, cs_N zc, va_up (cs_S zc) js (va_cpy (cs_S zc js) (cs_S zc js) ia ja nn2), cs_X zc)))]) <;> simp [cTP, cTPN, cTPA, cLo, cA2, cA3, cA4, cA5, cR6, cR7, cR8, cR9, cR10, cTr, cPi, cPiN, cPiT, cGa, cGaK, cTa, cPa, cAu, cAuN, cAuB, cSh, cSc, cs_i, cs_n, cs_I, cs_L, cs_N, cs_S, cs_X, va_up, upd, opN]), (by (rw [(kF_r10 (cA := cA) (z := (va_up (cs_i zc) 2 0, cs_n zc, cs_I zc, cs_L zc, cs_N zc, va_up (cs_S zc) js (va_cpy (cs_S zc js) (cs_S zc js) ia ja nn2), cs_X zc)))]) <;> simp [cTP, cTPN, cTPA, cLo, cA2, cA3, cA4, cA5, cR6, cR7, cR8, cR9, cR10, cTr, cPi, cPiN, cPiT, cGa, cGaK, cTa, cPa, cAu, cAuN, cAuB, cSh, cSc, cs_i, cs_n, cs_I, cs_L, cs_N, cs_S, cs_X, va_up, upd, opN]), (by (rw [(kF_sh (z := (va_up (cs_i zc) 2 0, cs_n zc, cs_I zc, cs_L zc, cs_N zc, va_up (cs_S zc) js (va_cpy (cs_S zc js) (cs_S zc js) ia ja nn2), cs_X zc)) hjs)]) <;> simp [cTP, cTPN, cTPA, cLo, cA2, cA3, cA4, cA5, cR6, cR7, cR8, cR9, cR10, cTr, cPi, cPiN, cPiT, cGa, cGaK, cTa, cPa, cAu, cAuN, cAuB, cSh, cSc, cs_i, cs_n, cs_I, cs_L, cs_N, cs_S, cs_X, va_up, upd, opN]), (by (rw [(kF_sc (z := (va_up (cs_i zc) 2 0, cs_n zc, cs_I zc, cs_L zc, cs_N zc, va_up (cs_S zc) js (va_cpy (cs_S zc js) (cs_S zc js) ia ja nn2), cs_X zc)) hjs)]) <;> simp [cTP, cTPN, cTPA, cLo, cA2, cA3, cA4, cA5, cR6, cR7, cR8, cR9, cR10, cTr, cPi, cPiN, cPiT, cGa, cGaK, cTa, cPa, cAu, cAuN, cAuB, cSh, cSc, cs_i, cs_n, cs_I, cs_L, cs_N, cs_S, cs_X, va_up, upd, opN]), trivial⟩, ?_⟩
  intro i j hij
  refine Or.inr ⟨hij, ?_⟩
  rcases i with _ | _ | _ | _ | _ | _ | _ | _ | i
  · rcases j with _ | _ | _ | _ | _ | _ | _ | _ | _ | _ | _ | _ | j
    · exact absurd (by simp) hij
    · show some (cLo (va_up (cs_i zc) 2 0, cs_n zc, cs_I zc, cs_L zc, cs_N zc, va_up (cs_S zc) js (va_cpy (cs_S zc js) (cs_S zc js) ia ja nn2), cs_X zc)) = some (cLo zc); simp [cLo, cs_i, cs_n, cs_I, cs_L, cs_N, cs_S, cs_X, va_up]
    · show some (cA2 cA (va_up (cs_i zc) 2 0, cs_n zc, cs_I zc, cs_L zc, cs_N zc, va_up (cs_S zc) js (va_cpy (cs_S zc js) (cs_S zc js) ia ja nn2), cs_X zc)) = some (cA2 cA zc); simp [cA2, cs_i, cs_n, cs_I, cs_L, cs_N, cs_S, cs_X, va_up]
    · show some (cA3 cA (va_up (cs_i zc) 2 0, cs_n zc, cs_I zc, cs_L zc, cs_N zc, va_up (cs_S zc) js (va_cpy (cs_S zc js) (cs_S zc js) ia ja nn2), cs_X zc)) = some (cA3 cA zc); simp [cA3, cs_i, cs_n, cs_I, cs_L, cs_N, cs_S, cs_X, va_up]
    · show some (cA4 cA (va_up (cs_i zc) 2 0, cs_n zc, cs_I zc, cs_L zc, cs_N zc, va_up (cs_S zc) js (va_cpy (cs_S zc js) (cs_S zc js) ia ja nn2), cs_X zc)) = some (cA4 cA zc); simp [cA4, cs_i, cs_n, cs_I, cs_L, cs_N, cs_S, cs_X, va_up]
    · show some (cA5 cA (va_up (cs_i zc) 2 0, cs_n zc, cs_I zc, cs_L zc, cs_N zc, va_up (cs_S zc) js (va_cpy (cs_S zc js) (cs_S zc js) ia ja nn2), cs_X zc)) = some (cA5 cA zc); simp [cA5, cs_i, cs_n, cs_I, cs_L, cs_N, cs_S, cs_X, va_up]
    · show some (cR6 cA (va_up (cs_i zc) 2 0, cs_n zc, cs_I zc, cs_L zc, cs_N zc, va_up (cs_S zc) js (va_cpy (cs_S zc js) (cs_S zc js) ia ja nn2), cs_X zc)) = some (cR6 cA zc); simp [cR6, cs_i, cs_n, cs_I, cs_L, cs_N, cs_S, cs_X, va_up]
    · show some (cR7 cA (va_up (cs_i zc) 2 0, cs_n zc, cs_I zc, cs_L zc, cs_N zc, va_up (cs_S zc) js (va_cpy (cs_S zc js) (cs_S zc js) ia ja nn2), cs_X zc)) = some (cR7 cA zc); simp [cR7, cs_i, cs_n, cs_I, cs_L, cs_N, cs_S, cs_X, va_up]
    · show some (cR8 cA (va_up (cs_i zc) 2 0, cs_n zc, cs_I zc, cs_L zc, cs_N zc, va_up (cs_S zc) js (va_cpy (cs_S zc js) (cs_S zc js) ia ja nn2), cs_X zc)) = some (cR8 cA zc); simp [cR8, cs_i, cs_n, cs_I, cs_L, cs_N, cs_S, cs_X, va_up]
    · show some (cR9 cA (va_up (cs_i zc) 2 0, cs_n zc, cs_I zc, cs_L zc, cs_N zc, va_up (cs_S zc) js (va_cpy (cs_S zc js) (cs_S zc js) ia ja nn2), cs_X zc)) = some (cR9 cA zc); simp [cR9, cs_i, cs_n, cs_I, cs_L, cs_N, cs_S, cs_X, va_up]
    · exact absurd (by simp) hij
    · show some (cTr (va_up (cs_i zc) 2 0, cs_n zc, cs_I zc, cs_L zc, cs_N zc, va_up (cs_S zc) js (va_cpy (cs_S zc js) (cs_S zc js) ia ja nn2), cs_X zc)) = some (cTr zc); simp [cTr, cs_i, cs_n, cs_I, cs_L, cs_N, cs_S, cs_X, va_up]
    · show (none : Option (Nat × va_E)) = none; rfl
  · show (if j < cs_n (va_up (cs_i zc) 2 0, cs_n zc, cs_I zc, cs_L zc, cs_N zc, va_up (cs_S zc) js (va_cpy (cs_S zc js) (cs_S zc js) ia ja nn2), cs_X zc) 0 then some (cPi (va_up (cs_i zc) 2 0, cs_n zc, cs_I zc, cs_L zc, cs_N zc, va_up (cs_S zc) js (va_cpy (cs_S zc js) (cs_S zc js) ia ja nn2), cs_X zc) j) else none) = if j < cs_n zc 0 then some (cPi zc j) else none
    simp [cPi, cs_i, cs_n, cs_I, cs_L, cs_N, cs_S, cs_X, va_up]
  · show (if j < cs_n (va_up (cs_i zc) 2 0, cs_n zc, cs_I zc, cs_L zc, cs_N zc, va_up (cs_S zc) js (va_cpy (cs_S zc js) (cs_S zc js) ia ja nn2), cs_X zc) 1 then some (cGa (va_up (cs_i zc) 2 0, cs_n zc, cs_I zc, cs_L zc, cs_N zc, va_up (cs_S zc) js (va_cpy (cs_S zc js) (cs_S zc js) ia ja nn2), cs_X zc) j) else none) = if j < cs_n zc 1 then some (cGa zc j) else none
    simp [cGa, cs_i, cs_n, cs_I, cs_L, cs_N, cs_S, cs_X, va_up]
  · show (if j < cs_n (va_up (cs_i zc) 2 0, cs_n zc, cs_I zc, cs_L zc, cs_N zc, va_up (cs_S zc) js (va_cpy (cs_S zc js) (cs_S zc js) ia ja nn2), cs_X zc) 2 then some (cTa (va_up (cs_i zc) 2 0, cs_n zc, cs_I zc, cs_L zc, cs_N zc, va_up (cs_S zc) js (va_cpy (cs_S zc js) (cs_S zc js) ia ja nn2), cs_X zc) j) else none) = if j < cs_n zc 2 then some (cTa zc j) else none
    simp [cTa, cs_i, cs_n, cs_I, cs_L, cs_N, cs_S, cs_X, va_up]
  · show (if j < cs_n (va_up (cs_i zc) 2 0, cs_n zc, cs_I zc, cs_L zc, cs_N zc, va_up (cs_S zc) js (va_cpy (cs_S zc js) (cs_S zc js) ia ja nn2), cs_X zc) 3 then some (cPa (va_up (cs_i zc) 2 0, cs_n zc, cs_I zc, cs_L zc, cs_N zc, va_up (cs_S zc) js (va_cpy (cs_S zc js) (cs_S zc js) ia ja nn2), cs_X zc) j) else none) = if j < cs_n zc 3 then some (cPa zc j) else none
    simp [cPa, cs_i, cs_n, cs_I, cs_L, cs_N, cs_S, cs_X, va_up]
  · show (if j = 0 ∧ ¬ cs_n (va_up (cs_i zc) 2 0, cs_n zc, cs_I zc, cs_L zc, cs_N zc, va_up (cs_S zc) js (va_cpy (cs_S zc js) (cs_S zc js) ia ja nn2), cs_X zc) 4 = 0 then some (cAu (va_up (cs_i zc) 2 0, cs_n zc, cs_I zc, cs_L zc, cs_N zc, va_up (cs_S zc) js (va_cpy (cs_S zc js) (cs_S zc js) ia ja nn2), cs_X zc)) else none) = if j = 0 ∧ ¬ cs_n zc 4 = 0 then some (cAu zc) else none
    simp [cAu, cs_i, cs_n, cs_I, cs_L, cs_N, cs_S, cs_X, va_up]
  · show (if j < 4 then some (cSh (va_up (cs_i zc) 2 0, cs_n zc, cs_I zc, cs_L zc, cs_N zc, va_up (cs_S zc) js (va_cpy (cs_S zc js) (cs_S zc js) ia ja nn2), cs_X zc) j) else none) = if j < 4 then some (cSh zc j) else none
    simp [cSh, cs_i, cs_n, cs_I, cs_L, cs_N, cs_S, cs_X, va_up]
  · have hne0 : j ≠ js := fun q => hij (by rw [q]; simp)
    have e9 : cSc cA (va_up (cs_i zc) 2 0, cs_n zc, cs_I zc, cs_L zc, cs_N zc, va_up (cs_S zc) js (va_cpy (cs_S zc js) (cs_S zc js) ia ja nn2), cs_X zc) j = cSc cA zc j := by simp [cSc, cs_i, cs_n, cs_I, cs_L, cs_N, cs_S, cs_X, va_up, hne0]
    show (if j < 4 then some (cSc cA (va_up (cs_i zc) 2 0, cs_n zc, cs_I zc, cs_L zc, cs_N zc, va_up (cs_S zc) js (va_cpy (cs_S zc js) (cs_S zc js) ia ja nn2), cs_X zc) j) else none) = if j < 4 then some (cSc cA zc j) else none
    (rw [e9]) <;> simp [cs_n, va_up]
  · show (none : Option (Nat × va_E)) = none; rfl
set_option maxHeartbeats 4000000 in
theorem lf_copy_6 (cA : Nat → ClassId) (zc : CS) (ix : Int32) (jx : Int32) (n : Int32) (js : Nat) (hjs : js < 4) (c10 : ¬ ((cs_I zc 8 js) = -1)) (c13 : ¬ ((cs_I zc 8 js) = -1)) (c14 : (cs_I zc 8 js) = (cs_I zc 8 js)) (c16 : 0 ≤ ix ∧ 0 ≤ n ∧ ix.toInt64 + n.toInt64 ≤ (cs_I zc 9 js).toInt64) (c19 : ¬ (0 ≤ jx ∧ 0 ≤ n ∧ jx.toInt64 + n.toInt64 ≤ (cs_I zc 9 js).toInt64)) (hI : invC zc) : invC (va_up (cs_i zc) 2 3, cs_n zc, cs_I zc, cs_L zc, cs_N zc, cs_S zc, cs_X zc) ∧ kAll (cF cA (va_up (cs_i zc) 2 3, cs_n zc, cs_I zc, cs_L zc, cs_N zc, cs_S zc, cs_X zc)) [(0, 0), (0, 10), (6, js), (7, js)] [(cs_X zc 0 0, .inr (10, [.ref (cs_X zc 0 1), .ref (cs_X zc 0 6), .ref (cs_X zc 0 7), .ref (cs_X zc 0 8), .ref (cs_X zc 0 9), .ref (cs_X zc 0 10), .ref (cs_X zc 0 11), .int (nI (cs_n zc 0)), .int (nI (cs_n zc 1)), .int (nI (cs_n zc 2)), .int (nI (cs_n zc 3)), va_rf (opN (cs_n zc 4) (fun _ => cs_X zc 5 0)), .int 3])), cR10 cA zc, cSh zc js, cSc cA zc js] ∧ ∀ i j, (i, j) ∉ ([(0, 0), (0, 10), (6, js), (7, js)] : List (Nat × Nat)) → cF cA (va_up (cs_i zc) 2 3, cs_n zc, cs_I zc, cs_L zc, cs_N zc, cs_S zc, cs_X zc) i j = none ∨ ((i, j) ∉ ([(0, 0), (0, 10), (6, js), (7, js)] : List (Nat × Nat)) ∧ cF cA (va_up (cs_i zc) 2 3, cs_n zc, cs_I zc, cs_L zc, cs_N zc, cs_S zc, cs_X zc) i j = cF cA zc i j) := by
  obtain ⟨⟨hn0, hn1, hn2, hn3, hn4, hn5⟩, hpi, hgk, htk, hpk, hsh⟩ := id hI
  refine ⟨hI, ⟨(by (rw [(kF_tp (cA := cA) (z := (va_up (cs_i zc) 2 3, cs_n zc, cs_I zc, cs_L zc, cs_N zc, cs_S zc, cs_X zc)))]) <;> simp [cTP, cTPN, cTPA, cLo, cA2, cA3, cA4, cA5, cR6, cR7, cR8, cR9, cR10, cTr, cPi, cPiN, cPiT, cGa, cGaK, cTa, cPa, cAu, cAuN, cAuB, cSh, cSc, cs_i, cs_n, cs_I, cs_L, cs_N, cs_S, cs_X, va_up, upd, opN]), (by (rw [(kF_r10 (cA := cA) (z := (va_up (cs_i zc) 2 3, cs_n zc, cs_I zc, cs_L zc, cs_N zc, cs_S zc, cs_X zc)))]) <;> simp [cTP, cTPN, cTPA, cLo, cA2, cA3, cA4, cA5, cR6, cR7, cR8, cR9, cR10, cTr, cPi, cPiN, cPiT, cGa, cGaK, cTa, cPa, cAu, cAuN, cAuB, cSh, cSc, cs_i, cs_n, cs_I, cs_L, cs_N, cs_S, cs_X, va_up, upd, opN]), (by (rw [(kF_sh (z := (va_up (cs_i zc) 2 3, cs_n zc, cs_I zc, cs_L zc, cs_N zc, cs_S zc, cs_X zc)) hjs)]) <;> simp [cTP, cTPN, cTPA, cLo, cA2, cA3, cA4, cA5, cR6, cR7, cR8, cR9, cR10, cTr, cPi, cPiN, cPiT, cGa, cGaK, cTa, cPa, cAu, cAuN, cAuB, cSh, cSc, cs_i, cs_n, cs_I, cs_L, cs_N, cs_S, cs_X, va_up, upd, opN]), (by (rw [(kF_sc (z := (va_up (cs_i zc) 2 3, cs_n zc, cs_I zc, cs_L zc, cs_N zc, cs_S zc, cs_X zc)) hjs)]) <;> simp [cTP, cTPN, cTPA, cLo, cA2, cA3, cA4, cA5, cR6, cR7, cR8, cR9, cR10, cTr, cPi, cPiN, cPiT, cGa, cGaK, cTa, cPa, cAu, cAuN, cAuB, cSh, cSc, cs_i, cs_n, cs_I, cs_L, cs_N, cs_S, cs_X, va_up, upd, opN]), trivial⟩, ?_⟩
  intro i j hij
  refine Or.inr ⟨hij, ?_⟩
  rcases i with _ | _ | _ | _ | _ | _ | _ | _ | i
  · rcases j with _ | _ | _ | _ | _ | _ | _ | _ | _ | _ | _ | _ | j
    · exact absurd (by simp) hij
    · show some (cLo (va_up (cs_i zc) 2 3, cs_n zc, cs_I zc, cs_L zc, cs_N zc, cs_S zc, cs_X zc)) = some (cLo zc); simp [cLo, cs_i, cs_n, cs_I, cs_L, cs_N, cs_S, cs_X, va_up]
    · show some (cA2 cA (va_up (cs_i zc) 2 3, cs_n zc, cs_I zc, cs_L zc, cs_N zc, cs_S zc, cs_X zc)) = some (cA2 cA zc); simp [cA2, cs_i, cs_n, cs_I, cs_L, cs_N, cs_S, cs_X, va_up]
    · show some (cA3 cA (va_up (cs_i zc) 2 3, cs_n zc, cs_I zc, cs_L zc, cs_N zc, cs_S zc, cs_X zc)) = some (cA3 cA zc); simp [cA3, cs_i, cs_n, cs_I, cs_L, cs_N, cs_S, cs_X, va_up]
    · show some (cA4 cA (va_up (cs_i zc) 2 3, cs_n zc, cs_I zc, cs_L zc, cs_N zc, cs_S zc, cs_X zc)) = some (cA4 cA zc); simp [cA4, cs_i, cs_n, cs_I, cs_L, cs_N, cs_S, cs_X, va_up]
    · show some (cA5 cA (va_up (cs_i zc) 2 3, cs_n zc, cs_I zc, cs_L zc, cs_N zc, cs_S zc, cs_X zc)) = some (cA5 cA zc); simp [cA5, cs_i, cs_n, cs_I, cs_L, cs_N, cs_S, cs_X, va_up]
    · show some (cR6 cA (va_up (cs_i zc) 2 3, cs_n zc, cs_I zc, cs_L zc, cs_N zc, cs_S zc, cs_X zc)) = some (cR6 cA zc); simp [cR6, cs_i, cs_n, cs_I, cs_L, cs_N, cs_S, cs_X, va_up]
    · show some (cR7 cA (va_up (cs_i zc) 2 3, cs_n zc, cs_I zc, cs_L zc, cs_N zc, cs_S zc, cs_X zc)) = some (cR7 cA zc); simp [cR7, cs_i, cs_n, cs_I, cs_L, cs_N, cs_S, cs_X, va_up]
    · show some (cR8 cA (va_up (cs_i zc) 2 3, cs_n zc, cs_I zc, cs_L zc, cs_N zc, cs_S zc, cs_X zc)) = some (cR8 cA zc); simp [cR8, cs_i, cs_n, cs_I, cs_L, cs_N, cs_S, cs_X, va_up]
    · show some (cR9 cA (va_up (cs_i zc) 2 3, cs_n zc, cs_I zc, cs_L zc, cs_N zc, cs_S zc, cs_X zc)) = some (cR9 cA zc); simp [cR9, cs_i, cs_n, cs_I, cs_L, cs_N, cs_S, cs_X, va_up]
    · exact absurd (by simp) hij
    · show some (cTr (va_up (cs_i zc) 2 3, cs_n zc, cs_I zc, cs_L zc, cs_N zc, cs_S zc, cs_X zc)) = some (cTr zc); simp [cTr, cs_i, cs_n, cs_I, cs_L, cs_N, cs_S, cs_X, va_up]
    · show (none : Option (Nat × va_E)) = none; rfl
  · show (if j < cs_n (va_up (cs_i zc) 2 3, cs_n zc, cs_I zc, cs_L zc, cs_N zc, cs_S zc, cs_X zc) 0 then some (cPi (va_up (cs_i zc) 2 3, cs_n zc, cs_I zc, cs_L zc, cs_N zc, cs_S zc, cs_X zc) j) else none) = if j < cs_n zc 0 then some (cPi zc j) else none
    simp [cPi, cs_i, cs_n, cs_I, cs_L, cs_N, cs_S, cs_X, va_up]
  · show (if j < cs_n (va_up (cs_i zc) 2 3, cs_n zc, cs_I zc, cs_L zc, cs_N zc, cs_S zc, cs_X zc) 1 then some (cGa (va_up (cs_i zc) 2 3, cs_n zc, cs_I zc, cs_L zc, cs_N zc, cs_S zc, cs_X zc) j) else none) = if j < cs_n zc 1 then some (cGa zc j) else none
    simp [cGa, cs_i, cs_n, cs_I, cs_L, cs_N, cs_S, cs_X, va_up]
  · show (if j < cs_n (va_up (cs_i zc) 2 3, cs_n zc, cs_I zc, cs_L zc, cs_N zc, cs_S zc, cs_X zc) 2 then some (cTa (va_up (cs_i zc) 2 3, cs_n zc, cs_I zc, cs_L zc, cs_N zc, cs_S zc, cs_X zc) j) else none) = if j < cs_n zc 2 then some (cTa zc j) else none
    simp [cTa, cs_i, cs_n, cs_I, cs_L, cs_N, cs_S, cs_X, va_up]
  · show (if j < cs_n (va_up (cs_i zc) 2 3, cs_n zc, cs_I zc, cs_L zc, cs_N zc, cs_S zc, cs_X zc) 3 then some (cPa (va_up (cs_i zc) 2 3, cs_n zc, cs_I zc, cs_L zc, cs_N zc, cs_S zc, cs_X zc) j) else none) = if j < cs_n zc 3 then some (cPa zc j) else none
    simp [cPa, cs_i, cs_n, cs_I, cs_L, cs_N, cs_S, cs_X, va_up]
  · show (if j = 0 ∧ ¬ cs_n (va_up (cs_i zc) 2 3, cs_n zc, cs_I zc, cs_L zc, cs_N zc, cs_S zc, cs_X zc) 4 = 0 then some (cAu (va_up (cs_i zc) 2 3, cs_n zc, cs_I zc, cs_L zc, cs_N zc, cs_S zc, cs_X zc)) else none) = if j = 0 ∧ ¬ cs_n zc 4 = 0 then some (cAu zc) else none
    simp [cAu, cs_i, cs_n, cs_I, cs_L, cs_N, cs_S, cs_X, va_up]
  · show (if j < 4 then some (cSh (va_up (cs_i zc) 2 3, cs_n zc, cs_I zc, cs_L zc, cs_N zc, cs_S zc, cs_X zc) j) else none) = if j < 4 then some (cSh zc j) else none
    simp [cSh, cs_i, cs_n, cs_I, cs_L, cs_N, cs_S, cs_X, va_up]
  · show (if j < 4 then some (cSc cA (va_up (cs_i zc) 2 3, cs_n zc, cs_I zc, cs_L zc, cs_N zc, cs_S zc, cs_X zc) j) else none) = if j < 4 then some (cSc cA zc j) else none
    simp [cSc, cs_i, cs_n, cs_I, cs_L, cs_N, cs_S, cs_X, va_up]
  · show (none : Option (Nat × va_E)) = none; rfl
set_option maxHeartbeats 4000000 in
theorem lf_copy_7 (cA : Nat → ClassId) (zc : CS) (ix : Int32) (jx : Int32) (n : Int32) (js : Nat) (hjs : js < 4) (c10 : ¬ ((cs_I zc 8 js) = -1)) (c13 : ¬ ((cs_I zc 8 js) = -1)) (c14 : ¬ (cs_I zc 8 js) = (cs_I zc 8 js)) (hI : invC zc) : invC (va_up (cs_i zc) 2 2, cs_n zc, cs_I zc, cs_L zc, cs_N zc, cs_S zc, cs_X zc) ∧ kAll (cF cA (va_up (cs_i zc) 2 2, cs_n zc, cs_I zc, cs_L zc, cs_N zc, cs_S zc, cs_X zc)) [(0, 0), (0, 10), (6, js), (7, js)] [(cs_X zc 0 0, .inr (10, [.ref (cs_X zc 0 1), .ref (cs_X zc 0 6), .ref (cs_X zc 0 7), .ref (cs_X zc 0 8), .ref (cs_X zc 0 9), .ref (cs_X zc 0 10), .ref (cs_X zc 0 11), .int (nI (cs_n zc 0)), .int (nI (cs_n zc 1)), .int (nI (cs_n zc 2)), .int (nI (cs_n zc 3)), va_rf (opN (cs_n zc 4) (fun _ => cs_X zc 5 0)), .int 2])), cR10 cA zc, cSh zc js, cSc cA zc js] ∧ ∀ i j, (i, j) ∉ ([(0, 0), (0, 10), (6, js), (7, js)] : List (Nat × Nat)) → cF cA (va_up (cs_i zc) 2 2, cs_n zc, cs_I zc, cs_L zc, cs_N zc, cs_S zc, cs_X zc) i j = none ∨ ((i, j) ∉ ([(0, 0), (0, 10), (6, js), (7, js)] : List (Nat × Nat)) ∧ cF cA (va_up (cs_i zc) 2 2, cs_n zc, cs_I zc, cs_L zc, cs_N zc, cs_S zc, cs_X zc) i j = cF cA zc i j) := by
  obtain ⟨⟨hn0, hn1, hn2, hn3, hn4, hn5⟩, hpi, hgk, htk, hpk, hsh⟩ := id hI
  refine ⟨hI, ⟨(by (rw [(kF_tp (cA := cA) (z := (va_up (cs_i zc) 2 2, cs_n zc, cs_I zc, cs_L zc, cs_N zc, cs_S zc, cs_X zc)))]) <;> simp [cTP, cTPN, cTPA, cLo, cA2, cA3, cA4, cA5, cR6, cR7, cR8, cR9, cR10, cTr, cPi, cPiN, cPiT, cGa, cGaK, cTa, cPa, cAu, cAuN, cAuB, cSh, cSc, cs_i, cs_n, cs_I, cs_L, cs_N, cs_S, cs_X, va_up, upd, opN]), (by (rw [(kF_r10 (cA := cA) (z := (va_up (cs_i zc) 2 2, cs_n zc, cs_I zc, cs_L zc, cs_N zc, cs_S zc, cs_X zc)))]) <;> simp [cTP, cTPN, cTPA, cLo, cA2, cA3, cA4, cA5, cR6, cR7, cR8, cR9, cR10, cTr, cPi, cPiN, cPiT, cGa, cGaK, cTa, cPa, cAu, cAuN, cAuB, cSh, cSc, cs_i, cs_n, cs_I, cs_L, cs_N, cs_S, cs_X, va_up, upd, opN]), (by (rw [(kF_sh (z := (va_up (cs_i zc) 2 2, cs_n zc, cs_I zc, cs_L zc, cs_N zc, cs_S zc, cs_X zc)) hjs)]) <;> simp [cTP, cTPN, cTPA, cLo, cA2, cA3, cA4, cA5, cR6, cR7, cR8, cR9, cR10, cTr, cPi, cPiN, cPiT, cGa, cGaK, cTa, cPa, cAu, cAuN, cAuB, cSh, cSc, cs_i, cs_n, cs_I, cs_L, cs_N, cs_S, cs_X, va_up, upd, opN]), (by (rw [(kF_sc (z := (va_up (cs_i zc) 2 2, cs_n zc, cs_I zc, cs_L zc, cs_N zc, cs_S zc, cs_X zc)) hjs)]) <;> simp [cTP, cTPN, cTPA, cLo, cA2, cA3, cA4, cA5, cR6, cR7, cR8, cR9, cR10, cTr, cPi, cPiN, cPiT, cGa, cGaK, cTa, cPa, cAu, cAuN, cAuB, cSh, cSc, cs_i, cs_n, cs_I, cs_L, cs_N, cs_S, cs_X, va_up, upd, opN]), trivial⟩, ?_⟩
  intro i j hij
  refine Or.inr ⟨hij, ?_⟩
  rcases i with _ | _ | _ | _ | _ | _ | _ | _ | i
  · rcases j with _ | _ | _ | _ | _ | _ | _ | _ | _ | _ | _ | _ | j
    · exact absurd (by simp) hij
    · show some (cLo (va_up (cs_i zc) 2 2, cs_n zc, cs_I zc, cs_L zc, cs_N zc, cs_S zc, cs_X zc)) = some (cLo zc); simp [cLo, cs_i, cs_n, cs_I, cs_L, cs_N, cs_S, cs_X, va_up]
    · show some (cA2 cA (va_up (cs_i zc) 2 2, cs_n zc, cs_I zc, cs_L zc, cs_N zc, cs_S zc, cs_X zc)) = some (cA2 cA zc); simp [cA2, cs_i, cs_n, cs_I, cs_L, cs_N, cs_S, cs_X, va_up]
    · show some (cA3 cA (va_up (cs_i zc) 2 2, cs_n zc, cs_I zc, cs_L zc, cs_N zc, cs_S zc, cs_X zc)) = some (cA3 cA zc); simp [cA3, cs_i, cs_n, cs_I, cs_L, cs_N, cs_S, cs_X, va_up]
    · show some (cA4 cA (va_up (cs_i zc) 2 2, cs_n zc, cs_I zc, cs_L zc, cs_N zc, cs_S zc, cs_X zc)) = some (cA4 cA zc); simp [cA4, cs_i, cs_n, cs_I, cs_L, cs_N, cs_S, cs_X, va_up]
    · show some (cA5 cA (va_up (cs_i zc) 2 2, cs_n zc, cs_I zc, cs_L zc, cs_N zc, cs_S zc, cs_X zc)) = some (cA5 cA zc); simp [cA5, cs_i, cs_n, cs_I, cs_L, cs_N, cs_S, cs_X, va_up]
    · show some (cR6 cA (va_up (cs_i zc) 2 2, cs_n zc, cs_I zc, cs_L zc, cs_N zc, cs_S zc, cs_X zc)) = some (cR6 cA zc); simp [cR6, cs_i, cs_n, cs_I, cs_L, cs_N, cs_S, cs_X, va_up]
    · show some (cR7 cA (va_up (cs_i zc) 2 2, cs_n zc, cs_I zc, cs_L zc, cs_N zc, cs_S zc, cs_X zc)) = some (cR7 cA zc); simp [cR7, cs_i, cs_n, cs_I, cs_L, cs_N, cs_S, cs_X, va_up]
    · show some (cR8 cA (va_up (cs_i zc) 2 2, cs_n zc, cs_I zc, cs_L zc, cs_N zc, cs_S zc, cs_X zc)) = some (cR8 cA zc); simp [cR8, cs_i, cs_n, cs_I, cs_L, cs_N, cs_S, cs_X, va_up]
    · show some (cR9 cA (va_up (cs_i zc) 2 2, cs_n zc, cs_I zc, cs_L zc, cs_N zc, cs_S zc, cs_X zc)) = some (cR9 cA zc); simp [cR9, cs_i, cs_n, cs_I, cs_L, cs_N, cs_S, cs_X, va_up]
    · exact absurd (by simp) hij
    · show some (cTr (va_up (cs_i zc) 2 2, cs_n zc, cs_I zc, cs_L zc, cs_N zc, cs_S zc, cs_X zc)) = some (cTr zc); simp [cTr, cs_i, cs_n, cs_I, cs_L, cs_N, cs_S, cs_X, va_up]
    · show (none : Option (Nat × va_E)) = none; rfl
  · show (if j < cs_n (va_up (cs_i zc) 2 2, cs_n zc, cs_I zc, cs_L zc, cs_N zc, cs_S zc, cs_X zc) 0 then some (cPi (va_up (cs_i zc) 2 2, cs_n zc, cs_I zc, cs_L zc, cs_N zc, cs_S zc, cs_X zc) j) else none) = if j < cs_n zc 0 then some (cPi zc j) else none
    simp [cPi, cs_i, cs_n, cs_I, cs_L, cs_N, cs_S, cs_X, va_up]
  · show (if j < cs_n (va_up (cs_i zc) 2 2, cs_n zc, cs_I zc, cs_L zc, cs_N zc, cs_S zc, cs_X zc) 1 then some (cGa (va_up (cs_i zc) 2 2, cs_n zc, cs_I zc, cs_L zc, cs_N zc, cs_S zc, cs_X zc) j) else none) = if j < cs_n zc 1 then some (cGa zc j) else none
    simp [cGa, cs_i, cs_n, cs_I, cs_L, cs_N, cs_S, cs_X, va_up]
  · show (if j < cs_n (va_up (cs_i zc) 2 2, cs_n zc, cs_I zc, cs_L zc, cs_N zc, cs_S zc, cs_X zc) 2 then some (cTa (va_up (cs_i zc) 2 2, cs_n zc, cs_I zc, cs_L zc, cs_N zc, cs_S zc, cs_X zc) j) else none) = if j < cs_n zc 2 then some (cTa zc j) else none
    simp [cTa, cs_i, cs_n, cs_I, cs_L, cs_N, cs_S, cs_X, va_up]
  · show (if j < cs_n (va_up (cs_i zc) 2 2, cs_n zc, cs_I zc, cs_L zc, cs_N zc, cs_S zc, cs_X zc) 3 then some (cPa (va_up (cs_i zc) 2 2, cs_n zc, cs_I zc, cs_L zc, cs_N zc, cs_S zc, cs_X zc) j) else none) = if j < cs_n zc 3 then some (cPa zc j) else none
    simp [cPa, cs_i, cs_n, cs_I, cs_L, cs_N, cs_S, cs_X, va_up]
  · show (if j = 0 ∧ ¬ cs_n (va_up (cs_i zc) 2 2, cs_n zc, cs_I zc, cs_L zc, cs_N zc, cs_S zc, cs_X zc) 4 = 0 then some (cAu (va_up (cs_i zc) 2 2, cs_n zc, cs_I zc, cs_L zc, cs_N zc, cs_S zc, cs_X zc)) else none) = if j = 0 ∧ ¬ cs_n zc 4 = 0 then some (cAu zc) else none
    simp [cAu, cs_i, cs_n, cs_I, cs_L, cs_N, cs_S, cs_X, va_up]
  · show (if j < 4 then some (cSh (va_up (cs_i zc) 2 2, cs_n zc, cs_I zc, cs_L zc, cs_N zc, cs_S zc, cs_X zc) j) else none) = if j < 4 then some (cSh zc j) else none
    simp [cSh, cs_i, cs_n, cs_I, cs_L, cs_N, cs_S, cs_X, va_up]
  · show (if j < 4 then some (cSc cA (va_up (cs_i zc) 2 2, cs_n zc, cs_I zc, cs_L zc, cs_N zc, cs_S zc, cs_X zc) j) else none) = if j < 4 then some (cSc cA zc j) else none
    simp [cSc, cs_i, cs_n, cs_I, cs_L, cs_N, cs_S, cs_X, va_up]
  · show (none : Option (Nat × va_E)) = none; rfl
set_option maxHeartbeats 4000000 in
theorem lf_copy_8 (cA : Nat → ClassId) (zc : CS) (ix : Int32) (jx : Int32) (n : Int32) (js : Nat) (hjs : js < 4) (c10 : ¬ ((cs_I zc 8 js) = -1)) (c13 : (cs_I zc 8 js) = -1) (hI : invC zc) : invC (va_up (cs_i zc) 2 1, cs_n zc, cs_I zc, cs_L zc, cs_N zc, cs_S zc, cs_X zc) ∧ kAll (cF cA (va_up (cs_i zc) 2 1, cs_n zc, cs_I zc, cs_L zc, cs_N zc, cs_S zc, cs_X zc)) [(0, 0), (0, 10), (6, js), (7, js)] [(cs_X zc 0 0, .inr (10, [.ref (cs_X zc 0 1), .ref (cs_X zc 0 6), .ref (cs_X zc 0 7), .ref (cs_X zc 0 8), .ref (cs_X zc 0 9), .ref (cs_X zc 0 10), .ref (cs_X zc 0 11), .int (nI (cs_n zc 0)), .int (nI (cs_n zc 1)), .int (nI (cs_n zc 2)), .int (nI (cs_n zc 3)), va_rf (opN (cs_n zc 4) (fun _ => cs_X zc 5 0)), .int 1])), cR10 cA zc, cSh zc js, cSc cA zc js] ∧ ∀ i j, (i, j) ∉ ([(0, 0), (0, 10), (6, js), (7, js)] : List (Nat × Nat)) → cF cA (va_up (cs_i zc) 2 1, cs_n zc, cs_I zc, cs_L zc, cs_N zc, cs_S zc, cs_X zc) i j = none ∨ ((i, j) ∉ ([(0, 0), (0, 10), (6, js), (7, js)] : List (Nat × Nat)) ∧ cF cA (va_up (cs_i zc) 2 1, cs_n zc, cs_I zc, cs_L zc, cs_N zc, cs_S zc, cs_X zc) i j = cF cA zc i j) := by
  obtain ⟨⟨hn0, hn1, hn2, hn3, hn4, hn5⟩, hpi, hgk, htk, hpk, hsh⟩ := id hI
  refine ⟨hI, ⟨(by (rw [(kF_tp (cA := cA) (z := (va_up (cs_i zc) 2 1, cs_n zc, cs_I zc, cs_L zc, cs_N zc, cs_S zc, cs_X zc)))]) <;> simp [cTP, cTPN, cTPA, cLo, cA2, cA3, cA4, cA5, cR6, cR7, cR8, cR9, cR10, cTr, cPi, cPiN, cPiT, cGa, cGaK, cTa, cPa, cAu, cAuN, cAuB, cSh, cSc, cs_i, cs_n, cs_I, cs_L, cs_N, cs_S, cs_X, va_up, upd, opN]), (by (rw [(kF_r10 (cA := cA) (z := (va_up (cs_i zc) 2 1, cs_n zc, cs_I zc, cs_L zc, cs_N zc, cs_S zc, cs_X zc)))]) <;> simp [cTP, cTPN, cTPA, cLo, cA2, cA3, cA4, cA5, cR6, cR7, cR8, cR9, cR10, cTr, cPi, cPiN, cPiT, cGa, cGaK, cTa, cPa, cAu, cAuN, cAuB, cSh, cSc, cs_i, cs_n, cs_I, cs_L, cs_N, cs_S, cs_X, va_up, upd, opN]), (by (rw [(kF_sh (z := (va_up (cs_i zc) 2 1, cs_n zc, cs_I zc, cs_L zc, cs_N zc, cs_S zc, cs_X zc)) hjs)]) <;> simp [cTP, cTPN, cTPA, cLo, cA2, cA3, cA4, cA5, cR6, cR7, cR8, cR9, cR10, cTr, cPi, cPiN, cPiT, cGa, cGaK, cTa, cPa, cAu, cAuN, cAuB, cSh, cSc, cs_i, cs_n, cs_I, cs_L, cs_N, cs_S, cs_X, va_up, upd, opN]), (by (rw [(kF_sc (z := (va_up (cs_i zc) 2 1, cs_n zc, cs_I zc, cs_L zc, cs_N zc, cs_S zc, cs_X zc)) hjs)]) <;> simp [cTP, cTPN, cTPA, cLo, cA2, cA3, cA4, cA5, cR6, cR7, cR8, cR9, cR10, cTr, cPi, cPiN, cPiT, cGa, cGaK, cTa, cPa, cAu, cAuN, cAuB, cSh, cSc, cs_i, cs_n, cs_I, cs_L, cs_N, cs_S, cs_X, va_up, upd, opN]), trivial⟩, ?_⟩
  intro i j hij
  refine Or.inr ⟨hij, ?_⟩
  rcases i with _ | _ | _ | _ | _ | _ | _ | _ | i
  · rcases j with _ | _ | _ | _ | _ | _ | _ | _ | _ | _ | _ | _ | j
    · exact absurd (by simp) hij
    · show some (cLo (va_up (cs_i zc) 2 1, cs_n zc, cs_I zc, cs_L zc, cs_N zc, cs_S zc, cs_X zc)) = some (cLo zc); simp [cLo, cs_i, cs_n, cs_I, cs_L, cs_N, cs_S, cs_X, va_up]
    · show some (cA2 cA (va_up (cs_i zc) 2 1, cs_n zc, cs_I zc, cs_L zc, cs_N zc, cs_S zc, cs_X zc)) = some (cA2 cA zc); simp [cA2, cs_i, cs_n, cs_I, cs_L, cs_N, cs_S, cs_X, va_up]
    · show some (cA3 cA (va_up (cs_i zc) 2 1, cs_n zc, cs_I zc, cs_L zc, cs_N zc, cs_S zc, cs_X zc)) = some (cA3 cA zc); simp [cA3, cs_i, cs_n, cs_I, cs_L, cs_N, cs_S, cs_X, va_up]
    · show some (cA4 cA (va_up (cs_i zc) 2 1, cs_n zc, cs_I zc, cs_L zc, cs_N zc, cs_S zc, cs_X zc)) = some (cA4 cA zc); simp [cA4, cs_i, cs_n, cs_I, cs_L, cs_N, cs_S, cs_X, va_up]
    · show some (cA5 cA (va_up (cs_i zc) 2 1, cs_n zc, cs_I zc, cs_L zc, cs_N zc, cs_S zc, cs_X zc)) = some (cA5 cA zc); simp [cA5, cs_i, cs_n, cs_I, cs_L, cs_N, cs_S, cs_X, va_up]
    · show some (cR6 cA (va_up (cs_i zc) 2 1, cs_n zc, cs_I zc, cs_L zc, cs_N zc, cs_S zc, cs_X zc)) = some (cR6 cA zc); simp [cR6, cs_i, cs_n, cs_I, cs_L, cs_N, cs_S, cs_X, va_up]
    · show some (cR7 cA (va_up (cs_i zc) 2 1, cs_n zc, cs_I zc, cs_L zc, cs_N zc, cs_S zc, cs_X zc)) = some (cR7 cA zc); simp [cR7, cs_i, cs_n, cs_I, cs_L, cs_N, cs_S, cs_X, va_up]
    · show some (cR8 cA (va_up (cs_i zc) 2 1, cs_n zc, cs_I zc, cs_L zc, cs_N zc, cs_S zc, cs_X zc)) = some (cR8 cA zc); simp [cR8, cs_i, cs_n, cs_I, cs_L, cs_N, cs_S, cs_X, va_up]
    · show some (cR9 cA (va_up (cs_i zc) 2 1, cs_n zc, cs_I zc, cs_L zc, cs_N zc, cs_S zc, cs_X zc)) = some (cR9 cA zc); simp [cR9, cs_i, cs_n, cs_I, cs_L, cs_N, cs_S, cs_X, va_up]
    · exact absurd (by simp) hij
    · show some (cTr (va_up (cs_i zc) 2 1, cs_n zc, cs_I zc, cs_L zc, cs_N zc, cs_S zc, cs_X zc)) = some (cTr zc); simp [cTr, cs_i, cs_n, cs_I, cs_L, cs_N, cs_S, cs_X, va_up]
    · show (none : Option (Nat × va_E)) = none; rfl
  · show (if j < cs_n (va_up (cs_i zc) 2 1, cs_n zc, cs_I zc, cs_L zc, cs_N zc, cs_S zc, cs_X zc) 0 then some (cPi (va_up (cs_i zc) 2 1, cs_n zc, cs_I zc, cs_L zc, cs_N zc, cs_S zc, cs_X zc) j) else none) = if j < cs_n zc 0 then some (cPi zc j) else none
    simp [cPi, cs_i, cs_n, cs_I, cs_L, cs_N, cs_S, cs_X, va_up]
  · show (if j < cs_n (va_up (cs_i zc) 2 1, cs_n zc, cs_I zc, cs_L zc, cs_N zc, cs_S zc, cs_X zc) 1 then some (cGa (va_up (cs_i zc) 2 1, cs_n zc, cs_I zc, cs_L zc, cs_N zc, cs_S zc, cs_X zc) j) else none) = if j < cs_n zc 1 then some (cGa zc j) else none
    simp [cGa, cs_i, cs_n, cs_I, cs_L, cs_N, cs_S, cs_X, va_up]
  · show (if j < cs_n (va_up (cs_i zc) 2 1, cs_n zc, cs_I zc, cs_L zc, cs_N zc, cs_S zc, cs_X zc) 2 then some (cTa (va_up (cs_i zc) 2 1, cs_n zc, cs_I zc, cs_L zc, cs_N zc, cs_S zc, cs_X zc) j) else none) = if j < cs_n zc 2 then some (cTa zc j) else none
    simp [cTa, cs_i, cs_n, cs_I, cs_L, cs_N, cs_S, cs_X, va_up]
  · show (if j < cs_n (va_up (cs_i zc) 2 1, cs_n zc, cs_I zc, cs_L zc, cs_N zc, cs_S zc, cs_X zc) 3 then some (cPa (va_up (cs_i zc) 2 1, cs_n zc, cs_I zc, cs_L zc, cs_N zc, cs_S zc, cs_X zc) j) else none) = if j < cs_n zc 3 then some (cPa zc j) else none
    simp [cPa, cs_i, cs_n, cs_I, cs_L, cs_N, cs_S, cs_X, va_up]
  · show (if j = 0 ∧ ¬ cs_n (va_up (cs_i zc) 2 1, cs_n zc, cs_I zc, cs_L zc, cs_N zc, cs_S zc, cs_X zc) 4 = 0 then some (cAu (va_up (cs_i zc) 2 1, cs_n zc, cs_I zc, cs_L zc, cs_N zc, cs_S zc, cs_X zc)) else none) = if j = 0 ∧ ¬ cs_n zc 4 = 0 then some (cAu zc) else none
    simp [cAu, cs_i, cs_n, cs_I, cs_L, cs_N, cs_S, cs_X, va_up]
  · show (if j < 4 then some (cSh (va_up (cs_i zc) 2 1, cs_n zc, cs_I zc, cs_L zc, cs_N zc, cs_S zc, cs_X zc) j) else none) = if j < 4 then some (cSh zc j) else none
    simp [cSh, cs_i, cs_n, cs_I, cs_L, cs_N, cs_S, cs_X, va_up]
  · show (if j < 4 then some (cSc cA (va_up (cs_i zc) 2 1, cs_n zc, cs_I zc, cs_L zc, cs_N zc, cs_S zc, cs_X zc) j) else none) = if j < 4 then some (cSc cA zc j) else none
    simp [cSc, cs_i, cs_n, cs_I, cs_L, cs_N, cs_S, cs_X, va_up]
  · show (none : Option (Nat × va_E)) = none; rfl
set_option maxHeartbeats 4000000 in
theorem lf_copy_9 (cA : Nat → ClassId) (zc : CS) (ix : Int32) (jx : Int32) (n : Int32) (js : Nat) (jo : Nat) (hjs : js < 4) (hjo : jo < 4) (hjj : ¬ js = jo) (c26 : (cs_I zc 8 js) = -1) (hI : invC zc) : invC (va_up (cs_i zc) 2 1, cs_n zc, cs_I zc, cs_L zc, cs_N zc, cs_S zc, cs_X zc) ∧ kAll (cF cA (va_up (cs_i zc) 2 1, cs_n zc, cs_I zc, cs_L zc, cs_N zc, cs_S zc, cs_X zc)) [(0, 0), (0, 10), (6, js), (7, js), (6, jo), (7, jo)] [(cs_X zc 0 0, .inr (10, [.ref (cs_X zc 0 1), .ref (cs_X zc 0 6), .ref (cs_X zc 0 7), .ref (cs_X zc 0 8), .ref (cs_X zc 0 9), .ref (cs_X zc 0 10), .ref (cs_X zc 0 11), .int (nI (cs_n zc 0)), .int (nI (cs_n zc 1)), .int (nI (cs_n zc 2)), .int (nI (cs_n zc 3)), va_rf (opN (cs_n zc 4) (fun _ => cs_X zc 5 0)), .int 1])), cR10 cA zc, cSh zc js, cSc cA zc js, cSh zc jo, cSc cA zc jo] ∧ ∀ i j, (i, j) ∉ ([(0, 0), (0, 10), (6, js), (7, js), (6, jo), (7, jo)] : List (Nat × Nat)) → cF cA (va_up (cs_i zc) 2 1, cs_n zc, cs_I zc, cs_L zc, cs_N zc, cs_S zc, cs_X zc) i j = none ∨ ((i, j) ∉ ([(0, 0), (0, 10), (6, js), (7, js), (6, jo), (7, jo)] : List (Nat × Nat)) ∧ cF cA (va_up (cs_i zc) 2 1, cs_n zc, cs_I zc, cs_L zc, cs_N zc, cs_S zc, cs_X zc) i j = cF cA zc i j) := by
  obtain ⟨⟨hn0, hn1, hn2, hn3, hn4, hn5⟩, hpi, hgk, htk, hpk, hsh⟩ := id hI
  refine ⟨hI, ⟨(by (rw [(kF_tp (cA := cA) (z := (va_up (cs_i zc) 2 1, cs_n zc, cs_I zc, cs_L zc, cs_N zc, cs_S zc, cs_X zc)))]) <;> simp [cTP, cTPN, cTPA, cLo, cA2, cA3, cA4, cA5, cR6, cR7, cR8, cR9, cR10, cTr, cPi, cPiN, cPiT, cGa, cGaK, cTa, cPa, cAu, cAuN, cAuB, cSh, cSc, cs_i, cs_n, cs_I, cs_L, cs_N, cs_S, cs_X, va_up, upd, opN, hjj]), (by (rw [(kF_r10 (cA := cA) (z := (va_up (cs_i zc) 2 1, cs_n zc, cs_I zc, cs_L zc, cs_N zc, cs_S zc, cs_X zc)))]) <;> simp [cTP, cTPN, cTPA, cLo, cA2, cA3, cA4, cA5, cR6, cR7, cR8, cR9, cR10, cTr, cPi, cPiN, cPiT, cGa, cGaK, cTa, cPa, cAu, cAuN, cAuB, cSh, cSc, cs_i, cs_n, cs_I, cs_L, cs_N, cs_S, cs_X, va_up, upd, opN, hjj]), (by (rw [(kF_sh (z := (va_up (cs_i zc) 2 1, cs_n zc, cs_I zc, cs_L zc, cs_N zc, cs_S zc, cs_X zc)) hjs)]) <;> simp [cTP, cTPN, cTPA, cLo, cA2, cA3, cA4, cA5, cR6, cR7, cR8, cR9, cR10, cTr, cPi, cPiN, cPiT, cGa, cGaK, cTa, cPa, cAu, cAuN, cAuB, cSh, cSc, cs_i, cs_n, cs_I, cs_L, cs_N, cs_S, cs_X, va_up, upd, opN, hjj]), (by (rw [(kF_sc (z := (va_up (cs_i zc) 2 1, cs_n zc, cs_I zc, cs_L zc, cs_N zc, cs_S zc, cs_X zc)) hjs)]) <;> simp [cTP, cTPN, cTPA, cLo, cA2, cA3, cA4, cA5, cR6, cR7, cR8, cR9, cR10, cTr, cPi, cPiN, cPiT, cGa, cGaK, cTa, cPa, cAu, cAuN, cAuB, cSh, cSc, cs_i, cs_n, cs_I, cs_L, cs_N, cs_S, cs_X, va_up, upd, opN, hjj]), (by (rw [(kF_sh (z := (va_up (cs_i zc) 2 1, cs_n zc, cs_I zc, cs_L zc, cs_N zc, cs_S zc, cs_X zc)) hjo)]) <;> simp [cTP, cTPN, cTPA, cLo, cA2, cA3, cA4, cA5, cR6, cR7, cR8, cR9, cR10, cTr, cPi, cPiN, cPiT, cGa, cGaK, cTa, cPa, cAu, cAuN, cAuB, cSh, cSc, cs_i, cs_n, cs_I, cs_L, cs_N, cs_S, cs_X, va_up, upd, opN, hjj]), (by (rw [(kF_sc (z := (va_up (cs_i zc) 2 1, cs_n zc, cs_I zc, cs_L zc, cs_N zc, cs_S zc, cs_X zc)) hjo)]) <;> simp [cTP, cTPN, cTPA, cLo, cA2, cA3, cA4, cA5, cR6, cR7, cR8, cR9, cR10, cTr, cPi, cPiN, cPiT, cGa, cGaK, cTa, cPa, cAu, cAuN, cAuB, cSh, cSc, cs_i, cs_n, cs_I, cs_L, cs_N, cs_S, cs_X, va_up, upd, opN, hjj]), trivial⟩, ?_⟩
  intro i j hij
  refine Or.inr ⟨hij, ?_⟩
  rcases i with _ | _ | _ | _ | _ | _ | _ | _ | i
  · rcases j with _ | _ | _ | _ | _ | _ | _ | _ | _ | _ | _ | _ | j
    · exact absurd (by simp) hij
    · show some (cLo (va_up (cs_i zc) 2 1, cs_n zc, cs_I zc, cs_L zc, cs_N zc, cs_S zc, cs_X zc)) = some (cLo zc); simp [cLo, cs_i, cs_n, cs_I, cs_L, cs_N, cs_S, cs_X, va_up]
    · show some (cA2 cA (va_up (cs_i zc) 2 1, cs_n zc, cs_I zc, cs_L zc, cs_N zc, cs_S zc, cs_X zc)) = some (cA2 cA zc); simp [cA2, cs_i, cs_n, cs_I, cs_L, cs_N, cs_S, cs_X, va_up]
    · show some (cA3 cA (va_up (cs_i zc) 2 1, cs_n zc, cs_I zc, cs_L zc, cs_N zc, cs_S zc, cs_X zc)) = some (cA3 cA zc); simp [cA3, cs_i, cs_n, cs_I, cs_L, cs_N, cs_S, cs_X, va_up]
    · show some (cA4 cA (va_up (cs_i zc) 2 1, cs_n zc, cs_I zc, cs_L zc, cs_N zc, cs_S zc, cs_X zc)) = some (cA4 cA zc); simp [cA4, cs_i, cs_n, cs_I, cs_L, cs_N, cs_S, cs_X, va_up]
    · show some (cA5 cA (va_up (cs_i zc) 2 1, cs_n zc, cs_I zc, cs_L zc, cs_N zc, cs_S zc, cs_X zc)) = some (cA5 cA zc); simp [cA5, cs_i, cs_n, cs_I, cs_L, cs_N, cs_S, cs_X, va_up]
    · show some (cR6 cA (va_up (cs_i zc) 2 1, cs_n zc, cs_I zc, cs_L zc, cs_N zc, cs_S zc, cs_X zc)) = some (cR6 cA zc); simp [cR6, cs_i, cs_n, cs_I, cs_L, cs_N, cs_S, cs_X, va_up]
    · show some (cR7 cA (va_up (cs_i zc) 2 1, cs_n zc, cs_I zc, cs_L zc, cs_N zc, cs_S zc, cs_X zc)) = some (cR7 cA zc); simp [cR7, cs_i, cs_n, cs_I, cs_L, cs_N, cs_S, cs_X, va_up]
    · show some (cR8 cA (va_up (cs_i zc) 2 1, cs_n zc, cs_I zc, cs_L zc, cs_N zc, cs_S zc, cs_X zc)) = some (cR8 cA zc); simp [cR8, cs_i, cs_n, cs_I, cs_L, cs_N, cs_S, cs_X, va_up]
    · show some (cR9 cA (va_up (cs_i zc) 2 1, cs_n zc, cs_I zc, cs_L zc, cs_N zc, cs_S zc, cs_X zc)) = some (cR9 cA zc); simp [cR9, cs_i, cs_n, cs_I, cs_L, cs_N, cs_S, cs_X, va_up]
    · exact absurd (by simp) hij
    · show some (cTr (va_up (cs_i zc) 2 1, cs_n zc, cs_I zc, cs_L zc, cs_N zc, cs_S zc, cs_X zc)) = some (cTr zc); simp [cTr, cs_i, cs_n, cs_I, cs_L, cs_N, cs_S, cs_X, va_up]
    · show (none : Option (Nat × va_E)) = none; rfl
  · show (if j < cs_n (va_up (cs_i zc) 2 1, cs_n zc, cs_I zc, cs_L zc, cs_N zc, cs_S zc, cs_X zc) 0 then some (cPi (va_up (cs_i zc) 2 1, cs_n zc, cs_I zc, cs_L zc, cs_N zc, cs_S zc, cs_X zc) j) else none) = if j < cs_n zc 0 then some (cPi zc j) else none
    simp [cPi, cs_i, cs_n, cs_I, cs_L, cs_N, cs_S, cs_X, va_up]
  · show (if j < cs_n (va_up (cs_i zc) 2 1, cs_n zc, cs_I zc, cs_L zc, cs_N zc, cs_S zc, cs_X zc) 1 then some (cGa (va_up (cs_i zc) 2 1, cs_n zc, cs_I zc, cs_L zc, cs_N zc, cs_S zc, cs_X zc) j) else none) = if j < cs_n zc 1 then some (cGa zc j) else none
    simp [cGa, cs_i, cs_n, cs_I, cs_L, cs_N, cs_S, cs_X, va_up]
  · show (if j < cs_n (va_up (cs_i zc) 2 1, cs_n zc, cs_I zc, cs_L zc, cs_N zc, cs_S zc, cs_X zc) 2 then some (cTa (va_up (cs_i zc) 2 1, cs_n zc, cs_I zc, cs_L zc, cs_N zc, cs_S zc, cs_X zc) j) else none) = if j < cs_n zc 2 then some (cTa zc j) else none
    simp [cTa, cs_i, cs_n, cs_I, cs_L, cs_N, cs_S, cs_X, va_up]
  · show (if j < cs_n (va_up (cs_i zc) 2 1, cs_n zc, cs_I zc, cs_L zc, cs_N zc, cs_S zc, cs_X zc) 3 then some (cPa (va_up (cs_i zc) 2 1, cs_n zc, cs_I zc, cs_L zc, cs_N zc, cs_S zc, cs_X zc) j) else none) = if j < cs_n zc 3 then some (cPa zc j) else none
    simp [cPa, cs_i, cs_n, cs_I, cs_L, cs_N, cs_S, cs_X, va_up]
  · show (if j = 0 ∧ ¬ cs_n (va_up (cs_i zc) 2 1, cs_n zc, cs_I zc, cs_L zc, cs_N zc, cs_S zc, cs_X zc) 4 = 0 then some (cAu (va_up (cs_i zc) 2 1, cs_n zc, cs_I zc, cs_L zc, cs_N zc, cs_S zc, cs_X zc)) else none) = if j = 0 ∧ ¬ cs_n zc 4 = 0 then some (cAu zc) else none
    simp [cAu, cs_i, cs_n, cs_I, cs_L, cs_N, cs_S, cs_X, va_up]
  · show (if j < 4 then some (cSh (va_up (cs_i zc) 2 1, cs_n zc, cs_I zc, cs_L zc, cs_N zc, cs_S zc, cs_X zc) j) else none) = if j < 4 then some (cSh zc j) else none
    simp [cSh, cs_i, cs_n, cs_I, cs_L, cs_N, cs_S, cs_X, va_up]
  · show (if j < 4 then some (cSc cA (va_up (cs_i zc) 2 1, cs_n zc, cs_I zc, cs_L zc, cs_N zc, cs_S zc, cs_X zc) j) else none) = if j < 4 then some (cSc cA zc j) else none
    simp [cSc, cs_i, cs_n, cs_I, cs_L, cs_N, cs_S, cs_X, va_up]
  · show (none : Option (Nat × va_E)) = none; rfl
set_option maxHeartbeats 4000000 in
theorem lf_copy_10 (cA : Nat → ClassId) (zc : CS) (ix : Int32) (jx : Int32) (n : Int32) (js : Nat) (jo : Nat) (hjs : js < 4) (hjo : jo < 4) (hjj : ¬ js = jo) (c26 : ¬ ((cs_I zc 8 js) = -1)) (c29 : ¬ ((cs_I zc 8 jo) = -1)) (c30 : (cs_I zc 8 js) = (cs_I zc 8 jo)) (c32 : ¬ (0 ≤ ix ∧ 0 ≤ n ∧ ix.toInt64 + n.toInt64 ≤ (cs_I zc 9 js).toInt64)) (hI : invC zc) : invC (va_up (cs_i zc) 2 3, cs_n zc, cs_I zc, cs_L zc, cs_N zc, cs_S zc, cs_X zc) ∧ kAll (cF cA (va_up (cs_i zc) 2 3, cs_n zc, cs_I zc, cs_L zc, cs_N zc, cs_S zc, cs_X zc)) [(0, 0), (0, 10), (6, js), (7, js), (6, jo), (7, jo)] [(cs_X zc 0 0, .inr (10, [.ref (cs_X zc 0 1), .ref (cs_X zc 0 6), .ref (cs_X zc 0 7), .ref (cs_X zc 0 8), .ref (cs_X zc 0 9), .ref (cs_X zc 0 10), .ref (cs_X zc 0 11), .int (nI (cs_n zc 0)), .int (nI (cs_n zc 1)), .int (nI (cs_n zc 2)), .int (nI (cs_n zc 3)), va_rf (opN (cs_n zc 4) (fun _ => cs_X zc 5 0)), .int 3])), cR10 cA zc, cSh zc js, cSc cA zc js, cSh zc jo, cSc cA zc jo] ∧ ∀ i j, (i, j) ∉ ([(0, 0), (0, 10), (6, js), (7, js), (6, jo), (7, jo)] : List (Nat × Nat)) → cF cA (va_up (cs_i zc) 2 3, cs_n zc, cs_I zc, cs_L zc, cs_N zc, cs_S zc, cs_X zc) i j = none ∨ ((i, j) ∉ ([(0, 0), (0, 10), (6, js), (7, js), (6, jo), (7, jo)] : List (Nat × Nat)) ∧ cF cA (va_up (cs_i zc) 2 3, cs_n zc, cs_I zc, cs_L zc, cs_N zc, cs_S zc, cs_X zc) i j = cF cA zc i j) := by
  obtain ⟨⟨hn0, hn1, hn2, hn3, hn4, hn5⟩, hpi, hgk, htk, hpk, hsh⟩ := id hI
  refine ⟨hI, ⟨(by (rw [(kF_tp (cA := cA) (z := (va_up (cs_i zc) 2 3, cs_n zc, cs_I zc, cs_L zc, cs_N zc, cs_S zc, cs_X zc)))]) <;> simp [cTP, cTPN, cTPA, cLo, cA2, cA3, cA4, cA5, cR6, cR7, cR8, cR9, cR10, cTr, cPi, cPiN, cPiT, cGa, cGaK, cTa, cPa, cAu, cAuN, cAuB, cSh, cSc, cs_i, cs_n, cs_I, cs_L, cs_N, cs_S, cs_X, va_up, upd, opN, hjj]), (by (rw [(kF_r10 (cA := cA) (z := (va_up (cs_i zc) 2 3, cs_n zc, cs_I zc, cs_L zc, cs_N zc, cs_S zc, cs_X zc)))]) <;> simp [cTP, cTPN, cTPA, cLo, cA2, cA3, cA4, cA5, cR6, cR7, cR8, cR9, cR10, cTr, cPi, cPiN, cPiT, cGa, cGaK, cTa, cPa, cAu, cAuN, cAuB, cSh, cSc, cs_i, cs_n, cs_I, cs_L, cs_N, cs_S, cs_X, va_up, upd, opN, hjj]), (by (rw [(kF_sh (z := (va_up (cs_i zc) 2 3, cs_n zc, cs_I zc, cs_L zc, cs_N zc, cs_S zc, cs_X zc)) hjs)]) <;> simp [cTP, cTPN, cTPA, cLo, cA2, cA3, cA4, cA5, cR6, cR7, cR8, cR9, cR10, cTr, cPi, cPiN, cPiT, cGa, cGaK, cTa, cPa, cAu, cAuN, cAuB, cSh, cSc, cs_i, cs_n, cs_I, cs_L, cs_N, cs_S, cs_X, va_up, upd, opN, hjj]), (by (rw [(kF_sc (z := (va_up (cs_i zc) 2 3, cs_n zc, cs_I zc, cs_L zc, cs_N zc, cs_S zc, cs_X zc)) hjs)]) <;> simp [cTP, cTPN, cTPA, cLo, cA2, cA3, cA4, cA5, cR6, cR7, cR8, cR9, cR10, cTr, cPi, cPiN, cPiT, cGa, cGaK, cTa, cPa, cAu, cAuN, cAuB, cSh, cSc, cs_i, cs_n, cs_I, cs_L, cs_N, cs_S, cs_X, va_up, upd, opN, hjj]), (by (rw [(kF_sh (z := (va_up (cs_i zc) 2 3, cs_n zc, cs_I zc, cs_L zc, cs_N zc, cs_S zc, cs_X zc)) hjo)]) <;> simp [cTP, cTPN, cTPA, cLo, cA2, cA3, cA4, cA5, cR6, cR7, cR8, cR9, cR10, cTr, cPi, cPiN, cPiT, cGa, cGaK, cTa, cPa, cAu, cAuN, cAuB, cSh, cSc, cs_i, cs_n, cs_I, cs_L, cs_N, cs_S, cs_X, va_up, upd, opN, hjj]), (by (rw [(kF_sc (z := (va_up (cs_i zc) 2 3, cs_n zc, cs_I zc, cs_L zc, cs_N zc, cs_S zc, cs_X zc)) hjo)]) <;> simp [cTP, cTPN, cTPA, cLo, cA2, cA3, cA4, cA5, cR6, cR7, cR8, cR9, cR10, cTr, cPi, cPiN, cPiT, cGa, cGaK, cTa, cPa, cAu, cAuN, cAuB, cSh, cSc, cs_i, cs_n, cs_I, cs_L, cs_N, cs_S, cs_X, va_up, upd, opN, hjj]), trivial⟩, ?_⟩
  intro i j hij
  refine Or.inr ⟨hij, ?_⟩
  rcases i with _ | _ | _ | _ | _ | _ | _ | _ | i
  · rcases j with _ | _ | _ | _ | _ | _ | _ | _ | _ | _ | _ | _ | j
    · exact absurd (by simp) hij
    · show some (cLo (va_up (cs_i zc) 2 3, cs_n zc, cs_I zc, cs_L zc, cs_N zc, cs_S zc, cs_X zc)) = some (cLo zc); simp [cLo, cs_i, cs_n, cs_I, cs_L, cs_N, cs_S, cs_X, va_up]
    · show some (cA2 cA (va_up (cs_i zc) 2 3, cs_n zc, cs_I zc, cs_L zc, cs_N zc, cs_S zc, cs_X zc)) = some (cA2 cA zc); simp [cA2, cs_i, cs_n, cs_I, cs_L, cs_N, cs_S, cs_X, va_up]
    · show some (cA3 cA (va_up (cs_i zc) 2 3, cs_n zc, cs_I zc, cs_L zc, cs_N zc, cs_S zc, cs_X zc)) = some (cA3 cA zc); simp [cA3, cs_i, cs_n, cs_I, cs_L, cs_N, cs_S, cs_X, va_up]
    · show some (cA4 cA (va_up (cs_i zc) 2 3, cs_n zc, cs_I zc, cs_L zc, cs_N zc, cs_S zc, cs_X zc)) = some (cA4 cA zc); simp [cA4, cs_i, cs_n, cs_I, cs_L, cs_N, cs_S, cs_X, va_up]
    · show some (cA5 cA (va_up (cs_i zc) 2 3, cs_n zc, cs_I zc, cs_L zc, cs_N zc, cs_S zc, cs_X zc)) = some (cA5 cA zc); simp [cA5, cs_i, cs_n, cs_I, cs_L, cs_N, cs_S, cs_X, va_up]
    · show some (cR6 cA (va_up (cs_i zc) 2 3, cs_n zc, cs_I zc, cs_L zc, cs_N zc, cs_S zc, cs_X zc)) = some (cR6 cA zc); simp [cR6, cs_i, cs_n, cs_I, cs_L, cs_N, cs_S, cs_X, va_up]
    · show some (cR7 cA (va_up (cs_i zc) 2 3, cs_n zc, cs_I zc, cs_L zc, cs_N zc, cs_S zc, cs_X zc)) = some (cR7 cA zc); simp [cR7, cs_i, cs_n, cs_I, cs_L, cs_N, cs_S, cs_X, va_up]
    · show some (cR8 cA (va_up (cs_i zc) 2 3, cs_n zc, cs_I zc, cs_L zc, cs_N zc, cs_S zc, cs_X zc)) = some (cR8 cA zc); simp [cR8, cs_i, cs_n, cs_I, cs_L, cs_N, cs_S, cs_X, va_up]
    · show some (cR9 cA (va_up (cs_i zc) 2 3, cs_n zc, cs_I zc, cs_L zc, cs_N zc, cs_S zc, cs_X zc)) = some (cR9 cA zc); simp [cR9, cs_i, cs_n, cs_I, cs_L, cs_N, cs_S, cs_X, va_up]
    · exact absurd (by simp) hij
    · show some (cTr (va_up (cs_i zc) 2 3, cs_n zc, cs_I zc, cs_L zc, cs_N zc, cs_S zc, cs_X zc)) = some (cTr zc); simp [cTr, cs_i, cs_n, cs_I, cs_L, cs_N, cs_S, cs_X, va_up]
    · show (none : Option (Nat × va_E)) = none; rfl
  · show (if j < cs_n (va_up (cs_i zc) 2 3, cs_n zc, cs_I zc, cs_L zc, cs_N zc, cs_S zc, cs_X zc) 0 then some (cPi (va_up (cs_i zc) 2 3, cs_n zc, cs_I zc, cs_L zc, cs_N zc, cs_S zc, cs_X zc) j) else none) = if j < cs_n zc 0 then some (cPi zc j) else none
    simp [cPi, cs_i, cs_n, cs_I, cs_L, cs_N, cs_S, cs_X, va_up]
  · show (if j < cs_n (va_up (cs_i zc) 2 3, cs_n zc, cs_I zc, cs_L zc, cs_N zc, cs_S zc, cs_X zc) 1 then some (cGa (va_up (cs_i zc) 2 3, cs_n zc, cs_I zc, cs_L zc, cs_N zc, cs_S zc, cs_X zc) j) else none) = if j < cs_n zc 1 then some (cGa zc j) else none
    simp [cGa, cs_i, cs_n, cs_I, cs_L, cs_N, cs_S, cs_X, va_up]
  · show (if j < cs_n (va_up (cs_i zc) 2 3, cs_n zc, cs_I zc, cs_L zc, cs_N zc, cs_S zc, cs_X zc) 2 then some (cTa (va_up (cs_i zc) 2 3, cs_n zc, cs_I zc, cs_L zc, cs_N zc, cs_S zc, cs_X zc) j) else none) = if j < cs_n zc 2 then some (cTa zc j) else none
    simp [cTa, cs_i, cs_n, cs_I, cs_L, cs_N, cs_S, cs_X, va_up]
  · show (if j < cs_n (va_up (cs_i zc) 2 3, cs_n zc, cs_I zc, cs_L zc, cs_N zc, cs_S zc, cs_X zc) 3 then some (cPa (va_up (cs_i zc) 2 3, cs_n zc, cs_I zc, cs_L zc, cs_N zc, cs_S zc, cs_X zc) j) else none) = if j < cs_n zc 3 then some (cPa zc j) else none
    simp [cPa, cs_i, cs_n, cs_I, cs_L, cs_N, cs_S, cs_X, va_up]
  · show (if j = 0 ∧ ¬ cs_n (va_up (cs_i zc) 2 3, cs_n zc, cs_I zc, cs_L zc, cs_N zc, cs_S zc, cs_X zc) 4 = 0 then some (cAu (va_up (cs_i zc) 2 3, cs_n zc, cs_I zc, cs_L zc, cs_N zc, cs_S zc, cs_X zc)) else none) = if j = 0 ∧ ¬ cs_n zc 4 = 0 then some (cAu zc) else none
    simp [cAu, cs_i, cs_n, cs_I, cs_L, cs_N, cs_S, cs_X, va_up]
  · show (if j < 4 then some (cSh (va_up (cs_i zc) 2 3, cs_n zc, cs_I zc, cs_L zc, cs_N zc, cs_S zc, cs_X zc) j) else none) = if j < 4 then some (cSh zc j) else none
    simp [cSh, cs_i, cs_n, cs_I, cs_L, cs_N, cs_S, cs_X, va_up]
  · show (if j < 4 then some (cSc cA (va_up (cs_i zc) 2 3, cs_n zc, cs_I zc, cs_L zc, cs_N zc, cs_S zc, cs_X zc) j) else none) = if j < 4 then some (cSc cA zc j) else none
    simp [cSc, cs_i, cs_n, cs_I, cs_L, cs_N, cs_S, cs_X, va_up]
  · show (none : Option (Nat × va_E)) = none; rfl
set_option maxHeartbeats 4000000 in
theorem lf_copy_11 (cA : Nat → ClassId) (zc : CS) (js : Nat) (jo : Nat) (ia : Nat) (ja : Nat) (nn2 : Nat) (hjs : js < 4) (hjo : jo < 4) (hjj : ¬ js = jo) (c26 : ¬ ((cs_I zc 8 js) = -1)) (c29 : ¬ ((cs_I zc 8 jo) = -1)) (c30 : (cs_I zc 8 js) = (cs_I zc 8 jo)) (hian : ia + nn2 ≤ 48) (hjan : ja + nn2 ≤ 48) (hia2 : ((ia + nn2 : Nat) : Int) ≤ (cs_I zc 9 js).toInt) (hja2 : ((ja + nn2 : Nat) : Int) ≤ (cs_I zc 9 jo).toInt) (hI : invC zc) : invC (va_up (cs_i zc) 2 0, cs_n zc, cs_I zc, cs_L zc, cs_N zc, va_up (cs_S zc) jo (va_cpy (cs_S zc js) (cs_S zc jo) ia ja nn2), cs_X zc) ∧ kAll (cF cA (va_up (cs_i zc) 2 0, cs_n zc, cs_I zc, cs_L zc, cs_N zc, va_up (cs_S zc) jo (va_cpy (cs_S zc js) (cs_S zc jo) ia ja nn2), cs_X zc)) [(0, 0), (0, 10), (6, js), (7, js), (6, jo), (7, jo)] [(cs_X zc 0 0, .inr (10, [.ref (cs_X zc 0 1), .ref (cs_X zc 0 6), .ref (cs_X zc 0 7), .ref (cs_X zc 0 8), .ref (cs_X zc 0 9), .ref (cs_X zc 0 10), .ref (cs_X zc 0 11), .int (nI (cs_n zc 0)), .int (nI (cs_n zc 1)), .int (nI (cs_n zc 2)), .int (nI (cs_n zc 3)), va_rf (opN (cs_n zc 4) (fun _ => cs_X zc 5 0)), .int 0])), cR10 cA zc, cSh zc js, cSc cA zc js, cSh zc jo, (cs_X zc 7 jo, .inl (cA 0, 48, .inl (va_cpy (cs_S zc js) (cs_S zc jo) ia ja nn2)))] ∧ ∀ i j, (i, j) ∉ ([(0, 0), (0, 10), (6, js), (7, js), (6, jo), (7, jo)] : List (Nat × Nat)) → cF cA (va_up (cs_i zc) 2 0, cs_n zc, cs_I zc, cs_L zc, cs_N zc, va_up (cs_S zc) jo (va_cpy (cs_S zc js) (cs_S zc jo) ia ja nn2), cs_X zc) i j = none ∨ ((i, j) ∉ ([(0, 0), (0, 10), (6, js), (7, js), (6, jo), (7, jo)] : List (Nat × Nat)) ∧ cF cA (va_up (cs_i zc) 2 0, cs_n zc, cs_I zc, cs_L zc, cs_N zc, va_up (cs_S zc) jo (va_cpy (cs_S zc js) (cs_S zc jo) ia ja nn2), cs_X zc) i j = cF cA zc i j) := by
  obtain ⟨⟨hn0, hn1, hn2, hn3, hn4, hn5⟩, hpi, hgk, htk, hpk, hsh⟩ := id hI
  refine ⟨hI, ⟨(by (rw [(kF_tp (cA := cA) (z := (va_up (cs_i zc) 2 0, cs_n zc, cs_I zc, cs_L zc, cs_N zc, va_up (cs_S zc) jo (va_cpy (cs_S zc js) (cs_S zc jo) ia ja nn2), cs_X zc)))]) <;> simp [cTP, cTPN, cTPA, cLo, cA2, cA3, cA4, cA5, cR6, cR7, cR8, cR9, cR10, cTr, cPi, cPiN, cPiT, cGa, cGaK, cTa, cPa, cAu, cAuN, cAuB, cSh, cSc, cs_i, cs_n, cs_I, cs_L, cs_N, cs_S, cs_X, va_up, upd, opN, hjj]), (by (rw [(kF_r10 (cA := cA) (z := (va_up (cs_i zc) 2 0, cs_n zc, cs_I zc, cs_L zc, cs_N zc, va_up (cs_S zc) jo (va_cpy (cs_S zc js) (cs_S zc jo) ia ja nn2), cs_X zc)))]) <;> simp [cTP, cTPN, cTPA, cLo, cA2, cA3, cA4, cA5, cR6, cR7, cR8, cR9, cR10, cTr, cPi, cPiN, cPiT, cGa, cGaK, cTa, cPa, cAu, cAuN, cAuB, cSh, cSc, cs_i, cs_n, cs_I, cs_L, cs_N, cs_S, cs_X, va_up, upd, opN, hjj]), (by (rw [(kF_sh (z := (va_up (cs_i zc) 2 0, cs_n zc, cs_I zc, cs_L zc, cs_N zc, va_up (cs_S zc) jo (va_cpy (cs_S zc js) (cs_S zc jo) ia ja nn2), cs_X zc)) hjs)]) <;> simp [cTP, cTPN, cTPA, cLo, cA2, cA3, cA4, cA5, cR6, cR7, cR8, cR9, cR10, cTr, cPi, cPiN, cPiT, cGa, cGaK, cTa, cPa, cAu, cAuN, cAuB, cSh, cSc, cs_i, cs_n, cs_I, cs_L, cs_N, cs_S, cs_X, va_up, upd, opN, hjj]), (by (rw [(kF_sc (z := (va_up (cs_i zc) 2 0, cs_n zc, cs_I zc, cs_L zc, cs_N zc, va_up (cs_S zc) jo (va_cpy (cs_S zc js) (cs_S zc jo) ia ja nn2), cs_X zc)) hjs)]) <;> simp [cTP, cTPN, cTPA, cLo, cA2, cA3, cA4, cA5, cR6, cR7, cR8, cR9, cR10, cTr, cPi, cPiN, cPiT, cGa, cGaK, cTa, cPa, cAu, cAuN, cAuB, cSh, cSc, cs_i, cs_n, cs_I, cs_L, cs_N, cs_S, cs_X, va_up, upd, opN, hjj]), (by (rw [(kF_sh (z := (va_up (cs_i zc) 2 0, cs_n zc, cs_I zc, cs_L zc, cs_N zc, va_up (cs_S zc) jo (va_cpy (cs_S zc js) (cs_S zc jo) ia ja nn2), cs_X zc)) hjo)]) <;> simp [cTP, cTPN, cTPA, cLo, cA2, cA3, cA4, cA5, cR6, cR7, cR8, cR9, cR10, cTr, cPi, cPiN, cPiT, cGa, cGaK, cTa, cPa, cAu, cAuN, cAuB, cSh, cSc, cs_i, cs_n, cs_I, cs_L, cs_N, cs_S, cs_X, va_up, upd, opN, hjj]), (by (rw [(kF_sc (z := (va_up (cs_i zc) 2 0, cs_n zc, cs_I zc, cs_L zc, cs_N zc, va_up (cs_S zc) jo (va_cpy (cs_S zc js) (cs_S zc jo) ia ja nn2), cs_X zc)) hjo)]) <;> simp [cTP, cTPN, cTPA, cLo, cA2, cA3, cA4, cA5, cR6, cR7, cR8, cR9, cR10, cTr, cPi, cPiN, cPiT, cGa, cGaK, cTa, cPa, cAu, cAuN, cAuB, cSh, cSc, cs_i, cs_n, cs_I, cs_L, cs_N, cs_S, cs_X, va_up, upd, opN, hjj]), trivial⟩, ?_⟩
  intro i j hij
  refine Or.inr ⟨hij, ?_⟩
  rcases i with _ | _ | _ | _ | _ | _ | _ | _ | i
  · rcases j with _ | _ | _ | _ | _ | _ | _ | _ | _ | _ | _ | _ | j
    · exact absurd (by simp) hij
    · show some (cLo (va_up (cs_i zc) 2 0, cs_n zc, cs_I zc, cs_L zc, cs_N zc, va_up (cs_S zc) jo (va_cpy (cs_S zc js) (cs_S zc jo) ia ja nn2), cs_X zc)) = some (cLo zc); simp [cLo, cs_i, cs_n, cs_I, cs_L, cs_N, cs_S, cs_X, va_up]
    · show some (cA2 cA (va_up (cs_i zc) 2 0, cs_n zc, cs_I zc, cs_L zc, cs_N zc, va_up (cs_S zc) jo (va_cpy (cs_S zc js) (cs_S zc jo) ia ja nn2), cs_X zc)) = some (cA2 cA zc); simp [cA2, cs_i, cs_n, cs_I, cs_L, cs_N, cs_S, cs_X, va_up]
    · show some (cA3 cA (va_up (cs_i zc) 2 0, cs_n zc, cs_I zc, cs_L zc, cs_N zc, va_up (cs_S zc) jo (va_cpy (cs_S zc js) (cs_S zc jo) ia ja nn2), cs_X zc)) = some (cA3 cA zc); simp [cA3, cs_i, cs_n, cs_I, cs_L, cs_N, cs_S, cs_X, va_up]
    · show some (cA4 cA (va_up (cs_i zc) 2 0, cs_n zc, cs_I zc, cs_L zc, cs_N zc, va_up (cs_S zc) jo (va_cpy (cs_S zc js) (cs_S zc jo) ia ja nn2), cs_X zc)) = some (cA4 cA zc); simp [cA4, cs_i, cs_n, cs_I, cs_L, cs_N, cs_S, cs_X, va_up]
    · show some (cA5 cA (va_up (cs_i zc) 2 0, cs_n zc, cs_I zc, cs_L zc, cs_N zc, va_up (cs_S zc) jo (va_cpy (cs_S zc js) (cs_S zc jo) ia ja nn2), cs_X zc)) = some (cA5 cA zc); simp [cA5, cs_i, cs_n, cs_I, cs_L, cs_N, cs_S, cs_X, va_up]
    · show some (cR6 cA (va_up (cs_i zc) 2 0, cs_n zc, cs_I zc, cs_L zc, cs_N zc, va_up (cs_S zc) jo (va_cpy (cs_S zc js) (cs_S zc jo) ia ja nn2), cs_X zc)) = some (cR6 cA zc); simp [cR6, cs_i, cs_n, cs_I, cs_L, cs_N, cs_S, cs_X, va_up]
    · show some (cR7 cA (va_up (cs_i zc) 2 0, cs_n zc, cs_I zc, cs_L zc, cs_N zc, va_up (cs_S zc) jo (va_cpy (cs_S zc js) (cs_S zc jo) ia ja nn2), cs_X zc)) = some (cR7 cA zc); simp [cR7, cs_i, cs_n, cs_I, cs_L, cs_N, cs_S, cs_X, va_up]
    · show some (cR8 cA (va_up (cs_i zc) 2 0, cs_n zc, cs_I zc, cs_L zc, cs_N zc, va_up (cs_S zc) jo (va_cpy (cs_S zc js) (cs_S zc jo) ia ja nn2), cs_X zc)) = some (cR8 cA zc); simp [cR8, cs_i, cs_n, cs_I, cs_L, cs_N, cs_S, cs_X, va_up]
    · show some (cR9 cA (va_up (cs_i zc) 2 0, cs_n zc, cs_I zc, cs_L zc, cs_N zc, va_up (cs_S zc) jo (va_cpy (cs_S zc js) (cs_S zc jo) ia ja nn2), cs_X zc)) = some (cR9 cA zc); simp [cR9, cs_i, cs_n, cs_I, cs_L, cs_N, cs_S, cs_X, va_up]
    · exact absurd (by simp) hij
    · show some (cTr (va_up (cs_i zc) 2 0, cs_n zc, cs_I zc, cs_L zc, cs_N zc, va_up (cs_S zc) jo (va_cpy (cs_S zc js) (cs_S zc jo) ia ja nn2), cs_X zc)) = some (cTr zc); simp [cTr, cs_i, cs_n, cs_I, cs_L, cs_N, cs_S, cs_X, va_up]
    · show (none : Option (Nat × va_E)) = none; rfl
  · show (if j < cs_n (va_up (cs_i zc) 2 0, cs_n zc, cs_I zc, cs_L zc, cs_N zc, va_up (cs_S zc) jo (va_cpy (cs_S zc js) (cs_S zc jo) ia ja nn2), cs_X zc) 0 then some (cPi (va_up (cs_i zc) 2 0, cs_n zc, cs_I zc, cs_L zc, cs_N zc, va_up (cs_S zc) jo (va_cpy (cs_S zc js) (cs_S zc jo) ia ja nn2), cs_X zc) j) else none) = if j < cs_n zc 0 then some (cPi zc j) else none
    simp [cPi, cs_i, cs_n, cs_I, cs_L, cs_N, cs_S, cs_X, va_up]
  · show (if j < cs_n (va_up (cs_i zc) 2 0, cs_n zc, cs_I zc, cs_L zc, cs_N zc, va_up (cs_S zc) jo (va_cpy (cs_S zc js) (cs_S zc jo) ia ja nn2), cs_X zc) 1 then some (cGa (va_up (cs_i zc) 2 0, cs_n zc, cs_I zc, cs_L zc, cs_N zc, va_up (cs_S zc) jo (va_cpy (cs_S zc js) (cs_S zc jo) ia ja nn2), cs_X zc) j) else none) = if j < cs_n zc 1 then some (cGa zc j) else none
    simp [cGa, cs_i, cs_n, cs_I, cs_L, cs_N, cs_S, cs_X, va_up]
  · show (if j < cs_n (va_up (cs_i zc) 2 0, cs_n zc, cs_I zc, cs_L zc, cs_N zc, va_up (cs_S zc) jo (va_cpy (cs_S zc js) (cs_S zc jo) ia ja nn2), cs_X zc) 2 then some (cTa (va_up (cs_i zc) 2 0, cs_n zc, cs_I zc, cs_L zc, cs_N zc, va_up (cs_S zc) jo (va_cpy (cs_S zc js) (cs_S zc jo) ia ja nn2), cs_X zc) j) else none) = if j < cs_n zc 2 then some (cTa zc j) else none
    simp [cTa, cs_i, cs_n, cs_I, cs_L, cs_N, cs_S, cs_X, va_up]
  · show (if j < cs_n (va_up (cs_i zc) 2 0, cs_n zc, cs_I zc, cs_L zc, cs_N zc, va_up (cs_S zc) jo (va_cpy (cs_S zc js) (cs_S zc jo) ia ja nn2), cs_X zc) 3 then some (cPa (va_up (cs_i zc) 2 0, cs_n zc, cs_I zc, cs_L zc, cs_N zc, va_up (cs_S zc) jo (va_cpy (cs_S zc js) (cs_S zc jo) ia ja nn2), cs_X zc) j) else none) = if j < cs_n zc 3 then some (cPa zc j) else none
    simp [cPa, cs_i, cs_n, cs_I, cs_L, cs_N, cs_S, cs_X, va_up]
  · show (if j = 0 ∧ ¬ cs_n (va_up (cs_i zc) 2 0, cs_n zc, cs_I zc, cs_L zc, cs_N zc, va_up (cs_S zc) jo (va_cpy (cs_S zc js) (cs_S zc jo) ia ja nn2), cs_X zc) 4 = 0 then some (cAu (va_up (cs_i zc) 2 0, cs_n zc, cs_I zc, cs_L zc, cs_N zc, va_up (cs_S zc) jo (va_cpy (cs_S zc js) (cs_S zc jo) ia ja nn2), cs_X zc)) else none) = if j = 0 ∧ ¬ cs_n zc 4 = 0 then some (cAu zc) else none
    simp [cAu, cs_i, cs_n, cs_I, cs_L, cs_N, cs_S, cs_X, va_up]
  · show (if j < 4 then some (cSh (va_up (cs_i zc) 2 0, cs_n zc, cs_I zc, cs_L zc, cs_N zc, va_up (cs_S zc) jo (va_cpy (cs_S zc js) (cs_S zc jo) ia ja nn2), cs_X zc) j) else none) = if j < 4 then some (cSh zc j) else none
    simp [cSh, cs_i, cs_n, cs_I, cs_L, cs_N, cs_S, cs_X, va_up]
  · have hne0 : j ≠ js := fun q => hij (by rw [q]; simp)
    have hne1 : j ≠ jo := fun q => hij (by rw [q]; simp)
    have e9 : cSc cA (va_up (cs_i zc) 2 0, cs_n zc, cs_I zc, cs_L zc, cs_N zc, va_up (cs_S zc) jo (va_cpy (cs_S zc js) (cs_S zc jo) ia ja nn2), cs_X zc) j = cSc cA zc j := by simp [cSc, cs_i, cs_n, cs_I, cs_L, cs_N, cs_S, cs_X, va_up, hne0, hne1]
    show (if j < 4 then some (cSc cA (va_up (cs_i zc) 2 0, cs_n zc, cs_I zc, cs_L zc, cs_N zc, va_up (cs_S zc) jo (va_cpy (cs_S zc js) (cs_S zc jo) ia ja nn2), cs_X zc) j) else none) = if j < 4 then some (cSc cA zc j) else none
    (rw [e9]) <;> simp [cs_n, va_up]
  · show (none : Option (Nat × va_E)) = none; rfl
set_option maxHeartbeats 4000000 in
theorem lf_copy_12 (cA : Nat → ClassId) (zc : CS) (ix : Int32) (jx : Int32) (n : Int32) (js : Nat) (jo : Nat) (hjs : js < 4) (hjo : jo < 4) (hjj : ¬ js = jo) (c26 : ¬ ((cs_I zc 8 js) = -1)) (c29 : ¬ ((cs_I zc 8 jo) = -1)) (c30 : (cs_I zc 8 js) = (cs_I zc 8 jo)) (c32 : 0 ≤ ix ∧ 0 ≤ n ∧ ix.toInt64 + n.toInt64 ≤ (cs_I zc 9 js).toInt64) (c35 : ¬ (0 ≤ jx ∧ 0 ≤ n ∧ jx.toInt64 + n.toInt64 ≤ (cs_I zc 9 jo).toInt64)) (hI : invC zc) : invC (va_up (cs_i zc) 2 3, cs_n zc, cs_I zc, cs_L zc, cs_N zc, cs_S zc, cs_X zc) ∧ kAll (cF cA (va_up (cs_i zc) 2 3, cs_n zc, cs_I zc, cs_L zc, cs_N zc, cs_S zc, cs_X zc)) [(0, 0), (0, 10), (6, js), (7, js), (6, jo), (7, jo)] [(cs_X zc 0 0, .inr (10, [.ref (cs_X zc 0 1), .ref (cs_X zc 0 6), .ref (cs_X zc 0 7), .ref (cs_X zc 0 8), .ref (cs_X zc 0 9), .ref (cs_X zc 0 10), .ref (cs_X zc 0 11), .int (nI (cs_n zc 0)), .int (nI (cs_n zc 1)), .int (nI (cs_n zc 2)), .int (nI (cs_n zc 3)), va_rf (opN (cs_n zc 4) (fun _ => cs_X zc 5 0)), .int 3])), cR10 cA zc, cSh zc js, cSc cA zc js, cSh zc jo, cSc cA zc jo] ∧ ∀ i j, (i, j) ∉ ([(0, 0), (0, 10), (6, js), (7, js), (6, jo), (7, jo)] : List (Nat × Nat)) → cF cA (va_up (cs_i zc) 2 3, cs_n zc, cs_I zc, cs_L zc, cs_N zc, cs_S zc, cs_X zc) i j = none ∨ ((i, j) ∉ ([(0, 0), (0, 10), (6, js), (7, js), (6, jo), (7, jo)] : List (Nat × Nat)) ∧ cF cA (va_up (cs_i zc) 2 3, cs_n zc, cs_I zc, cs_L zc, cs_N zc, cs_S zc, cs_X zc) i j = cF cA zc i j) := by
  obtain ⟨⟨hn0, hn1, hn2, hn3, hn4, hn5⟩, hpi, hgk, htk, hpk, hsh⟩ := id hI
  refine ⟨hI, ⟨(by (rw [(kF_tp (cA := cA) (z := (va_up (cs_i zc) 2 3, cs_n zc, cs_I zc, cs_L zc, cs_N zc, cs_S zc, cs_X zc)))]) <;> simp [cTP, cTPN, cTPA, cLo, cA2, cA3, cA4, cA5, cR6, cR7, cR8, cR9, cR10, cTr, cPi, cPiN, cPiT, cGa, cGaK, cTa, cPa, cAu, cAuN, cAuB, cSh, cSc, cs_i, cs_n, cs_I, cs_L, cs_N, cs_S, cs_X, va_up, upd, opN, hjj]), (by (rw [(kF_r10 (cA := cA) (z := (va_up (cs_i zc) 2 3, cs_n zc, cs_I zc, cs_L zc, cs_N zc, cs_S zc, cs_X zc)))]) <;> simp [cTP, cTPN, cTPA, cLo, cA2, cA3, cA4, cA5, cR6, cR7, cR8, cR9, cR10, cTr, cPi, cPiN, cPiT, cGa, cGaK, cTa, cPa, cAu, cAuN, cAuB, cSh, cSc, cs_i, cs_n, cs_I, cs_L, cs_N, cs_S, cs_X, va_up, upd, opN, hjj]), (by (rw [(kF_sh (z := (va_up (cs_i zc) 2 3, cs_n zc, cs_I zc, cs_L zc, cs_N zc, cs_S zc, cs_X zc)) hjs)]) <;> simp [cTP, cTPN, cTPA, cLo, cA2, cA3, cA4, cA5, cR6, cR7, cR8, cR9, cR10, cTr, cPi, cPiN, cPiT, cGa, cGaK, cTa, cPa, cAu, cAuN, cAuB, cSh, cSc, cs_i, cs_n, cs_I, cs_L, cs_N, cs_S, cs_X, va_up, upd, opN, hjj]), (by (rw [(kF_sc (z := (va_up (cs_i zc) 2 3, cs_n zc, cs_I zc, cs_L zc, cs_N zc, cs_S zc, cs_X zc)) hjs)]) <;> simp [cTP, cTPN, cTPA, cLo, cA2, cA3, cA4, cA5, cR6, cR7, cR8, cR9, cR10, cTr, cPi, cPiN, cPiT, cGa, cGaK, cTa, cPa, cAu, cAuN, cAuB, cSh, cSc, cs_i, cs_n, cs_I, cs_L, cs_N, cs_S, cs_X, va_up, upd, opN, hjj]), (by (rw [(kF_sh (z := (va_up (cs_i zc) 2 3, cs_n zc, cs_I zc, cs_L zc, cs_N zc, cs_S zc, cs_X zc)) hjo)]) <;> simp [cTP, cTPN, cTPA, cLo, cA2, cA3, cA4, cA5, cR6, cR7, cR8, cR9, cR10, cTr, cPi, cPiN, cPiT, cGa, cGaK, cTa, cPa, cAu, cAuN, cAuB, cSh, cSc, cs_i, cs_n, cs_I, cs_L, cs_N, cs_S, cs_X, va_up, upd, opN, hjj]), (by (rw [(kF_sc (z := (va_up (cs_i zc) 2 3, cs_n zc, cs_I zc, cs_L zc, cs_N zc, cs_S zc, cs_X zc)) hjo)]) <;> simp [cTP, cTPN, cTPA, cLo, cA2, cA3, cA4, cA5, cR6, cR7, cR8, cR9, cR10, cTr, cPi, cPiN, cPiT, cGa, cGaK, cTa, cPa, cAu, cAuN, cAuB, cSh, cSc, cs_i, cs_n, cs_I, cs_L, cs_N, cs_S, cs_X, va_up, upd, opN, hjj]), trivial⟩, ?_⟩
  intro i j hij
  refine Or.inr ⟨hij, ?_⟩
  rcases i with _ | _ | _ | _ | _ | _ | _ | _ | i
  · rcases j with _ | _ | _ | _ | _ | _ | _ | _ | _ | _ | _ | _ | j
    · exact absurd (by simp) hij
    · show some (cLo (va_up (cs_i zc) 2 3, cs_n zc, cs_I zc, cs_L zc, cs_N zc, cs_S zc, cs_X zc)) = some (cLo zc); simp [cLo, cs_i, cs_n, cs_I, cs_L, cs_N, cs_S, cs_X, va_up]
    · show some (cA2 cA (va_up (cs_i zc) 2 3, cs_n zc, cs_I zc, cs_L zc, cs_N zc, cs_S zc, cs_X zc)) = some (cA2 cA zc); simp [cA2, cs_i, cs_n, cs_I, cs_L, cs_N, cs_S, cs_X, va_up]
    · show some (cA3 cA (va_up (cs_i zc) 2 3, cs_n zc, cs_I zc, cs_L zc, cs_N zc, cs_S zc, cs_X zc)) = some (cA3 cA zc); simp [cA3, cs_i, cs_n, cs_I, cs_L, cs_N, cs_S, cs_X, va_up]
    · show some (cA4 cA (va_up (cs_i zc) 2 3, cs_n zc, cs_I zc, cs_L zc, cs_N zc, cs_S zc, cs_X zc)) = some (cA4 cA zc); simp [cA4, cs_i, cs_n, cs_I, cs_L, cs_N, cs_S, cs_X, va_up]
    · show some (cA5 cA (va_up (cs_i zc) 2 3, cs_n zc, cs_I zc, cs_L zc, cs_N zc, cs_S zc, cs_X zc)) = some (cA5 cA zc); simp [cA5, cs_i, cs_n, cs_I, cs_L, cs_N, cs_S, cs_X, va_up]
    · show some (cR6 cA (va_up (cs_i zc) 2 3, cs_n zc, cs_I zc, cs_L zc, cs_N zc, cs_S zc, cs_X zc)) = some (cR6 cA zc); simp [cR6, cs_i, cs_n, cs_I, cs_L, cs_N, cs_S, cs_X, va_up]
    · show some (cR7 cA (va_up (cs_i zc) 2 3, cs_n zc, cs_I zc, cs_L zc, cs_N zc, cs_S zc, cs_X zc)) = some (cR7 cA zc); simp [cR7, cs_i, cs_n, cs_I, cs_L, cs_N, cs_S, cs_X, va_up]
    · show some (cR8 cA (va_up (cs_i zc) 2 3, cs_n zc, cs_I zc, cs_L zc, cs_N zc, cs_S zc, cs_X zc)) = some (cR8 cA zc); simp [cR8, cs_i, cs_n, cs_I, cs_L, cs_N, cs_S, cs_X, va_up]
    · show some (cR9 cA (va_up (cs_i zc) 2 3, cs_n zc, cs_I zc, cs_L zc, cs_N zc, cs_S zc, cs_X zc)) = some (cR9 cA zc); simp [cR9, cs_i, cs_n, cs_I, cs_L, cs_N, cs_S, cs_X, va_up]
    · exact absurd (by simp) hij
    · show some (cTr (va_up (cs_i zc) 2 3, cs_n zc, cs_I zc, cs_L zc, cs_N zc, cs_S zc, cs_X zc)) = some (cTr zc); simp [cTr, cs_i, cs_n, cs_I, cs_L, cs_N, cs_S, cs_X, va_up]
    · show (none : Option (Nat × va_E)) = none; rfl
  · show (if j < cs_n (va_up (cs_i zc) 2 3, cs_n zc, cs_I zc, cs_L zc, cs_N zc, cs_S zc, cs_X zc) 0 then some (cPi (va_up (cs_i zc) 2 3, cs_n zc, cs_I zc, cs_L zc, cs_N zc, cs_S zc, cs_X zc) j) else none) = if j < cs_n zc 0 then some (cPi zc j) else none
    simp [cPi, cs_i, cs_n, cs_I, cs_L, cs_N, cs_S, cs_X, va_up]
  · show (if j < cs_n (va_up (cs_i zc) 2 3, cs_n zc, cs_I zc, cs_L zc, cs_N zc, cs_S zc, cs_X zc) 1 then some (cGa (va_up (cs_i zc) 2 3, cs_n zc, cs_I zc, cs_L zc, cs_N zc, cs_S zc, cs_X zc) j) else none) = if j < cs_n zc 1 then some (cGa zc j) else none
    simp [cGa, cs_i, cs_n, cs_I, cs_L, cs_N, cs_S, cs_X, va_up]
  · show (if j < cs_n (va_up (cs_i zc) 2 3, cs_n zc, cs_I zc, cs_L zc, cs_N zc, cs_S zc, cs_X zc) 2 then some (cTa (va_up (cs_i zc) 2 3, cs_n zc, cs_I zc, cs_L zc, cs_N zc, cs_S zc, cs_X zc) j) else none) = if j < cs_n zc 2 then some (cTa zc j) else none
    simp [cTa, cs_i, cs_n, cs_I, cs_L, cs_N, cs_S, cs_X, va_up]
  · show (if j < cs_n (va_up (cs_i zc) 2 3, cs_n zc, cs_I zc, cs_L zc, cs_N zc, cs_S zc, cs_X zc) 3 then some (cPa (va_up (cs_i zc) 2 3, cs_n zc, cs_I zc, cs_L zc, cs_N zc, cs_S zc, cs_X zc) j) else none) = if j < cs_n zc 3 then some (cPa zc j) else none
    simp [cPa, cs_i, cs_n, cs_I, cs_L, cs_N, cs_S, cs_X, va_up]
  · show (if j = 0 ∧ ¬ cs_n (va_up (cs_i zc) 2 3, cs_n zc, cs_I zc, cs_L zc, cs_N zc, cs_S zc, cs_X zc) 4 = 0 then some (cAu (va_up (cs_i zc) 2 3, cs_n zc, cs_I zc, cs_L zc, cs_N zc, cs_S zc, cs_X zc)) else none) = if j = 0 ∧ ¬ cs_n zc 4 = 0 then some (cAu zc) else none
    simp [cAu, cs_i, cs_n, cs_I, cs_L, cs_N, cs_S, cs_X, va_up]
  · show (if j < 4 then some (cSh (va_up (cs_i zc) 2 3, cs_n zc, cs_I zc, cs_L zc, cs_N zc, cs_S zc, cs_X zc) j) else none) = if j < 4 then some (cSh zc j) else none
    simp [cSh, cs_i, cs_n, cs_I, cs_L, cs_N, cs_S, cs_X, va_up]
  · show (if j < 4 then some (cSc cA (va_up (cs_i zc) 2 3, cs_n zc, cs_I zc, cs_L zc, cs_N zc, cs_S zc, cs_X zc) j) else none) = if j < 4 then some (cSc cA zc j) else none
    simp [cSc, cs_i, cs_n, cs_I, cs_L, cs_N, cs_S, cs_X, va_up]
  · show (none : Option (Nat × va_E)) = none; rfl
set_option maxHeartbeats 4000000 in
theorem lf_copy_13 (cA : Nat → ClassId) (zc : CS) (ix : Int32) (jx : Int32) (n : Int32) (js : Nat) (jo : Nat) (hjs : js < 4) (hjo : jo < 4) (hjj : ¬ js = jo) (c26 : ¬ ((cs_I zc 8 js) = -1)) (c29 : ¬ ((cs_I zc 8 jo) = -1)) (c30 : ¬ (cs_I zc 8 js) = (cs_I zc 8 jo)) (hI : invC zc) : invC (va_up (cs_i zc) 2 2, cs_n zc, cs_I zc, cs_L zc, cs_N zc, cs_S zc, cs_X zc) ∧ kAll (cF cA (va_up (cs_i zc) 2 2, cs_n zc, cs_I zc, cs_L zc, cs_N zc, cs_S zc, cs_X zc)) [(0, 0), (0, 10), (6, js), (7, js), (6, jo), (7, jo)] [(cs_X zc 0 0, .inr (10, [.ref (cs_X zc 0 1), .ref (cs_X zc 0 6), .ref (cs_X zc 0 7), .ref (cs_X zc 0 8), .ref (cs_X zc 0 9), .ref (cs_X zc 0 10), .ref (cs_X zc 0 11), .int (nI (cs_n zc 0)), .int (nI (cs_n zc 1)), .int (nI (cs_n zc 2)), .int (nI (cs_n zc 3)), va_rf (opN (cs_n zc 4) (fun _ => cs_X zc 5 0)), .int 2])), cR10 cA zc, cSh zc js, cSc cA zc js, cSh zc jo, cSc cA zc jo] ∧ ∀ i j, (i, j) ∉ ([(0, 0), (0, 10), (6, js), (7, js), (6, jo), (7, jo)] : List (Nat × Nat)) → cF cA (va_up (cs_i zc) 2 2, cs_n zc, cs_I zc, cs_L zc, cs_N zc, cs_S zc, cs_X zc) i j = none ∨ ((i, j) ∉ ([(0, 0), (0, 10), (6, js), (7, js), (6, jo), (7, jo)] : List (Nat × Nat)) ∧ cF cA (va_up (cs_i zc) 2 2, cs_n zc, cs_I zc, cs_L zc, cs_N zc, cs_S zc, cs_X zc) i j = cF cA zc i j) := by
  obtain ⟨⟨hn0, hn1, hn2, hn3, hn4, hn5⟩, hpi, hgk, htk, hpk, hsh⟩ := id hI
  refine ⟨hI, ⟨(by (rw [(kF_tp (cA := cA) (z := (va_up (cs_i zc) 2 2, cs_n zc, cs_I zc, cs_L zc, cs_N zc, cs_S zc, cs_X zc)))]) <;> simp [cTP, cTPN, cTPA, cLo, cA2, cA3, cA4, cA5, cR6, cR7, cR8, cR9, cR10, cTr, cPi, cPiN, cPiT, cGa, cGaK, cTa, cPa, cAu, cAuN, cAuB, cSh, cSc, cs_i, cs_n, cs_I, cs_L, cs_N, cs_S, cs_X, va_up, upd, opN, hjj]), (by (rw [(kF_r10 (cA := cA) (z := (va_up (cs_i zc) 2 2, cs_n zc, cs_I zc, cs_L zc, cs_N zc, cs_S zc, cs_X zc)))]) <;> simp [cTP, cTPN, cTPA, cLo, cA2, cA3, cA4, cA5, cR6, cR7, cR8, cR9, cR10, cTr, cPi, cPiN, cPiT, cGa, cGaK, cTa, cPa, cAu, cAuN, cAuB, cSh, cSc, cs_i, cs_n, cs_I, cs_L, cs_N, cs_S, cs_X, va_up, upd, opN, hjj]), (by (rw [(kF_sh (z := (va_up (cs_i zc) 2 2, cs_n zc, cs_I zc, cs_L zc, cs_N zc, cs_S zc, cs_X zc)) hjs)]) <;> simp [cTP, cTPN, cTPA, cLo, cA2, cA3, cA4, cA5, cR6, cR7, cR8, cR9, cR10, cTr, cPi, cPiN, cPiT, cGa, cGaK, cTa, cPa, cAu, cAuN, cAuB, cSh, cSc, cs_i, cs_n, cs_I, cs_L, cs_N, cs_S, cs_X, va_up, upd, opN, hjj]), (by (rw [(kF_sc (z := (va_up (cs_i zc) 2 2, cs_n zc, cs_I zc, cs_L zc, cs_N zc, cs_S zc, cs_X zc)) hjs)]) <;> simp [cTP, cTPN, cTPA, cLo, cA2, cA3, cA4, cA5, cR6, cR7, cR8, cR9, cR10, cTr, cPi, cPiN, cPiT, cGa, cGaK, cTa, cPa, cAu, cAuN, cAuB, cSh, cSc, cs_i, cs_n, cs_I, cs_L, cs_N, cs_S, cs_X, va_up, upd, opN, hjj]), (by (rw [(kF_sh (z := (va_up (cs_i zc) 2 2, cs_n zc, cs_I zc, cs_L zc, cs_N zc, cs_S zc, cs_X zc)) hjo)]) <;> simp [cTP, cTPN, cTPA, cLo, cA2, cA3, cA4, cA5, cR6, cR7, cR8, cR9, cR10, cTr, cPi, cPiN, cPiT, cGa, cGaK, cTa, cPa, cAu, cAuN, cAuB, cSh, cSc, cs_i, cs_n, cs_I, cs_L, cs_N, cs_S, cs_X, va_up, upd, opN, hjj]), (by (rw [(kF_sc (z := (va_up (cs_i zc) 2 2, cs_n zc, cs_I zc, cs_L zc, cs_N zc, cs_S zc, cs_X zc)) hjo)]) <;> simp [cTP, cTPN, cTPA, cLo, cA2, cA3, cA4, cA5, cR6, cR7, cR8, cR9, cR10, cTr, cPi, cPiN, cPiT, cGa, cGaK, cTa, cPa, cAu, cAuN, cAuB, cSh, cSc, cs_i, cs_n, cs_I, cs_L, cs_N, cs_S, cs_X, va_up, upd, opN, hjj]), trivial⟩, ?_⟩
  intro i j hij
  refine Or.inr ⟨hij, ?_⟩
  rcases i with _ | _ | _ | _ | _ | _ | _ | _ | i
  · rcases j with _ | _ | _ | _ | _ | _ | _ | _ | _ | _ | _ | _ | j
    · exact absurd (by simp) hij
    · show some (cLo (va_up (cs_i zc) 2 2, cs_n zc, cs_I zc, cs_L zc, cs_N zc, cs_S zc, cs_X zc)) = some (cLo zc); simp [cLo, cs_i, cs_n, cs_I, cs_L, cs_N, cs_S, cs_X, va_up]
    · show some (cA2 cA (va_up (cs_i zc) 2 2, cs_n zc, cs_I zc, cs_L zc, cs_N zc, cs_S zc, cs_X zc)) = some (cA2 cA zc); simp [cA2, cs_i, cs_n, cs_I, cs_L, cs_N, cs_S, cs_X, va_up]
    · show some (cA3 cA (va_up (cs_i zc) 2 2, cs_n zc, cs_I zc, cs_L zc, cs_N zc, cs_S zc, cs_X zc)) = some (cA3 cA zc); simp [cA3, cs_i, cs_n, cs_I, cs_L, cs_N, cs_S, cs_X, va_up]
    · show some (cA4 cA (va_up (cs_i zc) 2 2, cs_n zc, cs_I zc, cs_L zc, cs_N zc, cs_S zc, cs_X zc)) = some (cA4 cA zc); simp [cA4, cs_i, cs_n, cs_I, cs_L, cs_N, cs_S, cs_X, va_up]
    · show some (cA5 cA (va_up (cs_i zc) 2 2, cs_n zc, cs_I zc, cs_L zc, cs_N zc, cs_S zc, cs_X zc)) = some (cA5 cA zc); simp [cA5, cs_i, cs_n, cs_I, cs_L, cs_N, cs_S, cs_X, va_up]
    · show some (cR6 cA (va_up (cs_i zc) 2 2, cs_n zc, cs_I zc, cs_L zc, cs_N zc, cs_S zc, cs_X zc)) = some (cR6 cA zc); simp [cR6, cs_i, cs_n, cs_I, cs_L, cs_N, cs_S, cs_X, va_up]
    · show some (cR7 cA (va_up (cs_i zc) 2 2, cs_n zc, cs_I zc, cs_L zc, cs_N zc, cs_S zc, cs_X zc)) = some (cR7 cA zc); simp [cR7, cs_i, cs_n, cs_I, cs_L, cs_N, cs_S, cs_X, va_up]
    · show some (cR8 cA (va_up (cs_i zc) 2 2, cs_n zc, cs_I zc, cs_L zc, cs_N zc, cs_S zc, cs_X zc)) = some (cR8 cA zc); simp [cR8, cs_i, cs_n, cs_I, cs_L, cs_N, cs_S, cs_X, va_up]
    · show some (cR9 cA (va_up (cs_i zc) 2 2, cs_n zc, cs_I zc, cs_L zc, cs_N zc, cs_S zc, cs_X zc)) = some (cR9 cA zc); simp [cR9, cs_i, cs_n, cs_I, cs_L, cs_N, cs_S, cs_X, va_up]
    · exact absurd (by simp) hij
    · show some (cTr (va_up (cs_i zc) 2 2, cs_n zc, cs_I zc, cs_L zc, cs_N zc, cs_S zc, cs_X zc)) = some (cTr zc); simp [cTr, cs_i, cs_n, cs_I, cs_L, cs_N, cs_S, cs_X, va_up]
    · show (none : Option (Nat × va_E)) = none; rfl
  · show (if j < cs_n (va_up (cs_i zc) 2 2, cs_n zc, cs_I zc, cs_L zc, cs_N zc, cs_S zc, cs_X zc) 0 then some (cPi (va_up (cs_i zc) 2 2, cs_n zc, cs_I zc, cs_L zc, cs_N zc, cs_S zc, cs_X zc) j) else none) = if j < cs_n zc 0 then some (cPi zc j) else none
    simp [cPi, cs_i, cs_n, cs_I, cs_L, cs_N, cs_S, cs_X, va_up]
  · show (if j < cs_n (va_up (cs_i zc) 2 2, cs_n zc, cs_I zc, cs_L zc, cs_N zc, cs_S zc, cs_X zc) 1 then some (cGa (va_up (cs_i zc) 2 2, cs_n zc, cs_I zc, cs_L zc, cs_N zc, cs_S zc, cs_X zc) j) else none) = if j < cs_n zc 1 then some (cGa zc j) else none
    simp [cGa, cs_i, cs_n, cs_I, cs_L, cs_N, cs_S, cs_X, va_up]
  · show (if j < cs_n (va_up (cs_i zc) 2 2, cs_n zc, cs_I zc, cs_L zc, cs_N zc, cs_S zc, cs_X zc) 2 then some (cTa (va_up (cs_i zc) 2 2, cs_n zc, cs_I zc, cs_L zc, cs_N zc, cs_S zc, cs_X zc) j) else none) = if j < cs_n zc 2 then some (cTa zc j) else none
    simp [cTa, cs_i, cs_n, cs_I, cs_L, cs_N, cs_S, cs_X, va_up]
  · show (if j < cs_n (va_up (cs_i zc) 2 2, cs_n zc, cs_I zc, cs_L zc, cs_N zc, cs_S zc, cs_X zc) 3 then some (cPa (va_up (cs_i zc) 2 2, cs_n zc, cs_I zc, cs_L zc, cs_N zc, cs_S zc, cs_X zc) j) else none) = if j < cs_n zc 3 then some (cPa zc j) else none
    simp [cPa, cs_i, cs_n, cs_I, cs_L, cs_N, cs_S, cs_X, va_up]
  · show (if j = 0 ∧ ¬ cs_n (va_up (cs_i zc) 2 2, cs_n zc, cs_I zc, cs_L zc, cs_N zc, cs_S zc, cs_X zc) 4 = 0 then some (cAu (va_up (cs_i zc) 2 2, cs_n zc, cs_I zc, cs_L zc, cs_N zc, cs_S zc, cs_X zc)) else none) = if j = 0 ∧ ¬ cs_n zc 4 = 0 then some (cAu zc) else none
    simp [cAu, cs_i, cs_n, cs_I, cs_L, cs_N, cs_S, cs_X, va_up]
  · show (if j < 4 then some (cSh (va_up (cs_i zc) 2 2, cs_n zc, cs_I zc, cs_L zc, cs_N zc, cs_S zc, cs_X zc) j) else none) = if j < 4 then some (cSh zc j) else none
    simp [cSh, cs_i, cs_n, cs_I, cs_L, cs_N, cs_S, cs_X, va_up]
  · show (if j < 4 then some (cSc cA (va_up (cs_i zc) 2 2, cs_n zc, cs_I zc, cs_L zc, cs_N zc, cs_S zc, cs_X zc) j) else none) = if j < 4 then some (cSc cA zc j) else none
    simp [cSc, cs_i, cs_n, cs_I, cs_L, cs_N, cs_S, cs_X, va_up]
  · show (none : Option (Nat × va_E)) = none; rfl
set_option maxHeartbeats 4000000 in
theorem lf_copy_14 (cA : Nat → ClassId) (zc : CS) (ix : Int32) (jx : Int32) (n : Int32) (js : Nat) (jo : Nat) (hjs : js < 4) (hjo : jo < 4) (hjj : ¬ js = jo) (c26 : ¬ ((cs_I zc 8 js) = -1)) (c29 : (cs_I zc 8 jo) = -1) (hI : invC zc) : invC (va_up (cs_i zc) 2 1, cs_n zc, cs_I zc, cs_L zc, cs_N zc, cs_S zc, cs_X zc) ∧ kAll (cF cA (va_up (cs_i zc) 2 1, cs_n zc, cs_I zc, cs_L zc, cs_N zc, cs_S zc, cs_X zc)) [(0, 0), (0, 10), (6, js), (7, js), (6, jo), (7, jo)] [(cs_X zc 0 0, .inr (10, [.ref (cs_X zc 0 1), .ref (cs_X zc 0 6), .ref (cs_X zc 0 7), .ref (cs_X zc 0 8), .ref (cs_X zc 0 9), .ref (cs_X zc 0 10), .ref (cs_X zc 0 11), .int (nI (cs_n zc 0)), .int (nI (cs_n zc 1)), .int (nI (cs_n zc 2)), .int (nI (cs_n zc 3)), va_rf (opN (cs_n zc 4) (fun _ => cs_X zc 5 0)), .int 1])), cR10 cA zc, cSh zc js, cSc cA zc js, cSh zc jo, cSc cA zc jo] ∧ ∀ i j, (i, j) ∉ ([(0, 0), (0, 10), (6, js), (7, js), (6, jo), (7, jo)] : List (Nat × Nat)) → cF cA (va_up (cs_i zc) 2 1, cs_n zc, cs_I zc, cs_L zc, cs_N zc, cs_S zc, cs_X zc) i j = none ∨ ((i, j) ∉ ([(0, 0), (0, 10), (6, js), (7, js), (6, jo), (7, jo)] : List (Nat × Nat)) ∧ cF cA (va_up (cs_i zc) 2 1, cs_n zc, cs_I zc, cs_L zc, cs_N zc, cs_S zc, cs_X zc) i j = cF cA zc i j) := by
  obtain ⟨⟨hn0, hn1, hn2, hn3, hn4, hn5⟩, hpi, hgk, htk, hpk, hsh⟩ := id hI
  refine ⟨hI, ⟨(by (rw [(kF_tp (cA := cA) (z := (va_up (cs_i zc) 2 1, cs_n zc, cs_I zc, cs_L zc, cs_N zc, cs_S zc, cs_X zc)))]) <;> simp [cTP, cTPN, cTPA, cLo, cA2, cA3, cA4, cA5, cR6, cR7, cR8, cR9, cR10, cTr, cPi, cPiN, cPiT, cGa, cGaK, cTa, cPa, cAu, cAuN, cAuB, cSh, cSc, cs_i, cs_n, cs_I, cs_L, cs_N, cs_S, cs_X, va_up, upd, opN, hjj]), (by (rw [(kF_r10 (cA := cA) (z := (va_up (cs_i zc) 2 1, cs_n zc, cs_I zc, cs_L zc, cs_N zc, cs_S zc, cs_X zc)))]) <;> simp [cTP, cTPN, cTPA, cLo, cA2, cA3, cA4, cA5, cR6, cR7, cR8, cR9, cR10, cTr, cPi, cPiN, cPiT, cGa, cGaK, cTa, cPa, cAu, cAuN, cAuB, cSh, cSc, cs_i, cs_n, cs_I, cs_L, cs_N, cs_S, cs_X, va_up, upd, opN, hjj]), (by (rw [(kF_sh (z := (va_up (cs_i zc) 2 1, cs_n zc, cs_I zc, cs_L zc, cs_N zc, cs_S zc, cs_X zc)) hjs)]) <;> simp [cTP, cTPN, cTPA, cLo, cA2, cA3, cA4, cA5, cR6, cR7, cR8, cR9, cR10, cTr, cPi, cPiN, cPiT, cGa, cGaK, cTa, cPa, cAu, cAuN, cAuB, cSh, cSc, cs_i, cs_n, cs_I, cs_L, cs_N, cs_S, cs_X, va_up, upd, opN, hjj]), (by (rw [(kF_sc (z := (va_up (cs_i zc) 2 1, cs_n zc, cs_I zc, cs_L zc, cs_N zc, cs_S zc, cs_X zc)) hjs)]) <;> simp [cTP, cTPN, cTPA, cLo, cA2, cA3, cA4, cA5, cR6, cR7, cR8, cR9, cR10, cTr, cPi, cPiN, cPiT, cGa, cGaK, cTa, cPa, cAu, cAuN, cAuB, cSh, cSc, cs_i, cs_n, cs_I, cs_L, cs_N, cs_S, cs_X, va_up, upd, opN, hjj]), (by (rw [(kF_sh (z := (va_up (cs_i zc) 2 1, cs_n zc, cs_I zc, cs_L zc, cs_N zc, cs_S zc, cs_X zc)) hjo)]) <;> simp [cTP, cTPN, cTPA, cLo, cA2, cA3, cA4, cA5, cR6, cR7, cR8, cR9, cR10, cTr, cPi, cPiN, cPiT, cGa, cGaK, cTa, cPa, cAu, cAuN, cAuB, cSh, cSc, cs_i, cs_n, cs_I, cs_L, cs_N, cs_S, cs_X, va_up, upd, opN, hjj]), (by (rw [(kF_sc (z := (va_up (cs_i zc) 2 1, cs_n zc, cs_I zc, cs_L zc, cs_N zc, cs_S zc, cs_X zc)) hjo)]) <;> simp [cTP, cTPN, cTPA, cLo, cA2, cA3, cA4, cA5, cR6, cR7, cR8, cR9, cR10, cTr, cPi, cPiN, cPiT, cGa, cGaK, cTa, cPa, cAu, cAuN, cAuB, cSh, cSc, cs_i, cs_n, cs_I, cs_L, cs_N, cs_S, cs_X, va_up, upd, opN, hjj]), trivial⟩, ?_⟩
  intro i j hij
  refine Or.inr ⟨hij, ?_⟩
  rcases i with _ | _ | _ | _ | _ | _ | _ | _ | i
  · rcases j with _ | _ | _ | _ | _ | _ | _ | _ | _ | _ | _ | _ | j
    · exact absurd (by simp) hij
    · show some (cLo (va_up (cs_i zc) 2 1, cs_n zc, cs_I zc, cs_L zc, cs_N zc, cs_S zc, cs_X zc)) = some (cLo zc); simp [cLo, cs_i, cs_n, cs_I, cs_L, cs_N, cs_S, cs_X, va_up]
    · show some (cA2 cA (va_up (cs_i zc) 2 1, cs_n zc, cs_I zc, cs_L zc, cs_N zc, cs_S zc, cs_X zc)) = some (cA2 cA zc); simp [cA2, cs_i, cs_n, cs_I, cs_L, cs_N, cs_S, cs_X, va_up]
    · show some (cA3 cA (va_up (cs_i zc) 2 1, cs_n zc, cs_I zc, cs_L zc, cs_N zc, cs_S zc, cs_X zc)) = some (cA3 cA zc); simp [cA3, cs_i, cs_n, cs_I, cs_L, cs_N, cs_S, cs_X, va_up]
    · show some (cA4 cA (va_up (cs_i zc) 2 1, cs_n zc, cs_I zc, cs_L zc, cs_N zc, cs_S zc, cs_X zc)) = some (cA4 cA zc); simp [cA4, cs_i, cs_n, cs_I, cs_L, cs_N, cs_S, cs_X, va_up]
    · show some (cA5 cA (va_up (cs_i zc) 2 1, cs_n zc, cs_I zc, cs_L zc, cs_N zc, cs_S zc, cs_X zc)) = some (cA5 cA zc); simp [cA5, cs_i, cs_n, cs_I, cs_L, cs_N, cs_S, cs_X, va_up]
    · show some (cR6 cA (va_up (cs_i zc) 2 1, cs_n zc, cs_I zc, cs_L zc, cs_N zc, cs_S zc, cs_X zc)) = some (cR6 cA zc); simp [cR6, cs_i, cs_n, cs_I, cs_L, cs_N, cs_S, cs_X, va_up]
    · show some (cR7 cA (va_up (cs_i zc) 2 1, cs_n zc, cs_I zc, cs_L zc, cs_N zc, cs_S zc, cs_X zc)) = some (cR7 cA zc); simp [cR7, cs_i, cs_n, cs_I, cs_L, cs_N, cs_S, cs_X, va_up]
    · show some (cR8 cA (va_up (cs_i zc) 2 1, cs_n zc, cs_I zc, cs_L zc, cs_N zc, cs_S zc, cs_X zc)) = some (cR8 cA zc); simp [cR8, cs_i, cs_n, cs_I, cs_L, cs_N, cs_S, cs_X, va_up]
    · show some (cR9 cA (va_up (cs_i zc) 2 1, cs_n zc, cs_I zc, cs_L zc, cs_N zc, cs_S zc, cs_X zc)) = some (cR9 cA zc); simp [cR9, cs_i, cs_n, cs_I, cs_L, cs_N, cs_S, cs_X, va_up]
    · exact absurd (by simp) hij
    · show some (cTr (va_up (cs_i zc) 2 1, cs_n zc, cs_I zc, cs_L zc, cs_N zc, cs_S zc, cs_X zc)) = some (cTr zc); simp [cTr, cs_i, cs_n, cs_I, cs_L, cs_N, cs_S, cs_X, va_up]
    · show (none : Option (Nat × va_E)) = none; rfl
  · show (if j < cs_n (va_up (cs_i zc) 2 1, cs_n zc, cs_I zc, cs_L zc, cs_N zc, cs_S zc, cs_X zc) 0 then some (cPi (va_up (cs_i zc) 2 1, cs_n zc, cs_I zc, cs_L zc, cs_N zc, cs_S zc, cs_X zc) j) else none) = if j < cs_n zc 0 then some (cPi zc j) else none
    simp [cPi, cs_i, cs_n, cs_I, cs_L, cs_N, cs_S, cs_X, va_up]
  · show (if j < cs_n (va_up (cs_i zc) 2 1, cs_n zc, cs_I zc, cs_L zc, cs_N zc, cs_S zc, cs_X zc) 1 then some (cGa (va_up (cs_i zc) 2 1, cs_n zc, cs_I zc, cs_L zc, cs_N zc, cs_S zc, cs_X zc) j) else none) = if j < cs_n zc 1 then some (cGa zc j) else none
    simp [cGa, cs_i, cs_n, cs_I, cs_L, cs_N, cs_S, cs_X, va_up]
  · show (if j < cs_n (va_up (cs_i zc) 2 1, cs_n zc, cs_I zc, cs_L zc, cs_N zc, cs_S zc, cs_X zc) 2 then some (cTa (va_up (cs_i zc) 2 1, cs_n zc, cs_I zc, cs_L zc, cs_N zc, cs_S zc, cs_X zc) j) else none) = if j < cs_n zc 2 then some (cTa zc j) else none
    simp [cTa, cs_i, cs_n, cs_I, cs_L, cs_N, cs_S, cs_X, va_up]
  · show (if j < cs_n (va_up (cs_i zc) 2 1, cs_n zc, cs_I zc, cs_L zc, cs_N zc, cs_S zc, cs_X zc) 3 then some (cPa (va_up (cs_i zc) 2 1, cs_n zc, cs_I zc, cs_L zc, cs_N zc, cs_S zc, cs_X zc) j) else none) = if j < cs_n zc 3 then some (cPa zc j) else none
    simp [cPa, cs_i, cs_n, cs_I, cs_L, cs_N, cs_S, cs_X, va_up]
  · show (if j = 0 ∧ ¬ cs_n (va_up (cs_i zc) 2 1, cs_n zc, cs_I zc, cs_L zc, cs_N zc, cs_S zc, cs_X zc) 4 = 0 then some (cAu (va_up (cs_i zc) 2 1, cs_n zc, cs_I zc, cs_L zc, cs_N zc, cs_S zc, cs_X zc)) else none) = if j = 0 ∧ ¬ cs_n zc 4 = 0 then some (cAu zc) else none
    simp [cAu, cs_i, cs_n, cs_I, cs_L, cs_N, cs_S, cs_X, va_up]
  · show (if j < 4 then some (cSh (va_up (cs_i zc) 2 1, cs_n zc, cs_I zc, cs_L zc, cs_N zc, cs_S zc, cs_X zc) j) else none) = if j < 4 then some (cSh zc j) else none
    simp [cSh, cs_i, cs_n, cs_I, cs_L, cs_N, cs_S, cs_X, va_up]
  · show (if j < 4 then some (cSc cA (va_up (cs_i zc) 2 1, cs_n zc, cs_I zc, cs_L zc, cs_N zc, cs_S zc, cs_X zc) j) else none) = if j < 4 then some (cSc cA zc j) else none
    simp [cSc, cs_i, cs_n, cs_I, cs_L, cs_N, cs_S, cs_X, va_up]
  · show (none : Option (Nat × va_E)) = none; rfl
set_option maxHeartbeats 4000000 in
set_option maxRecDepth 100000 in
theorem K_copy (l : Launch) (dC : Nat → ClassId) (dI : Nat → Nat → Nat) (cA : Nat → ClassId) (sz : Nat) (zc : CS) (k : Int32) (ix : Int32) (ot : Int32) (jx : Int32) (n : Int32) (hI : invC zc) : Met l yX10_copy wsX10_copy ({ frames := 3, cells := 0, slots := 0, locals := 90 }) (kw (dC, dI) (ctys cA) (cF cA zc) sz [.ref (cs_X zc 0 0), .int k, .int ix, .int ot, .int jx, .int n]) (kQi (dC, dI) (ctys cA) (cF cA zc) sz (cF cA) (fun r u => (invC u ∧ cs_X u 0 0 = cs_X zc 0 0) ∧ pC_copy zc k ix ot jx n r u)) 0 0 (kA (cF cA zc) sz) := by
  refine kw_met (cc := cX10_copy) (maxL := 8) (ret := (some .int)) (by decide) rfl (Nat.le_of_ble_eq_true rfl) ?_
  intro p e s m below meth c0 hx hb hr hml hown hlocks hnm hts hPk hKk hDk hN hsz ls hl
  subst hsz
  have hK : va_K (dC, dI) vwCl [(cA 0, .int), (cA 1, .object RX6), (cA 2, .object RX2), (cA 3, .object RX8), (cA 4, .object RX5), (cA 5, .object RX7)] s := hKk
  obtain ⟨⟨hn0, hn1, hn2, hn3, hn4, hn5⟩, hpi, hgk, htk, hpk, hsh⟩ := id hI
  have hl : lv_has ls 8 [(0, .ref (cs_X zc 0 0)), (1, .int k), (2, .int ix), (3, .int ot), (4, .int jx), (5, .int n)] := hl
  have hiX10 : ∀ w ∈ wsX100, w ∈ wsX10_copy := fun _ h => List.mem_cons_of_mem _ (List.mem_append_left _ (List.mem_append_right _ (h)))
  have hiX7 : ∀ w ∈ wsX70, w ∈ wsX10_copy := fun _ h => List.mem_cons_of_mem _ (List.mem_append_right _ (h))
  generalize hQ : MQ _ _ _ _ _ _ _ = Q
  rcases ixd k 4 with hnojs | ⟨js, hjs, rfl⟩
  · skip
    rcases ixd ot 4 with hnojo | ⟨jo, hjo, rfl⟩
    · skip
      have hks : kAll (cF cA zc) [(0, 0), (0, 10)] [cTP zc, cR10 cA zc] := ⟨(kF_tp (cA := cA) (z := zc)), (kF_r10 (cA := cA) (z := zc)), trivial⟩
      have hP : va_P (dC, dI) vwCl [cTP zc, cR10 cA zc] s.heap := kAll_P hPk hks
      have hD : va_D (va_A [cTP zc, cR10 cA zc] s.heap.size) [cTP zc, cR10 cA zc] := (kAll_D hDk hks (by simp)).self
      have hA : ∀ q : Nat, s.heap.size ≤ q → va_A [cTP zc, cR10 cA zc] s.heap.size q := fun q h => Or.inr h
      have hS : va_S (va_A [cTP zc, cR10 cA zc] s.heap.size) s.heap s.heap [] := va_S.rf
      refine lv_aload_n hx hb dX10_copy_0 rfl (lv_at hl 0 rfl) ?_
      refine lv_iconst (v := 0) hx hb dX10_copy_1 (by decide) ?_
      refine va_put (D := (dC, dI)) (ci := 10) (v := .int 0) (ty := .int) (C := RX10) (T := TX10) (N := 13) hx hb hts hiX10 tyX10 tyX10_ok nmX10 hown hK hP hD hS 0 rfl rfl 12 (by decide) (hts (.fieldLink RX10 56 "TributePitches" "latestFault" "I") (List.mem_of_getElem? (i := 1) rfl)) (fun _ h9 => h9) rfl (by decide +kernel) rfl rfl (Nat.le_of_ble_eq_true rfl) dX10_copy_2 (fun H locs hP hD hS => ?_)
      have hP : va_P (dC, dI) vwCl [(cs_X zc 0 0, .inr (10, [.ref (cs_X zc 0 1), .ref (cs_X zc 0 6), .ref (cs_X zc 0 7), .ref (cs_X zc 0 8), .ref (cs_X zc 0 9), .ref (cs_X zc 0 10), .ref (cs_X zc 0 11), .int (nI (cs_n zc 0)), .int (nI (cs_n zc 1)), .int (nI (cs_n zc 2)), .int (nI (cs_n zc 3)), va_rf (opN (cs_n zc 4) (fun _ => cs_X zc 5 0)), .int 0])), cR10 cA zc] H := hP
      have hD : va_D _ [(cs_X zc 0 0, .inr (10, [.ref (cs_X zc 0 1), .ref (cs_X zc 0 6), .ref (cs_X zc 0 7), .ref (cs_X zc 0 8), .ref (cs_X zc 0 9), .ref (cs_X zc 0 10), .ref (cs_X zc 0 11), .int (nI (cs_n zc 0)), .int (nI (cs_n zc 1)), .int (nI (cs_n zc 2)), .int (nI (cs_n zc 3)), va_rf (opN (cs_n zc 4) (fun _ => cs_X zc 5 0)), .int 0])), cR10 cA zc] := hD
      refine lv_aload_n hx hb dX10_copy_5 rfl (lv_at hl 0 rfl) ?_
      refine lv_iload_n hx hb dX10_copy_6 rfl (lv_at hl 1 rfl) ?_
      have hPc := hP.sub (ws' := [(cs_X zc 0 0, .inr (10, [.ref (cs_X zc 0 1), .ref (cs_X zc 0 6), .ref (cs_X zc 0 7), .ref (cs_X zc 0 8), .ref (cs_X zc 0 9), .ref (cs_X zc 0 10), .ref (cs_X zc 0 11), .int (nI (cs_n zc 0)), .int (nI (cs_n zc 1)), .int (nI (cs_n zc 2)), .int (nI (cs_n zc 3)), va_rf (opN (cs_n zc 4) (fun _ => cs_X zc 5 0)), .int 0])), cR10 cA zc]) [0, 1] rfl
      have hDc := hD.sub (ws' := [(cs_X zc 0 0, .inr (10, [.ref (cs_X zc 0 1), .ref (cs_X zc 0 6), .ref (cs_X zc 0 7), .ref (cs_X zc 0 8), .ref (cs_X zc 0 9), .ref (cs_X zc 0 10), .ref (cs_X zc 0 11), .int (nI (cs_n zc 0)), .int (nI (cs_n zc 1)), .int (nI (cs_n zc 2)), .int (nI (cs_n zc 3)), va_rf (opN (cs_n zc 4) (fun _ => cs_X zc 5 0)), .int 0])), cR10 cA zc]) [0, 1] (by decide) rfl
      have hKc := hK.sub (tys' := [(cA 5, .object RX7)]) [5] rfl
      refine va_csq (va_Run.run (va_runV (As := [.int k]) (rest := []) ⟨hx, hb, hml, hown, hts⟩ (s_sheetAt_no l dC dI (cA 5) _ (cs_X zc 0 0) (.ref (cs_X zc 0 1)) (.ref (cs_X zc 0 6)) (.ref (cs_X zc 0 7)) (.ref (cs_X zc 0 8)) (.ref (cs_X zc 0 9)) (.ref (cs_X zc 0 11)) (.int (nI (cs_n zc 0))) (.int (nI (cs_n zc 1))) (.int (nI (cs_n zc 2))) (.int (nI (cs_n zc 3))) (va_rf (opN (cs_n zc 4) (fun _ => cs_X zc 5 0))) (.int 0) (cs_X zc 0 10) (rfN 4 (cs_X zc 6)) k (shNo hnojs)) (cwV 1 hts gX10_copy_X10_sheetAt rfl rfl rfl (by decide +kernel) ⟨Nat.le_of_ble_eq_true rfl, Nat.le_of_ble_eq_true rfl⟩) (pw_preV (va_recv hKc hPc (ci := 10) (q0 := 0) rfl rfl) hPc hKc hDc hN) rfl rfl hl.1 rfl (lv_room (Nat.le_of_ble_eq_true rfl)) dX10_copy_7 ⟨Nat.le_of_ble_eq_true rfl, Nat.le_of_ble_eq_true rfl⟩)) (fun r1 hr1 => ?_)
      have hr1 : r1 = none := hr1
      subst hr1
      refine W.eq (g2 := F0 m 10 ls [.null]) rfl ?_
      refine lv_astoreN (lv' := [(6, .null), (0, .ref (cs_X zc 0 0)), (1, .int k), (2, .int ix), (3, .int ot), (4, .int jx), (5, .int n)]) hx hb dX10_copy_10 hl (by decide) rfl (fun ls hl => ?_)
      refine lv_aload_n hx hb dX10_copy_12 rfl (lv_at hl 1 rfl) ?_
      refine lv_iload_n hx hb dX10_copy_13 rfl (lv_at hl 4 rfl) ?_
      have hPc := hP.sub (ws' := [(cs_X zc 0 0, .inr (10, [.ref (cs_X zc 0 1), .ref (cs_X zc 0 6), .ref (cs_X zc 0 7), .ref (cs_X zc 0 8), .ref (cs_X zc 0 9), .ref (cs_X zc 0 10), .ref (cs_X zc 0 11), .int (nI (cs_n zc 0)), .int (nI (cs_n zc 1)), .int (nI (cs_n zc 2)), .int (nI (cs_n zc 3)), va_rf (opN (cs_n zc 4) (fun _ => cs_X zc 5 0)), .int 0])), cR10 cA zc]) [0, 1] rfl
      have hDc := hD.sub (ws' := [(cs_X zc 0 0, .inr (10, [.ref (cs_X zc 0 1), .ref (cs_X zc 0 6), .ref (cs_X zc 0 7), .ref (cs_X zc 0 8), .ref (cs_X zc 0 9), .ref (cs_X zc 0 10), .ref (cs_X zc 0 11), .int (nI (cs_n zc 0)), .int (nI (cs_n zc 1)), .int (nI (cs_n zc 2)), .int (nI (cs_n zc 3)), va_rf (opN (cs_n zc 4) (fun _ => cs_X zc 5 0)), .int 0])), cR10 cA zc]) [0, 1] (by decide) rfl
      have hKc := hK.sub (tys' := [(cA 5, .object RX7)]) [5] rfl
      refine va_csq (va_Run.run (va_runV (As := [.int ot]) (rest := []) ⟨hx, hb, hml, hown, hts⟩ (s_sheetAt_no l dC dI (cA 5) _ (cs_X zc 0 0) (.ref (cs_X zc 0 1)) (.ref (cs_X zc 0 6)) (.ref (cs_X zc 0 7)) (.ref (cs_X zc 0 8)) (.ref (cs_X zc 0 9)) (.ref (cs_X zc 0 11)) (.int (nI (cs_n zc 0))) (.int (nI (cs_n zc 1))) (.int (nI (cs_n zc 2))) (.int (nI (cs_n zc 3))) (va_rf (opN (cs_n zc 4) (fun _ => cs_X zc 5 0))) (.int 0) (cs_X zc 0 10) (rfN 4 (cs_X zc 6)) ot (shNo hnojo)) (cwV 1 hts gX10_copy_X10_sheetAt rfl rfl rfl (by decide +kernel) ⟨Nat.le_of_ble_eq_true rfl, Nat.le_of_ble_eq_true rfl⟩) (pw_preV (va_recv hKc hPc (ci := 10) (q0 := 0) rfl rfl) hPc hKc hDc hN) rfl rfl hl.1 rfl (lv_room (Nat.le_of_ble_eq_true rfl)) dX10_copy_14 ⟨Nat.le_of_ble_eq_true rfl, Nat.le_of_ble_eq_true rfl⟩)) (fun r2 hr2 => ?_)
      have hr2 : r2 = none := hr2
      subst hr2
      refine W.eq (g2 := F0 m 17 ls [.null]) rfl ?_
      refine lv_astoreN (lv' := [(7, .null), (6, .null), (0, .ref (cs_X zc 0 0)), (1, .int k), (2, .int ix), (3, .int ot), (4, .int jx), (5, .int n)]) hx hb dX10_copy_17 hl (by decide) rfl (fun ls hl => ?_)
      refine lv_aloadN hx hb dX10_copy_19 (lv_at hl 1 rfl) ?_
      refine lv_ifnullN (tgt := 29) hx hb dX10_copy_21 (by decide) ?_
      refine lv_iconst (v := (-1)) hx hb dX10_copy_29 (by decide) ?_
      subst hQ
      have hP9 : va_P (dC, dI) vwCl [(cs_X zc 0 0, .inr (10, [.ref (cs_X zc 0 1), .ref (cs_X zc 0 6), .ref (cs_X zc 0 7), .ref (cs_X zc 0 8), .ref (cs_X zc 0 9), .ref (cs_X zc 0 10), .ref (cs_X zc 0 11), .int (nI (cs_n zc 0)), .int (nI (cs_n zc 1)), .int (nI (cs_n zc 2)), .int (nI (cs_n zc 3)), va_rf (opN (cs_n zc 4) (fun _ => cs_X zc 5 0)), .int 0])), cR10 cA zc] H := hP.sub [0, 1] rfl
      have hD9 : va_D (va_A [cTP zc, cR10 cA zc] s.heap.size) [(cs_X zc 0 0, .inr (10, [.ref (cs_X zc 0 1), .ref (cs_X zc 0 6), .ref (cs_X zc 0 7), .ref (cs_X zc 0 8), .ref (cs_X zc 0 9), .ref (cs_X zc 0 10), .ref (cs_X zc 0 11), .int (nI (cs_n zc 0)), .int (nI (cs_n zc 1)), .int (nI (cs_n zc 2)), .int (nI (cs_n zc 3)), va_rf (opN (cs_n zc 4) (fun _ => cs_X zc 5 0)), .int 0])), cR10 cA zc] := hD.sub [0, 1] (by decide) rfl
      have hlf := lf_copy_0 cA zc k ix ot jx n hnojs hnojo hI
      exact W.iret (v := (-1)) hx hb hr (fun t ht hW => have hJ := kjoin hPk hDk hks rfl (hS.F ht) (by rw [ht]; exact hP9) hD9 hlf.2.1 hlf.2.2; ⟨⟨(-1), (va_up (cs_i zc) 2 0, cs_n zc, cs_I zc, cs_L zc, cs_N zc, cs_S zc, cs_X zc), rfl, ⟨⟨hlf.1, rfl⟩, (Or.inl ⟨hnojs, hnojo, rfl, rfl⟩)⟩, hJ.1, va_K.moved hW.alike hKk, hJ.2.1⟩, hJ.2.2⟩) (fun q h => kAll_A hks _ (hS.2.2 q h)) dX10_copy_30
    · skip
      have hks : kAll (cF cA zc) [(0, 0), (0, 10)] [cTP zc, cR10 cA zc] := ⟨(kF_tp (cA := cA) (z := zc)), (kF_r10 (cA := cA) (z := zc)), trivial⟩
      have hP : va_P (dC, dI) vwCl [cTP zc, cR10 cA zc] s.heap := kAll_P hPk hks
      have hD : va_D (va_A [cTP zc, cR10 cA zc] s.heap.size) [cTP zc, cR10 cA zc] := (kAll_D hDk hks (by simp)).self
      have hA : ∀ q : Nat, s.heap.size ≤ q → va_A [cTP zc, cR10 cA zc] s.heap.size q := fun q h => Or.inr h
      have hS : va_S (va_A [cTP zc, cR10 cA zc] s.heap.size) s.heap s.heap [] := va_S.rf
      refine lv_aload_n hx hb dX10_copy_0 rfl (lv_at hl 0 rfl) ?_
      refine lv_iconst (v := 0) hx hb dX10_copy_1 (by decide) ?_
      refine va_put (D := (dC, dI)) (ci := 10) (v := .int 0) (ty := .int) (C := RX10) (T := TX10) (N := 13) hx hb hts hiX10 tyX10 tyX10_ok nmX10 hown hK hP hD hS 0 rfl rfl 12 (by decide) (hts (.fieldLink RX10 56 "TributePitches" "latestFault" "I") (List.mem_of_getElem? (i := 1) rfl)) (fun _ h9 => h9) rfl (by decide +kernel) rfl rfl (Nat.le_of_ble_eq_true rfl) dX10_copy_2 (fun H locs hP hD hS => ?_)
      have hP : va_P (dC, dI) vwCl [(cs_X zc 0 0, .inr (10, [.ref (cs_X zc 0 1), .ref (cs_X zc 0 6), .ref (cs_X zc 0 7), .ref (cs_X zc 0 8), .ref (cs_X zc 0 9), .ref (cs_X zc 0 10), .ref (cs_X zc 0 11), .int (nI (cs_n zc 0)), .int (nI (cs_n zc 1)), .int (nI (cs_n zc 2)), .int (nI (cs_n zc 3)), va_rf (opN (cs_n zc 4) (fun _ => cs_X zc 5 0)), .int 0])), cR10 cA zc] H := hP
      have hD : va_D _ [(cs_X zc 0 0, .inr (10, [.ref (cs_X zc 0 1), .ref (cs_X zc 0 6), .ref (cs_X zc 0 7), .ref (cs_X zc 0 8), .ref (cs_X zc 0 9), .ref (cs_X zc 0 10), .ref (cs_X zc 0 11), .int (nI (cs_n zc 0)), .int (nI (cs_n zc 1)), .int (nI (cs_n zc 2)), .int (nI (cs_n zc 3)), va_rf (opN (cs_n zc 4) (fun _ => cs_X zc 5 0)), .int 0])), cR10 cA zc] := hD
      refine lv_aload_n hx hb dX10_copy_5 rfl (lv_at hl 0 rfl) ?_
      refine lv_iload_n hx hb dX10_copy_6 rfl (lv_at hl 1 rfl) ?_
      have hPc := hP.sub (ws' := [(cs_X zc 0 0, .inr (10, [.ref (cs_X zc 0 1), .ref (cs_X zc 0 6), .ref (cs_X zc 0 7), .ref (cs_X zc 0 8), .ref (cs_X zc 0 9), .ref (cs_X zc 0 10), .ref (cs_X zc 0 11), .int (nI (cs_n zc 0)), .int (nI (cs_n zc 1)), .int (nI (cs_n zc 2)), .int (nI (cs_n zc 3)), va_rf (opN (cs_n zc 4) (fun _ => cs_X zc 5 0)), .int 0])), cR10 cA zc]) [0, 1] rfl
      have hDc := hD.sub (ws' := [(cs_X zc 0 0, .inr (10, [.ref (cs_X zc 0 1), .ref (cs_X zc 0 6), .ref (cs_X zc 0 7), .ref (cs_X zc 0 8), .ref (cs_X zc 0 9), .ref (cs_X zc 0 10), .ref (cs_X zc 0 11), .int (nI (cs_n zc 0)), .int (nI (cs_n zc 1)), .int (nI (cs_n zc 2)), .int (nI (cs_n zc 3)), va_rf (opN (cs_n zc 4) (fun _ => cs_X zc 5 0)), .int 0])), cR10 cA zc]) [0, 1] (by decide) rfl
      have hKc := hK.sub (tys' := [(cA 5, .object RX7)]) [5] rfl
      refine va_csq (va_Run.run (va_runV (As := [.int k]) (rest := []) ⟨hx, hb, hml, hown, hts⟩ (s_sheetAt_no l dC dI (cA 5) _ (cs_X zc 0 0) (.ref (cs_X zc 0 1)) (.ref (cs_X zc 0 6)) (.ref (cs_X zc 0 7)) (.ref (cs_X zc 0 8)) (.ref (cs_X zc 0 9)) (.ref (cs_X zc 0 11)) (.int (nI (cs_n zc 0))) (.int (nI (cs_n zc 1))) (.int (nI (cs_n zc 2))) (.int (nI (cs_n zc 3))) (va_rf (opN (cs_n zc 4) (fun _ => cs_X zc 5 0))) (.int 0) (cs_X zc 0 10) (rfN 4 (cs_X zc 6)) k (shNo hnojs)) (cwV 1 hts gX10_copy_X10_sheetAt rfl rfl rfl (by decide +kernel) ⟨Nat.le_of_ble_eq_true rfl, Nat.le_of_ble_eq_true rfl⟩) (pw_preV (va_recv hKc hPc (ci := 10) (q0 := 0) rfl rfl) hPc hKc hDc hN) rfl rfl hl.1 rfl (lv_room (Nat.le_of_ble_eq_true rfl)) dX10_copy_7 ⟨Nat.le_of_ble_eq_true rfl, Nat.le_of_ble_eq_true rfl⟩)) (fun r3 hr3 => ?_)
      have hr3 : r3 = none := hr3
      subst hr3
      refine W.eq (g2 := F0 m 10 ls [.null]) rfl ?_
      refine lv_astoreN (lv' := [(6, .null), (0, .ref (cs_X zc 0 0)), (1, .int k), (2, .int ix), (3, .int (nI jo)), (4, .int jx), (5, .int n)]) hx hb dX10_copy_10 hl (by decide) rfl (fun ls hl => ?_)
      refine lv_aload_n hx hb dX10_copy_12 rfl (lv_at hl 1 rfl) ?_
      refine lv_iload_n hx hb dX10_copy_13 rfl (lv_at hl 4 rfl) ?_
      have hPc := hP.sub (ws' := [(cs_X zc 0 0, .inr (10, [.ref (cs_X zc 0 1), .ref (cs_X zc 0 6), .ref (cs_X zc 0 7), .ref (cs_X zc 0 8), .ref (cs_X zc 0 9), .ref (cs_X zc 0 10), .ref (cs_X zc 0 11), .int (nI (cs_n zc 0)), .int (nI (cs_n zc 1)), .int (nI (cs_n zc 2)), .int (nI (cs_n zc 3)), va_rf (opN (cs_n zc 4) (fun _ => cs_X zc 5 0)), .int 0])), cR10 cA zc]) [0, 1] rfl
      have hDc := hD.sub (ws' := [(cs_X zc 0 0, .inr (10, [.ref (cs_X zc 0 1), .ref (cs_X zc 0 6), .ref (cs_X zc 0 7), .ref (cs_X zc 0 8), .ref (cs_X zc 0 9), .ref (cs_X zc 0 10), .ref (cs_X zc 0 11), .int (nI (cs_n zc 0)), .int (nI (cs_n zc 1)), .int (nI (cs_n zc 2)), .int (nI (cs_n zc 3)), va_rf (opN (cs_n zc 4) (fun _ => cs_X zc 5 0)), .int 0])), cR10 cA zc]) [0, 1] (by decide) rfl
      have hKc := hK.sub (tys' := [(cA 5, .object RX7)]) [5] rfl
      refine va_csq (va_Run.run (va_runV (As := [.int (nI jo)]) (rest := []) ⟨hx, hb, hml, hown, hts⟩ (s_sheetAt_yes l dC dI (cA 5) _ (cs_X zc 0 0) (.ref (cs_X zc 0 1)) (.ref (cs_X zc 0 6)) (.ref (cs_X zc 0 7)) (.ref (cs_X zc 0 8)) (.ref (cs_X zc 0 9)) (.ref (cs_X zc 0 11)) (.int (nI (cs_n zc 0))) (.int (nI (cs_n zc 1))) (.int (nI (cs_n zc 2))) (.int (nI (cs_n zc 3))) (va_rf (opN (cs_n zc 4) (fun _ => cs_X zc 5 0))) (.int 0) (cs_X zc 0 10) jo (cs_X zc 6 jo) (rfN 4 (cs_X zc 6)) hjo (rfN_at hjo)) (cwV 1 hts gX10_copy_X10_sheetAt rfl rfl rfl (by decide +kernel) ⟨Nat.le_of_ble_eq_true rfl, Nat.le_of_ble_eq_true rfl⟩) (pw_preV (va_recv hKc hPc (ci := 10) (q0 := 0) rfl rfl) hPc hKc hDc hN) rfl rfl hl.1 rfl (lv_room (Nat.le_of_ble_eq_true rfl)) dX10_copy_14 ⟨Nat.le_of_ble_eq_true rfl, Nat.le_of_ble_eq_true rfl⟩)) (fun r4 hr4 => ?_)
      have hr4 : r4 = some (cs_X zc 6 jo) := hr4
      subst hr4
      refine W.eq (g2 := F0 m 17 ls [.ref (cs_X zc 6 jo)]) rfl ?_
      refine lv_astore (lv' := [(7, .ref (cs_X zc 6 jo)), (6, .null), (0, .ref (cs_X zc 0 0)), (1, .int k), (2, .int ix), (3, .int (nI jo)), (4, .int jx), (5, .int n)]) hx hb dX10_copy_17 hl (by decide) rfl (fun ls hl => ?_)
      refine lv_aloadN hx hb dX10_copy_19 (lv_at hl 1 rfl) ?_
      refine lv_ifnullN (tgt := 29) hx hb dX10_copy_21 (by decide) ?_
      refine lv_iconst (v := (-1)) hx hb dX10_copy_29 (by decide) ?_
      subst hQ
      have hP9 : va_P (dC, dI) vwCl [(cs_X zc 0 0, .inr (10, [.ref (cs_X zc 0 1), .ref (cs_X zc 0 6), .ref (cs_X zc 0 7), .ref (cs_X zc 0 8), .ref (cs_X zc 0 9), .ref (cs_X zc 0 10), .ref (cs_X zc 0 11), .int (nI (cs_n zc 0)), .int (nI (cs_n zc 1)), .int (nI (cs_n zc 2)), .int (nI (cs_n zc 3)), va_rf (opN (cs_n zc 4) (fun _ => cs_X zc 5 0)), .int 0])), cR10 cA zc] H := hP.sub [0, 1] rfl
      have hD9 : va_D (va_A [cTP zc, cR10 cA zc] s.heap.size) [(cs_X zc 0 0, .inr (10, [.ref (cs_X zc 0 1), .ref (cs_X zc 0 6), .ref (cs_X zc 0 7), .ref (cs_X zc 0 8), .ref (cs_X zc 0 9), .ref (cs_X zc 0 10), .ref (cs_X zc 0 11), .int (nI (cs_n zc 0)), .int (nI (cs_n zc 1)), .int (nI (cs_n zc 2)), .int (nI (cs_n zc 3)), va_rf (opN (cs_n zc 4) (fun _ => cs_X zc 5 0)), .int 0])), cR10 cA zc] := hD.sub [0, 1] (by decide) rfl
      have hlf := lf_copy_1 cA zc k ix jx n jo hnojs hjo hI
      exact W.iret (v := (-1)) hx hb hr (fun t ht hW => have hJ := kjoin hPk hDk hks rfl (hS.F ht) (by rw [ht]; exact hP9) hD9 hlf.2.1 hlf.2.2; ⟨⟨(-1), (va_up (cs_i zc) 2 0, cs_n zc, cs_I zc, cs_L zc, cs_N zc, cs_S zc, cs_X zc), rfl, ⟨⟨hlf.1, rfl⟩, (Or.inr (Or.inl ⟨hnojs, jo, rfl, hjo, rfl, rfl⟩))⟩, hJ.1, va_K.moved hW.alike hKk, hJ.2.1⟩, hJ.2.2⟩) (fun q h => kAll_A hks _ (hS.2.2 q h)) dX10_copy_30
  · skip
    rcases ixd ot 4 with hnojo | ⟨jo, hjo, rfl⟩
    · skip
      have hks : kAll (cF cA zc) [(0, 0), (0, 10)] [cTP zc, cR10 cA zc] := ⟨(kF_tp (cA := cA) (z := zc)), (kF_r10 (cA := cA) (z := zc)), trivial⟩
      have hP : va_P (dC, dI) vwCl [cTP zc, cR10 cA zc] s.heap := kAll_P hPk hks
      have hD : va_D (va_A [cTP zc, cR10 cA zc] s.heap.size) [cTP zc, cR10 cA zc] := (kAll_D hDk hks (by simp)).self
      have hA : ∀ q : Nat, s.heap.size ≤ q → va_A [cTP zc, cR10 cA zc] s.heap.size q := fun q h => Or.inr h
      have hS : va_S (va_A [cTP zc, cR10 cA zc] s.heap.size) s.heap s.heap [] := va_S.rf
      refine lv_aload_n hx hb dX10_copy_0 rfl (lv_at hl 0 rfl) ?_
      refine lv_iconst (v := 0) hx hb dX10_copy_1 (by decide) ?_
      refine va_put (D := (dC, dI)) (ci := 10) (v := .int 0) (ty := .int) (C := RX10) (T := TX10) (N := 13) hx hb hts hiX10 tyX10 tyX10_ok nmX10 hown hK hP hD hS 0 rfl rfl 12 (by decide) (hts (.fieldLink RX10 56 "TributePitches" "latestFault" "I") (List.mem_of_getElem? (i := 1) rfl)) (fun _ h9 => h9) rfl (by decide +kernel) rfl rfl (Nat.le_of_ble_eq_true rfl) dX10_copy_2 (fun H locs hP hD hS => ?_)
      have hP : va_P (dC, dI) vwCl [(cs_X zc 0 0, .inr (10, [.ref (cs_X zc 0 1), .ref (cs_X zc 0 6), .ref (cs_X zc 0 7), .ref (cs_X zc 0 8), .ref (cs_X zc 0 9), .ref (cs_X zc 0 10), .ref (cs_X zc 0 11), .int (nI (cs_n zc 0)), .int (nI (cs_n zc 1)), .int (nI (cs_n zc 2)), .int (nI (cs_n zc 3)), va_rf (opN (cs_n zc 4) (fun _ => cs_X zc 5 0)), .int 0])), cR10 cA zc] H := hP
      have hD : va_D _ [(cs_X zc 0 0, .inr (10, [.ref (cs_X zc 0 1), .ref (cs_X zc 0 6), .ref (cs_X zc 0 7), .ref (cs_X zc 0 8), .ref (cs_X zc 0 9), .ref (cs_X zc 0 10), .ref (cs_X zc 0 11), .int (nI (cs_n zc 0)), .int (nI (cs_n zc 1)), .int (nI (cs_n zc 2)), .int (nI (cs_n zc 3)), va_rf (opN (cs_n zc 4) (fun _ => cs_X zc 5 0)), .int 0])), cR10 cA zc] := hD
      refine lv_aload_n hx hb dX10_copy_5 rfl (lv_at hl 0 rfl) ?_
      refine lv_iload_n hx hb dX10_copy_6 rfl (lv_at hl 1 rfl) ?_
      have hPc := hP.sub (ws' := [(cs_X zc 0 0, .inr (10, [.ref (cs_X zc 0 1), .ref (cs_X zc 0 6), .ref (cs_X zc 0 7), .ref (cs_X zc 0 8), .ref (cs_X zc 0 9), .ref (cs_X zc 0 10), .ref (cs_X zc 0 11), .int (nI (cs_n zc 0)), .int (nI (cs_n zc 1)), .int (nI (cs_n zc 2)), .int (nI (cs_n zc 3)), va_rf (opN (cs_n zc 4) (fun _ => cs_X zc 5 0)), .int 0])), cR10 cA zc]) [0, 1] rfl
      have hDc := hD.sub (ws' := [(cs_X zc 0 0, .inr (10, [.ref (cs_X zc 0 1), .ref (cs_X zc 0 6), .ref (cs_X zc 0 7), .ref (cs_X zc 0 8), .ref (cs_X zc 0 9), .ref (cs_X zc 0 10), .ref (cs_X zc 0 11), .int (nI (cs_n zc 0)), .int (nI (cs_n zc 1)), .int (nI (cs_n zc 2)), .int (nI (cs_n zc 3)), va_rf (opN (cs_n zc 4) (fun _ => cs_X zc 5 0)), .int 0])), cR10 cA zc]) [0, 1] (by decide) rfl
      have hKc := hK.sub (tys' := [(cA 5, .object RX7)]) [5] rfl
      refine va_csq (va_Run.run (va_runV (As := [.int (nI js)]) (rest := []) ⟨hx, hb, hml, hown, hts⟩ (s_sheetAt_yes l dC dI (cA 5) _ (cs_X zc 0 0) (.ref (cs_X zc 0 1)) (.ref (cs_X zc 0 6)) (.ref (cs_X zc 0 7)) (.ref (cs_X zc 0 8)) (.ref (cs_X zc 0 9)) (.ref (cs_X zc 0 11)) (.int (nI (cs_n zc 0))) (.int (nI (cs_n zc 1))) (.int (nI (cs_n zc 2))) (.int (nI (cs_n zc 3))) (va_rf (opN (cs_n zc 4) (fun _ => cs_X zc 5 0))) (.int 0) (cs_X zc 0 10) js (cs_X zc 6 js) (rfN 4 (cs_X zc 6)) hjs (rfN_at hjs)) (cwV 1 hts gX10_copy_X10_sheetAt rfl rfl rfl (by decide +kernel) ⟨Nat.le_of_ble_eq_true rfl, Nat.le_of_ble_eq_true rfl⟩) (pw_preV (va_recv hKc hPc (ci := 10) (q0 := 0) rfl rfl) hPc hKc hDc hN) rfl rfl hl.1 rfl (lv_room (Nat.le_of_ble_eq_true rfl)) dX10_copy_7 ⟨Nat.le_of_ble_eq_true rfl, Nat.le_of_ble_eq_true rfl⟩)) (fun r5 hr5 => ?_)
      have hr5 : r5 = some (cs_X zc 6 js) := hr5
      subst hr5
      refine W.eq (g2 := F0 m 10 ls [.ref (cs_X zc 6 js)]) rfl ?_
      refine lv_astore (lv' := [(6, .ref (cs_X zc 6 js)), (0, .ref (cs_X zc 0 0)), (1, .int (nI js)), (2, .int ix), (3, .int ot), (4, .int jx), (5, .int n)]) hx hb dX10_copy_10 hl (by decide) rfl (fun ls hl => ?_)
      refine lv_aload_n hx hb dX10_copy_12 rfl (lv_at hl 1 rfl) ?_
      refine lv_iload_n hx hb dX10_copy_13 rfl (lv_at hl 4 rfl) ?_
      have hPc := hP.sub (ws' := [(cs_X zc 0 0, .inr (10, [.ref (cs_X zc 0 1), .ref (cs_X zc 0 6), .ref (cs_X zc 0 7), .ref (cs_X zc 0 8), .ref (cs_X zc 0 9), .ref (cs_X zc 0 10), .ref (cs_X zc 0 11), .int (nI (cs_n zc 0)), .int (nI (cs_n zc 1)), .int (nI (cs_n zc 2)), .int (nI (cs_n zc 3)), va_rf (opN (cs_n zc 4) (fun _ => cs_X zc 5 0)), .int 0])), cR10 cA zc]) [0, 1] rfl
      have hDc := hD.sub (ws' := [(cs_X zc 0 0, .inr (10, [.ref (cs_X zc 0 1), .ref (cs_X zc 0 6), .ref (cs_X zc 0 7), .ref (cs_X zc 0 8), .ref (cs_X zc 0 9), .ref (cs_X zc 0 10), .ref (cs_X zc 0 11), .int (nI (cs_n zc 0)), .int (nI (cs_n zc 1)), .int (nI (cs_n zc 2)), .int (nI (cs_n zc 3)), va_rf (opN (cs_n zc 4) (fun _ => cs_X zc 5 0)), .int 0])), cR10 cA zc]) [0, 1] (by decide) rfl
      have hKc := hK.sub (tys' := [(cA 5, .object RX7)]) [5] rfl
      refine va_csq (va_Run.run (va_runV (As := [.int ot]) (rest := []) ⟨hx, hb, hml, hown, hts⟩ (s_sheetAt_no l dC dI (cA 5) _ (cs_X zc 0 0) (.ref (cs_X zc 0 1)) (.ref (cs_X zc 0 6)) (.ref (cs_X zc 0 7)) (.ref (cs_X zc 0 8)) (.ref (cs_X zc 0 9)) (.ref (cs_X zc 0 11)) (.int (nI (cs_n zc 0))) (.int (nI (cs_n zc 1))) (.int (nI (cs_n zc 2))) (.int (nI (cs_n zc 3))) (va_rf (opN (cs_n zc 4) (fun _ => cs_X zc 5 0))) (.int 0) (cs_X zc 0 10) (rfN 4 (cs_X zc 6)) ot (shNo hnojo)) (cwV 1 hts gX10_copy_X10_sheetAt rfl rfl rfl (by decide +kernel) ⟨Nat.le_of_ble_eq_true rfl, Nat.le_of_ble_eq_true rfl⟩) (pw_preV (va_recv hKc hPc (ci := 10) (q0 := 0) rfl rfl) hPc hKc hDc hN) rfl rfl hl.1 rfl (lv_room (Nat.le_of_ble_eq_true rfl)) dX10_copy_14 ⟨Nat.le_of_ble_eq_true rfl, Nat.le_of_ble_eq_true rfl⟩)) (fun r6 hr6 => ?_)
      have hr6 : r6 = none := hr6
      subst hr6
      refine W.eq (g2 := F0 m 17 ls [.null]) rfl ?_
      refine lv_astoreN (lv' := [(7, .null), (6, .ref (cs_X zc 6 js)), (0, .ref (cs_X zc 0 0)), (1, .int (nI js)), (2, .int ix), (3, .int ot), (4, .int jx), (5, .int n)]) hx hb dX10_copy_17 hl (by decide) rfl (fun ls hl => ?_)
      refine lv_aload hx hb dX10_copy_19 (lv_at hl 1 rfl) ?_
      refine lv_ifnull hx hb dX10_copy_21 ?_
      refine lv_aloadN hx hb dX10_copy_24 (lv_at hl 0 rfl) ?_
      refine lv_ifnonnullN hx hb dX10_copy_26 ?_
      refine lv_iconst (v := (-1)) hx hb dX10_copy_29 (by decide) ?_
      subst hQ
      have hP9 : va_P (dC, dI) vwCl [(cs_X zc 0 0, .inr (10, [.ref (cs_X zc 0 1), .ref (cs_X zc 0 6), .ref (cs_X zc 0 7), .ref (cs_X zc 0 8), .ref (cs_X zc 0 9), .ref (cs_X zc 0 10), .ref (cs_X zc 0 11), .int (nI (cs_n zc 0)), .int (nI (cs_n zc 1)), .int (nI (cs_n zc 2)), .int (nI (cs_n zc 3)), va_rf (opN (cs_n zc 4) (fun _ => cs_X zc 5 0)), .int 0])), cR10 cA zc] H := hP.sub [0, 1] rfl
      have hD9 : va_D (va_A [cTP zc, cR10 cA zc] s.heap.size) [(cs_X zc 0 0, .inr (10, [.ref (cs_X zc 0 1), .ref (cs_X zc 0 6), .ref (cs_X zc 0 7), .ref (cs_X zc 0 8), .ref (cs_X zc 0 9), .ref (cs_X zc 0 10), .ref (cs_X zc 0 11), .int (nI (cs_n zc 0)), .int (nI (cs_n zc 1)), .int (nI (cs_n zc 2)), .int (nI (cs_n zc 3)), va_rf (opN (cs_n zc 4) (fun _ => cs_X zc 5 0)), .int 0])), cR10 cA zc] := hD.sub [0, 1] (by decide) rfl
      have hlf := lf_copy_2 cA zc ix ot jx n js hjs hnojo hI
      exact W.iret (v := (-1)) hx hb hr (fun t ht hW => have hJ := kjoin hPk hDk hks rfl (hS.F ht) (by rw [ht]; exact hP9) hD9 hlf.2.1 hlf.2.2; ⟨⟨(-1), (va_up (cs_i zc) 2 0, cs_n zc, cs_I zc, cs_L zc, cs_N zc, cs_S zc, cs_X zc), rfl, ⟨⟨hlf.1, rfl⟩, (Or.inr (Or.inr (Or.inl ⟨js, rfl, hjs, hnojo, rfl, rfl⟩)))⟩, hJ.1, va_K.moved hW.alike hKk, hJ.2.1⟩, hJ.2.2⟩) (fun q h => kAll_A hks _ (hS.2.2 q h)) dX10_copy_30
    · skip
      by_cases hjj : js = jo
      · subst hjj
        have hks : kAll (cF cA zc) [(0, 0), (0, 10), (6, js), (7, js)] [cTP zc, cR10 cA zc, cSh zc js, cSc cA zc js] := ⟨(kF_tp (cA := cA) (z := zc)), (kF_r10 (cA := cA) (z := zc)), (kF_sh (z := zc) hjs), (kF_sc (z := zc) hjs), trivial⟩
        have hP : va_P (dC, dI) vwCl [cTP zc, cR10 cA zc, cSh zc js, cSc cA zc js] s.heap := kAll_P hPk hks
        have hD : va_D (va_A [cTP zc, cR10 cA zc, cSh zc js, cSc cA zc js] s.heap.size) [cTP zc, cR10 cA zc, cSh zc js, cSc cA zc js] := (kAll_D hDk hks (by simp)).self
        have hA : ∀ q : Nat, s.heap.size ≤ q → va_A [cTP zc, cR10 cA zc, cSh zc js, cSc cA zc js] s.heap.size q := fun q h => Or.inr h
        have hS : va_S (va_A [cTP zc, cR10 cA zc, cSh zc js, cSc cA zc js] s.heap.size) s.heap s.heap [] := va_S.rf
        refine lv_aload_n hx hb dX10_copy_0 rfl (lv_at hl 0 rfl) ?_
        refine lv_iconst (v := 0) hx hb dX10_copy_1 (by decide) ?_
        refine va_put (D := (dC, dI)) (ci := 10) (v := .int 0) (ty := .int) (C := RX10) (T := TX10) (N := 13) hx hb hts hiX10 tyX10 tyX10_ok nmX10 hown hK hP hD hS 0 rfl rfl 12 (by decide) (hts (.fieldLink RX10 56 "TributePitches" "latestFault" "I") (List.mem_of_getElem? (i := 1) rfl)) (fun _ h9 => h9) rfl (by decide +kernel) rfl rfl (Nat.le_of_ble_eq_true rfl) dX10_copy_2 (fun H locs hP hD hS => ?_)
        have hP : va_P (dC, dI) vwCl [(cs_X zc 0 0, .inr (10, [.ref (cs_X zc 0 1), .ref (cs_X zc 0 6), .ref (cs_X zc 0 7), .ref (cs_X zc 0 8), .ref (cs_X zc 0 9), .ref (cs_X zc 0 10), .ref (cs_X zc 0 11), .int (nI (cs_n zc 0)), .int (nI (cs_n zc 1)), .int (nI (cs_n zc 2)), .int (nI (cs_n zc 3)), va_rf (opN (cs_n zc 4) (fun _ => cs_X zc 5 0)), .int 0])), cR10 cA zc, cSh zc js, cSc cA zc js] H := hP
        have hD : va_D _ [(cs_X zc 0 0, .inr (10, [.ref (cs_X zc 0 1), .ref (cs_X zc 0 6), .ref (cs_X zc 0 7), .ref (cs_X zc 0 8), .ref (cs_X zc 0 9), .ref (cs_X zc 0 10), .ref (cs_X zc 0 11), .int (nI (cs_n zc 0)), .int (nI (cs_n zc 1)), .int (nI (cs_n zc 2)), .int (nI (cs_n zc 3)), va_rf (opN (cs_n zc 4) (fun _ => cs_X zc 5 0)), .int 0])), cR10 cA zc, cSh zc js, cSc cA zc js] := hD
        refine lv_aload_n hx hb dX10_copy_5 rfl (lv_at hl 0 rfl) ?_
        refine lv_iload_n hx hb dX10_copy_6 rfl (lv_at hl 1 rfl) ?_
        have hPc := hP.sub (ws' := [(cs_X zc 0 0, .inr (10, [.ref (cs_X zc 0 1), .ref (cs_X zc 0 6), .ref (cs_X zc 0 7), .ref (cs_X zc 0 8), .ref (cs_X zc 0 9), .ref (cs_X zc 0 10), .ref (cs_X zc 0 11), .int (nI (cs_n zc 0)), .int (nI (cs_n zc 1)), .int (nI (cs_n zc 2)), .int (nI (cs_n zc 3)), va_rf (opN (cs_n zc 4) (fun _ => cs_X zc 5 0)), .int 0])), cR10 cA zc]) [0, 1] rfl
        have hDc := hD.sub (ws' := [(cs_X zc 0 0, .inr (10, [.ref (cs_X zc 0 1), .ref (cs_X zc 0 6), .ref (cs_X zc 0 7), .ref (cs_X zc 0 8), .ref (cs_X zc 0 9), .ref (cs_X zc 0 10), .ref (cs_X zc 0 11), .int (nI (cs_n zc 0)), .int (nI (cs_n zc 1)), .int (nI (cs_n zc 2)), .int (nI (cs_n zc 3)), va_rf (opN (cs_n zc 4) (fun _ => cs_X zc 5 0)), .int 0])), cR10 cA zc]) [0, 1] (by decide) rfl
        have hKc := hK.sub (tys' := [(cA 5, .object RX7)]) [5] rfl
        refine va_csq (va_Run.run (va_runV (As := [.int (nI js)]) (rest := []) ⟨hx, hb, hml, hown, hts⟩ (s_sheetAt_yes l dC dI (cA 5) _ (cs_X zc 0 0) (.ref (cs_X zc 0 1)) (.ref (cs_X zc 0 6)) (.ref (cs_X zc 0 7)) (.ref (cs_X zc 0 8)) (.ref (cs_X zc 0 9)) (.ref (cs_X zc 0 11)) (.int (nI (cs_n zc 0))) (.int (nI (cs_n zc 1))) (.int (nI (cs_n zc 2))) (.int (nI (cs_n zc 3))) (va_rf (opN (cs_n zc 4) (fun _ => cs_X zc 5 0))) (.int 0) (cs_X zc 0 10) js (cs_X zc 6 js) (rfN 4 (cs_X zc 6)) hjs (rfN_at hjs)) (cwV 1 hts gX10_copy_X10_sheetAt rfl rfl rfl (by decide +kernel) ⟨Nat.le_of_ble_eq_true rfl, Nat.le_of_ble_eq_true rfl⟩) (pw_preV (va_recv hKc hPc (ci := 10) (q0 := 0) rfl rfl) hPc hKc hDc hN) rfl rfl hl.1 rfl (lv_room (Nat.le_of_ble_eq_true rfl)) dX10_copy_7 ⟨Nat.le_of_ble_eq_true rfl, Nat.le_of_ble_eq_true rfl⟩)) (fun r7 hr7 => ?_)
        have hr7 : r7 = some (cs_X zc 6 js) := hr7
        subst hr7
        refine W.eq (g2 := F0 m 10 ls [.ref (cs_X zc 6 js)]) rfl ?_
        refine lv_astore (lv' := [(6, .ref (cs_X zc 6 js)), (0, .ref (cs_X zc 0 0)), (1, .int (nI js)), (2, .int ix), (3, .int (nI js)), (4, .int jx), (5, .int n)]) hx hb dX10_copy_10 hl (by decide) rfl (fun ls hl => ?_)
        refine lv_aload_n hx hb dX10_copy_12 rfl (lv_at hl 1 rfl) ?_
        refine lv_iload_n hx hb dX10_copy_13 rfl (lv_at hl 4 rfl) ?_
        have hPc := hP.sub (ws' := [(cs_X zc 0 0, .inr (10, [.ref (cs_X zc 0 1), .ref (cs_X zc 0 6), .ref (cs_X zc 0 7), .ref (cs_X zc 0 8), .ref (cs_X zc 0 9), .ref (cs_X zc 0 10), .ref (cs_X zc 0 11), .int (nI (cs_n zc 0)), .int (nI (cs_n zc 1)), .int (nI (cs_n zc 2)), .int (nI (cs_n zc 3)), va_rf (opN (cs_n zc 4) (fun _ => cs_X zc 5 0)), .int 0])), cR10 cA zc]) [0, 1] rfl
        have hDc := hD.sub (ws' := [(cs_X zc 0 0, .inr (10, [.ref (cs_X zc 0 1), .ref (cs_X zc 0 6), .ref (cs_X zc 0 7), .ref (cs_X zc 0 8), .ref (cs_X zc 0 9), .ref (cs_X zc 0 10), .ref (cs_X zc 0 11), .int (nI (cs_n zc 0)), .int (nI (cs_n zc 1)), .int (nI (cs_n zc 2)), .int (nI (cs_n zc 3)), va_rf (opN (cs_n zc 4) (fun _ => cs_X zc 5 0)), .int 0])), cR10 cA zc]) [0, 1] (by decide) rfl
        have hKc := hK.sub (tys' := [(cA 5, .object RX7)]) [5] rfl
        refine va_csq (va_Run.run (va_runV (As := [.int (nI js)]) (rest := []) ⟨hx, hb, hml, hown, hts⟩ (s_sheetAt_yes l dC dI (cA 5) _ (cs_X zc 0 0) (.ref (cs_X zc 0 1)) (.ref (cs_X zc 0 6)) (.ref (cs_X zc 0 7)) (.ref (cs_X zc 0 8)) (.ref (cs_X zc 0 9)) (.ref (cs_X zc 0 11)) (.int (nI (cs_n zc 0))) (.int (nI (cs_n zc 1))) (.int (nI (cs_n zc 2))) (.int (nI (cs_n zc 3))) (va_rf (opN (cs_n zc 4) (fun _ => cs_X zc 5 0))) (.int 0) (cs_X zc 0 10) js (cs_X zc 6 js) (rfN 4 (cs_X zc 6)) hjs (rfN_at hjs)) (cwV 1 hts gX10_copy_X10_sheetAt rfl rfl rfl (by decide +kernel) ⟨Nat.le_of_ble_eq_true rfl, Nat.le_of_ble_eq_true rfl⟩) (pw_preV (va_recv hKc hPc (ci := 10) (q0 := 0) rfl rfl) hPc hKc hDc hN) rfl rfl hl.1 rfl (lv_room (Nat.le_of_ble_eq_true rfl)) dX10_copy_14 ⟨Nat.le_of_ble_eq_true rfl, Nat.le_of_ble_eq_true rfl⟩)) (fun r8 hr8 => ?_)
        have hr8 : r8 = some (cs_X zc 6 js) := hr8
        subst hr8
        refine W.eq (g2 := F0 m 17 ls [.ref (cs_X zc 6 js)]) rfl ?_
        refine lv_astore (lv' := [(7, .ref (cs_X zc 6 js)), (6, .ref (cs_X zc 6 js)), (0, .ref (cs_X zc 0 0)), (1, .int (nI js)), (2, .int ix), (3, .int (nI js)), (4, .int jx), (5, .int n)]) hx hb dX10_copy_17 hl (by decide) rfl (fun ls hl => ?_)
        refine lv_aload hx hb dX10_copy_19 (lv_at hl 1 rfl) ?_
        refine lv_ifnull hx hb dX10_copy_21 ?_
        refine lv_aload hx hb dX10_copy_24 (lv_at hl 0 rfl) ?_
        refine lv_ifnonnull (tgt := 31) hx hb dX10_copy_26 (by decide) ?_
        refine lv_aload hx hb dX10_copy_31 (lv_at hl 1 rfl) ?_
        have hPc := hP.sub (ws' := [cSh zc js]) [2] rfl
        have hDc := hD.sub (ws' := [cSh zc js]) [2] (by decide) rfl
        have hKc := hK.sub (tys' := []) [] rfl
        refine vp_callSi (va_Run.run (va_runV (As := []) (rest := []) ⟨hx, hb, hml, hown, hts⟩ (s_hasNothing l dC dI  _ (cs_X zc 6 js) (.ref (cs_X zc 7 js)) (cs_I zc 8 js) (cs_I zc 9 js) ) (cwV 0 hts gX10_copy_X7_hasNothing rfl rfl rfl (by decide +kernel) ⟨Nat.le_of_ble_eq_true rfl, Nat.le_of_ble_eq_true rfl⟩) (pw_preV (va_recv hKc hPc (ci := 7) (q0 := 0) rfl rfl) hPc hKc hDc hN) rfl rfl hl.1 rfl (lv_room (Nat.le_of_ble_eq_true rfl)) dX10_copy_33 ⟨Nat.le_of_ble_eq_true rfl, Nat.le_of_ble_eq_true rfl⟩)) (fun r9 hr9 => ?_)
        have hr9 : r9 = if (cs_I zc 8 js) = -1 then 1 else 0 := hr9
        refine lv_if_ne (tgt := 47) hx hb dX10_copy_36 (by decide) (fun c10 => ?_) (fun c10 => ?_)
        · skip
          have c10 := (fa_bool_prop hr9).2.mp c10
          refine lv_aload_n hx hb dX10_copy_47 rfl (lv_at hl 2 rfl) ?_
          refine lv_iconst (v := 1) hx hb dX10_copy_48 (by decide) ?_
          have hPc := hP.sub (ws' := [(cs_X zc 0 0, .inr (10, [.ref (cs_X zc 0 1), .ref (cs_X zc 0 6), .ref (cs_X zc 0 7), .ref (cs_X zc 0 8), .ref (cs_X zc 0 9), .ref (cs_X zc 0 10), .ref (cs_X zc 0 11), .int (nI (cs_n zc 0)), .int (nI (cs_n zc 1)), .int (nI (cs_n zc 2)), .int (nI (cs_n zc 3)), va_rf (opN (cs_n zc 4) (fun _ => cs_X zc 5 0)), .int 0]))]) [0] rfl
          have hDc := hD.sub (ws' := [(cs_X zc 0 0, .inr (10, [.ref (cs_X zc 0 1), .ref (cs_X zc 0 6), .ref (cs_X zc 0 7), .ref (cs_X zc 0 8), .ref (cs_X zc 0 9), .ref (cs_X zc 0 10), .ref (cs_X zc 0 11), .int (nI (cs_n zc 0)), .int (nI (cs_n zc 1)), .int (nI (cs_n zc 2)), .int (nI (cs_n zc 3)), va_rf (opN (cs_n zc 4) (fun _ => cs_X zc 5 0)), .int 0]))]) [0] (by decide) rfl
          have hKc := hK.sub (tys' := []) [] rfl
          have hFc := va_free (wc := [(cs_X zc 0 0, .inr (10, [.ref (cs_X zc 0 1), .ref (cs_X zc 0 6), .ref (cs_X zc 0 7), .ref (cs_X zc 0 8), .ref (cs_X zc 0 9), .ref (cs_X zc 0 10), .ref (cs_X zc 0 11), .int (nI (cs_n zc 0)), .int (nI (cs_n zc 1)), .int (nI (cs_n zc 2)), .int (nI (cs_n zc 3)), va_rf (opN (cs_n zc 4) (fun _ => cs_X zc 5 0)), .int 0]))]) hD hS hA [0] rfl
          refine va_calli (va_runV (As := [.int 1]) (rest := []) ⟨hx, hb, hml, hown, hts⟩ (c_X10_faulted l dC dI  _ (cs_X zc 0 0) (.ref (cs_X zc 0 1)) (.ref (cs_X zc 0 6)) (.ref (cs_X zc 0 7)) (.ref (cs_X zc 0 8)) (.ref (cs_X zc 0 9)) (.ref (cs_X zc 0 10)) (.ref (cs_X zc 0 11)) (.int (nI (cs_n zc 0))) (.int (nI (cs_n zc 1))) (.int (nI (cs_n zc 2))) (.int (nI (cs_n zc 3))) (va_rf (opN (cs_n zc 4) (fun _ => cs_X zc 5 0))) (.int 0) 1 ) (cwV 1 hts gX10_copy_X10_faulted rfl rfl rfl (by decide +kernel) ⟨Nat.le_of_ble_eq_true rfl, Nat.le_of_ble_eq_true rfl⟩) (pw_preV (va_recv hKc hPc (ci := 10) (q0 := 0) rfl rfl) hPc hKc hDc hN) rfl rfl hl.1 rfl (lv_room (Nat.le_of_ble_eq_true rfl)) dX10_copy_49 ⟨Nat.le_of_ble_eq_true rfl, Nat.le_of_ble_eq_true rfl⟩) hS (fun q _ h => hFc q h) hFc (fun r11 u t H1 locs ht hvm hw hB hz1 hk1 hS => ?_)
          have hr11 : r11 = -10 - 1 := hw
          obtain ⟨hP1, hK1, hD1⟩ := hB
          rw [ht] at hP1
          obtain ⟨hP, hD⟩ := va_join (wr := [cR10 cA zc, cSh zc js, cSc cA zc js]) (w1 := [(cs_X zc 0 0, .inr (10, [.ref (cs_X zc 0 1), .ref (cs_X zc 0 6), .ref (cs_X zc 0 7), .ref (cs_X zc 0 8), .ref (cs_X zc 0 9), .ref (cs_X zc 0 10), .ref (cs_X zc 0 11), .int (nI (cs_n zc 0)), .int (nI (cs_n zc 1)), .int (nI (cs_n zc 2)), .int (nI (cs_n zc 3)), va_rf (opN (cs_n zc 4) (fun _ => cs_X zc 5 0)), .int 1]))]) hP hD [0] [1, 2, 3] rfl rfl (by decide) (by decide) hk1 hFc hP1 hD1
          generalize H1 = H at hP hS ⊢
          have hP : va_P (dC, dI) vwCl [cR10 cA zc, cSh zc js, cSc cA zc js, (cs_X zc 0 0, .inr (10, [.ref (cs_X zc 0 1), .ref (cs_X zc 0 6), .ref (cs_X zc 0 7), .ref (cs_X zc 0 8), .ref (cs_X zc 0 9), .ref (cs_X zc 0 10), .ref (cs_X zc 0 11), .int (nI (cs_n zc 0)), .int (nI (cs_n zc 1)), .int (nI (cs_n zc 2)), .int (nI (cs_n zc 3)), va_rf (opN (cs_n zc 4) (fun _ => cs_X zc 5 0)), .int 1]))] H := hP
          have hD : va_D _ [cR10 cA zc, cSh zc js, cSc cA zc js, (cs_X zc 0 0, .inr (10, [.ref (cs_X zc 0 1), .ref (cs_X zc 0 6), .ref (cs_X zc 0 7), .ref (cs_X zc 0 8), .ref (cs_X zc 0 9), .ref (cs_X zc 0 10), .ref (cs_X zc 0 11), .int (nI (cs_n zc 0)), .int (nI (cs_n zc 1)), .int (nI (cs_n zc 2)), .int (nI (cs_n zc 3)), va_rf (opN (cs_n zc 4) (fun _ => cs_X zc 5 0)), .int 1]))] := hD
          have hr11 := hr11.symm
          subst hr11
          refine W.eq (g2 := F0 m 52 ls [.int (-10 - 1)]) rfl ?_
          subst hQ
          have hP9 : va_P (dC, dI) vwCl [(cs_X zc 0 0, .inr (10, [.ref (cs_X zc 0 1), .ref (cs_X zc 0 6), .ref (cs_X zc 0 7), .ref (cs_X zc 0 8), .ref (cs_X zc 0 9), .ref (cs_X zc 0 10), .ref (cs_X zc 0 11), .int (nI (cs_n zc 0)), .int (nI (cs_n zc 1)), .int (nI (cs_n zc 2)), .int (nI (cs_n zc 3)), va_rf (opN (cs_n zc 4) (fun _ => cs_X zc 5 0)), .int 1])), cR10 cA zc, cSh zc js, cSc cA zc js] H := hP.sub [3, 0, 1, 2] rfl
          have hD9 : va_D (va_A [cTP zc, cR10 cA zc, cSh zc js, cSc cA zc js] s.heap.size) [(cs_X zc 0 0, .inr (10, [.ref (cs_X zc 0 1), .ref (cs_X zc 0 6), .ref (cs_X zc 0 7), .ref (cs_X zc 0 8), .ref (cs_X zc 0 9), .ref (cs_X zc 0 10), .ref (cs_X zc 0 11), .int (nI (cs_n zc 0)), .int (nI (cs_n zc 1)), .int (nI (cs_n zc 2)), .int (nI (cs_n zc 3)), va_rf (opN (cs_n zc 4) (fun _ => cs_X zc 5 0)), .int 1])), cR10 cA zc, cSh zc js, cSc cA zc js] := hD.sub [3, 0, 1, 2] (by decide) rfl
          have hlf := lf_copy_3 cA zc ix jx n js hjs c10 hI
          exact W.iret (v := -10 - 1) hx hb hr (fun t ht hW => have hJ := kjoin hPk hDk hks rfl (hS.F ht) (by rw [ht]; exact hP9) hD9 hlf.2.1 hlf.2.2; ⟨⟨-10 - 1, (va_up (cs_i zc) 2 1, cs_n zc, cs_I zc, cs_L zc, cs_N zc, cs_S zc, cs_X zc), rfl, ⟨⟨hlf.1, rfl⟩, (Or.inr (Or.inr (Or.inr (Or.inl ⟨js, rfl, hjs, rfl, c10, rfl, rfl⟩))))⟩, hJ.1, va_K.moved hW.alike hKk, hJ.2.1⟩, hJ.2.2⟩) (fun q h => kAll_A hks _ (hS.2.2 q h)) dX10_copy_52
        · skip
          have c10 := (fa_bool_prop hr9).1.mp c10
          refine lv_aload hx hb dX10_copy_39 (lv_at hl 0 rfl) ?_
          have hPc := hP.sub (ws' := [cSh zc js]) [2] rfl
          have hDc := hD.sub (ws' := [cSh zc js]) [2] (by decide) rfl
          have hKc := hK.sub (tys' := []) [] rfl
          refine vp_callSi (va_Run.run (va_runV (As := []) (rest := []) ⟨hx, hb, hml, hown, hts⟩ (s_hasNothing l dC dI  _ (cs_X zc 6 js) (.ref (cs_X zc 7 js)) (cs_I zc 8 js) (cs_I zc 9 js) ) (cwV 0 hts gX10_copy_X7_hasNothing rfl rfl rfl (by decide +kernel) ⟨Nat.le_of_ble_eq_true rfl, Nat.le_of_ble_eq_true rfl⟩) (pw_preV (va_recv hKc hPc (ci := 7) (q0 := 0) rfl rfl) hPc hKc hDc hN) rfl rfl hl.1 rfl (lv_room (Nat.le_of_ble_eq_true rfl)) dX10_copy_41 ⟨Nat.le_of_ble_eq_true rfl, Nat.le_of_ble_eq_true rfl⟩)) (fun r12 hr12 => ?_)
          have hr12 : r12 = if (cs_I zc 8 js) = -1 then 1 else 0 := hr12
          refine lv_if_eq (tgt := 53) hx hb dX10_copy_44 (by decide) (fun c13 => ?_) (fun c13 => ?_)
          · skip
            have c13 := (fa_bool_prop hr12).1.mp c13
            refine lv_aload hx hb dX10_copy_53 (lv_at hl 1 rfl) ?_
            refine va_get (D := (dC, dI)) (ci := 7) (v := .int (cs_I zc 8 js)) (C := RX7) (T := TX7) (N := 3) hx hb hts hiX7 hown hK hP 2 rfl rfl 1 (by decide) (hts (.fieldLink RX10 295 "TributePitches$Sheet" "lane" "I") (List.mem_of_getElem? (i := 2) rfl)) (fun _ h9 => h9) rfl dX10_copy_55 ?_
            refine lv_aload hx hb dX10_copy_58 (lv_at hl 0 rfl) ?_
            refine va_get (D := (dC, dI)) (ci := 7) (v := .int (cs_I zc 8 js)) (C := RX7) (T := TX7) (N := 3) hx hb hts hiX7 hown hK hP 2 rfl rfl 1 (by decide) (hts (.fieldLink RX10 295 "TributePitches$Sheet" "lane" "I") (List.mem_of_getElem? (i := 2) rfl)) (fun _ h9 => h9) rfl dX10_copy_60 ?_
            refine lv_icmp_eq (tgt := 72) hx hb dX10_copy_63 (by decide) (fun c14 => ?_) (fun c14 => ?_)
            · skip
              refine lv_aload hx hb dX10_copy_72 (lv_at hl 1 rfl) ?_
              refine lv_iload_n hx hb dX10_copy_74 rfl (lv_at hl 4 rfl) ?_
              refine lv_iload hx hb dX10_copy_75 (lv_at hl 7 rfl) ?_
              have hPc := hP.sub (ws' := [cSh zc js]) [2] rfl
              have hDc := hD.sub (ws' := [cSh zc js]) [2] (by decide) rfl
              have hKc := hK.sub (tys' := []) [] rfl
              refine vp_callSi (va_Run.run (va_runV (As := [.int ix, .int n]) (rest := []) ⟨hx, hb, hml, hown, hts⟩ (s_holds l dC dI  _ (cs_X zc 6 js) (.ref (cs_X zc 7 js)) (cs_I zc 8 js) (cs_I zc 9 js) ix n ) (cwV 2 hts gX10_copy_X7_holds rfl rfl rfl (by decide +kernel) ⟨Nat.le_of_ble_eq_true rfl, Nat.le_of_ble_eq_true rfl⟩) (pw_preV (va_recv hKc hPc (ci := 7) (q0 := 0) rfl rfl) hPc hKc hDc hN) rfl rfl hl.1 rfl (lv_room (Nat.le_of_ble_eq_true rfl)) dX10_copy_77 ⟨Nat.le_of_ble_eq_true rfl, Nat.le_of_ble_eq_true rfl⟩)) (fun r15 hr15 => ?_)
              have hr15 : r15 = if 0 ≤ ix ∧ 0 ≤ n ∧ ix.toInt64 + n.toInt64 ≤ (cs_I zc 9 js).toInt64 then 1 else 0 := hr15
              refine lv_if_eq (tgt := 95) hx hb dX10_copy_80 (by decide) (fun c16 => ?_) (fun c16 => ?_)
              · skip
                have c16 := (fa_bool_prop hr15).1.mp c16
                refine lv_aload_n hx hb dX10_copy_95 rfl (lv_at hl 2 rfl) ?_
                refine lv_iconst (v := 3) hx hb dX10_copy_96 (by decide) ?_
                have hPc := hP.sub (ws' := [(cs_X zc 0 0, .inr (10, [.ref (cs_X zc 0 1), .ref (cs_X zc 0 6), .ref (cs_X zc 0 7), .ref (cs_X zc 0 8), .ref (cs_X zc 0 9), .ref (cs_X zc 0 10), .ref (cs_X zc 0 11), .int (nI (cs_n zc 0)), .int (nI (cs_n zc 1)), .int (nI (cs_n zc 2)), .int (nI (cs_n zc 3)), va_rf (opN (cs_n zc 4) (fun _ => cs_X zc 5 0)), .int 0]))]) [0] rfl
                have hDc := hD.sub (ws' := [(cs_X zc 0 0, .inr (10, [.ref (cs_X zc 0 1), .ref (cs_X zc 0 6), .ref (cs_X zc 0 7), .ref (cs_X zc 0 8), .ref (cs_X zc 0 9), .ref (cs_X zc 0 10), .ref (cs_X zc 0 11), .int (nI (cs_n zc 0)), .int (nI (cs_n zc 1)), .int (nI (cs_n zc 2)), .int (nI (cs_n zc 3)), va_rf (opN (cs_n zc 4) (fun _ => cs_X zc 5 0)), .int 0]))]) [0] (by decide) rfl
                have hKc := hK.sub (tys' := []) [] rfl
                have hFc := va_free (wc := [(cs_X zc 0 0, .inr (10, [.ref (cs_X zc 0 1), .ref (cs_X zc 0 6), .ref (cs_X zc 0 7), .ref (cs_X zc 0 8), .ref (cs_X zc 0 9), .ref (cs_X zc 0 10), .ref (cs_X zc 0 11), .int (nI (cs_n zc 0)), .int (nI (cs_n zc 1)), .int (nI (cs_n zc 2)), .int (nI (cs_n zc 3)), va_rf (opN (cs_n zc 4) (fun _ => cs_X zc 5 0)), .int 0]))]) hD hS hA [0] rfl
                refine va_calli (va_runV (As := [.int 3]) (rest := []) ⟨hx, hb, hml, hown, hts⟩ (c_X10_faulted l dC dI  _ (cs_X zc 0 0) (.ref (cs_X zc 0 1)) (.ref (cs_X zc 0 6)) (.ref (cs_X zc 0 7)) (.ref (cs_X zc 0 8)) (.ref (cs_X zc 0 9)) (.ref (cs_X zc 0 10)) (.ref (cs_X zc 0 11)) (.int (nI (cs_n zc 0))) (.int (nI (cs_n zc 1))) (.int (nI (cs_n zc 2))) (.int (nI (cs_n zc 3))) (va_rf (opN (cs_n zc 4) (fun _ => cs_X zc 5 0))) (.int 0) 3 ) (cwV 1 hts gX10_copy_X10_faulted rfl rfl rfl (by decide +kernel) ⟨Nat.le_of_ble_eq_true rfl, Nat.le_of_ble_eq_true rfl⟩) (pw_preV (va_recv hKc hPc (ci := 10) (q0 := 0) rfl rfl) hPc hKc hDc hN) rfl rfl hl.1 rfl (lv_room (Nat.le_of_ble_eq_true rfl)) dX10_copy_97 ⟨Nat.le_of_ble_eq_true rfl, Nat.le_of_ble_eq_true rfl⟩) hS (fun q _ h => hFc q h) hFc (fun r17 u t H1 locs ht hvm hw hB hz1 hk1 hS => ?_)
                have hr17 : r17 = -10 - 3 := hw
                obtain ⟨hP1, hK1, hD1⟩ := hB
                rw [ht] at hP1
                obtain ⟨hP, hD⟩ := va_join (wr := [cR10 cA zc, cSh zc js, cSc cA zc js]) (w1 := [(cs_X zc 0 0, .inr (10, [.ref (cs_X zc 0 1), .ref (cs_X zc 0 6), .ref (cs_X zc 0 7), .ref (cs_X zc 0 8), .ref (cs_X zc 0 9), .ref (cs_X zc 0 10), .ref (cs_X zc 0 11), .int (nI (cs_n zc 0)), .int (nI (cs_n zc 1)), .int (nI (cs_n zc 2)), .int (nI (cs_n zc 3)), va_rf (opN (cs_n zc 4) (fun _ => cs_X zc 5 0)), .int 3]))]) hP hD [0] [1, 2, 3] rfl rfl (by decide) (by decide) hk1 hFc hP1 hD1
                generalize H1 = H at hP hS ⊢
                have hP : va_P (dC, dI) vwCl [cR10 cA zc, cSh zc js, cSc cA zc js, (cs_X zc 0 0, .inr (10, [.ref (cs_X zc 0 1), .ref (cs_X zc 0 6), .ref (cs_X zc 0 7), .ref (cs_X zc 0 8), .ref (cs_X zc 0 9), .ref (cs_X zc 0 10), .ref (cs_X zc 0 11), .int (nI (cs_n zc 0)), .int (nI (cs_n zc 1)), .int (nI (cs_n zc 2)), .int (nI (cs_n zc 3)), va_rf (opN (cs_n zc 4) (fun _ => cs_X zc 5 0)), .int 3]))] H := hP
                have hD : va_D _ [cR10 cA zc, cSh zc js, cSc cA zc js, (cs_X zc 0 0, .inr (10, [.ref (cs_X zc 0 1), .ref (cs_X zc 0 6), .ref (cs_X zc 0 7), .ref (cs_X zc 0 8), .ref (cs_X zc 0 9), .ref (cs_X zc 0 10), .ref (cs_X zc 0 11), .int (nI (cs_n zc 0)), .int (nI (cs_n zc 1)), .int (nI (cs_n zc 2)), .int (nI (cs_n zc 3)), va_rf (opN (cs_n zc 4) (fun _ => cs_X zc 5 0)), .int 3]))] := hD
                have hr17 := hr17.symm
                subst hr17
                refine W.eq (g2 := F0 m 100 ls [.int (-10 - 3)]) rfl ?_
                subst hQ
                have hP9 : va_P (dC, dI) vwCl [(cs_X zc 0 0, .inr (10, [.ref (cs_X zc 0 1), .ref (cs_X zc 0 6), .ref (cs_X zc 0 7), .ref (cs_X zc 0 8), .ref (cs_X zc 0 9), .ref (cs_X zc 0 10), .ref (cs_X zc 0 11), .int (nI (cs_n zc 0)), .int (nI (cs_n zc 1)), .int (nI (cs_n zc 2)), .int (nI (cs_n zc 3)), va_rf (opN (cs_n zc 4) (fun _ => cs_X zc 5 0)), .int 3])), cR10 cA zc, cSh zc js, cSc cA zc js] H := hP.sub [3, 0, 1, 2] rfl
                have hD9 : va_D (va_A [cTP zc, cR10 cA zc, cSh zc js, cSc cA zc js] s.heap.size) [(cs_X zc 0 0, .inr (10, [.ref (cs_X zc 0 1), .ref (cs_X zc 0 6), .ref (cs_X zc 0 7), .ref (cs_X zc 0 8), .ref (cs_X zc 0 9), .ref (cs_X zc 0 10), .ref (cs_X zc 0 11), .int (nI (cs_n zc 0)), .int (nI (cs_n zc 1)), .int (nI (cs_n zc 2)), .int (nI (cs_n zc 3)), va_rf (opN (cs_n zc 4) (fun _ => cs_X zc 5 0)), .int 3])), cR10 cA zc, cSh zc js, cSc cA zc js] := hD.sub [3, 0, 1, 2] (by decide) rfl
                have hlf := lf_copy_4 cA zc ix jx n js hjs c10 c13 c14 c16 hI
                exact W.iret (v := -10 - 3) hx hb hr (fun t ht hW => have hJ := kjoin hPk hDk hks rfl (hS.F ht) (by rw [ht]; exact hP9) hD9 hlf.2.1 hlf.2.2; ⟨⟨-10 - 3, (va_up (cs_i zc) 2 3, cs_n zc, cs_I zc, cs_L zc, cs_N zc, cs_S zc, cs_X zc), rfl, ⟨⟨hlf.1, rfl⟩, (Or.inr (Or.inr (Or.inr (Or.inr (Or.inl ⟨js, rfl, hjs, rfl, c10, c13, c14, c16, rfl, rfl⟩)))))⟩, hJ.1, va_K.moved hW.alike hKk, hJ.2.1⟩, hJ.2.2⟩) (fun q h => kAll_A hks _ (hS.2.2 q h)) dX10_copy_100
              · skip
                have c16 := (fa_bool_prop hr15).2.mp c16
                refine lv_aload hx hb dX10_copy_83 (lv_at hl 0 rfl) ?_
                refine lv_iload hx hb dX10_copy_85 (lv_at hl 6 rfl) ?_
                refine lv_iload hx hb dX10_copy_87 (lv_at hl 7 rfl) ?_
                have hPc := hP.sub (ws' := [cSh zc js]) [2] rfl
                have hDc := hD.sub (ws' := [cSh zc js]) [2] (by decide) rfl
                have hKc := hK.sub (tys' := []) [] rfl
                refine vp_callSi (va_Run.run (va_runV (As := [.int jx, .int n]) (rest := []) ⟨hx, hb, hml, hown, hts⟩ (s_holds l dC dI  _ (cs_X zc 6 js) (.ref (cs_X zc 7 js)) (cs_I zc 8 js) (cs_I zc 9 js) jx n ) (cwV 2 hts gX10_copy_X7_holds rfl rfl rfl (by decide +kernel) ⟨Nat.le_of_ble_eq_true rfl, Nat.le_of_ble_eq_true rfl⟩) (pw_preV (va_recv hKc hPc (ci := 7) (q0 := 0) rfl rfl) hPc hKc hDc hN) rfl rfl hl.1 rfl (lv_room (Nat.le_of_ble_eq_true rfl)) dX10_copy_89 ⟨Nat.le_of_ble_eq_true rfl, Nat.le_of_ble_eq_true rfl⟩)) (fun r18 hr18 => ?_)
                have hr18 : r18 = if 0 ≤ jx ∧ 0 ≤ n ∧ jx.toInt64 + n.toInt64 ≤ (cs_I zc 9 js).toInt64 then 1 else 0 := hr18
                refine lv_if_ne (tgt := 101) hx hb dX10_copy_92 (by decide) (fun c19 => ?_) (fun c19 => ?_)
                · skip
                  have c19 := (fa_bool_prop hr18).2.mp c19
                  obtain ⟨ia, nn, e1, e2, hian, hia2⟩ := hold_nat c16 (hsh js hjs).2
                  obtain ⟨ja, nn2, e3, e4, hjan, hja2⟩ := hold_nat c19 (hsh js hjs).2
                  have e5 : nn2 = nn := (nI_eq (by omega) (by omega)).mp (e4.symm.trans e2)
                  subst e5
                  subst e1
                  subst e2
                  subst e3
                  refine lv_aload hx hb dX10_copy_101 (lv_at hl 1 rfl) ?_
                  refine va_get (D := (dC, dI)) (ci := 7) (v := .ref (cs_X zc 7 js)) (C := RX7) (T := TX7) (N := 3) hx hb hts hiX7 hown hK hP 2 rfl rfl 0 (by decide) (hts (.fieldLink RX10 111 "TributePitches$Sheet" "cells" "[I") (List.mem_of_getElem? (i := 3) rfl)) (fun _ h9 => h9) rfl dX10_copy_103 ?_
                  refine lv_iload_n hx hb dX10_copy_106 rfl (lv_at hl 4 rfl) ?_
                  refine lv_aload hx hb dX10_copy_107 (lv_at hl 0 rfl) ?_
                  refine va_get (D := (dC, dI)) (ci := 7) (v := .ref (cs_X zc 7 js)) (C := RX7) (T := TX7) (N := 3) hx hb hts hiX7 hown hK hP 2 rfl rfl 0 (by decide) (hts (.fieldLink RX10 111 "TributePitches$Sheet" "cells" "[I") (List.mem_of_getElem? (i := 3) rfl)) (fun _ h9 => h9) rfl dX10_copy_109 ?_
                  refine lv_iload hx hb dX10_copy_112 (lv_at hl 6 rfl) ?_
                  refine lv_iload hx hb dX10_copy_114 (lv_at hl 7 rfl) ?_
                  refine va_copyi hx hb (hml.trans hl.1.symm) hown (hts (.methodLink RX10 298 arraycopyName) (List.mem_of_getElem? (i := 4) rfl)) (hts (.native arraycopyName) (List.mem_of_getElem? (i := 5) rfl)) (hts (.static arraycopyName) (List.mem_of_getElem? (i := 6) rfl)) (hts (.initialized "java/lang/System") (List.mem_of_getElem? (i := 7) rfl)) hK hP hD hS 3 3 0 0 rfl rfl rfl rfl rfl (nI_pos (by omega)) (nI_pos (by omega)) (nI_pos (by omega)) (by rw [nI_clamp (by omega), nI_clamp (by omega)]; omega) (by rw [nI_clamp (by omega), nI_clamp (by omega)]; omega) (fun _ _ => rfl) (Nat.le_of_ble_eq_true rfl) (Nat.le_of_ble_eq_true rfl) dX10_copy_116 (fun H locs hP hD hS => ?_)
                  rw [nI_clamp (n := ia) (by omega), nI_clamp (n := ja) (by omega), nI_clamp (n := nn2) (by omega)] at hP hD
                  have hP : va_P (dC, dI) vwCl [(cs_X zc 0 0, .inr (10, [.ref (cs_X zc 0 1), .ref (cs_X zc 0 6), .ref (cs_X zc 0 7), .ref (cs_X zc 0 8), .ref (cs_X zc 0 9), .ref (cs_X zc 0 10), .ref (cs_X zc 0 11), .int (nI (cs_n zc 0)), .int (nI (cs_n zc 1)), .int (nI (cs_n zc 2)), .int (nI (cs_n zc 3)), va_rf (opN (cs_n zc 4) (fun _ => cs_X zc 5 0)), .int 0])), cR10 cA zc, cSh zc js, (cs_X zc 7 js, .inl (cA 0, 48, .inl (va_cpy (cs_S zc js) (cs_S zc js) ia ja nn2)))] H := hP
                  have hD : va_D _ [(cs_X zc 0 0, .inr (10, [.ref (cs_X zc 0 1), .ref (cs_X zc 0 6), .ref (cs_X zc 0 7), .ref (cs_X zc 0 8), .ref (cs_X zc 0 9), .ref (cs_X zc 0 10), .ref (cs_X zc 0 11), .int (nI (cs_n zc 0)), .int (nI (cs_n zc 1)), .int (nI (cs_n zc 2)), .int (nI (cs_n zc 3)), va_rf (opN (cs_n zc 4) (fun _ => cs_X zc 5 0)), .int 0])), cR10 cA zc, cSh zc js, (cs_X zc 7 js, .inl (cA 0, 48, .inl (va_cpy (cs_S zc js) (cs_S zc js) ia ja nn2)))] := hD
                  refine lv_iload hx hb dX10_copy_119 (lv_at hl 7 rfl) ?_
                  subst hQ
                  have hP9 : va_P (dC, dI) vwCl [(cs_X zc 0 0, .inr (10, [.ref (cs_X zc 0 1), .ref (cs_X zc 0 6), .ref (cs_X zc 0 7), .ref (cs_X zc 0 8), .ref (cs_X zc 0 9), .ref (cs_X zc 0 10), .ref (cs_X zc 0 11), .int (nI (cs_n zc 0)), .int (nI (cs_n zc 1)), .int (nI (cs_n zc 2)), .int (nI (cs_n zc 3)), va_rf (opN (cs_n zc 4) (fun _ => cs_X zc 5 0)), .int 0])), cR10 cA zc, cSh zc js, (cs_X zc 7 js, .inl (cA 0, 48, .inl (va_cpy (cs_S zc js) (cs_S zc js) ia ja nn2)))] H := hP.sub [0, 1, 2, 3] rfl
                  have hD9 : va_D (va_A [cTP zc, cR10 cA zc, cSh zc js, cSc cA zc js] s.heap.size) [(cs_X zc 0 0, .inr (10, [.ref (cs_X zc 0 1), .ref (cs_X zc 0 6), .ref (cs_X zc 0 7), .ref (cs_X zc 0 8), .ref (cs_X zc 0 9), .ref (cs_X zc 0 10), .ref (cs_X zc 0 11), .int (nI (cs_n zc 0)), .int (nI (cs_n zc 1)), .int (nI (cs_n zc 2)), .int (nI (cs_n zc 3)), va_rf (opN (cs_n zc 4) (fun _ => cs_X zc 5 0)), .int 0])), cR10 cA zc, cSh zc js, (cs_X zc 7 js, .inl (cA 0, 48, .inl (va_cpy (cs_S zc js) (cs_S zc js) ia ja nn2)))] := hD.sub [0, 1, 2, 3] (by decide) rfl
                  have hlf := lf_copy_5 cA zc js ia ja nn2 hjs c10 c13 c14 hian hjan hia2 hja2 hI
                  exact W.iret (v := nI nn2) hx hb hr (fun t ht hW => have hJ := kjoin hPk hDk hks rfl (hS.F ht) (by rw [ht]; exact hP9) hD9 hlf.2.1 hlf.2.2; ⟨⟨nI nn2, (va_up (cs_i zc) 2 0, cs_n zc, cs_I zc, cs_L zc, cs_N zc, va_up (cs_S zc) js (va_cpy (cs_S zc js) (cs_S zc js) ia ja nn2), cs_X zc), rfl, ⟨⟨hlf.1, rfl⟩, (Or.inr (Or.inr (Or.inr (Or.inr (Or.inr (Or.inl ⟨js, rfl, hjs, rfl, c10, c13, c14, ia, ja, nn2, rfl, rfl, rfl, hian, hjan, hia2, hja2, rfl, rfl⟩))))))⟩, hJ.1, va_K.moved hW.alike hKk, hJ.2.1⟩, hJ.2.2⟩) (fun q h => kAll_A hks _ (hS.2.2 q h)) dX10_copy_121
                · skip
                  have c19 := (fa_bool_prop hr18).1.mp c19
                  refine lv_aload_n hx hb dX10_copy_95 rfl (lv_at hl 2 rfl) ?_
                  refine lv_iconst (v := 3) hx hb dX10_copy_96 (by decide) ?_
                  have hPc := hP.sub (ws' := [(cs_X zc 0 0, .inr (10, [.ref (cs_X zc 0 1), .ref (cs_X zc 0 6), .ref (cs_X zc 0 7), .ref (cs_X zc 0 8), .ref (cs_X zc 0 9), .ref (cs_X zc 0 10), .ref (cs_X zc 0 11), .int (nI (cs_n zc 0)), .int (nI (cs_n zc 1)), .int (nI (cs_n zc 2)), .int (nI (cs_n zc 3)), va_rf (opN (cs_n zc 4) (fun _ => cs_X zc 5 0)), .int 0]))]) [0] rfl
                  have hDc := hD.sub (ws' := [(cs_X zc 0 0, .inr (10, [.ref (cs_X zc 0 1), .ref (cs_X zc 0 6), .ref (cs_X zc 0 7), .ref (cs_X zc 0 8), .ref (cs_X zc 0 9), .ref (cs_X zc 0 10), .ref (cs_X zc 0 11), .int (nI (cs_n zc 0)), .int (nI (cs_n zc 1)), .int (nI (cs_n zc 2)), .int (nI (cs_n zc 3)), va_rf (opN (cs_n zc 4) (fun _ => cs_X zc 5 0)), .int 0]))]) [0] (by decide) rfl
                  have hKc := hK.sub (tys' := []) [] rfl
                  have hFc := va_free (wc := [(cs_X zc 0 0, .inr (10, [.ref (cs_X zc 0 1), .ref (cs_X zc 0 6), .ref (cs_X zc 0 7), .ref (cs_X zc 0 8), .ref (cs_X zc 0 9), .ref (cs_X zc 0 10), .ref (cs_X zc 0 11), .int (nI (cs_n zc 0)), .int (nI (cs_n zc 1)), .int (nI (cs_n zc 2)), .int (nI (cs_n zc 3)), va_rf (opN (cs_n zc 4) (fun _ => cs_X zc 5 0)), .int 0]))]) hD hS hA [0] rfl
                  refine va_calli (va_runV (As := [.int 3]) (rest := []) ⟨hx, hb, hml, hown, hts⟩ (c_X10_faulted l dC dI  _ (cs_X zc 0 0) (.ref (cs_X zc 0 1)) (.ref (cs_X zc 0 6)) (.ref (cs_X zc 0 7)) (.ref (cs_X zc 0 8)) (.ref (cs_X zc 0 9)) (.ref (cs_X zc 0 10)) (.ref (cs_X zc 0 11)) (.int (nI (cs_n zc 0))) (.int (nI (cs_n zc 1))) (.int (nI (cs_n zc 2))) (.int (nI (cs_n zc 3))) (va_rf (opN (cs_n zc 4) (fun _ => cs_X zc 5 0))) (.int 0) 3 ) (cwV 1 hts gX10_copy_X10_faulted rfl rfl rfl (by decide +kernel) ⟨Nat.le_of_ble_eq_true rfl, Nat.le_of_ble_eq_true rfl⟩) (pw_preV (va_recv hKc hPc (ci := 10) (q0 := 0) rfl rfl) hPc hKc hDc hN) rfl rfl hl.1 rfl (lv_room (Nat.le_of_ble_eq_true rfl)) dX10_copy_97 ⟨Nat.le_of_ble_eq_true rfl, Nat.le_of_ble_eq_true rfl⟩) hS (fun q _ h => hFc q h) hFc (fun r20 u t H1 locs ht hvm hw hB hz1 hk1 hS => ?_)
                  have hr20 : r20 = -10 - 3 := hw
                  obtain ⟨hP1, hK1, hD1⟩ := hB
                  rw [ht] at hP1
                  obtain ⟨hP, hD⟩ := va_join (wr := [cR10 cA zc, cSh zc js, cSc cA zc js]) (w1 := [(cs_X zc 0 0, .inr (10, [.ref (cs_X zc 0 1), .ref (cs_X zc 0 6), .ref (cs_X zc 0 7), .ref (cs_X zc 0 8), .ref (cs_X zc 0 9), .ref (cs_X zc 0 10), .ref (cs_X zc 0 11), .int (nI (cs_n zc 0)), .int (nI (cs_n zc 1)), .int (nI (cs_n zc 2)), .int (nI (cs_n zc 3)), va_rf (opN (cs_n zc 4) (fun _ => cs_X zc 5 0)), .int 3]))]) hP hD [0] [1, 2, 3] rfl rfl (by decide) (by decide) hk1 hFc hP1 hD1
                  generalize H1 = H at hP hS ⊢
                  have hP : va_P (dC, dI) vwCl [cR10 cA zc, cSh zc js, cSc cA zc js, (cs_X zc 0 0, .inr (10, [.ref (cs_X zc 0 1), .ref (cs_X zc 0 6), .ref (cs_X zc 0 7), .ref (cs_X zc 0 8), .ref (cs_X zc 0 9), .ref (cs_X zc 0 10), .ref (cs_X zc 0 11), .int (nI (cs_n zc 0)), .int (nI (cs_n zc 1)), .int (nI (cs_n zc 2)), .int (nI (cs_n zc 3)), va_rf (opN (cs_n zc 4) (fun _ => cs_X zc 5 0)), .int 3]))] H := hP
                  have hD : va_D _ [cR10 cA zc, cSh zc js, cSc cA zc js, (cs_X zc 0 0, .inr (10, [.ref (cs_X zc 0 1), .ref (cs_X zc 0 6), .ref (cs_X zc 0 7), .ref (cs_X zc 0 8), .ref (cs_X zc 0 9), .ref (cs_X zc 0 10), .ref (cs_X zc 0 11), .int (nI (cs_n zc 0)), .int (nI (cs_n zc 1)), .int (nI (cs_n zc 2)), .int (nI (cs_n zc 3)), va_rf (opN (cs_n zc 4) (fun _ => cs_X zc 5 0)), .int 3]))] := hD
                  have hr20 := hr20.symm
                  subst hr20
                  refine W.eq (g2 := F0 m 100 ls [.int (-10 - 3)]) rfl ?_
                  subst hQ
                  have hP9 : va_P (dC, dI) vwCl [(cs_X zc 0 0, .inr (10, [.ref (cs_X zc 0 1), .ref (cs_X zc 0 6), .ref (cs_X zc 0 7), .ref (cs_X zc 0 8), .ref (cs_X zc 0 9), .ref (cs_X zc 0 10), .ref (cs_X zc 0 11), .int (nI (cs_n zc 0)), .int (nI (cs_n zc 1)), .int (nI (cs_n zc 2)), .int (nI (cs_n zc 3)), va_rf (opN (cs_n zc 4) (fun _ => cs_X zc 5 0)), .int 3])), cR10 cA zc, cSh zc js, cSc cA zc js] H := hP.sub [3, 0, 1, 2] rfl
                  have hD9 : va_D (va_A [cTP zc, cR10 cA zc, cSh zc js, cSc cA zc js] s.heap.size) [(cs_X zc 0 0, .inr (10, [.ref (cs_X zc 0 1), .ref (cs_X zc 0 6), .ref (cs_X zc 0 7), .ref (cs_X zc 0 8), .ref (cs_X zc 0 9), .ref (cs_X zc 0 10), .ref (cs_X zc 0 11), .int (nI (cs_n zc 0)), .int (nI (cs_n zc 1)), .int (nI (cs_n zc 2)), .int (nI (cs_n zc 3)), va_rf (opN (cs_n zc 4) (fun _ => cs_X zc 5 0)), .int 3])), cR10 cA zc, cSh zc js, cSc cA zc js] := hD.sub [3, 0, 1, 2] (by decide) rfl
                  have hlf := lf_copy_6 cA zc ix jx n js hjs c10 c13 c14 c16 c19 hI
                  exact W.iret (v := -10 - 3) hx hb hr (fun t ht hW => have hJ := kjoin hPk hDk hks rfl (hS.F ht) (by rw [ht]; exact hP9) hD9 hlf.2.1 hlf.2.2; ⟨⟨-10 - 3, (va_up (cs_i zc) 2 3, cs_n zc, cs_I zc, cs_L zc, cs_N zc, cs_S zc, cs_X zc), rfl, ⟨⟨hlf.1, rfl⟩, (Or.inr (Or.inr (Or.inr (Or.inr (Or.inr (Or.inr (Or.inl ⟨js, rfl, hjs, rfl, c10, c13, c14, c16, c19, rfl, rfl⟩)))))))⟩, hJ.1, va_K.moved hW.alike hKk, hJ.2.1⟩, hJ.2.2⟩) (fun q h => kAll_A hks _ (hS.2.2 q h)) dX10_copy_100
            · skip
              refine lv_aload_n hx hb dX10_copy_66 rfl (lv_at hl 2 rfl) ?_
              refine lv_iconst (v := 2) hx hb dX10_copy_67 (by decide) ?_
              have hPc := hP.sub (ws' := [(cs_X zc 0 0, .inr (10, [.ref (cs_X zc 0 1), .ref (cs_X zc 0 6), .ref (cs_X zc 0 7), .ref (cs_X zc 0 8), .ref (cs_X zc 0 9), .ref (cs_X zc 0 10), .ref (cs_X zc 0 11), .int (nI (cs_n zc 0)), .int (nI (cs_n zc 1)), .int (nI (cs_n zc 2)), .int (nI (cs_n zc 3)), va_rf (opN (cs_n zc 4) (fun _ => cs_X zc 5 0)), .int 0]))]) [0] rfl
              have hDc := hD.sub (ws' := [(cs_X zc 0 0, .inr (10, [.ref (cs_X zc 0 1), .ref (cs_X zc 0 6), .ref (cs_X zc 0 7), .ref (cs_X zc 0 8), .ref (cs_X zc 0 9), .ref (cs_X zc 0 10), .ref (cs_X zc 0 11), .int (nI (cs_n zc 0)), .int (nI (cs_n zc 1)), .int (nI (cs_n zc 2)), .int (nI (cs_n zc 3)), va_rf (opN (cs_n zc 4) (fun _ => cs_X zc 5 0)), .int 0]))]) [0] (by decide) rfl
              have hKc := hK.sub (tys' := []) [] rfl
              have hFc := va_free (wc := [(cs_X zc 0 0, .inr (10, [.ref (cs_X zc 0 1), .ref (cs_X zc 0 6), .ref (cs_X zc 0 7), .ref (cs_X zc 0 8), .ref (cs_X zc 0 9), .ref (cs_X zc 0 10), .ref (cs_X zc 0 11), .int (nI (cs_n zc 0)), .int (nI (cs_n zc 1)), .int (nI (cs_n zc 2)), .int (nI (cs_n zc 3)), va_rf (opN (cs_n zc 4) (fun _ => cs_X zc 5 0)), .int 0]))]) hD hS hA [0] rfl
              refine va_calli (va_runV (As := [.int 2]) (rest := []) ⟨hx, hb, hml, hown, hts⟩ (c_X10_faulted l dC dI  _ (cs_X zc 0 0) (.ref (cs_X zc 0 1)) (.ref (cs_X zc 0 6)) (.ref (cs_X zc 0 7)) (.ref (cs_X zc 0 8)) (.ref (cs_X zc 0 9)) (.ref (cs_X zc 0 10)) (.ref (cs_X zc 0 11)) (.int (nI (cs_n zc 0))) (.int (nI (cs_n zc 1))) (.int (nI (cs_n zc 2))) (.int (nI (cs_n zc 3))) (va_rf (opN (cs_n zc 4) (fun _ => cs_X zc 5 0))) (.int 0) 2 ) (cwV 1 hts gX10_copy_X10_faulted rfl rfl rfl (by decide +kernel) ⟨Nat.le_of_ble_eq_true rfl, Nat.le_of_ble_eq_true rfl⟩) (pw_preV (va_recv hKc hPc (ci := 10) (q0 := 0) rfl rfl) hPc hKc hDc hN) rfl rfl hl.1 rfl (lv_room (Nat.le_of_ble_eq_true rfl)) dX10_copy_68 ⟨Nat.le_of_ble_eq_true rfl, Nat.le_of_ble_eq_true rfl⟩) hS (fun q _ h => hFc q h) hFc (fun r21 u t H1 locs ht hvm hw hB hz1 hk1 hS => ?_)
              have hr21 : r21 = -10 - 2 := hw
              obtain ⟨hP1, hK1, hD1⟩ := hB
              rw [ht] at hP1
              obtain ⟨hP, hD⟩ := va_join (wr := [cR10 cA zc, cSh zc js, cSc cA zc js]) (w1 := [(cs_X zc 0 0, .inr (10, [.ref (cs_X zc 0 1), .ref (cs_X zc 0 6), .ref (cs_X zc 0 7), .ref (cs_X zc 0 8), .ref (cs_X zc 0 9), .ref (cs_X zc 0 10), .ref (cs_X zc 0 11), .int (nI (cs_n zc 0)), .int (nI (cs_n zc 1)), .int (nI (cs_n zc 2)), .int (nI (cs_n zc 3)), va_rf (opN (cs_n zc 4) (fun _ => cs_X zc 5 0)), .int 2]))]) hP hD [0] [1, 2, 3] rfl rfl (by decide) (by decide) hk1 hFc hP1 hD1
              generalize H1 = H at hP hS ⊢
              have hP : va_P (dC, dI) vwCl [cR10 cA zc, cSh zc js, cSc cA zc js, (cs_X zc 0 0, .inr (10, [.ref (cs_X zc 0 1), .ref (cs_X zc 0 6), .ref (cs_X zc 0 7), .ref (cs_X zc 0 8), .ref (cs_X zc 0 9), .ref (cs_X zc 0 10), .ref (cs_X zc 0 11), .int (nI (cs_n zc 0)), .int (nI (cs_n zc 1)), .int (nI (cs_n zc 2)), .int (nI (cs_n zc 3)), va_rf (opN (cs_n zc 4) (fun _ => cs_X zc 5 0)), .int 2]))] H := hP
              have hD : va_D _ [cR10 cA zc, cSh zc js, cSc cA zc js, (cs_X zc 0 0, .inr (10, [.ref (cs_X zc 0 1), .ref (cs_X zc 0 6), .ref (cs_X zc 0 7), .ref (cs_X zc 0 8), .ref (cs_X zc 0 9), .ref (cs_X zc 0 10), .ref (cs_X zc 0 11), .int (nI (cs_n zc 0)), .int (nI (cs_n zc 1)), .int (nI (cs_n zc 2)), .int (nI (cs_n zc 3)), va_rf (opN (cs_n zc 4) (fun _ => cs_X zc 5 0)), .int 2]))] := hD
              have hr21 := hr21.symm
              subst hr21
              refine W.eq (g2 := F0 m 71 ls [.int (-10 - 2)]) rfl ?_
              subst hQ
              have hP9 : va_P (dC, dI) vwCl [(cs_X zc 0 0, .inr (10, [.ref (cs_X zc 0 1), .ref (cs_X zc 0 6), .ref (cs_X zc 0 7), .ref (cs_X zc 0 8), .ref (cs_X zc 0 9), .ref (cs_X zc 0 10), .ref (cs_X zc 0 11), .int (nI (cs_n zc 0)), .int (nI (cs_n zc 1)), .int (nI (cs_n zc 2)), .int (nI (cs_n zc 3)), va_rf (opN (cs_n zc 4) (fun _ => cs_X zc 5 0)), .int 2])), cR10 cA zc, cSh zc js, cSc cA zc js] H := hP.sub [3, 0, 1, 2] rfl
              have hD9 : va_D (va_A [cTP zc, cR10 cA zc, cSh zc js, cSc cA zc js] s.heap.size) [(cs_X zc 0 0, .inr (10, [.ref (cs_X zc 0 1), .ref (cs_X zc 0 6), .ref (cs_X zc 0 7), .ref (cs_X zc 0 8), .ref (cs_X zc 0 9), .ref (cs_X zc 0 10), .ref (cs_X zc 0 11), .int (nI (cs_n zc 0)), .int (nI (cs_n zc 1)), .int (nI (cs_n zc 2)), .int (nI (cs_n zc 3)), va_rf (opN (cs_n zc 4) (fun _ => cs_X zc 5 0)), .int 2])), cR10 cA zc, cSh zc js, cSc cA zc js] := hD.sub [3, 0, 1, 2] (by decide) rfl
              have hlf := lf_copy_7 cA zc ix jx n js hjs c10 c13 c14 hI
              exact W.iret (v := -10 - 2) hx hb hr (fun t ht hW => have hJ := kjoin hPk hDk hks rfl (hS.F ht) (by rw [ht]; exact hP9) hD9 hlf.2.1 hlf.2.2; ⟨⟨-10 - 2, (va_up (cs_i zc) 2 2, cs_n zc, cs_I zc, cs_L zc, cs_N zc, cs_S zc, cs_X zc), rfl, ⟨⟨hlf.1, rfl⟩, (Or.inr (Or.inr (Or.inr (Or.inr (Or.inr (Or.inr (Or.inr (Or.inl ⟨js, rfl, hjs, rfl, c10, c13, c14, rfl, rfl⟩))))))))⟩, hJ.1, va_K.moved hW.alike hKk, hJ.2.1⟩, hJ.2.2⟩) (fun q h => kAll_A hks _ (hS.2.2 q h)) dX10_copy_71
          · skip
            have c13 := (fa_bool_prop hr12).2.mp c13
            refine lv_aload_n hx hb dX10_copy_47 rfl (lv_at hl 2 rfl) ?_
            refine lv_iconst (v := 1) hx hb dX10_copy_48 (by decide) ?_
            have hPc := hP.sub (ws' := [(cs_X zc 0 0, .inr (10, [.ref (cs_X zc 0 1), .ref (cs_X zc 0 6), .ref (cs_X zc 0 7), .ref (cs_X zc 0 8), .ref (cs_X zc 0 9), .ref (cs_X zc 0 10), .ref (cs_X zc 0 11), .int (nI (cs_n zc 0)), .int (nI (cs_n zc 1)), .int (nI (cs_n zc 2)), .int (nI (cs_n zc 3)), va_rf (opN (cs_n zc 4) (fun _ => cs_X zc 5 0)), .int 0]))]) [0] rfl
            have hDc := hD.sub (ws' := [(cs_X zc 0 0, .inr (10, [.ref (cs_X zc 0 1), .ref (cs_X zc 0 6), .ref (cs_X zc 0 7), .ref (cs_X zc 0 8), .ref (cs_X zc 0 9), .ref (cs_X zc 0 10), .ref (cs_X zc 0 11), .int (nI (cs_n zc 0)), .int (nI (cs_n zc 1)), .int (nI (cs_n zc 2)), .int (nI (cs_n zc 3)), va_rf (opN (cs_n zc 4) (fun _ => cs_X zc 5 0)), .int 0]))]) [0] (by decide) rfl
            have hKc := hK.sub (tys' := []) [] rfl
            have hFc := va_free (wc := [(cs_X zc 0 0, .inr (10, [.ref (cs_X zc 0 1), .ref (cs_X zc 0 6), .ref (cs_X zc 0 7), .ref (cs_X zc 0 8), .ref (cs_X zc 0 9), .ref (cs_X zc 0 10), .ref (cs_X zc 0 11), .int (nI (cs_n zc 0)), .int (nI (cs_n zc 1)), .int (nI (cs_n zc 2)), .int (nI (cs_n zc 3)), va_rf (opN (cs_n zc 4) (fun _ => cs_X zc 5 0)), .int 0]))]) hD hS hA [0] rfl
            refine va_calli (va_runV (As := [.int 1]) (rest := []) ⟨hx, hb, hml, hown, hts⟩ (c_X10_faulted l dC dI  _ (cs_X zc 0 0) (.ref (cs_X zc 0 1)) (.ref (cs_X zc 0 6)) (.ref (cs_X zc 0 7)) (.ref (cs_X zc 0 8)) (.ref (cs_X zc 0 9)) (.ref (cs_X zc 0 10)) (.ref (cs_X zc 0 11)) (.int (nI (cs_n zc 0))) (.int (nI (cs_n zc 1))) (.int (nI (cs_n zc 2))) (.int (nI (cs_n zc 3))) (va_rf (opN (cs_n zc 4) (fun _ => cs_X zc 5 0))) (.int 0) 1 ) (cwV 1 hts gX10_copy_X10_faulted rfl rfl rfl (by decide +kernel) ⟨Nat.le_of_ble_eq_true rfl, Nat.le_of_ble_eq_true rfl⟩) (pw_preV (va_recv hKc hPc (ci := 10) (q0 := 0) rfl rfl) hPc hKc hDc hN) rfl rfl hl.1 rfl (lv_room (Nat.le_of_ble_eq_true rfl)) dX10_copy_49 ⟨Nat.le_of_ble_eq_true rfl, Nat.le_of_ble_eq_true rfl⟩) hS (fun q _ h => hFc q h) hFc (fun r22 u t H1 locs ht hvm hw hB hz1 hk1 hS => ?_)
            have hr22 : r22 = -10 - 1 := hw
            obtain ⟨hP1, hK1, hD1⟩ := hB
            rw [ht] at hP1
            obtain ⟨hP, hD⟩ := va_join (wr := [cR10 cA zc, cSh zc js, cSc cA zc js]) (w1 := [(cs_X zc 0 0, .inr (10, [.ref (cs_X zc 0 1), .ref (cs_X zc 0 6), .ref (cs_X zc 0 7), .ref (cs_X zc 0 8), .ref (cs_X zc 0 9), .ref (cs_X zc 0 10), .ref (cs_X zc 0 11), .int (nI (cs_n zc 0)), .int (nI (cs_n zc 1)), .int (nI (cs_n zc 2)), .int (nI (cs_n zc 3)), va_rf (opN (cs_n zc 4) (fun _ => cs_X zc 5 0)), .int 1]))]) hP hD [0] [1, 2, 3] rfl rfl (by decide) (by decide) hk1 hFc hP1 hD1
            generalize H1 = H at hP hS ⊢
            have hP : va_P (dC, dI) vwCl [cR10 cA zc, cSh zc js, cSc cA zc js, (cs_X zc 0 0, .inr (10, [.ref (cs_X zc 0 1), .ref (cs_X zc 0 6), .ref (cs_X zc 0 7), .ref (cs_X zc 0 8), .ref (cs_X zc 0 9), .ref (cs_X zc 0 10), .ref (cs_X zc 0 11), .int (nI (cs_n zc 0)), .int (nI (cs_n zc 1)), .int (nI (cs_n zc 2)), .int (nI (cs_n zc 3)), va_rf (opN (cs_n zc 4) (fun _ => cs_X zc 5 0)), .int 1]))] H := hP
            have hD : va_D _ [cR10 cA zc, cSh zc js, cSc cA zc js, (cs_X zc 0 0, .inr (10, [.ref (cs_X zc 0 1), .ref (cs_X zc 0 6), .ref (cs_X zc 0 7), .ref (cs_X zc 0 8), .ref (cs_X zc 0 9), .ref (cs_X zc 0 10), .ref (cs_X zc 0 11), .int (nI (cs_n zc 0)), .int (nI (cs_n zc 1)), .int (nI (cs_n zc 2)), .int (nI (cs_n zc 3)), va_rf (opN (cs_n zc 4) (fun _ => cs_X zc 5 0)), .int 1]))] := hD
            have hr22 := hr22.symm
            subst hr22
            refine W.eq (g2 := F0 m 52 ls [.int (-10 - 1)]) rfl ?_
            subst hQ
            have hP9 : va_P (dC, dI) vwCl [(cs_X zc 0 0, .inr (10, [.ref (cs_X zc 0 1), .ref (cs_X zc 0 6), .ref (cs_X zc 0 7), .ref (cs_X zc 0 8), .ref (cs_X zc 0 9), .ref (cs_X zc 0 10), .ref (cs_X zc 0 11), .int (nI (cs_n zc 0)), .int (nI (cs_n zc 1)), .int (nI (cs_n zc 2)), .int (nI (cs_n zc 3)), va_rf (opN (cs_n zc 4) (fun _ => cs_X zc 5 0)), .int 1])), cR10 cA zc, cSh zc js, cSc cA zc js] H := hP.sub [3, 0, 1, 2] rfl
            have hD9 : va_D (va_A [cTP zc, cR10 cA zc, cSh zc js, cSc cA zc js] s.heap.size) [(cs_X zc 0 0, .inr (10, [.ref (cs_X zc 0 1), .ref (cs_X zc 0 6), .ref (cs_X zc 0 7), .ref (cs_X zc 0 8), .ref (cs_X zc 0 9), .ref (cs_X zc 0 10), .ref (cs_X zc 0 11), .int (nI (cs_n zc 0)), .int (nI (cs_n zc 1)), .int (nI (cs_n zc 2)), .int (nI (cs_n zc 3)), va_rf (opN (cs_n zc 4) (fun _ => cs_X zc 5 0)), .int 1])), cR10 cA zc, cSh zc js, cSc cA zc js] := hD.sub [3, 0, 1, 2] (by decide) rfl
            have hlf := lf_copy_8 cA zc ix jx n js hjs c10 c13 hI
            exact W.iret (v := -10 - 1) hx hb hr (fun t ht hW => have hJ := kjoin hPk hDk hks rfl (hS.F ht) (by rw [ht]; exact hP9) hD9 hlf.2.1 hlf.2.2; ⟨⟨-10 - 1, (va_up (cs_i zc) 2 1, cs_n zc, cs_I zc, cs_L zc, cs_N zc, cs_S zc, cs_X zc), rfl, ⟨⟨hlf.1, rfl⟩, (Or.inr (Or.inr (Or.inr (Or.inr (Or.inr (Or.inr (Or.inr (Or.inr (Or.inl ⟨js, rfl, hjs, rfl, c10, c13, rfl, rfl⟩)))))))))⟩, hJ.1, va_K.moved hW.alike hKk, hJ.2.1⟩, hJ.2.2⟩) (fun q h => kAll_A hks _ (hS.2.2 q h)) dX10_copy_52
      · skip
        have hks : kAll (cF cA zc) [(0, 0), (0, 10), (6, js), (7, js), (6, jo), (7, jo)] [cTP zc, cR10 cA zc, cSh zc js, cSc cA zc js, cSh zc jo, cSc cA zc jo] := ⟨(kF_tp (cA := cA) (z := zc)), (kF_r10 (cA := cA) (z := zc)), (kF_sh (z := zc) hjs), (kF_sc (z := zc) hjs), (kF_sh (z := zc) hjo), (kF_sc (z := zc) hjo), trivial⟩
        have hP : va_P (dC, dI) vwCl [cTP zc, cR10 cA zc, cSh zc js, cSc cA zc js, cSh zc jo, cSc cA zc jo] s.heap := kAll_P hPk hks
        have hD : va_D (va_A [cTP zc, cR10 cA zc, cSh zc js, cSc cA zc js, cSh zc jo, cSc cA zc jo] s.heap.size) [cTP zc, cR10 cA zc, cSh zc js, cSc cA zc js, cSh zc jo, cSc cA zc jo] := (kAll_D hDk hks (by simp [hjj])).self
        have hA : ∀ q : Nat, s.heap.size ≤ q → va_A [cTP zc, cR10 cA zc, cSh zc js, cSc cA zc js, cSh zc jo, cSc cA zc jo] s.heap.size q := fun q h => Or.inr h
        have hS : va_S (va_A [cTP zc, cR10 cA zc, cSh zc js, cSc cA zc js, cSh zc jo, cSc cA zc jo] s.heap.size) s.heap s.heap [] := va_S.rf
        refine lv_aload_n hx hb dX10_copy_0 rfl (lv_at hl 0 rfl) ?_
        refine lv_iconst (v := 0) hx hb dX10_copy_1 (by decide) ?_
        refine va_put (D := (dC, dI)) (ci := 10) (v := .int 0) (ty := .int) (C := RX10) (T := TX10) (N := 13) hx hb hts hiX10 tyX10 tyX10_ok nmX10 hown hK hP hD hS 0 rfl rfl 12 (by decide) (hts (.fieldLink RX10 56 "TributePitches" "latestFault" "I") (List.mem_of_getElem? (i := 1) rfl)) (fun _ h9 => h9) rfl (by decide +kernel) rfl rfl (Nat.le_of_ble_eq_true rfl) dX10_copy_2 (fun H locs hP hD hS => ?_)
        have hP : va_P (dC, dI) vwCl [(cs_X zc 0 0, .inr (10, [.ref (cs_X zc 0 1), .ref (cs_X zc 0 6), .ref (cs_X zc 0 7), .ref (cs_X zc 0 8), .ref (cs_X zc 0 9), .ref (cs_X zc 0 10), .ref (cs_X zc 0 11), .int (nI (cs_n zc 0)), .int (nI (cs_n zc 1)), .int (nI (cs_n zc 2)), .int (nI (cs_n zc 3)), va_rf (opN (cs_n zc 4) (fun _ => cs_X zc 5 0)), .int 0])), cR10 cA zc, cSh zc js, cSc cA zc js, cSh zc jo, cSc cA zc jo] H := hP
        have hD : va_D _ [(cs_X zc 0 0, .inr (10, [.ref (cs_X zc 0 1), .ref (cs_X zc 0 6), .ref (cs_X zc 0 7), .ref (cs_X zc 0 8), .ref (cs_X zc 0 9), .ref (cs_X zc 0 10), .ref (cs_X zc 0 11), .int (nI (cs_n zc 0)), .int (nI (cs_n zc 1)), .int (nI (cs_n zc 2)), .int (nI (cs_n zc 3)), va_rf (opN (cs_n zc 4) (fun _ => cs_X zc 5 0)), .int 0])), cR10 cA zc, cSh zc js, cSc cA zc js, cSh zc jo, cSc cA zc jo] := hD
        refine lv_aload_n hx hb dX10_copy_5 rfl (lv_at hl 0 rfl) ?_
        refine lv_iload_n hx hb dX10_copy_6 rfl (lv_at hl 1 rfl) ?_
        have hPc := hP.sub (ws' := [(cs_X zc 0 0, .inr (10, [.ref (cs_X zc 0 1), .ref (cs_X zc 0 6), .ref (cs_X zc 0 7), .ref (cs_X zc 0 8), .ref (cs_X zc 0 9), .ref (cs_X zc 0 10), .ref (cs_X zc 0 11), .int (nI (cs_n zc 0)), .int (nI (cs_n zc 1)), .int (nI (cs_n zc 2)), .int (nI (cs_n zc 3)), va_rf (opN (cs_n zc 4) (fun _ => cs_X zc 5 0)), .int 0])), cR10 cA zc]) [0, 1] rfl
        have hDc := hD.sub (ws' := [(cs_X zc 0 0, .inr (10, [.ref (cs_X zc 0 1), .ref (cs_X zc 0 6), .ref (cs_X zc 0 7), .ref (cs_X zc 0 8), .ref (cs_X zc 0 9), .ref (cs_X zc 0 10), .ref (cs_X zc 0 11), .int (nI (cs_n zc 0)), .int (nI (cs_n zc 1)), .int (nI (cs_n zc 2)), .int (nI (cs_n zc 3)), va_rf (opN (cs_n zc 4) (fun _ => cs_X zc 5 0)), .int 0])), cR10 cA zc]) [0, 1] (by decide) rfl
        have hKc := hK.sub (tys' := [(cA 5, .object RX7)]) [5] rfl
        refine va_csq (va_Run.run (va_runV (As := [.int (nI js)]) (rest := []) ⟨hx, hb, hml, hown, hts⟩ (s_sheetAt_yes l dC dI (cA 5) _ (cs_X zc 0 0) (.ref (cs_X zc 0 1)) (.ref (cs_X zc 0 6)) (.ref (cs_X zc 0 7)) (.ref (cs_X zc 0 8)) (.ref (cs_X zc 0 9)) (.ref (cs_X zc 0 11)) (.int (nI (cs_n zc 0))) (.int (nI (cs_n zc 1))) (.int (nI (cs_n zc 2))) (.int (nI (cs_n zc 3))) (va_rf (opN (cs_n zc 4) (fun _ => cs_X zc 5 0))) (.int 0) (cs_X zc 0 10) js (cs_X zc 6 js) (rfN 4 (cs_X zc 6)) hjs (rfN_at hjs)) (cwV 1 hts gX10_copy_X10_sheetAt rfl rfl rfl (by decide +kernel) ⟨Nat.le_of_ble_eq_true rfl, Nat.le_of_ble_eq_true rfl⟩) (pw_preV (va_recv hKc hPc (ci := 10) (q0 := 0) rfl rfl) hPc hKc hDc hN) rfl rfl hl.1 rfl (lv_room (Nat.le_of_ble_eq_true rfl)) dX10_copy_7 ⟨Nat.le_of_ble_eq_true rfl, Nat.le_of_ble_eq_true rfl⟩)) (fun r23 hr23 => ?_)
        have hr23 : r23 = some (cs_X zc 6 js) := hr23
        subst hr23
        refine W.eq (g2 := F0 m 10 ls [.ref (cs_X zc 6 js)]) rfl ?_
        refine lv_astore (lv' := [(6, .ref (cs_X zc 6 js)), (0, .ref (cs_X zc 0 0)), (1, .int (nI js)), (2, .int ix), (3, .int (nI jo)), (4, .int jx), (5, .int n)]) hx hb dX10_copy_10 hl (by decide) rfl (fun ls hl => ?_)
        refine lv_aload_n hx hb dX10_copy_12 rfl (lv_at hl 1 rfl) ?_
        refine lv_iload_n hx hb dX10_copy_13 rfl (lv_at hl 4 rfl) ?_
        have hPc := hP.sub (ws' := [(cs_X zc 0 0, .inr (10, [.ref (cs_X zc 0 1), .ref (cs_X zc 0 6), .ref (cs_X zc 0 7), .ref (cs_X zc 0 8), .ref (cs_X zc 0 9), .ref (cs_X zc 0 10), .ref (cs_X zc 0 11), .int (nI (cs_n zc 0)), .int (nI (cs_n zc 1)), .int (nI (cs_n zc 2)), .int (nI (cs_n zc 3)), va_rf (opN (cs_n zc 4) (fun _ => cs_X zc 5 0)), .int 0])), cR10 cA zc]) [0, 1] rfl
        have hDc := hD.sub (ws' := [(cs_X zc 0 0, .inr (10, [.ref (cs_X zc 0 1), .ref (cs_X zc 0 6), .ref (cs_X zc 0 7), .ref (cs_X zc 0 8), .ref (cs_X zc 0 9), .ref (cs_X zc 0 10), .ref (cs_X zc 0 11), .int (nI (cs_n zc 0)), .int (nI (cs_n zc 1)), .int (nI (cs_n zc 2)), .int (nI (cs_n zc 3)), va_rf (opN (cs_n zc 4) (fun _ => cs_X zc 5 0)), .int 0])), cR10 cA zc]) [0, 1] (by decide) rfl
        have hKc := hK.sub (tys' := [(cA 5, .object RX7)]) [5] rfl
        refine va_csq (va_Run.run (va_runV (As := [.int (nI jo)]) (rest := []) ⟨hx, hb, hml, hown, hts⟩ (s_sheetAt_yes l dC dI (cA 5) _ (cs_X zc 0 0) (.ref (cs_X zc 0 1)) (.ref (cs_X zc 0 6)) (.ref (cs_X zc 0 7)) (.ref (cs_X zc 0 8)) (.ref (cs_X zc 0 9)) (.ref (cs_X zc 0 11)) (.int (nI (cs_n zc 0))) (.int (nI (cs_n zc 1))) (.int (nI (cs_n zc 2))) (.int (nI (cs_n zc 3))) (va_rf (opN (cs_n zc 4) (fun _ => cs_X zc 5 0))) (.int 0) (cs_X zc 0 10) jo (cs_X zc 6 jo) (rfN 4 (cs_X zc 6)) hjo (rfN_at hjo)) (cwV 1 hts gX10_copy_X10_sheetAt rfl rfl rfl (by decide +kernel) ⟨Nat.le_of_ble_eq_true rfl, Nat.le_of_ble_eq_true rfl⟩) (pw_preV (va_recv hKc hPc (ci := 10) (q0 := 0) rfl rfl) hPc hKc hDc hN) rfl rfl hl.1 rfl (lv_room (Nat.le_of_ble_eq_true rfl)) dX10_copy_14 ⟨Nat.le_of_ble_eq_true rfl, Nat.le_of_ble_eq_true rfl⟩)) (fun r24 hr24 => ?_)
        have hr24 : r24 = some (cs_X zc 6 jo) := hr24
        subst hr24
        refine W.eq (g2 := F0 m 17 ls [.ref (cs_X zc 6 jo)]) rfl ?_
        refine lv_astore (lv' := [(7, .ref (cs_X zc 6 jo)), (6, .ref (cs_X zc 6 js)), (0, .ref (cs_X zc 0 0)), (1, .int (nI js)), (2, .int ix), (3, .int (nI jo)), (4, .int jx), (5, .int n)]) hx hb dX10_copy_17 hl (by decide) rfl (fun ls hl => ?_)
        refine lv_aload hx hb dX10_copy_19 (lv_at hl 1 rfl) ?_
        refine lv_ifnull hx hb dX10_copy_21 ?_
        refine lv_aload hx hb dX10_copy_24 (lv_at hl 0 rfl) ?_
        refine lv_ifnonnull (tgt := 31) hx hb dX10_copy_26 (by decide) ?_
        refine lv_aload hx hb dX10_copy_31 (lv_at hl 1 rfl) ?_
        have hPc := hP.sub (ws' := [cSh zc js]) [2] rfl
        have hDc := hD.sub (ws' := [cSh zc js]) [2] (by decide) rfl
        have hKc := hK.sub (tys' := []) [] rfl
        refine vp_callSi (va_Run.run (va_runV (As := []) (rest := []) ⟨hx, hb, hml, hown, hts⟩ (s_hasNothing l dC dI  _ (cs_X zc 6 js) (.ref (cs_X zc 7 js)) (cs_I zc 8 js) (cs_I zc 9 js) ) (cwV 0 hts gX10_copy_X7_hasNothing rfl rfl rfl (by decide +kernel) ⟨Nat.le_of_ble_eq_true rfl, Nat.le_of_ble_eq_true rfl⟩) (pw_preV (va_recv hKc hPc (ci := 7) (q0 := 0) rfl rfl) hPc hKc hDc hN) rfl rfl hl.1 rfl (lv_room (Nat.le_of_ble_eq_true rfl)) dX10_copy_33 ⟨Nat.le_of_ble_eq_true rfl, Nat.le_of_ble_eq_true rfl⟩)) (fun r25 hr25 => ?_)
        have hr25 : r25 = if (cs_I zc 8 js) = -1 then 1 else 0 := hr25
        refine lv_if_ne (tgt := 47) hx hb dX10_copy_36 (by decide) (fun c26 => ?_) (fun c26 => ?_)
        · skip
          have c26 := (fa_bool_prop hr25).2.mp c26
          refine lv_aload_n hx hb dX10_copy_47 rfl (lv_at hl 2 rfl) ?_
          refine lv_iconst (v := 1) hx hb dX10_copy_48 (by decide) ?_
          have hPc := hP.sub (ws' := [(cs_X zc 0 0, .inr (10, [.ref (cs_X zc 0 1), .ref (cs_X zc 0 6), .ref (cs_X zc 0 7), .ref (cs_X zc 0 8), .ref (cs_X zc 0 9), .ref (cs_X zc 0 10), .ref (cs_X zc 0 11), .int (nI (cs_n zc 0)), .int (nI (cs_n zc 1)), .int (nI (cs_n zc 2)), .int (nI (cs_n zc 3)), va_rf (opN (cs_n zc 4) (fun _ => cs_X zc 5 0)), .int 0]))]) [0] rfl
          have hDc := hD.sub (ws' := [(cs_X zc 0 0, .inr (10, [.ref (cs_X zc 0 1), .ref (cs_X zc 0 6), .ref (cs_X zc 0 7), .ref (cs_X zc 0 8), .ref (cs_X zc 0 9), .ref (cs_X zc 0 10), .ref (cs_X zc 0 11), .int (nI (cs_n zc 0)), .int (nI (cs_n zc 1)), .int (nI (cs_n zc 2)), .int (nI (cs_n zc 3)), va_rf (opN (cs_n zc 4) (fun _ => cs_X zc 5 0)), .int 0]))]) [0] (by decide) rfl
          have hKc := hK.sub (tys' := []) [] rfl
          have hFc := va_free (wc := [(cs_X zc 0 0, .inr (10, [.ref (cs_X zc 0 1), .ref (cs_X zc 0 6), .ref (cs_X zc 0 7), .ref (cs_X zc 0 8), .ref (cs_X zc 0 9), .ref (cs_X zc 0 10), .ref (cs_X zc 0 11), .int (nI (cs_n zc 0)), .int (nI (cs_n zc 1)), .int (nI (cs_n zc 2)), .int (nI (cs_n zc 3)), va_rf (opN (cs_n zc 4) (fun _ => cs_X zc 5 0)), .int 0]))]) hD hS hA [0] rfl
          refine va_calli (va_runV (As := [.int 1]) (rest := []) ⟨hx, hb, hml, hown, hts⟩ (c_X10_faulted l dC dI  _ (cs_X zc 0 0) (.ref (cs_X zc 0 1)) (.ref (cs_X zc 0 6)) (.ref (cs_X zc 0 7)) (.ref (cs_X zc 0 8)) (.ref (cs_X zc 0 9)) (.ref (cs_X zc 0 10)) (.ref (cs_X zc 0 11)) (.int (nI (cs_n zc 0))) (.int (nI (cs_n zc 1))) (.int (nI (cs_n zc 2))) (.int (nI (cs_n zc 3))) (va_rf (opN (cs_n zc 4) (fun _ => cs_X zc 5 0))) (.int 0) 1 ) (cwV 1 hts gX10_copy_X10_faulted rfl rfl rfl (by decide +kernel) ⟨Nat.le_of_ble_eq_true rfl, Nat.le_of_ble_eq_true rfl⟩) (pw_preV (va_recv hKc hPc (ci := 10) (q0 := 0) rfl rfl) hPc hKc hDc hN) rfl rfl hl.1 rfl (lv_room (Nat.le_of_ble_eq_true rfl)) dX10_copy_49 ⟨Nat.le_of_ble_eq_true rfl, Nat.le_of_ble_eq_true rfl⟩) hS (fun q _ h => hFc q h) hFc (fun r27 u t H1 locs ht hvm hw hB hz1 hk1 hS => ?_)
          have hr27 : r27 = -10 - 1 := hw
          obtain ⟨hP1, hK1, hD1⟩ := hB
          rw [ht] at hP1
          obtain ⟨hP, hD⟩ := va_join (wr := [cR10 cA zc, cSh zc js, cSc cA zc js, cSh zc jo, cSc cA zc jo]) (w1 := [(cs_X zc 0 0, .inr (10, [.ref (cs_X zc 0 1), .ref (cs_X zc 0 6), .ref (cs_X zc 0 7), .ref (cs_X zc 0 8), .ref (cs_X zc 0 9), .ref (cs_X zc 0 10), .ref (cs_X zc 0 11), .int (nI (cs_n zc 0)), .int (nI (cs_n zc 1)), .int (nI (cs_n zc 2)), .int (nI (cs_n zc 3)), va_rf (opN (cs_n zc 4) (fun _ => cs_X zc 5 0)), .int 1]))]) hP hD [0] [1, 2, 3, 4, 5] rfl rfl (by decide) (by decide) hk1 hFc hP1 hD1
          generalize H1 = H at hP hS ⊢
          have hP : va_P (dC, dI) vwCl [cR10 cA zc, cSh zc js, cSc cA zc js, cSh zc jo, cSc cA zc jo, (cs_X zc 0 0, .inr (10, [.ref (cs_X zc 0 1), .ref (cs_X zc 0 6), .ref (cs_X zc 0 7), .ref (cs_X zc 0 8), .ref (cs_X zc 0 9), .ref (cs_X zc 0 10), .ref (cs_X zc 0 11), .int (nI (cs_n zc 0)), .int (nI (cs_n zc 1)), .int (nI (cs_n zc 2)), .int (nI (cs_n zc 3)), va_rf (opN (cs_n zc 4) (fun _ => cs_X zc 5 0)), .int 1]))] H := hP
          have hD : va_D _ [cR10 cA zc, cSh zc js, cSc cA zc js, cSh zc jo, cSc cA zc jo, (cs_X zc 0 0, .inr (10, [.ref (cs_X zc 0 1), .ref (cs_X zc 0 6), .ref (cs_X zc 0 7), .ref (cs_X zc 0 8), .ref (cs_X zc 0 9), .ref (cs_X zc 0 10), .ref (cs_X zc 0 11), .int (nI (cs_n zc 0)), .int (nI (cs_n zc 1)), .int (nI (cs_n zc 2)), .int (nI (cs_n zc 3)), va_rf (opN (cs_n zc 4) (fun _ => cs_X zc 5 0)), .int 1]))] := hD
          have hr27 := hr27.symm
          subst hr27
          refine W.eq (g2 := F0 m 52 ls [.int (-10 - 1)]) rfl ?_
          subst hQ
          have hP9 : va_P (dC, dI) vwCl [(cs_X zc 0 0, .inr (10, [.ref (cs_X zc 0 1), .ref (cs_X zc 0 6), .ref (cs_X zc 0 7), .ref (cs_X zc 0 8), .ref (cs_X zc 0 9), .ref (cs_X zc 0 10), .ref (cs_X zc 0 11), .int (nI (cs_n zc 0)), .int (nI (cs_n zc 1)), .int (nI (cs_n zc 2)), .int (nI (cs_n zc 3)), va_rf (opN (cs_n zc 4) (fun _ => cs_X zc 5 0)), .int 1])), cR10 cA zc, cSh zc js, cSc cA zc js, cSh zc jo, cSc cA zc jo] H := hP.sub [5, 0, 1, 2, 3, 4] rfl
          have hD9 : va_D (va_A [cTP zc, cR10 cA zc, cSh zc js, cSc cA zc js, cSh zc jo, cSc cA zc jo] s.heap.size) [(cs_X zc 0 0, .inr (10, [.ref (cs_X zc 0 1), .ref (cs_X zc 0 6), .ref (cs_X zc 0 7), .ref (cs_X zc 0 8), .ref (cs_X zc 0 9), .ref (cs_X zc 0 10), .ref (cs_X zc 0 11), .int (nI (cs_n zc 0)), .int (nI (cs_n zc 1)), .int (nI (cs_n zc 2)), .int (nI (cs_n zc 3)), va_rf (opN (cs_n zc 4) (fun _ => cs_X zc 5 0)), .int 1])), cR10 cA zc, cSh zc js, cSc cA zc js, cSh zc jo, cSc cA zc jo] := hD.sub [5, 0, 1, 2, 3, 4] (by decide) rfl
          have hlf := lf_copy_9 cA zc ix jx n js jo hjs hjo hjj c26 hI
          exact W.iret (v := -10 - 1) hx hb hr (fun t ht hW => have hJ := kjoin hPk hDk hks rfl (hS.F ht) (by rw [ht]; exact hP9) hD9 hlf.2.1 hlf.2.2; ⟨⟨-10 - 1, (va_up (cs_i zc) 2 1, cs_n zc, cs_I zc, cs_L zc, cs_N zc, cs_S zc, cs_X zc), rfl, ⟨⟨hlf.1, rfl⟩, (Or.inr (Or.inr (Or.inr (Or.inr (Or.inr (Or.inr (Or.inr (Or.inr (Or.inr (Or.inl ⟨js, rfl, hjs, jo, rfl, hjo, hjj, c26, rfl, rfl⟩))))))))))⟩, hJ.1, va_K.moved hW.alike hKk, hJ.2.1⟩, hJ.2.2⟩) (fun q h => kAll_A hks _ (hS.2.2 q h)) dX10_copy_52
        · skip
          have c26 := (fa_bool_prop hr25).1.mp c26
          refine lv_aload hx hb dX10_copy_39 (lv_at hl 0 rfl) ?_
          have hPc := hP.sub (ws' := [cSh zc jo]) [4] rfl
          have hDc := hD.sub (ws' := [cSh zc jo]) [4] (by decide) rfl
          have hKc := hK.sub (tys' := []) [] rfl
          refine vp_callSi (va_Run.run (va_runV (As := []) (rest := []) ⟨hx, hb, hml, hown, hts⟩ (s_hasNothing l dC dI  _ (cs_X zc 6 jo) (.ref (cs_X zc 7 jo)) (cs_I zc 8 jo) (cs_I zc 9 jo) ) (cwV 0 hts gX10_copy_X7_hasNothing rfl rfl rfl (by decide +kernel) ⟨Nat.le_of_ble_eq_true rfl, Nat.le_of_ble_eq_true rfl⟩) (pw_preV (va_recv hKc hPc (ci := 7) (q0 := 0) rfl rfl) hPc hKc hDc hN) rfl rfl hl.1 rfl (lv_room (Nat.le_of_ble_eq_true rfl)) dX10_copy_41 ⟨Nat.le_of_ble_eq_true rfl, Nat.le_of_ble_eq_true rfl⟩)) (fun r28 hr28 => ?_)
          have hr28 : r28 = if (cs_I zc 8 jo) = -1 then 1 else 0 := hr28
          refine lv_if_eq (tgt := 53) hx hb dX10_copy_44 (by decide) (fun c29 => ?_) (fun c29 => ?_)
          · skip
            have c29 := (fa_bool_prop hr28).1.mp c29
            refine lv_aload hx hb dX10_copy_53 (lv_at hl 1 rfl) ?_
            refine va_get (D := (dC, dI)) (ci := 7) (v := .int (cs_I zc 8 js)) (C := RX7) (T := TX7) (N := 3) hx hb hts hiX7 hown hK hP 2 rfl rfl 1 (by decide) (hts (.fieldLink RX10 295 "TributePitches$Sheet" "lane" "I") (List.mem_of_getElem? (i := 2) rfl)) (fun _ h9 => h9) rfl dX10_copy_55 ?_
            refine lv_aload hx hb dX10_copy_58 (lv_at hl 0 rfl) ?_
            refine va_get (D := (dC, dI)) (ci := 7) (v := .int (cs_I zc 8 jo)) (C := RX7) (T := TX7) (N := 3) hx hb hts hiX7 hown hK hP 4 rfl rfl 1 (by decide) (hts (.fieldLink RX10 295 "TributePitches$Sheet" "lane" "I") (List.mem_of_getElem? (i := 2) rfl)) (fun _ h9 => h9) rfl dX10_copy_60 ?_
            refine lv_icmp_eq (tgt := 72) hx hb dX10_copy_63 (by decide) (fun c30 => ?_) (fun c30 => ?_)
            · skip
              refine lv_aload hx hb dX10_copy_72 (lv_at hl 1 rfl) ?_
              refine lv_iload_n hx hb dX10_copy_74 rfl (lv_at hl 4 rfl) ?_
              refine lv_iload hx hb dX10_copy_75 (lv_at hl 7 rfl) ?_
              have hPc := hP.sub (ws' := [cSh zc js]) [2] rfl
              have hDc := hD.sub (ws' := [cSh zc js]) [2] (by decide) rfl
              have hKc := hK.sub (tys' := []) [] rfl
              refine vp_callSi (va_Run.run (va_runV (As := [.int ix, .int n]) (rest := []) ⟨hx, hb, hml, hown, hts⟩ (s_holds l dC dI  _ (cs_X zc 6 js) (.ref (cs_X zc 7 js)) (cs_I zc 8 js) (cs_I zc 9 js) ix n ) (cwV 2 hts gX10_copy_X7_holds rfl rfl rfl (by decide +kernel) ⟨Nat.le_of_ble_eq_true rfl, Nat.le_of_ble_eq_true rfl⟩) (pw_preV (va_recv hKc hPc (ci := 7) (q0 := 0) rfl rfl) hPc hKc hDc hN) rfl rfl hl.1 rfl (lv_room (Nat.le_of_ble_eq_true rfl)) dX10_copy_77 ⟨Nat.le_of_ble_eq_true rfl, Nat.le_of_ble_eq_true rfl⟩)) (fun r31 hr31 => ?_)
              have hr31 : r31 = if 0 ≤ ix ∧ 0 ≤ n ∧ ix.toInt64 + n.toInt64 ≤ (cs_I zc 9 js).toInt64 then 1 else 0 := hr31
              refine lv_if_eq (tgt := 95) hx hb dX10_copy_80 (by decide) (fun c32 => ?_) (fun c32 => ?_)
              · skip
                have c32 := (fa_bool_prop hr31).1.mp c32
                refine lv_aload_n hx hb dX10_copy_95 rfl (lv_at hl 2 rfl) ?_
                refine lv_iconst (v := 3) hx hb dX10_copy_96 (by decide) ?_
                have hPc := hP.sub (ws' := [(cs_X zc 0 0, .inr (10, [.ref (cs_X zc 0 1), .ref (cs_X zc 0 6), .ref (cs_X zc 0 7), .ref (cs_X zc 0 8), .ref (cs_X zc 0 9), .ref (cs_X zc 0 10), .ref (cs_X zc 0 11), .int (nI (cs_n zc 0)), .int (nI (cs_n zc 1)), .int (nI (cs_n zc 2)), .int (nI (cs_n zc 3)), va_rf (opN (cs_n zc 4) (fun _ => cs_X zc 5 0)), .int 0]))]) [0] rfl
                have hDc := hD.sub (ws' := [(cs_X zc 0 0, .inr (10, [.ref (cs_X zc 0 1), .ref (cs_X zc 0 6), .ref (cs_X zc 0 7), .ref (cs_X zc 0 8), .ref (cs_X zc 0 9), .ref (cs_X zc 0 10), .ref (cs_X zc 0 11), .int (nI (cs_n zc 0)), .int (nI (cs_n zc 1)), .int (nI (cs_n zc 2)), .int (nI (cs_n zc 3)), va_rf (opN (cs_n zc 4) (fun _ => cs_X zc 5 0)), .int 0]))]) [0] (by decide) rfl
                have hKc := hK.sub (tys' := []) [] rfl
                have hFc := va_free (wc := [(cs_X zc 0 0, .inr (10, [.ref (cs_X zc 0 1), .ref (cs_X zc 0 6), .ref (cs_X zc 0 7), .ref (cs_X zc 0 8), .ref (cs_X zc 0 9), .ref (cs_X zc 0 10), .ref (cs_X zc 0 11), .int (nI (cs_n zc 0)), .int (nI (cs_n zc 1)), .int (nI (cs_n zc 2)), .int (nI (cs_n zc 3)), va_rf (opN (cs_n zc 4) (fun _ => cs_X zc 5 0)), .int 0]))]) hD hS hA [0] rfl
                refine va_calli (va_runV (As := [.int 3]) (rest := []) ⟨hx, hb, hml, hown, hts⟩ (c_X10_faulted l dC dI  _ (cs_X zc 0 0) (.ref (cs_X zc 0 1)) (.ref (cs_X zc 0 6)) (.ref (cs_X zc 0 7)) (.ref (cs_X zc 0 8)) (.ref (cs_X zc 0 9)) (.ref (cs_X zc 0 10)) (.ref (cs_X zc 0 11)) (.int (nI (cs_n zc 0))) (.int (nI (cs_n zc 1))) (.int (nI (cs_n zc 2))) (.int (nI (cs_n zc 3))) (va_rf (opN (cs_n zc 4) (fun _ => cs_X zc 5 0))) (.int 0) 3 ) (cwV 1 hts gX10_copy_X10_faulted rfl rfl rfl (by decide +kernel) ⟨Nat.le_of_ble_eq_true rfl, Nat.le_of_ble_eq_true rfl⟩) (pw_preV (va_recv hKc hPc (ci := 10) (q0 := 0) rfl rfl) hPc hKc hDc hN) rfl rfl hl.1 rfl (lv_room (Nat.le_of_ble_eq_true rfl)) dX10_copy_97 ⟨Nat.le_of_ble_eq_true rfl, Nat.le_of_ble_eq_true rfl⟩) hS (fun q _ h => hFc q h) hFc (fun r33 u t H1 locs ht hvm hw hB hz1 hk1 hS => ?_)
                have hr33 : r33 = -10 - 3 := hw
                obtain ⟨hP1, hK1, hD1⟩ := hB
                rw [ht] at hP1
                obtain ⟨hP, hD⟩ := va_join (wr := [cR10 cA zc, cSh zc js, cSc cA zc js, cSh zc jo, cSc cA zc jo]) (w1 := [(cs_X zc 0 0, .inr (10, [.ref (cs_X zc 0 1), .ref (cs_X zc 0 6), .ref (cs_X zc 0 7), .ref (cs_X zc 0 8), .ref (cs_X zc 0 9), .ref (cs_X zc 0 10), .ref (cs_X zc 0 11), .int (nI (cs_n zc 0)), .int (nI (cs_n zc 1)), .int (nI (cs_n zc 2)), .int (nI (cs_n zc 3)), va_rf (opN (cs_n zc 4) (fun _ => cs_X zc 5 0)), .int 3]))]) hP hD [0] [1, 2, 3, 4, 5] rfl rfl (by decide) (by decide) hk1 hFc hP1 hD1
                generalize H1 = H at hP hS ⊢
                have hP : va_P (dC, dI) vwCl [cR10 cA zc, cSh zc js, cSc cA zc js, cSh zc jo, cSc cA zc jo, (cs_X zc 0 0, .inr (10, [.ref (cs_X zc 0 1), .ref (cs_X zc 0 6), .ref (cs_X zc 0 7), .ref (cs_X zc 0 8), .ref (cs_X zc 0 9), .ref (cs_X zc 0 10), .ref (cs_X zc 0 11), .int (nI (cs_n zc 0)), .int (nI (cs_n zc 1)), .int (nI (cs_n zc 2)), .int (nI (cs_n zc 3)), va_rf (opN (cs_n zc 4) (fun _ => cs_X zc 5 0)), .int 3]))] H := hP
                have hD : va_D _ [cR10 cA zc, cSh zc js, cSc cA zc js, cSh zc jo, cSc cA zc jo, (cs_X zc 0 0, .inr (10, [.ref (cs_X zc 0 1), .ref (cs_X zc 0 6), .ref (cs_X zc 0 7), .ref (cs_X zc 0 8), .ref (cs_X zc 0 9), .ref (cs_X zc 0 10), .ref (cs_X zc 0 11), .int (nI (cs_n zc 0)), .int (nI (cs_n zc 1)), .int (nI (cs_n zc 2)), .int (nI (cs_n zc 3)), va_rf (opN (cs_n zc 4) (fun _ => cs_X zc 5 0)), .int 3]))] := hD
                have hr33 := hr33.symm
                subst hr33
                refine W.eq (g2 := F0 m 100 ls [.int (-10 - 3)]) rfl ?_
                subst hQ
                have hP9 : va_P (dC, dI) vwCl [(cs_X zc 0 0, .inr (10, [.ref (cs_X zc 0 1), .ref (cs_X zc 0 6), .ref (cs_X zc 0 7), .ref (cs_X zc 0 8), .ref (cs_X zc 0 9), .ref (cs_X zc 0 10), .ref (cs_X zc 0 11), .int (nI (cs_n zc 0)), .int (nI (cs_n zc 1)), .int (nI (cs_n zc 2)), .int (nI (cs_n zc 3)), va_rf (opN (cs_n zc 4) (fun _ => cs_X zc 5 0)), .int 3])), cR10 cA zc, cSh zc js, cSc cA zc js, cSh zc jo, cSc cA zc jo] H := hP.sub [5, 0, 1, 2, 3, 4] rfl
                have hD9 : va_D (va_A [cTP zc, cR10 cA zc, cSh zc js, cSc cA zc js, cSh zc jo, cSc cA zc jo] s.heap.size) [(cs_X zc 0 0, .inr (10, [.ref (cs_X zc 0 1), .ref (cs_X zc 0 6), .ref (cs_X zc 0 7), .ref (cs_X zc 0 8), .ref (cs_X zc 0 9), .ref (cs_X zc 0 10), .ref (cs_X zc 0 11), .int (nI (cs_n zc 0)), .int (nI (cs_n zc 1)), .int (nI (cs_n zc 2)), .int (nI (cs_n zc 3)), va_rf (opN (cs_n zc 4) (fun _ => cs_X zc 5 0)), .int 3])), cR10 cA zc, cSh zc js, cSc cA zc js, cSh zc jo, cSc cA zc jo] := hD.sub [5, 0, 1, 2, 3, 4] (by decide) rfl
                have hlf := lf_copy_10 cA zc ix jx n js jo hjs hjo hjj c26 c29 c30 c32 hI
                exact W.iret (v := -10 - 3) hx hb hr (fun t ht hW => have hJ := kjoin hPk hDk hks rfl (hS.F ht) (by rw [ht]; exact hP9) hD9 hlf.2.1 hlf.2.2; ⟨⟨-10 - 3, (va_up (cs_i zc) 2 3, cs_n zc, cs_I zc, cs_L zc, cs_N zc, cs_S zc, cs_X zc), rfl, ⟨⟨hlf.1, rfl⟩, (Or.inr (Or.inr (Or.inr (Or.inr (Or.inr (Or.inr (Or.inr (Or.inr (Or.inr (Or.inr (Or.inl ⟨js, rfl, hjs, jo, rfl, hjo, hjj, c26, c29, c30, c32, rfl, rfl⟩)))))))))))⟩, hJ.1, va_K.moved hW.alike hKk, hJ.2.1⟩, hJ.2.2⟩) (fun q h => kAll_A hks _ (hS.2.2 q h)) dX10_copy_100
              · skip
                have c32 := (fa_bool_prop hr31).2.mp c32
                refine lv_aload hx hb dX10_copy_83 (lv_at hl 0 rfl) ?_
                refine lv_iload hx hb dX10_copy_85 (lv_at hl 6 rfl) ?_
                refine lv_iload hx hb dX10_copy_87 (lv_at hl 7 rfl) ?_
                have hPc := hP.sub (ws' := [cSh zc jo]) [4] rfl
                have hDc := hD.sub (ws' := [cSh zc jo]) [4] (by decide) rfl
                have hKc := hK.sub (tys' := []) [] rfl
                refine vp_callSi (va_Run.run (va_runV (As := [.int jx, .int n]) (rest := []) ⟨hx, hb, hml, hown, hts⟩ (s_holds l dC dI  _ (cs_X zc 6 jo) (.ref (cs_X zc 7 jo)) (cs_I zc 8 jo) (cs_I zc 9 jo) jx n ) (cwV 2 hts gX10_copy_X7_holds rfl rfl rfl (by decide +kernel) ⟨Nat.le_of_ble_eq_true rfl, Nat.le_of_ble_eq_true rfl⟩) (pw_preV (va_recv hKc hPc (ci := 7) (q0 := 0) rfl rfl) hPc hKc hDc hN) rfl rfl hl.1 rfl (lv_room (Nat.le_of_ble_eq_true rfl)) dX10_copy_89 ⟨Nat.le_of_ble_eq_true rfl, Nat.le_of_ble_eq_true rfl⟩)) (fun r34 hr34 => ?_)
                have hr34 : r34 = if 0 ≤ jx ∧ 0 ≤ n ∧ jx.toInt64 + n.toInt64 ≤ (cs_I zc 9 jo).toInt64 then 1 else 0 := hr34
                refine lv_if_ne (tgt := 101) hx hb dX10_copy_92 (by decide) (fun c35 => ?_) (fun c35 => ?_)
                · skip
                  have c35 := (fa_bool_prop hr34).2.mp c35
                  obtain ⟨ia, nn, e1, e2, hian, hia2⟩ := hold_nat c32 (hsh js hjs).2
                  obtain ⟨ja, nn2, e3, e4, hjan, hja2⟩ := hold_nat c35 (hsh jo hjo).2
                  have e5 : nn2 = nn := (nI_eq (by omega) (by omega)).mp (e4.symm.trans e2)
                  subst e5
                  subst e1
                  subst e2
                  subst e3
                  refine lv_aload hx hb dX10_copy_101 (lv_at hl 1 rfl) ?_
                  refine va_get (D := (dC, dI)) (ci := 7) (v := .ref (cs_X zc 7 js)) (C := RX7) (T := TX7) (N := 3) hx hb hts hiX7 hown hK hP 2 rfl rfl 0 (by decide) (hts (.fieldLink RX10 111 "TributePitches$Sheet" "cells" "[I") (List.mem_of_getElem? (i := 3) rfl)) (fun _ h9 => h9) rfl dX10_copy_103 ?_
                  refine lv_iload_n hx hb dX10_copy_106 rfl (lv_at hl 4 rfl) ?_
                  refine lv_aload hx hb dX10_copy_107 (lv_at hl 0 rfl) ?_
                  refine va_get (D := (dC, dI)) (ci := 7) (v := .ref (cs_X zc 7 jo)) (C := RX7) (T := TX7) (N := 3) hx hb hts hiX7 hown hK hP 4 rfl rfl 0 (by decide) (hts (.fieldLink RX10 111 "TributePitches$Sheet" "cells" "[I") (List.mem_of_getElem? (i := 3) rfl)) (fun _ h9 => h9) rfl dX10_copy_109 ?_
                  refine lv_iload hx hb dX10_copy_112 (lv_at hl 6 rfl) ?_
                  refine lv_iload hx hb dX10_copy_114 (lv_at hl 7 rfl) ?_
                  refine va_copyi hx hb (hml.trans hl.1.symm) hown (hts (.methodLink RX10 298 arraycopyName) (List.mem_of_getElem? (i := 4) rfl)) (hts (.native arraycopyName) (List.mem_of_getElem? (i := 5) rfl)) (hts (.static arraycopyName) (List.mem_of_getElem? (i := 6) rfl)) (hts (.initialized "java/lang/System") (List.mem_of_getElem? (i := 7) rfl)) hK hP hD hS 3 5 0 0 rfl rfl rfl rfl rfl (nI_pos (by omega)) (nI_pos (by omega)) (nI_pos (by omega)) (by rw [nI_clamp (by omega), nI_clamp (by omega)]; omega) (by rw [nI_clamp (by omega), nI_clamp (by omega)]; omega) (fun _ _ => rfl) (Nat.le_of_ble_eq_true rfl) (Nat.le_of_ble_eq_true rfl) dX10_copy_116 (fun H locs hP hD hS => ?_)
                  rw [nI_clamp (n := ia) (by omega), nI_clamp (n := ja) (by omega), nI_clamp (n := nn2) (by omega)] at hP hD
                  have hP : va_P (dC, dI) vwCl [(cs_X zc 0 0, .inr (10, [.ref (cs_X zc 0 1), .ref (cs_X zc 0 6), .ref (cs_X zc 0 7), .ref (cs_X zc 0 8), .ref (cs_X zc 0 9), .ref (cs_X zc 0 10), .ref (cs_X zc 0 11), .int (nI (cs_n zc 0)), .int (nI (cs_n zc 1)), .int (nI (cs_n zc 2)), .int (nI (cs_n zc 3)), va_rf (opN (cs_n zc 4) (fun _ => cs_X zc 5 0)), .int 0])), cR10 cA zc, cSh zc js, cSc cA zc js, cSh zc jo, (cs_X zc 7 jo, .inl (cA 0, 48, .inl (va_cpy (cs_S zc js) (cs_S zc jo) ia ja nn2)))] H := hP
                  have hD : va_D _ [(cs_X zc 0 0, .inr (10, [.ref (cs_X zc 0 1), .ref (cs_X zc 0 6), .ref (cs_X zc 0 7), .ref (cs_X zc 0 8), .ref (cs_X zc 0 9), .ref (cs_X zc 0 10), .ref (cs_X zc 0 11), .int (nI (cs_n zc 0)), .int (nI (cs_n zc 1)), .int (nI (cs_n zc 2)), .int (nI (cs_n zc 3)), va_rf (opN (cs_n zc 4) (fun _ => cs_X zc 5 0)), .int 0])), cR10 cA zc, cSh zc js, cSc cA zc js, cSh zc jo, (cs_X zc 7 jo, .inl (cA 0, 48, .inl (va_cpy (cs_S zc js) (cs_S zc jo) ia ja nn2)))] := hD
                  refine lv_iload hx hb dX10_copy_119 (lv_at hl 7 rfl) ?_
                  subst hQ
                  have hP9 : va_P (dC, dI) vwCl [(cs_X zc 0 0, .inr (10, [.ref (cs_X zc 0 1), .ref (cs_X zc 0 6), .ref (cs_X zc 0 7), .ref (cs_X zc 0 8), .ref (cs_X zc 0 9), .ref (cs_X zc 0 10), .ref (cs_X zc 0 11), .int (nI (cs_n zc 0)), .int (nI (cs_n zc 1)), .int (nI (cs_n zc 2)), .int (nI (cs_n zc 3)), va_rf (opN (cs_n zc 4) (fun _ => cs_X zc 5 0)), .int 0])), cR10 cA zc, cSh zc js, cSc cA zc js, cSh zc jo, (cs_X zc 7 jo, .inl (cA 0, 48, .inl (va_cpy (cs_S zc js) (cs_S zc jo) ia ja nn2)))] H := hP.sub [0, 1, 2, 3, 4, 5] rfl
                  have hD9 : va_D (va_A [cTP zc, cR10 cA zc, cSh zc js, cSc cA zc js, cSh zc jo, cSc cA zc jo] s.heap.size) [(cs_X zc 0 0, .inr (10, [.ref (cs_X zc 0 1), .ref (cs_X zc 0 6), .ref (cs_X zc 0 7), .ref (cs_X zc 0 8), .ref (cs_X zc 0 9), .ref (cs_X zc 0 10), .ref (cs_X zc 0 11), .int (nI (cs_n zc 0)), .int (nI (cs_n zc 1)), .int (nI (cs_n zc 2)), .int (nI (cs_n zc 3)), va_rf (opN (cs_n zc 4) (fun _ => cs_X zc 5 0)), .int 0])), cR10 cA zc, cSh zc js, cSc cA zc js, cSh zc jo, (cs_X zc 7 jo, .inl (cA 0, 48, .inl (va_cpy (cs_S zc js) (cs_S zc jo) ia ja nn2)))] := hD.sub [0, 1, 2, 3, 4, 5] (by decide) rfl
                  have hlf := lf_copy_11 cA zc js jo ia ja nn2 hjs hjo hjj c26 c29 c30 hian hjan hia2 hja2 hI
                  exact W.iret (v := nI nn2) hx hb hr (fun t ht hW => have hJ := kjoin hPk hDk hks rfl (hS.F ht) (by rw [ht]; exact hP9) hD9 hlf.2.1 hlf.2.2; ⟨⟨nI nn2, (va_up (cs_i zc) 2 0, cs_n zc, cs_I zc, cs_L zc, cs_N zc, va_up (cs_S zc) jo (va_cpy (cs_S zc js) (cs_S zc jo) ia ja nn2), cs_X zc), rfl, ⟨⟨hlf.1, rfl⟩, (Or.inr (Or.inr (Or.inr (Or.inr (Or.inr (Or.inr (Or.inr (Or.inr (Or.inr (Or.inr (Or.inr (Or.inl ⟨js, rfl, hjs, jo, rfl, hjo, hjj, c26, c29, c30, ia, ja, nn2, rfl, rfl, rfl, hian, hjan, hia2, hja2, rfl, rfl⟩))))))))))))⟩, hJ.1, va_K.moved hW.alike hKk, hJ.2.1⟩, hJ.2.2⟩) (fun q h => kAll_A hks _ (hS.2.2 q h)) dX10_copy_121
                · skip
                  have c35 := (fa_bool_prop hr34).1.mp c35
                  refine lv_aload_n hx hb dX10_copy_95 rfl (lv_at hl 2 rfl) ?_
                  refine lv_iconst (v := 3) hx hb dX10_copy_96 (by decide) ?_
                  have hPc := hP.sub (ws' := [(cs_X zc 0 0, .inr (10, [.ref (cs_X zc 0 1), .ref (cs_X zc 0 6), .ref (cs_X zc 0 7), .ref (cs_X zc 0 8), .ref (cs_X zc 0 9), .ref (cs_X zc 0 10), .ref (cs_X zc 0 11), .int (nI (cs_n zc 0)), .int (nI (cs_n zc 1)), .int (nI (cs_n zc 2)), .int (nI (cs_n zc 3)), va_rf (opN (cs_n zc 4) (fun _ => cs_X zc 5 0)), .int 0]))]) [0] rfl
                  have hDc := hD.sub (ws' := [(cs_X zc 0 0, .inr (10, [.ref (cs_X zc 0 1), .ref (cs_X zc 0 6), .ref (cs_X zc 0 7), .ref (cs_X zc 0 8), .ref (cs_X zc 0 9), .ref (cs_X zc 0 10), .ref (cs_X zc 0 11), .int (nI (cs_n zc 0)), .int (nI (cs_n zc 1)), .int (nI (cs_n zc 2)), .int (nI (cs_n zc 3)), va_rf (opN (cs_n zc 4) (fun _ => cs_X zc 5 0)), .int 0]))]) [0] (by decide) rfl
                  have hKc := hK.sub (tys' := []) [] rfl
                  have hFc := va_free (wc := [(cs_X zc 0 0, .inr (10, [.ref (cs_X zc 0 1), .ref (cs_X zc 0 6), .ref (cs_X zc 0 7), .ref (cs_X zc 0 8), .ref (cs_X zc 0 9), .ref (cs_X zc 0 10), .ref (cs_X zc 0 11), .int (nI (cs_n zc 0)), .int (nI (cs_n zc 1)), .int (nI (cs_n zc 2)), .int (nI (cs_n zc 3)), va_rf (opN (cs_n zc 4) (fun _ => cs_X zc 5 0)), .int 0]))]) hD hS hA [0] rfl
                  refine va_calli (va_runV (As := [.int 3]) (rest := []) ⟨hx, hb, hml, hown, hts⟩ (c_X10_faulted l dC dI  _ (cs_X zc 0 0) (.ref (cs_X zc 0 1)) (.ref (cs_X zc 0 6)) (.ref (cs_X zc 0 7)) (.ref (cs_X zc 0 8)) (.ref (cs_X zc 0 9)) (.ref (cs_X zc 0 10)) (.ref (cs_X zc 0 11)) (.int (nI (cs_n zc 0))) (.int (nI (cs_n zc 1))) (.int (nI (cs_n zc 2))) (.int (nI (cs_n zc 3))) (va_rf (opN (cs_n zc 4) (fun _ => cs_X zc 5 0))) (.int 0) 3 ) (cwV 1 hts gX10_copy_X10_faulted rfl rfl rfl (by decide +kernel) ⟨Nat.le_of_ble_eq_true rfl, Nat.le_of_ble_eq_true rfl⟩) (pw_preV (va_recv hKc hPc (ci := 10) (q0 := 0) rfl rfl) hPc hKc hDc hN) rfl rfl hl.1 rfl (lv_room (Nat.le_of_ble_eq_true rfl)) dX10_copy_97 ⟨Nat.le_of_ble_eq_true rfl, Nat.le_of_ble_eq_true rfl⟩) hS (fun q _ h => hFc q h) hFc (fun r36 u t H1 locs ht hvm hw hB hz1 hk1 hS => ?_)
                  have hr36 : r36 = -10 - 3 := hw
                  obtain ⟨hP1, hK1, hD1⟩ := hB
                  rw [ht] at hP1
                  obtain ⟨hP, hD⟩ := va_join (wr := [cR10 cA zc, cSh zc js, cSc cA zc js, cSh zc jo, cSc cA zc jo]) (w1 := [(cs_X zc 0 0, .inr (10, [.ref (cs_X zc 0 1), .ref (cs_X zc 0 6), .ref (cs_X zc 0 7), .ref (cs_X zc 0 8), .ref (cs_X zc 0 9), .ref (cs_X zc 0 10), .ref (cs_X zc 0 11), .int (nI (cs_n zc 0)), .int (nI (cs_n zc 1)), .int (nI (cs_n zc 2)), .int (nI (cs_n zc 3)), va_rf (opN (cs_n zc 4) (fun _ => cs_X zc 5 0)), .int 3]))]) hP hD [0] [1, 2, 3, 4, 5] rfl rfl (by decide) (by decide) hk1 hFc hP1 hD1
                  generalize H1 = H at hP hS ⊢
                  have hP : va_P (dC, dI) vwCl [cR10 cA zc, cSh zc js, cSc cA zc js, cSh zc jo, cSc cA zc jo, (cs_X zc 0 0, .inr (10, [.ref (cs_X zc 0 1), .ref (cs_X zc 0 6), .ref (cs_X zc 0 7), .ref (cs_X zc 0 8), .ref (cs_X zc 0 9), .ref (cs_X zc 0 10), .ref (cs_X zc 0 11), .int (nI (cs_n zc 0)), .int (nI (cs_n zc 1)), .int (nI (cs_n zc 2)), .int (nI (cs_n zc 3)), va_rf (opN (cs_n zc 4) (fun _ => cs_X zc 5 0)), .int 3]))] H := hP
                  have hD : va_D _ [cR10 cA zc, cSh zc js, cSc cA zc js, cSh zc jo, cSc cA zc jo, (cs_X zc 0 0, .inr (10, [.ref (cs_X zc 0 1), .ref (cs_X zc 0 6), .ref (cs_X zc 0 7), .ref (cs_X zc 0 8), .ref (cs_X zc 0 9), .ref (cs_X zc 0 10), .ref (cs_X zc 0 11), .int (nI (cs_n zc 0)), .int (nI (cs_n zc 1)), .int (nI (cs_n zc 2)), .int (nI (cs_n zc 3)), va_rf (opN (cs_n zc 4) (fun _ => cs_X zc 5 0)), .int 3]))] := hD
                  have hr36 := hr36.symm
                  subst hr36
                  refine W.eq (g2 := F0 m 100 ls [.int (-10 - 3)]) rfl ?_
                  subst hQ
                  have hP9 : va_P (dC, dI) vwCl [(cs_X zc 0 0, .inr (10, [.ref (cs_X zc 0 1), .ref (cs_X zc 0 6), .ref (cs_X zc 0 7), .ref (cs_X zc 0 8), .ref (cs_X zc 0 9), .ref (cs_X zc 0 10), .ref (cs_X zc 0 11), .int (nI (cs_n zc 0)), .int (nI (cs_n zc 1)), .int (nI (cs_n zc 2)), .int (nI (cs_n zc 3)), va_rf (opN (cs_n zc 4) (fun _ => cs_X zc 5 0)), .int 3])), cR10 cA zc, cSh zc js, cSc cA zc js, cSh zc jo, cSc cA zc jo] H := hP.sub [5, 0, 1, 2, 3, 4] rfl
                  have hD9 : va_D (va_A [cTP zc, cR10 cA zc, cSh zc js, cSc cA zc js, cSh zc jo, cSc cA zc jo] s.heap.size) [(cs_X zc 0 0, .inr (10, [.ref (cs_X zc 0 1), .ref (cs_X zc 0 6), .ref (cs_X zc 0 7), .ref (cs_X zc 0 8), .ref (cs_X zc 0 9), .ref (cs_X zc 0 10), .ref (cs_X zc 0 11), .int (nI (cs_n zc 0)), .int (nI (cs_n zc 1)), .int (nI (cs_n zc 2)), .int (nI (cs_n zc 3)), va_rf (opN (cs_n zc 4) (fun _ => cs_X zc 5 0)), .int 3])), cR10 cA zc, cSh zc js, cSc cA zc js, cSh zc jo, cSc cA zc jo] := hD.sub [5, 0, 1, 2, 3, 4] (by decide) rfl
                  have hlf := lf_copy_12 cA zc ix jx n js jo hjs hjo hjj c26 c29 c30 c32 c35 hI
                  exact W.iret (v := -10 - 3) hx hb hr (fun t ht hW => have hJ := kjoin hPk hDk hks rfl (hS.F ht) (by rw [ht]; exact hP9) hD9 hlf.2.1 hlf.2.2; ⟨⟨-10 - 3, (va_up (cs_i zc) 2 3, cs_n zc, cs_I zc, cs_L zc, cs_N zc, cs_S zc, cs_X zc), rfl, ⟨⟨hlf.1, rfl⟩, (Or.inr (Or.inr (Or.inr (Or.inr (Or.inr (Or.inr (Or.inr (Or.inr (Or.inr (Or.inr (Or.inr (Or.inr (Or.inl ⟨js, rfl, hjs, jo, rfl, hjo, hjj, c26, c29, c30, c32, c35, rfl, rfl⟩)))))))))))))⟩, hJ.1, va_K.moved hW.alike hKk, hJ.2.1⟩, hJ.2.2⟩) (fun q h => kAll_A hks _ (hS.2.2 q h)) dX10_copy_100
            · skip
              refine lv_aload_n hx hb dX10_copy_66 rfl (lv_at hl 2 rfl) ?_
              refine lv_iconst (v := 2) hx hb dX10_copy_67 (by decide) ?_
              have hPc := hP.sub (ws' := [(cs_X zc 0 0, .inr (10, [.ref (cs_X zc 0 1), .ref (cs_X zc 0 6), .ref (cs_X zc 0 7), .ref (cs_X zc 0 8), .ref (cs_X zc 0 9), .ref (cs_X zc 0 10), .ref (cs_X zc 0 11), .int (nI (cs_n zc 0)), .int (nI (cs_n zc 1)), .int (nI (cs_n zc 2)), .int (nI (cs_n zc 3)), va_rf (opN (cs_n zc 4) (fun _ => cs_X zc 5 0)), .int 0]))]) [0] rfl
              have hDc := hD.sub (ws' := [(cs_X zc 0 0, .inr (10, [.ref (cs_X zc 0 1), .ref (cs_X zc 0 6), .ref (cs_X zc 0 7), .ref (cs_X zc 0 8), .ref (cs_X zc 0 9), .ref (cs_X zc 0 10), .ref (cs_X zc 0 11), .int (nI (cs_n zc 0)), .int (nI (cs_n zc 1)), .int (nI (cs_n zc 2)), .int (nI (cs_n zc 3)), va_rf (opN (cs_n zc 4) (fun _ => cs_X zc 5 0)), .int 0]))]) [0] (by decide) rfl
              have hKc := hK.sub (tys' := []) [] rfl
              have hFc := va_free (wc := [(cs_X zc 0 0, .inr (10, [.ref (cs_X zc 0 1), .ref (cs_X zc 0 6), .ref (cs_X zc 0 7), .ref (cs_X zc 0 8), .ref (cs_X zc 0 9), .ref (cs_X zc 0 10), .ref (cs_X zc 0 11), .int (nI (cs_n zc 0)), .int (nI (cs_n zc 1)), .int (nI (cs_n zc 2)), .int (nI (cs_n zc 3)), va_rf (opN (cs_n zc 4) (fun _ => cs_X zc 5 0)), .int 0]))]) hD hS hA [0] rfl
              refine va_calli (va_runV (As := [.int 2]) (rest := []) ⟨hx, hb, hml, hown, hts⟩ (c_X10_faulted l dC dI  _ (cs_X zc 0 0) (.ref (cs_X zc 0 1)) (.ref (cs_X zc 0 6)) (.ref (cs_X zc 0 7)) (.ref (cs_X zc 0 8)) (.ref (cs_X zc 0 9)) (.ref (cs_X zc 0 10)) (.ref (cs_X zc 0 11)) (.int (nI (cs_n zc 0))) (.int (nI (cs_n zc 1))) (.int (nI (cs_n zc 2))) (.int (nI (cs_n zc 3))) (va_rf (opN (cs_n zc 4) (fun _ => cs_X zc 5 0))) (.int 0) 2 ) (cwV 1 hts gX10_copy_X10_faulted rfl rfl rfl (by decide +kernel) ⟨Nat.le_of_ble_eq_true rfl, Nat.le_of_ble_eq_true rfl⟩) (pw_preV (va_recv hKc hPc (ci := 10) (q0 := 0) rfl rfl) hPc hKc hDc hN) rfl rfl hl.1 rfl (lv_room (Nat.le_of_ble_eq_true rfl)) dX10_copy_68 ⟨Nat.le_of_ble_eq_true rfl, Nat.le_of_ble_eq_true rfl⟩) hS (fun q _ h => hFc q h) hFc (fun r37 u t H1 locs ht hvm hw hB hz1 hk1 hS => ?_)
              have hr37 : r37 = -10 - 2 := hw
              obtain ⟨hP1, hK1, hD1⟩ := hB
              rw [ht] at hP1
              obtain ⟨hP, hD⟩ := va_join (wr := [cR10 cA zc, cSh zc js, cSc cA zc js, cSh zc jo, cSc cA zc jo]) (w1 := [(cs_X zc 0 0, .inr (10, [.ref (cs_X zc 0 1), .ref (cs_X zc 0 6), .ref (cs_X zc 0 7), .ref (cs_X zc 0 8), .ref (cs_X zc 0 9), .ref (cs_X zc 0 10), .ref (cs_X zc 0 11), .int (nI (cs_n zc 0)), .int (nI (cs_n zc 1)), .int (nI (cs_n zc 2)), .int (nI (cs_n zc 3)), va_rf (opN (cs_n zc 4) (fun _ => cs_X zc 5 0)), .int 2]))]) hP hD [0] [1, 2, 3, 4, 5] rfl rfl (by decide) (by decide) hk1 hFc hP1 hD1
              generalize H1 = H at hP hS ⊢
              have hP : va_P (dC, dI) vwCl [cR10 cA zc, cSh zc js, cSc cA zc js, cSh zc jo, cSc cA zc jo, (cs_X zc 0 0, .inr (10, [.ref (cs_X zc 0 1), .ref (cs_X zc 0 6), .ref (cs_X zc 0 7), .ref (cs_X zc 0 8), .ref (cs_X zc 0 9), .ref (cs_X zc 0 10), .ref (cs_X zc 0 11), .int (nI (cs_n zc 0)), .int (nI (cs_n zc 1)), .int (nI (cs_n zc 2)), .int (nI (cs_n zc 3)), va_rf (opN (cs_n zc 4) (fun _ => cs_X zc 5 0)), .int 2]))] H := hP
              have hD : va_D _ [cR10 cA zc, cSh zc js, cSc cA zc js, cSh zc jo, cSc cA zc jo, (cs_X zc 0 0, .inr (10, [.ref (cs_X zc 0 1), .ref (cs_X zc 0 6), .ref (cs_X zc 0 7), .ref (cs_X zc 0 8), .ref (cs_X zc 0 9), .ref (cs_X zc 0 10), .ref (cs_X zc 0 11), .int (nI (cs_n zc 0)), .int (nI (cs_n zc 1)), .int (nI (cs_n zc 2)), .int (nI (cs_n zc 3)), va_rf (opN (cs_n zc 4) (fun _ => cs_X zc 5 0)), .int 2]))] := hD
              have hr37 := hr37.symm
              subst hr37
              refine W.eq (g2 := F0 m 71 ls [.int (-10 - 2)]) rfl ?_
              subst hQ
              have hP9 : va_P (dC, dI) vwCl [(cs_X zc 0 0, .inr (10, [.ref (cs_X zc 0 1), .ref (cs_X zc 0 6), .ref (cs_X zc 0 7), .ref (cs_X zc 0 8), .ref (cs_X zc 0 9), .ref (cs_X zc 0 10), .ref (cs_X zc 0 11), .int (nI (cs_n zc 0)), .int (nI (cs_n zc 1)), .int (nI (cs_n zc 2)), .int (nI (cs_n zc 3)), va_rf (opN (cs_n zc 4) (fun _ => cs_X zc 5 0)), .int 2])), cR10 cA zc, cSh zc js, cSc cA zc js, cSh zc jo, cSc cA zc jo] H := hP.sub [5, 0, 1, 2, 3, 4] rfl
              have hD9 : va_D (va_A [cTP zc, cR10 cA zc, cSh zc js, cSc cA zc js, cSh zc jo, cSc cA zc jo] s.heap.size) [(cs_X zc 0 0, .inr (10, [.ref (cs_X zc 0 1), .ref (cs_X zc 0 6), .ref (cs_X zc 0 7), .ref (cs_X zc 0 8), .ref (cs_X zc 0 9), .ref (cs_X zc 0 10), .ref (cs_X zc 0 11), .int (nI (cs_n zc 0)), .int (nI (cs_n zc 1)), .int (nI (cs_n zc 2)), .int (nI (cs_n zc 3)), va_rf (opN (cs_n zc 4) (fun _ => cs_X zc 5 0)), .int 2])), cR10 cA zc, cSh zc js, cSc cA zc js, cSh zc jo, cSc cA zc jo] := hD.sub [5, 0, 1, 2, 3, 4] (by decide) rfl
              have hlf := lf_copy_13 cA zc ix jx n js jo hjs hjo hjj c26 c29 c30 hI
              exact W.iret (v := -10 - 2) hx hb hr (fun t ht hW => have hJ := kjoin hPk hDk hks rfl (hS.F ht) (by rw [ht]; exact hP9) hD9 hlf.2.1 hlf.2.2; ⟨⟨-10 - 2, (va_up (cs_i zc) 2 2, cs_n zc, cs_I zc, cs_L zc, cs_N zc, cs_S zc, cs_X zc), rfl, ⟨⟨hlf.1, rfl⟩, (Or.inr (Or.inr (Or.inr (Or.inr (Or.inr (Or.inr (Or.inr (Or.inr (Or.inr (Or.inr (Or.inr (Or.inr (Or.inr (Or.inl ⟨js, rfl, hjs, jo, rfl, hjo, hjj, c26, c29, c30, rfl, rfl⟩))))))))))))))⟩, hJ.1, va_K.moved hW.alike hKk, hJ.2.1⟩, hJ.2.2⟩) (fun q h => kAll_A hks _ (hS.2.2 q h)) dX10_copy_71
          · skip
            have c29 := (fa_bool_prop hr28).2.mp c29
            refine lv_aload_n hx hb dX10_copy_47 rfl (lv_at hl 2 rfl) ?_
            refine lv_iconst (v := 1) hx hb dX10_copy_48 (by decide) ?_
            have hPc := hP.sub (ws' := [(cs_X zc 0 0, .inr (10, [.ref (cs_X zc 0 1), .ref (cs_X zc 0 6), .ref (cs_X zc 0 7), .ref (cs_X zc 0 8), .ref (cs_X zc 0 9), .ref (cs_X zc 0 10), .ref (cs_X zc 0 11), .int (nI (cs_n zc 0)), .int (nI (cs_n zc 1)), .int (nI (cs_n zc 2)), .int (nI (cs_n zc 3)), va_rf (opN (cs_n zc 4) (fun _ => cs_X zc 5 0)), .int 0]))]) [0] rfl
            have hDc := hD.sub (ws' := [(cs_X zc 0 0, .inr (10, [.ref (cs_X zc 0 1), .ref (cs_X zc 0 6), .ref (cs_X zc 0 7), .ref (cs_X zc 0 8), .ref (cs_X zc 0 9), .ref (cs_X zc 0 10), .ref (cs_X zc 0 11), .int (nI (cs_n zc 0)), .int (nI (cs_n zc 1)), .int (nI (cs_n zc 2)), .int (nI (cs_n zc 3)), va_rf (opN (cs_n zc 4) (fun _ => cs_X zc 5 0)), .int 0]))]) [0] (by decide) rfl
            have hKc := hK.sub (tys' := []) [] rfl
            have hFc := va_free (wc := [(cs_X zc 0 0, .inr (10, [.ref (cs_X zc 0 1), .ref (cs_X zc 0 6), .ref (cs_X zc 0 7), .ref (cs_X zc 0 8), .ref (cs_X zc 0 9), .ref (cs_X zc 0 10), .ref (cs_X zc 0 11), .int (nI (cs_n zc 0)), .int (nI (cs_n zc 1)), .int (nI (cs_n zc 2)), .int (nI (cs_n zc 3)), va_rf (opN (cs_n zc 4) (fun _ => cs_X zc 5 0)), .int 0]))]) hD hS hA [0] rfl
            refine va_calli (va_runV (As := [.int 1]) (rest := []) ⟨hx, hb, hml, hown, hts⟩ (c_X10_faulted l dC dI  _ (cs_X zc 0 0) (.ref (cs_X zc 0 1)) (.ref (cs_X zc 0 6)) (.ref (cs_X zc 0 7)) (.ref (cs_X zc 0 8)) (.ref (cs_X zc 0 9)) (.ref (cs_X zc 0 10)) (.ref (cs_X zc 0 11)) (.int (nI (cs_n zc 0))) (.int (nI (cs_n zc 1))) (.int (nI (cs_n zc 2))) (.int (nI (cs_n zc 3))) (va_rf (opN (cs_n zc 4) (fun _ => cs_X zc 5 0))) (.int 0) 1 ) (cwV 1 hts gX10_copy_X10_faulted rfl rfl rfl (by decide +kernel) ⟨Nat.le_of_ble_eq_true rfl, Nat.le_of_ble_eq_true rfl⟩) (pw_preV (va_recv hKc hPc (ci := 10) (q0 := 0) rfl rfl) hPc hKc hDc hN) rfl rfl hl.1 rfl (lv_room (Nat.le_of_ble_eq_true rfl)) dX10_copy_49 ⟨Nat.le_of_ble_eq_true rfl, Nat.le_of_ble_eq_true rfl⟩) hS (fun q _ h => hFc q h) hFc (fun r38 u t H1 locs ht hvm hw hB hz1 hk1 hS => ?_)
            have hr38 : r38 = -10 - 1 := hw
            obtain ⟨hP1, hK1, hD1⟩ := hB
            rw [ht] at hP1
            obtain ⟨hP, hD⟩ := va_join (wr := [cR10 cA zc, cSh zc js, cSc cA zc js, cSh zc jo, cSc cA zc jo]) (w1 := [(cs_X zc 0 0, .inr (10, [.ref (cs_X zc 0 1), .ref (cs_X zc 0 6), .ref (cs_X zc 0 7), .ref (cs_X zc 0 8), .ref (cs_X zc 0 9), .ref (cs_X zc 0 10), .ref (cs_X zc 0 11), .int (nI (cs_n zc 0)), .int (nI (cs_n zc 1)), .int (nI (cs_n zc 2)), .int (nI (cs_n zc 3)), va_rf (opN (cs_n zc 4) (fun _ => cs_X zc 5 0)), .int 1]))]) hP hD [0] [1, 2, 3, 4, 5] rfl rfl (by decide) (by decide) hk1 hFc hP1 hD1
            generalize H1 = H at hP hS ⊢
            have hP : va_P (dC, dI) vwCl [cR10 cA zc, cSh zc js, cSc cA zc js, cSh zc jo, cSc cA zc jo, (cs_X zc 0 0, .inr (10, [.ref (cs_X zc 0 1), .ref (cs_X zc 0 6), .ref (cs_X zc 0 7), .ref (cs_X zc 0 8), .ref (cs_X zc 0 9), .ref (cs_X zc 0 10), .ref (cs_X zc 0 11), .int (nI (cs_n zc 0)), .int (nI (cs_n zc 1)), .int (nI (cs_n zc 2)), .int (nI (cs_n zc 3)), va_rf (opN (cs_n zc 4) (fun _ => cs_X zc 5 0)), .int 1]))] H := hP
            have hD : va_D _ [cR10 cA zc, cSh zc js, cSc cA zc js, cSh zc jo, cSc cA zc jo, (cs_X zc 0 0, .inr (10, [.ref (cs_X zc 0 1), .ref (cs_X zc 0 6), .ref (cs_X zc 0 7), .ref (cs_X zc 0 8), .ref (cs_X zc 0 9), .ref (cs_X zc 0 10), .ref (cs_X zc 0 11), .int (nI (cs_n zc 0)), .int (nI (cs_n zc 1)), .int (nI (cs_n zc 2)), .int (nI (cs_n zc 3)), va_rf (opN (cs_n zc 4) (fun _ => cs_X zc 5 0)), .int 1]))] := hD
            have hr38 := hr38.symm
            subst hr38
            refine W.eq (g2 := F0 m 52 ls [.int (-10 - 1)]) rfl ?_
            subst hQ
            have hP9 : va_P (dC, dI) vwCl [(cs_X zc 0 0, .inr (10, [.ref (cs_X zc 0 1), .ref (cs_X zc 0 6), .ref (cs_X zc 0 7), .ref (cs_X zc 0 8), .ref (cs_X zc 0 9), .ref (cs_X zc 0 10), .ref (cs_X zc 0 11), .int (nI (cs_n zc 0)), .int (nI (cs_n zc 1)), .int (nI (cs_n zc 2)), .int (nI (cs_n zc 3)), va_rf (opN (cs_n zc 4) (fun _ => cs_X zc 5 0)), .int 1])), cR10 cA zc, cSh zc js, cSc cA zc js, cSh zc jo, cSc cA zc jo] H := hP.sub [5, 0, 1, 2, 3, 4] rfl
            have hD9 : va_D (va_A [cTP zc, cR10 cA zc, cSh zc js, cSc cA zc js, cSh zc jo, cSc cA zc jo] s.heap.size) [(cs_X zc 0 0, .inr (10, [.ref (cs_X zc 0 1), .ref (cs_X zc 0 6), .ref (cs_X zc 0 7), .ref (cs_X zc 0 8), .ref (cs_X zc 0 9), .ref (cs_X zc 0 10), .ref (cs_X zc 0 11), .int (nI (cs_n zc 0)), .int (nI (cs_n zc 1)), .int (nI (cs_n zc 2)), .int (nI (cs_n zc 3)), va_rf (opN (cs_n zc 4) (fun _ => cs_X zc 5 0)), .int 1])), cR10 cA zc, cSh zc js, cSc cA zc js, cSh zc jo, cSc cA zc jo] := hD.sub [5, 0, 1, 2, 3, 4] (by decide) rfl
            have hlf := lf_copy_14 cA zc ix jx n js jo hjs hjo hjj c26 c29 hI
            exact W.iret (v := -10 - 1) hx hb hr (fun t ht hW => have hJ := kjoin hPk hDk hks rfl (hS.F ht) (by rw [ht]; exact hP9) hD9 hlf.2.1 hlf.2.2; ⟨⟨-10 - 1, (va_up (cs_i zc) 2 1, cs_n zc, cs_I zc, cs_L zc, cs_N zc, cs_S zc, cs_X zc), rfl, ⟨⟨hlf.1, rfl⟩, (Or.inr (Or.inr (Or.inr (Or.inr (Or.inr (Or.inr (Or.inr (Or.inr (Or.inr (Or.inr (Or.inr (Or.inr (Or.inr (Or.inr ⟨js, rfl, hjs, jo, rfl, hjo, hjj, c26, c29, rfl, rfl⟩))))))))))))))⟩, hJ.1, va_K.moved hW.alike hKk, hJ.2.1⟩, hJ.2.2⟩) (fun q h => kAll_A hks _ (hS.2.2 q h)) dX10_copy_52
