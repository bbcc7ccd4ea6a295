def pC_chart (zc : CS) (k : Int32) (ln : Int32) (ix : Int32) (n : Int32) (sv : Int32) (r : Int32) (u : CS) : Prop :=
  ((∀ j, j < 4 → k ≠ nI j) ∧ r = ((-1)) ∧ u = (va_up (cs_i zc) 2 0, cs_n zc, cs_I zc, cs_L zc, cs_N zc, cs_S zc, cs_X zc)) ∨
  (∃ js : Nat, k = nI js ∧ (js < 4) ∧ (0 ≤ sv ∧ sv ≤ 47) ∧ (0 ≤ ln ∧ ln ≤ 2) ∧ ((cfault (cs_I zc 8 js) (cs_I zc 9 js) ln ix n sv) = 0) ∧ ∃ sa : Nat, n = nI 0 ∧ sv = nI sa ∧ (sa < 48) ∧ ∃ fl1_14 : Nat → Int32, ∃ fh1_15 : Nat → Int32, ∃ la1_16 : Int32, ∃ tl1_17 : Nat → Int32, ∃ th1_18 : Nat → Int32, ∃ r13 : Int32, ((tl1_17 = dnL (cs_i zc 0) (swL (cs_i zc 0) (cs_I zc 0) 48) 48 ∧ th1_18 = dnH (cs_i zc 0) (swH (cs_i zc 0) (cs_I zc 1) 48) 48) ∧ ((r13 = -3 ∧ (∃ j, j < 48 ∧ th1_18 j < tl1_17 j) ∧ fl1_14 = (cs_I zc 0) ∧ fh1_15 = (cs_I zc 1) ∧ la1_16 = (cs_i zc 0)) ∨ (r13 = nI (fa_cnt (chg (cs_I zc 0) (cs_I zc 1) tl1_17 th1_18) 48) ∧ (∀ j, j < 48 → ¬ th1_18 j < tl1_17 j) ∧ fl1_14 = tl1_17 ∧ fh1_15 = th1_18 ∧ la1_16 = (cs_i zc 0)))) ∧ r = (r13) ∧ u = (va_up (va_up (cs_i zc) 2 0) 0 la1_16, cs_n zc, va_up (va_up (va_up (va_up (cs_I zc) 0 fl1_14) 1 fh1_15) 2 tl1_17) 3 th1_18, cs_L zc, cs_N zc, cs_S zc, cs_X zc)) ∨
  (∃ js : Nat, k = nI js ∧ (js < 4) ∧ (0 ≤ sv ∧ sv ≤ 47) ∧ (0 ≤ ln ∧ ln ≤ 2) ∧ ((cfault (cs_I zc 8 js) (cs_I zc 9 js) ln ix n sv) = 0) ∧ ∃ nn : Nat, ∃ sa : Nat, n = nI nn ∧ sv = nI sa ∧ (sa + nn ≤ 48) ∧ (sa < 48) ∧ ∃ ia : Nat, ix = nI ia ∧ (ia + nn ≤ 48) ∧ (((ia + nn : Nat) : Int) ≤ (cs_I zc 9 js).toInt) ∧ (∀ c, c < nn → cs_S zc js (ia + c) ≤ 1000) ∧ ∃ al : Nat → Int32, ∃ ah : Nat → Int32, (al = chL (cs_S zc js) ia sa (cs_I zc 0) nn) ∧ (ah = chH (cs_S zc js) ia sa (cs_I zc 1) nn) ∧ ∃ fl1_24 : Nat → Int32, ∃ fh1_25 : Nat → Int32, ∃ la1_26 : Int32, ∃ tl1_27 : Nat → Int32, ∃ th1_28 : Nat → Int32, ∃ r23 : Int32, ((tl1_27 = dnL (cs_i zc 0) (swL (cs_i zc 0) al 48) 48 ∧ th1_28 = dnH (cs_i zc 0) (swH (cs_i zc 0) ah 48) 48) ∧ ((r23 = -3 ∧ (∃ j, j < 48 ∧ th1_28 j < tl1_27 j) ∧ fl1_24 = (cs_I zc 0) ∧ fh1_25 = (cs_I zc 1) ∧ la1_26 = (cs_i zc 0)) ∨ (r23 = nI (fa_cnt (chg (cs_I zc 0) (cs_I zc 1) tl1_27 th1_28) 48) ∧ (∀ j, j < 48 → ¬ th1_28 j < tl1_27 j) ∧ fl1_24 = tl1_27 ∧ fh1_25 = th1_28 ∧ la1_26 = (cs_i zc 0)))) ∧ r = (r23) ∧ u = (va_up (va_up (cs_i zc) 2 0) 0 la1_26, cs_n zc, va_up (va_up (va_up (va_up (cs_I zc) 0 fl1_24) 1 fh1_25) 2 tl1_27) 3 th1_28, cs_L zc, cs_N zc, cs_S zc, cs_X zc)) ∨
  (∃ js : Nat, k = nI js ∧ (js < 4) ∧ (0 ≤ sv ∧ sv ≤ 47) ∧ (0 ≤ ln ∧ ln ≤ 2) ∧ ((cfault (cs_I zc 8 js) (cs_I zc 9 js) ln ix n sv) = 0) ∧ ∃ nn : Nat, ∃ sa : Nat, n = nI nn ∧ sv = nI sa ∧ (sa + nn ≤ 48) ∧ (sa < 48) ∧ ∃ ia : Nat, ix = nI ia ∧ (ia + nn ≤ 48) ∧ (((ia + nn : Nat) : Int) ≤ (cs_I zc 9 js).toInt) ∧ (∃ c, c < nn ∧ 1000 < cs_S zc js (ia + c)) ∧ r = ((-2)) ∧ u = (va_up (cs_i zc) 2 0, cs_n zc, cs_I zc, cs_L zc, cs_N zc, cs_S zc, cs_X zc)) ∨
  (∃ js : Nat, k = nI js ∧ (js < 4) ∧ (0 ≤ sv ∧ sv ≤ 47) ∧ (0 ≤ ln ∧ ln ≤ 2) ∧ (¬ (cfault (cs_I zc 8 js) (cs_I zc 9 js) ln ix n sv) = 0) ∧ r = (-10 - (cfault (cs_I zc 8 js) (cs_I zc 9 js) ln ix n sv)) ∧ u = (va_up (cs_i zc) 2 (cfault (cs_I zc 8 js) (cs_I zc 9 js) ln ix n sv), cs_n zc, cs_I zc, cs_L zc, cs_N zc, cs_S zc, cs_X zc)) ∨
  (∃ js : Nat, k = nI js ∧ (js < 4) ∧ (0 ≤ sv ∧ sv ≤ 47) ∧ (¬ (0 ≤ ln ∧ ln ≤ 2)) ∧ r = ((-2)) ∧ u = (va_up (cs_i zc) 2 0, cs_n zc, cs_I zc, cs_L zc, cs_N zc, cs_S zc, cs_X zc)) ∨
  (∃ js : Nat, k = nI js ∧ (js < 4) ∧ (¬ (0 ≤ sv ∧ sv ≤ 47)) ∧ r = ((-1)) ∧ u = (va_up (cs_i zc) 2 0, cs_n zc, cs_I zc, cs_L zc, cs_N zc, cs_S zc, cs_X zc))
set_option maxHeartbeats 4000000 in
theorem lf_chart_0 (cA : Nat → ClassId) (zc : CS) (k : Int32) (ln : Int32) (ix : Int32) (n : Int32) (sv : Int32) (hnojs : ∀ j, j < 4 → k ≠ nI j) (hI : invC zc) : invC (va_up (cs_i zc) 2 0, cs_n zc, cs_I zc, cs_L zc, cs_N zc, cs_S zc, cs_X zc) ∧ kAll (cF cA (va_up (cs_i zc) 2 0, cs_n zc, cs_I zc, cs_L zc, cs_N zc, cs_S zc, cs_X zc)) [(0, 0), (0, 10)] [(cs_X zc 0 0, .inr (10, [.ref (cs_X zc 0 1), .ref (cs_X zc 0 6), .ref (cs_X zc 0 7), .ref (cs_X zc 0 8), .ref (cs_X zc 0 9), .ref (cs_X zc 0 10), .ref (cs_X zc 0 11), .int (nI (cs_n zc 0)), .int (nI (cs_n zc 1)), .int (nI (cs_n zc 2)), .int (nI (cs_n zc 3)), va_rf (opN (cs_n zc 4) (fun _ => cs_X zc 5 0)), .int 0])), cR10 cA zc] ∧ ∀ i j, (i, j) ∉ ([(0, 0), (0, 10)] : List (Nat × Nat)) → cF cA (va_up (cs_i zc) 2 0, cs_n zc, cs_I zc, cs_L zc, cs_N zc, cs_S zc, cs_X zc) i j = none ∨ ((i, j) ∉ ([(0, 0), (0, 10)] : List (Nat × Nat)) ∧ cF cA (va_up (cs_i zc) 2 0, cs_n zc, cs_I zc, cs_L zc, cs_N zc, cs_S zc, cs_X zc) i j = cF cA zc i j) := by
  obtain ⟨⟨hn0, hn1, hn2, hn3, hn4, hn5⟩, hpi, hgk, htk, hpk, hsh⟩ := id hI
  refine ⟨hI, ⟨(by (rw [(kF_tp (cA := cA) (z := (va_up (cs_i zc) 2 0, cs_n zc, cs_I zc, cs_L zc, cs_N zc, cs_S zc, cs_X zc)))]) <;> simp [cTP, cTPN, cTPA, cLo, cA2, cA3, cA4, cA5, cR6, cR7, cR8, cR9, cR10, cTr, cPi, cPiN, cPiT, cGa, cGaK, cTa, cPa, cAu, cAuN, cAuB, cSh, cSc, cs_i, cs_n, cs_I, cs_L, cs_N, cs_S, cs_X, va_up, upd, opN]), (by (rw [(kF_r10 (cA := cA) (z := (va_up (cs_i zc) 2 0, cs_n zc, cs_I zc, cs_L zc, cs_N zc, cs_S zc, cs_X zc)))]) <;> simp [cTP, cTPN, cTPA, cLo, cA2, cA3, cA4, cA5, cR6, cR7, cR8, cR9, cR10, cTr, cPi, cPiN, cPiT, cGa, cGaK, cTa, cPa, cAu, cAuN, cAuB, cSh, cSc, cs_i, cs_n, cs_I, cs_L, cs_N, cs_S, cs_X, va_up, upd, opN]), trivial⟩, ?_⟩
  intro i j hij
  refine Or.inr ⟨hij, ?_⟩
  rcases i with _ | _ | _ | _ | _ | _ | _ | _ | i
  · rcases j with _ | _ | _ | _ | _ | _ | _ | _ | _ | _ | _ | _ | j
    · exact absurd (by simp) hij
    · show some (cLo (va_up (cs_i zc) 2 0, cs_n zc, cs_I zc, cs_L zc, cs_N zc, cs_S zc, cs_X zc)) = some (cLo zc); simp [cLo, cs_i, cs_n, cs_I, cs_L, cs_N, cs_S, cs_X, va_up]
    · show some (cA2 cA (va_up (cs_i zc) 2 0, cs_n zc, cs_I zc, cs_L zc, cs_N zc, cs_S zc, cs_X zc)) = some (cA2 cA zc); simp [cA2, cs_i, cs_n, cs_I, cs_L, cs_N, cs_S, cs_X, va_up]
    · show some (cA3 cA (va_up (cs_i zc) 2 0, cs_n zc, cs_I zc, cs_L zc, cs_N zc, cs_S zc, cs_X zc)) = some (cA3 cA zc); simp [cA3, cs_i, cs_n, cs_I, cs_L, cs_N, cs_S, cs_X, va_up]
    · show some (cA4 cA (va_up (cs_i zc) 2 0, cs_n zc, cs_I zc, cs_L zc, cs_N zc, cs_S zc, cs_X zc)) = some (cA4 cA zc); simp [cA4, cs_i, cs_n, cs_I, cs_L, cs_N, cs_S, cs_X, va_up]
    · show some (cA5 cA (va_up (cs_i zc) 2 0, cs_n zc, cs_I zc, cs_L zc, cs_N zc, cs_S zc, cs_X zc)) = some (cA5 cA zc); simp [cA5, cs_i, cs_n, cs_I, cs_L, cs_N, cs_S, cs_X, va_up]
    · show some (cR6 cA (va_up (cs_i zc) 2 0, cs_n zc, cs_I zc, cs_L zc, cs_N zc, cs_S zc, cs_X zc)) = some (cR6 cA zc); simp [cR6, cs_i, cs_n, cs_I, cs_L, cs_N, cs_S, cs_X, va_up]
    · show some (cR7 cA (va_up (cs_i zc) 2 0, cs_n zc, cs_I zc, cs_L zc, cs_N zc, cs_S zc, cs_X zc)) = some (cR7 cA zc); simp [cR7, cs_i, cs_n, cs_I, cs_L, cs_N, cs_S, cs_X, va_up]
    · show some (cR8 cA (va_up (cs_i zc) 2 0, cs_n zc, cs_I zc, cs_L zc, cs_N zc, cs_S zc, cs_X zc)) = some (cR8 cA zc); simp [cR8, cs_i, cs_n, cs_I, cs_L, cs_N, cs_S, cs_X, va_up]
    · show some (cR9 cA (va_up (cs_i zc) 2 0, cs_n zc, cs_I zc, cs_L zc, cs_N zc, cs_S zc, cs_X zc)) = some (cR9 cA zc); simp [cR9, cs_i, cs_n, cs_I, cs_L, cs_N, cs_S, cs_X, va_up]
    · exact absurd (by simp) hij
    · show some (cTr (va_up (cs_i zc) 2 0, cs_n zc, cs_I zc, cs_L zc, cs_N zc, cs_S zc, cs_X zc)) = some (cTr zc); simp [cTr, cs_i, cs_n, cs_I, cs_L, cs_N, cs_S, cs_X, va_up]
    · show (none : Option (Nat × va_E)) = none; rfl
  · show (if j < cs_n (va_up (cs_i zc) 2 0, cs_n zc, cs_I zc, cs_L zc, cs_N zc, cs_S zc, cs_X zc) 0 then some (cPi (va_up (cs_i zc) 2 0, cs_n zc, cs_I zc, cs_L zc, cs_N zc, cs_S zc, cs_X zc) j) else none) = if j < cs_n zc 0 then some (cPi zc j) else none
    simp [cPi, cs_i, cs_n, cs_I, cs_L, cs_N, cs_S, cs_X, va_up]
  · show (if j < cs_n (va_up (cs_i zc) 2 0, cs_n zc, cs_I zc, cs_L zc, cs_N zc, cs_S zc, cs_X zc) 1 then some (cGa (va_up (cs_i zc) 2 0, cs_n zc, cs_I zc, cs_L zc, cs_N zc, cs_S zc, cs_X zc) j) else none) = if j < cs_n zc 1 then some (cGa zc j) else none
    simp [cGa, cs_i, cs_n, cs_I, cs_L, cs_N, cs_S, cs_X, va_up]
  · show (if j < cs_n (va_up (cs_i zc) 2 0, cs_n zc, cs_I zc, cs_L zc, cs_N zc, cs_S zc, cs_X zc) 2 then some (cTa (va_up (cs_i zc) 2 0, cs_n zc, cs_I zc, cs_L zc, cs_N zc, cs_S zc, cs_X zc) j) else none) = if j < cs_n zc 2 then some (cTa zc j) else none
    simp [cTa, cs_i, cs_n, cs_I, cs_L, cs_N, cs_S, cs_X, va_up]
  · show (if j < cs_n (va_up (cs_i zc) 2 0, cs_n zc, cs_I zc, cs_L zc, cs_N zc, cs_S zc, cs_X zc) 3 then some (cPa (va_up (cs_i zc) 2 0, cs_n zc, cs_I zc, cs_L zc, cs_N zc, cs_S zc, cs_X zc) j) else none) = if j < cs_n zc 3 then some (cPa zc j) else none
    simp [cPa, cs_i, cs_n, cs_I, cs_L, cs_N, cs_S, cs_X, va_up]
  · show (if j = 0 ∧ ¬ cs_n (va_up (cs_i zc) 2 0, cs_n zc, cs_I zc, cs_L zc, cs_N zc, cs_S zc, cs_X zc) 4 = 0 then some (cAu (va_up (cs_i zc) 2 0, cs_n zc, cs_I zc, cs_L zc, cs_N zc, cs_S zc, cs_X zc)) else none) = if j = 0 ∧ ¬ cs_n zc 4 = 0 then some (cAu zc) else none
    simp [cAu, cs_i, cs_n, cs_I, cs_L, cs_N, cs_S, cs_X, va_up]
  · show (if j < 4 then some (cSh (va_up (cs_i zc) 2 0, cs_n zc, cs_I zc, cs_L zc, cs_N zc, cs_S zc, cs_X zc) j) else none) = if j < 4 then some (cSh zc j) else none
    simp [cSh, cs_i, cs_n, cs_I, cs_L, cs_N, cs_S, cs_X, va_up]
  · show (if j < 4 then some (cSc cA (va_up (cs_i zc) 2 0, cs_n zc, cs_I zc, cs_L zc, cs_N zc, cs_S zc, cs_X zc) j) else none) = if j < 4 then some (cSc cA zc j) else none
    simp [cSc, cs_i, cs_n, cs_I, cs_L, cs_N, cs_S, cs_X, va_up]
  · show (none : Option (Nat × va_E)) = none; rfl
set_option maxHeartbeats 4000000 in
theorem lf_chart_1 (cA : Nat → ClassId) (zc : CS) (ln : Int32) (ix : Int32) (js : Nat) (sa : Nat) (fl1_14 : Nat → Int32) (fh1_15 : Nat → Int32) (la1_16 : Int32) (tl1_17 : Nat → Int32) (th1_18 : Nat → Int32) (r13 : Int32) (hjs : js < 4) (c4 : 0 ≤ (nI sa : Int32) ∧ (nI sa : Int32) ≤ 47) (c6 : 0 ≤ ln ∧ ln ≤ 2) (c8 : (cfault (cs_I zc 8 js) (cs_I zc 9 js) ln ix (nI 0 : Int32) (nI sa : Int32)) = 0) (hs48 : sa < 48) (hr13 : (tl1_17 = dnL (cs_i zc 0) (swL (cs_i zc 0) (cs_I zc 0) 48) 48 ∧ th1_18 = dnH (cs_i zc 0) (swH (cs_i zc 0) (cs_I zc 1) 48) 48) ∧ ((r13 = -3 ∧ (∃ j, j < 48 ∧ th1_18 j < tl1_17 j) ∧ fl1_14 = (cs_I zc 0) ∧ fh1_15 = (cs_I zc 1) ∧ la1_16 = (cs_i zc 0)) ∨ (r13 = nI (fa_cnt (chg (cs_I zc 0) (cs_I zc 1) tl1_17 th1_18) 48) ∧ (∀ j, j < 48 → ¬ th1_18 j < tl1_17 j) ∧ fl1_14 = tl1_17 ∧ fh1_15 = th1_18 ∧ la1_16 = (cs_i zc 0)))) (hI : invC zc) : invC (va_up (va_up (cs_i zc) 2 0) 0 la1_16, cs_n zc, va_up (va_up (va_up (va_up (cs_I zc) 0 fl1_14) 1 fh1_15) 2 tl1_17) 3 th1_18, cs_L zc, cs_N zc, cs_S zc, cs_X zc) ∧ kAll (cF cA (va_up (va_up (cs_i zc) 2 0) 0 la1_16, cs_n zc, va_up (va_up (va_up (va_up (cs_I zc) 0 fl1_14) 1 fh1_15) 2 tl1_17) 3 th1_18, cs_L zc, cs_N zc, cs_S zc, cs_X zc)) [(0, 0), (0, 10), (6, js), (7, js), (0, 1), (0, 2), (0, 3), (0, 4), (0, 5)] [(cs_X zc 0 0, .inr (10, [.ref (cs_X zc 0 1), .ref (cs_X zc 0 6), .ref (cs_X zc 0 7), .ref (cs_X zc 0 8), .ref (cs_X zc 0 9), .ref (cs_X zc 0 10), .ref (cs_X zc 0 11), .int (nI (cs_n zc 0)), .int (nI (cs_n zc 1)), .int (nI (cs_n zc 2)), .int (nI (cs_n zc 3)), va_rf (opN (cs_n zc 4) (fun _ => cs_X zc 5 0)), .int 0])), cR10 cA zc, cSh zc js, cSc cA zc js, (cs_X zc 0 1, .inr (3, [.ref (cs_X zc 0 2), .ref (cs_X zc 0 3), .ref (cs_X zc 0 4), .ref (cs_X zc 0 5), .int la1_16])), (cs_X zc 0 2, .inl (cA 0, 48, .inl fl1_14)), (cs_X zc 0 3, .inl (cA 0, 48, .inl fh1_15)), (cs_X zc 0 4, .inl (cA 0, 48, .inl tl1_17)), (cs_X zc 0 5, .inl (cA 0, 48, .inl th1_18))] ∧ ∀ i j, (i, j) ∉ ([(0, 0), (0, 10), (6, js), (7, js), (0, 1), (0, 2), (0, 3), (0, 4), (0, 5)] : List (Nat × Nat)) → cF cA (va_up (va_up (cs_i zc) 2 0) 0 la1_16, cs_n zc, va_up (va_up (va_up (va_up (cs_I zc) 0 fl1_14) 1 fh1_15) 2 tl1_17) 3 th1_18, cs_L zc, cs_N zc, cs_S zc, cs_X zc) i j = none ∨ ((i, j) ∉ ([(0, 0), (0, 10), (6, js), (7, js), (0, 1), (0, 2), (0, 3), (0, 4), (0, 5)] : List (Nat × Nat)) ∧ cF cA (va_up (va_up (cs_i zc) 2 0) 0 la1_16, cs_n zc, va_up (va_up (va_up (va_up (cs_I zc) 0 fl1_14) 1 fh1_15) 2 tl1_17) 3 th1_18, cs_L zc, cs_N zc, cs_S zc, cs_X zc) i j = cF cA zc i j) := by
  obtain ⟨⟨hn0, hn1, hn2, hn3, hn4, hn5⟩, hpi, hgk, htk, hpk, hsh⟩ := id hI
  refine ⟨hI, ⟨(by (rw [(kF_tp (cA := cA) (z := (va_up (va_up (cs_i zc) 2 0) 0 la1_16, cs_n zc, va_up (va_up (va_up (va_up (cs_I zc) 0 fl1_14) 1 fh1_15) 2 tl1_17) 3 th1_18, cs_L zc, cs_N zc, cs_S zc, cs_X zc)))]) <;> simp [cTP, cTPN, cTPA, cLo, cA2, cA3, cA4, cA5, cR6, cR7, cR8, cR9, cR10, cTr, cPi, cPiN, cPiT, cGa, cGaK, cTa, cPa, cAu, cAuN, cAuB, cSh, cSc, cs_i, cs_n, cs_I, cs_L, cs_N, cs_S, cs_X, va_up, upd, opN]), (by (rw [(kF_r10 (cA := cA) (z := (va_up (va_up (cs_i zc) 2 0) 0 la1_16, cs_n zc, va_up (va_up (va_up (va_up (cs_I zc) 0 fl1_14) 1 fh1_15) 2 tl1_17) 3 th1_18, cs_L zc, cs_N zc, cs_S zc, cs_X zc)))]) <;> simp [cTP, cTPN, cTPA, cLo, cA2, cA3, cA4, cA5, cR6, cR7, cR8, cR9, cR10, cTr, cPi, cPiN, cPiT, cGa, cGaK, cTa, cPa, cAu, cAuN, cAuB, cSh, cSc, cs_i, cs_n, cs_I, cs_L, cs_N, cs_S, cs_X, va_up, upd, opN]), (by (rw [(kF_sh (z := (va_up (va_up (cs_i zc) 2 0) 0 la1_16, cs_n zc, va_up (va_up (va_up (va_up (cs_I zc) 0 fl1_14) 1 fh1_15) 2 tl1_17) 3 th1_18, cs_L zc, cs_N zc, cs_S zc, cs_X zc)) hjs)]) <;> simp [cTP, cTPN, cTPA, cLo, cA2, cA3, cA4, cA5, cR6, cR7, cR8, cR9, cR10, cTr, cPi, cPiN, cPiT, cGa, cGaK, cTa, cPa, cAu, cAuN, cAuB, cSh, cSc, cs_i, cs_n, cs_I, cs_L, cs_N, cs_S, cs_X, va_up, upd, opN]), (by (rw [(kF_sc (z := (va_up (va_up (cs_i zc) 2 0) 0 la1_16, cs_n zc, va_up (va_up (va_up (va_up (cs_I zc) 0 fl1_14) 1 fh1_15) 2 tl1_17) 3 th1_18, cs_L zc, cs_N zc, cs_S zc, cs_X zc)) hjs)]) <;> simp [cTP, cTPN, cTPA, cLo, cA2, cA3, cA4, cA5, cR6, cR7, cR8, cR9, cR10, cTr, cPi, cPiN, cPiT, cGa, cGaK, cTa, cPa, cAu, cAuN, cAuB, cSh, cSc, cs_i, cs_n, cs_I, cs_L, cs_N, cs_S, cs_X, va_up, upd, opN]), (by (rw [(kF_lo (cA := cA) (z := (va_up (va_up (cs_i zc) 2 0) 0 la1_16, cs_n zc, va_up (va_up (va_up (va_up (cs_I zc) 0 fl1_14) 1 fh1_15) 2 tl1_17) 3 th1_18, cs_L zc, cs_N zc, cs_S zc, cs_X zc)))]) <;> simp [cTP, cTPN, cTPA, cLo, cA2, cA3, cA4, cA5, cR6, cR7, cR8, cR9, cR10, cTr, cPi, cPiN, cPiT, cGa, cGaK, cTa, cPa, cAu, cAuN, cAuB, cSh, cSc, cs_i, cs_n, cs_I, cs_L, cs_N, cs_S, cs_X, va_up, upd, opN]), (by (rw [(kF_a2 (cA := cA) (z := (va_up (va_up (cs_i zc) 2 0) 0 la1_16, cs_n zc, va_up (va_up (va_up (va_up (cs_I zc) 0 fl1_14) 1 fh1_15) 2 tl1_17) 3 th1_18, cs_L zc, cs_N zc, cs_S zc, cs_X zc)))]) <;> simp [cTP, cTPN, cTPA, cLo, cA2, cA3, cA4, cA5, cR6, cR7, cR8, cR9, cR10, cTr, cPi, cPiN, cPiT, cGa, cGaK, cTa, cPa, cAu, cAuN, cAuB, cSh, cSc, cs_i, cs_n, cs_I, cs_L, cs_N, cs_S, cs_X, va_up, upd, opN]), (by (rw [(kF_a3 (cA := cA) (z := (va_up (va_up (cs_i zc) 2 0) 0 la1_16, cs_n zc, va_up (va_up (va_up (va_up (cs_I zc) 0 fl1_14) 1 fh1_15) 2 tl1_17) 3 th1_18, cs_L zc, cs_N zc, cs_S zc, cs_X zc)))]) <;> simp [cTP, cTPN, cTPA, cLo, cA2, cA3, cA4, cA5, cR6, cR7, cR8, cR9, cR10, cTr, cPi, cPiN, cPiT, cGa, cGaK, cTa, cPa, cAu, cAuN, cAuB, cSh, cSc, cs_i, cs_n, cs_I, cs_L, cs_N, cs_S, cs_X, va_up, upd, opN]), (by (rw [(kF_a4 (cA := cA) (z := (va_up (va_up (cs_i zc) 2 0) 0 la1_16, cs_n zc, va_up (va_up (va_up (va_up (cs_I zc) 0 fl1_14) 1 fh1_15) 2 tl1_17) 3 th1_18, cs_L zc, cs_N zc, cs_S zc, cs_X zc)))]) <;> simp [cTP, cTPN, cTPA, cLo, cA2, cA3, cA4, cA5, cR6, cR7, cR8, cR9, cR10, cTr, cPi, cPiN, cPiT, cGa, cGaK, cTa, cPa, cAu, cAuN, cAuB, cSh, cSc, cs_i, cs_n, cs_I, cs_L, cs_N, cs_S, cs_X, va_up, upd, opN]), (by (rw [(kF_a5 (cA := cA) (z := (va_up (va_up (cs_i zc) 2 0) 0 la1_16, cs_n zc, va_up (va_up (va_up (va_up (cs_I zc) 0 fl1_14) 1 fh1_15) 2 tl1_17) 3 th1_18, cs_L zc, cs_N zc, cs_S zc, cs_X zc)))]) <;> simp [cTP, cTPN, cTPA, cLo, cA2, cA3, cA4, cA5, cR6, cR7, cR8, cR9, cR10, cTr, cPi, cPiN, cPiT, cGa, cGaK, cTa, cPa, cAu, cAuN, cAuB, cSh, cSc, cs_i, cs_n, cs_I, cs_L, cs_N, cs_S, cs_X, va_up, upd, opN]), trivial⟩, ?_⟩
  intro i j hij
  refine Or.inr ⟨hij, ?_⟩
  rcases i with _ | _ | _ | _ | _ | _ | _ | _ | i
  · rcases j with _ | _ | _ | _ | _ | _ | _ | _ | _ | _ | _ | _ | j
    · exact absurd (by simp) hij
    · exact absurd (by simp) hij
    · exact absurd (by simp) hij
    · exact absurd (by simp) hij
    · exact absurd (by simp) hij
    · exact absurd (by simp) hij
    · show some (cR6 cA (va_up (va_up (cs_i zc) 2 0) 0 la1_16, cs_n zc, va_up (va_up (va_up (va_up (cs_I zc) 0 fl1_14) 1 fh1_15) 2 tl1_17) 3 th1_18, cs_L zc, cs_N zc, cs_S zc, cs_X zc)) = some (cR6 cA zc); simp [cR6, cs_i, cs_n, cs_I, cs_L, cs_N, cs_S, cs_X, va_up]
    · show some (cR7 cA (va_up (va_up (cs_i zc) 2 0) 0 la1_16, cs_n zc, va_up (va_up (va_up (va_up (cs_I zc) 0 fl1_14) 1 fh1_15) 2 tl1_17) 3 th1_18, cs_L zc, cs_N zc, cs_S zc, cs_X zc)) = some (cR7 cA zc); simp [cR7, cs_i, cs_n, cs_I, cs_L, cs_N, cs_S, cs_X, va_up]
    · show some (cR8 cA (va_up (va_up (cs_i zc) 2 0) 0 la1_16, cs_n zc, va_up (va_up (va_up (va_up (cs_I zc) 0 fl1_14) 1 fh1_15) 2 tl1_17) 3 th1_18, cs_L zc, cs_N zc, cs_S zc, cs_X zc)) = some (cR8 cA zc); simp [cR8, cs_i, cs_n, cs_I, cs_L, cs_N, cs_S, cs_X, va_up]
    · show some (cR9 cA (va_up (va_up (cs_i zc) 2 0) 0 la1_16, cs_n zc, va_up (va_up (va_up (va_up (cs_I zc) 0 fl1_14) 1 fh1_15) 2 tl1_17) 3 th1_18, cs_L zc, cs_N zc, cs_S zc, cs_X zc)) = some (cR9 cA zc); simp [cR9, cs_i, cs_n, cs_I, cs_L, cs_N, cs_S, cs_X, va_up]
    · exact absurd (by simp) hij
    · show some (cTr (va_up (va_up (cs_i zc) 2 0) 0 la1_16, cs_n zc, va_up (va_up (va_up (va_up (cs_I zc) 0 fl1_14) 1 fh1_15) 2 tl1_17) 3 th1_18, cs_L zc, cs_N zc, cs_S zc, cs_X zc)) = some (cTr zc); simp [cTr, cs_i, cs_n, cs_I, cs_L, cs_N, cs_S, cs_X, va_up]
    · show (none : Option (Nat × va_E)) = none; rfl
  · show (if j < cs_n (va_up (va_up (cs_i zc) 2 0) 0 la1_16, cs_n zc, va_up (va_up (va_up (va_up (cs_I zc) 0 fl1_14) 1 fh1_15) 2 tl1_17) 3 th1_18, cs_L zc, cs_N zc, cs_S zc, cs_X zc) 0 then some (cPi (va_up (va_up (cs_i zc) 2 0) 0 la1_16, cs_n zc, va_up (va_up (va_up (va_up (cs_I zc) 0 fl1_14) 1 fh1_15) 2 tl1_17) 3 th1_18, cs_L zc, cs_N zc, cs_S zc, cs_X zc) j) else none) = if j < cs_n zc 0 then some (cPi zc j) else none
    simp [cPi, cs_i, cs_n, cs_I, cs_L, cs_N, cs_S, cs_X, va_up]
  · show (if j < cs_n (va_up (va_up (cs_i zc) 2 0) 0 la1_16, cs_n zc, va_up (va_up (va_up (va_up (cs_I zc) 0 fl1_14) 1 fh1_15) 2 tl1_17) 3 th1_18, cs_L zc, cs_N zc, cs_S zc, cs_X zc) 1 then some (cGa (va_up (va_up (cs_i zc) 2 0) 0 la1_16, cs_n zc, va_up (va_up (va_up (va_up (cs_I zc) 0 fl1_14) 1 fh1_15) 2 tl1_17) 3 th1_18, cs_L zc, cs_N zc, cs_S zc, cs_X zc) j) else none) = if j < cs_n zc 1 then some (cGa zc j) else none
    simp [cGa, cs_i, cs_n, cs_I, cs_L, cs_N, cs_S, cs_X, va_up]
  · show (if j < cs_n (va_up (va_up (cs_i zc) 2 0) 0 la1_16, cs_n zc, va_up (va_up (va_up (va_up (cs_I zc) 0 fl1_14) 1 fh1_15) 2 tl1_17) 3 th1_18, cs_L zc, cs_N zc, cs_S zc, cs_X zc) 2 then some (cTa (va_up (va_up (cs_i zc) 2 0) 0 la1_16, cs_n zc, va_up (va_up (va_up (va_up (cs_I zc) 0 fl1_14) 1 fh1_15) 2 tl1_17) 3 th1_18, cs_L zc, cs_N zc, cs_S zc, cs_X zc) j) else none) = if j < cs_n zc 2 then some (cTa zc j) else none
    simp [cTa, cs_i, cs_n, cs_I, cs_L, cs_N, cs_S, cs_X, va_up]
  · show (if j < cs_n (va_up (va_up (cs_i zc) 2 0) 0 la1_16, cs_n zc, va_up (va_up (va_up (va_up (cs_I zc) 0 fl1_14) 1 fh1_15) 2 tl1_17) 3 th1_18, cs_L zc, cs_N zc, cs_S zc, cs_X zc) 3 then some (cPa (va_up (va_up (cs_i zc) 2 0) 0 la1_16, cs_n zc, va_up (va_up (va_up (va_up (cs_I zc) 0 fl1_14) 1 fh1_15) 2 tl1_17) 3 th1_18, cs_L zc, cs_N zc, cs_S zc, cs_X zc) j) else none) = if j < cs_n zc 3 then some (cPa zc j) else none
    simp [cPa, cs_i, cs_n, cs_I, cs_L, cs_N, cs_S, cs_X, va_up]
  · show (if j = 0 ∧ ¬ cs_n (va_up (va_up (cs_i zc) 2 0) 0 la1_16, cs_n zc, va_up (va_up (va_up (va_up (cs_I zc) 0 fl1_14) 1 fh1_15) 2 tl1_17) 3 th1_18, cs_L zc, cs_N zc, cs_S zc, cs_X zc) 4 = 0 then some (cAu (va_up (va_up (cs_i zc) 2 0) 0 la1_16, cs_n zc, va_up (va_up (va_up (va_up (cs_I zc) 0 fl1_14) 1 fh1_15) 2 tl1_17) 3 th1_18, cs_L zc, cs_N zc, cs_S zc, cs_X zc)) else none) = if j = 0 ∧ ¬ cs_n zc 4 = 0 then some (cAu zc) else none
    simp [cAu, cs_i, cs_n, cs_I, cs_L, cs_N, cs_S, cs_X, va_up]
  · show (if j < 4 then some (cSh (va_up (va_up (cs_i zc) 2 0) 0 la1_16, cs_n zc, va_up (va_up (va_up (va_up (cs_I zc) 0 fl1_14) 1 fh1_15) 2 tl1_17) 3 th1_18, cs_L zc, cs_N zc, cs_S zc, cs_X zc) j) else none) = if j < 4 then some (cSh zc j) else none
    simp [cSh, cs_i, cs_n, cs_I, cs_L, cs_N, cs_S, cs_X, va_up]
  · show (if j < 4 then some (cSc cA (va_up (va_up (cs_i zc) 2 0) 0 la1_16, cs_n zc, va_up (va_up (va_up (va_up (cs_I zc) 0 fl1_14) 1 fh1_15) 2 tl1_17) 3 th1_18, cs_L zc, cs_N zc, cs_S zc, cs_X zc) j) else none) = if j < 4 then some (cSc cA zc j) else none
    simp [cSc, cs_i, cs_n, cs_I, cs_L, cs_N, cs_S, cs_X, va_up]
  · show (none : Option (Nat × va_E)) = none; rfl
set_option maxHeartbeats 4000000 in
theorem lf_chart_2 (cA : Nat → ClassId) (zc : CS) (ln : Int32) (js : Nat) (nn : Nat) (sa : Nat) (ia : Nat) (al : Nat → Int32) (ah : Nat → Int32) (fl1_24 : Nat → Int32) (fh1_25 : Nat → Int32) (la1_26 : Int32) (tl1_27 : Nat → Int32) (th1_28 : Nat → Int32) (r23 : Int32) (hjs : js < 4) (c4 : 0 ≤ (nI sa : Int32) ∧ (nI sa : Int32) ≤ 47) (c6 : 0 ≤ ln ∧ ln ≤ 2) (c8 : (cfault (cs_I zc 8 js) (cs_I zc 9 js) ln (nI ia : Int32) (nI nn : Int32) (nI sa : Int32)) = 0) (hsn : sa + nn ≤ 48) (hs48 : sa < 48) (hian : ia + nn ≤ 48) (hia2 : ((ia + nn : Nat) : Int) ≤ (cs_I zc 9 js).toInt) (habr19 : ∀ c, c < nn → cs_S zc js (ia + c) ≤ 1000) (hal : al = chL (cs_S zc js) ia sa (cs_I zc 0) nn) (hah : ah = chH (cs_S zc js) ia sa (cs_I zc 1) nn) (hr23 : (tl1_27 = dnL (cs_i zc 0) (swL (cs_i zc 0) al 48) 48 ∧ th1_28 = dnH (cs_i zc 0) (swH (cs_i zc 0) ah 48) 48) ∧ ((r23 = -3 ∧ (∃ j, j < 48 ∧ th1_28 j < tl1_27 j) ∧ fl1_24 = (cs_I zc 0) ∧ fh1_25 = (cs_I zc 1) ∧ la1_26 = (cs_i zc 0)) ∨ (r23 = nI (fa_cnt (chg (cs_I zc 0) (cs_I zc 1) tl1_27 th1_28) 48) ∧ (∀ j, j < 48 → ¬ th1_28 j < tl1_27 j) ∧ fl1_24 = tl1_27 ∧ fh1_25 = th1_28 ∧ la1_26 = (cs_i zc 0)))) (hI : invC zc) : invC (va_up (va_up (cs_i zc) 2 0) 0 la1_26, cs_n zc, va_up (va_up (va_up (va_up (cs_I zc) 0 fl1_24) 1 fh1_25) 2 tl1_27) 3 th1_28, cs_L zc, cs_N zc, cs_S zc, cs_X zc) ∧ kAll (cF cA (va_up (va_up (cs_i zc) 2 0) 0 la1_26, cs_n zc, va_up (va_up (va_up (va_up (cs_I zc) 0 fl1_24) 1 fh1_25) 2 tl1_27) 3 th1_28, cs_L zc, cs_N zc, cs_S zc, cs_X zc)) [(0, 0), (0, 10), (6, js), (7, js), (0, 1), (0, 2), (0, 3), (0, 4), (0, 5)] [(cs_X zc 0 0, .inr (10, [.ref (cs_X zc 0 1), .ref (cs_X zc 0 6), .ref (cs_X zc 0 7), .ref (cs_X zc 0 8), .ref (cs_X zc 0 9), .ref (cs_X zc 0 10), .ref (cs_X zc 0 11), .int (nI (cs_n zc 0)), .int (nI (cs_n zc 1)), .int (nI (cs_n zc 2)), .int (nI (cs_n zc 3)), va_rf (opN (cs_n zc 4) (fun _ => cs_X zc 5 0)), .int 0])), cR10 cA zc, cSh zc js, cSc cA zc js, (cs_X zc 0 1, .inr (3, [.ref (cs_X zc 0 2), .ref (cs_X zc 0 3), .ref (cs_X zc 0 4), .ref (cs_X zc 0 5), .int la1_26])), (cs_X zc 0 2, .inl (cA 0, 48, .inl fl1_24)), (cs_X zc 0 3, .inl (cA 0, 48, .inl fh1_25)), (cs_X zc 0 4, .inl (cA 0, 48, .inl tl1_27)), (cs_X zc 0 5, .inl (cA 0, 48, .inl th1_28))] ∧ ∀ i j, (i, j) ∉ ([(0, 0), (0, 10), (6, js), (7, js), (0, 1), (0, 2), (0, 3), (0, 4), (0, 5)] : List (Nat × Nat)) → cF cA (va_up (va_up (cs_i zc) 2 0) 0 la1_26, cs_n zc, va_up (va_up (va_up (va_up (cs_I zc) 0 fl1_24) 1 fh1_25) 2 tl1_27) 3 th1_28, cs_L zc, cs_N zc, cs_S zc, cs_X zc) i j = none ∨ ((i, j) ∉ ([(0, 0), (0, 10), (6, js), (7, js), (0, 1), (0, 2), (0, 3), (0, 4), (0, 5)] : List (Nat × Nat)) ∧ cF cA (va_up (va_up (cs_i zc) 2 0) 0 la1_26, cs_n zc, va_up (va_up (va_up (va_up (cs_I zc) 0 fl1_24) 1 fh1_25) 2 tl1_27) 3 th1_28, cs_L zc, cs_N zc, cs_S zc, cs_X zc) i j = cF cA zc i j) := by
  obtain ⟨⟨hn0, hn1, hn2, hn3, hn4, hn5⟩, hpi, hgk, htk, hpk, hsh⟩ := id hI
  refine ⟨hI, ⟨(by (rw [(kF_tp (cA := cA) (z := (va_up (va_up (cs_i zc) 2 0) 0 la1_26, cs_n zc, va_up (va_up (va_up (va_up (cs_I zc) 0 fl1_24) 1 fh1_25) 2 tl1_27) 3 th1_28, cs_L zc, cs_N zc, cs_S zc, cs_X zc)))]) <;> simp [cTP, cTPN, cTPA, cLo, cA2, cA3, cA4, cA5, cR6, cR7, cR8, cR9, cR10, cTr, cPi, cPiN, cPiT, cGa, cGaK, cTa, cPa, cAu, cAuN, cAuB, cSh, cSc, cs_i, cs_n, cs_I, cs_L, cs_N, cs_S, cs_X, va_up, upd, opN]), (by (rw [(kF_r10 (cA := cA) (z := (va_up (va_up (cs_i zc) 2 0) 0 la1_26, cs_n zc, va_up (va_up (va_up (va_up (cs_I zc) 0 fl1_24) 1 fh1_25) 2 tl1_27) 3 th1_28, cs_L zc, cs_N zc, cs_S zc, cs_X zc)))]) <;> simp [cTP, cTPN, cTPA, cLo, cA2, cA3, cA4, cA5, cR6, cR7, cR8, cR9, cR10, cTr, cPi, cPiN, cPiT, cGa, cGaK, cTa, cPa, cAu, cAuN, cAuB, cSh, cSc, cs_i, cs_n, cs_I, cs_L, cs_N, cs_S, cs_X, va_up, upd, opN]), (by (rw [(kF_sh (z := (va_up (va_up (cs_i zc) 2 0) 0 la1_26, cs_n zc, va_up (va_up (va_up (va_up (cs_I zc) 0 fl1_24) 1 fh1_25) 2 tl1_27) 3 th1_28, cs_L zc, cs_N zc, cs_S zc, cs_X zc)) hjs)]) <;> simp [cTP, cTPN, cTPA, cLo, cA2, cA3, cA4, cA5, cR6, cR7, cR8, cR9, cR10, cTr, cPi, cPiN, cPiT, cGa, cGaK, cTa, cPa, cAu, cAuN, cAuB, cSh, cSc, cs_i, cs_n, cs_I, cs_L, cs_N, cs_S, cs_X, va_up, upd, opN]), (by (rw [(kF_sc (z := (va_up (va_up (cs_i zc) 2 0) 0 la1_26, cs_n zc, va_up (va_up (va_up (va_up (cs_I zc) 0 fl1_24) 1 fh1_25) 2 tl1_27) 3 th1_28, cs_L zc, cs_N zc, cs_S zc, cs_X zc)) hjs)]) <;> simp [cTP, cTPN, cTPA, cLo, cA2, cA3, cA4, cA5, cR6, cR7, cR8, cR9, cR10, cTr, cPi, cPiN, cPiT, cGa, cGaK, cTa, cPa, cAu, cAuN, cAuB, cSh, cSc, cs_i, cs_n, cs_I, cs_L, cs_N, cs_S, cs_X, va_up, upd, opN]), (by (rw [(kF_lo (cA := cA) (z := (va_up (va_up (cs_i zc) 2 0) 0 la1_26, cs_n zc, va_up (va_up (va_up (va_up (cs_I zc) 0 fl1_24) 1 fh1_25) 2 tl1_27) 3 th1_28, cs_L zc, cs_N zc, cs_S zc, cs_X zc)))]) <;> simp [cTP, cTPN, cTPA, cLo, cA2, cA3, cA4, cA5, cR6, cR7, cR8, cR9, cR10, cTr, cPi, cPiN, cPiT, cGa, cGaK, cTa, cPa, cAu, cAuN, cAuB, cSh, cSc, cs_i, cs_n, cs_I, cs_L, cs_N, cs_S, cs_X, va_up, upd, opN]), (by (rw [(kF_a2 (cA := cA) (z := (va_up (va_up (cs_i zc) 2 0) 0 la1_26, cs_n zc, va_up (va_up (va_up (va_up (cs_I zc) 0 fl1_24) 1 fh1_25) 2 tl1_27) 3 th1_28, cs_L zc, cs_N zc, cs_S zc, cs_X zc)))]) <;> simp [cTP, cTPN, cTPA, cLo, cA2, cA3, cA4, cA5, cR6, cR7, cR8, cR9, cR10, cTr, cPi, cPiN, cPiT, cGa, cGaK, cTa, cPa, cAu, cAuN, cAuB, cSh, cSc, cs_i, cs_n, cs_I, cs_L, cs_N, cs_S, cs_X, va_up, upd, opN]), (by (rw [(kF_a3 (cA := cA) (z := (va_up (va_up (cs_i zc) 2 0) 0 la1_26, cs_n zc, va_up (va_up (va_up (va_up (cs_I zc) 0 fl1_24) 1 fh1_25) 2 tl1_27) 3 th1_28, cs_L zc, cs_N zc, cs_S zc, cs_X zc)))]) <;> simp [cTP, cTPN, cTPA, cLo, cA2, cA3, cA4, cA5, cR6, cR7, cR8, cR9, cR10, cTr, cPi, cPiN, cPiT, cGa, cGaK, cTa, cPa, cAu, cAuN, cAuB, cSh, cSc, cs_i, cs_n, cs_I, cs_L, cs_N, cs_S, cs_X, va_up, upd, opN]), (by (rw [(kF_a4 (cA := cA) (z := (va_up (va_up (cs_i zc) 2 0) 0 la1_26, cs_n zc, va_up (va_up (va_up (va_up (cs_I zc) 0 fl1_24) 1 fh1_25) 2 tl1_27) 3 th1_28, cs_L zc, cs_N zc, cs_S zc, cs_X zc)))]) <;> simp [cTP, cTPN, cTPA, cLo, cA2, cA3, cA4, cA5, cR6, cR7, cR8, cR9, cR10, cTr, cPi, cPiN, cPiT, cGa, cGaK, cTa, cPa, cAu, cAuN, cAuB, cSh, cSc, cs_i, cs_n, cs_I, cs_L, cs_N, cs_S, cs_X, va_up, upd, opN]), (by (rw [(kF_a5 (cA := cA) (z := (va_up (va_up (cs_i zc) 2 0) 0 la1_26, cs_n zc, va_up (va_up (va_up (va_up (cs_I zc) 0 fl1_24) 1 fh1_25) 2 tl1_27) 3 th1_28, cs_L zc, cs_N zc, cs_S zc, cs_X zc)))]) <;> simp [cTP, cTPN, cTPA, cLo, cA2, cA3, cA4, cA5, cR6, cR7, cR8, cR9, cR10, cTr, cPi, cPiN, cPiT, cGa, cGaK, cTa, cPa, cAu, cAuN, cAuB, cSh, cSc, cs_i, cs_n, cs_I, cs_L, cs_N, cs_S, cs_X, va_up, upd, opN]), trivial⟩, ?_⟩
  intro i j hij
  refine Or.inr ⟨hij, ?_⟩
  rcases i with _ | _ | _ | _ | _ | _ | _ | _ | i
  · rcases j with _ | _ | _ | _ | _ | _ | _ | _ | _ | _ | _ | _ | j
    · exact absurd (by simp) hij
    · exact absurd (by simp) hij
    · exact absurd (by simp) hij
    · exact absurd (by simp) hij
    · exact absurd (by simp) hij
    · exact absurd (by simp) hij
    · show some (cR6 cA (va_up (va_up (cs_i zc) 2 0) 0 la1_26, cs_n zc, va_up (va_up (va_up (va_up (cs_I zc) 0 fl1_24) 1 fh1_25) 2 tl1_27) 3 th1_28, cs_L zc, cs_N zc, cs_S zc, cs_X zc)) = some (cR6 cA zc); simp [cR6, cs_i, cs_n, cs_I, cs_L, cs_N, cs_S, cs_X, va_up]
    · show some (cR7 cA (va_up (va_up (cs_i zc) 2 0) 0 la1_26, cs_n zc, va_up (va_up (va_up (va_up (cs_I zc) 0 fl1_24) 1 fh1_25) 2 tl1_27) 3 th1_28, cs_L zc, cs_N zc, cs_S zc, cs_X zc)) = some (cR7 cA zc); simp [cR7, cs_i, cs_n, cs_I, cs_L, cs_N, cs_S, cs_X, va_up]
    · show some (cR8 cA (va_up (va_up (cs_i zc) 2 0) 0 la1_26, cs_n zc, va_up (va_up (va_up (va_up (cs_I zc) 0 fl1_24) 1 fh1_25) 2 tl1_27) 3 th1_28, cs_L zc, cs_N zc, cs_S zc, cs_X zc)) = some (cR8 cA zc); simp [cR8, cs_i, cs_n, cs_I, cs_L, cs_N, cs_S, cs_X, va_up]
    · show some (cR9 cA (va_up (va_up (cs_i zc) 2 0) 0 la1_26, cs_n zc, va_up (va_up (va_up (va_up (cs_I zc) 0 fl1_24) 1 fh1_25) 2 tl1_27) 3 th1_28, cs_L zc, cs_N zc, cs_S zc, cs_X zc)) = some (cR9 cA zc); simp [cR9, cs_i, cs_n, cs_I, cs_L, cs_N, cs_S, cs_X, va_up]
    · exact absurd (by simp) hij
    · show some (cTr (va_up (va_up (cs_i zc) 2 0) 0 la1_26, cs_n zc, va_up (va_up (va_up (va_up (cs_I zc) 0 fl1_24) 1 fh1_25) 2 tl1_27) 3 th1_28, cs_L zc, cs_N zc, cs_S zc, cs_X zc)) = some (cTr zc); simp [cTr, cs_i, cs_n, cs_I, cs_L, cs_N, cs_S, cs_X, va_up]
    · show (none : Option (Nat × va_E)) = none; rfl
  · show (if j < cs_n (va_up (va_up (cs_i zc) 2 0) 0 la1_26, cs_n zc, va_up (va_up (va_up (va_up (cs_I zc) 0 fl1_24) 1 fh1_25) 2 tl1_27) 3 th1_28, cs_L zc, cs_N zc, cs_S zc, cs_X zc) 0 then some (cPi (va_up (va_up (cs_i zc) 2 0) 0 la1_26, cs_n zc, va_up (va_up (va_up (va_up (cs_I zc) 0 fl1_24) 1 fh1_25) 2 tl1_27) 3 th1_28, cs_L zc, cs_N zc, cs_S zc, cs_X zc) j) else none) = if j < cs_n zc 0 then some (cPi zc j) else none
    simp [cPi, cs_i, cs_n, cs_I, cs_L, cs_N, cs_S, cs_X, va_up]
  · show (if j < cs_n (va_up (va_up (cs_i zc) 2 0) 0 la1_26, cs_n zc, va_up (va_up (va_up (va_up (cs_I zc) 0 fl1_24) 1 fh1_25) 2 tl1_27) 3 th1_28, cs_L zc, cs_N zc, cs_S zc, cs_X zc) 1 then some (cGa (va_up (va_up (cs_i zc) 2 0) 0 la1_26, cs_n zc, va_up (va_up (va_up (va_up (cs_I zc) 0 fl1_24) 1 fh1_25) 2 tl1_27) 3 th1_28, cs_L zc, cs_N zc, cs_S zc, cs_X zc) j) else none) = if j < cs_n zc 1 then some (cGa zc j) else none
    simp [cGa, cs_i, cs_n, cs_I, cs_L, cs_N, cs_S, cs_X, va_up]
  · show (if j < cs_n (va_up (va_up (cs_i zc) 2 0) 0 la1_26, cs_n zc, va_up (va_up (va_up (va_up (cs_I zc) 0 fl1_24) 1 fh1_25) 2 tl1_27) 3 th1_28, cs_L zc, cs_N zc, cs_S zc, cs_X zc) 2 then some (cTa (va_up (va_up (cs_i zc) 2 0) 0 la1_26, cs_n zc, va_up (va_up (va_up (va_up (cs_I zc) 0 fl1_24) 1 fh1_25) 2 tl1_27) 3 th1_28, cs_L zc, cs_N zc, cs_S zc, cs_X zc) j) else none) = if j < cs_n zc 2 then some (cTa zc j) else none
    simp [cTa, cs_i, cs_n, cs_I, cs_L, cs_N, cs_S, cs_X, va_up]
  · show (if j < cs_n (va_up (va_up (cs_i zc) 2 0) 0 la1_26, cs_n zc, va_up (va_up (va_up (va_up (cs_I zc) 0 fl1_24) 1 fh1_25) 2 tl1_27) 3 th1_28, cs_L zc, cs_N zc, cs_S zc, cs_X zc) 3 then some (cPa (va_up (va_up (cs_i zc) 2 0) 0 la1_26, cs_n zc, va_up (va_up (va_up (va_up (cs_I zc) 0 fl1_24) 1 fh1_25) 2 tl1_27) 3 th1_28, cs_L zc, cs_N zc, cs_S zc, cs_X zc) j) else none) = if j < cs_n zc 3 then some (cPa zc j) else none
    simp [cPa, cs_i, cs_n, cs_I, cs_L, cs_N, cs_S, cs_X, va_up]
  · show (if j = 0 ∧ ¬ cs_n (va_up (va_up (cs_i zc) 2 0) 0 la1_26, cs_n zc, va_up (va_up (va_up (va_up (cs_I zc) 0 fl1_24) 1 fh1_25) 2 tl1_27) 3 th1_28, cs_L zc, cs_N zc, cs_S zc, cs_X zc) 4 = 0 then some (cAu (va_up (va_up (cs_i zc) 2 0) 0 la1_26, cs_n zc, va_up (va_up (va_up (va_up (cs_I zc) 0 fl1_24) 1 fh1_25) 2 tl1_27) 3 th1_28, cs_L zc, cs_N zc, cs_S zc, cs_X zc)) else none) = if j = 0 ∧ ¬ cs_n zc 4 = 0 then some (cAu zc) else none
    simp [cAu, cs_i, cs_n, cs_I, cs_L, cs_N, cs_S, cs_X, va_up]
  · show (if j < 4 then some (cSh (va_up (va_up (cs_i zc) 2 0) 0 la1_26, cs_n zc, va_up (va_up (va_up (va_up (cs_I zc) 0 fl1_24) 1 fh1_25) 2 tl1_27) 3 th1_28, cs_L zc, cs_N zc, cs_S zc, cs_X zc) j) else none) = if j < 4 then some (cSh zc j) else none
    simp [cSh, cs_i, cs_n, cs_I, cs_L, cs_N, cs_S, cs_X, va_up]
  · show (if j < 4 then some (cSc cA (va_up (va_up (cs_i zc) 2 0) 0 la1_26, cs_n zc, va_up (va_up (va_up (va_up (cs_I zc) 0 fl1_24) 1 fh1_25) 2 tl1_27) 3 th1_28, cs_L zc, cs_N zc, cs_S zc, cs_X zc) j) else none) = if j < 4 then some (cSc cA zc j) else none
    simp [cSc, cs_i, cs_n, cs_I, cs_L, cs_N, cs_S, cs_X, va_up]
  · show (none : Option (Nat × va_E)) = none; rfl
set_option maxHeartbeats 4000000 in
theorem lf_chart_3 (cA : Nat → ClassId) (zc : CS) (ln : Int32) (js : Nat) (nn : Nat) (sa : Nat) (ia : Nat) (hjs : js < 4) (c4 : 0 ≤ (nI sa : Int32) ∧ (nI sa : Int32) ≤ 47) (c6 : 0 ≤ ln ∧ ln ≤ 2) (c8 : (cfault (cs_I zc 8 js) (cs_I zc 9 js) ln (nI ia : Int32) (nI nn : Int32) (nI sa : Int32)) = 0) (hsn : sa + nn ≤ 48) (hs48 : sa < 48) (hian : ia + nn ≤ 48) (hia2 : ((ia + nn : Nat) : Int) ≤ (cs_I zc 9 js).toInt) (habr19 : ∃ c, c < nn ∧ 1000 < cs_S zc js (ia + c)) (hI : invC zc) : invC (va_up (cs_i zc) 2 0, cs_n zc, cs_I zc, cs_L zc, cs_N zc, cs_S zc, cs_X zc) ∧ kAll (cF cA (va_up (cs_i zc) 2 0, cs_n zc, cs_I zc, cs_L zc, cs_N zc, cs_S zc, cs_X zc)) [(0, 0), (0, 10), (6, js), (7, js), (0, 1), (0, 2), (0, 3), (0, 4), (0, 5)] [(cs_X zc 0 0, .inr (10, [.ref (cs_X zc 0 1), .ref (cs_X zc 0 6), .ref (cs_X zc 0 7), .ref (cs_X zc 0 8), .ref (cs_X zc 0 9), .ref (cs_X zc 0 10), .ref (cs_X zc 0 11), .int (nI (cs_n zc 0)), .int (nI (cs_n zc 1)), .int (nI (cs_n zc 2)), .int (nI (cs_n zc 3)), va_rf (opN (cs_n zc 4) (fun _ => cs_X zc 5 0)), .int 0])), cR10 cA zc, cSh zc js, cSc cA zc js, cLo zc, cA2 cA zc, cA3 cA zc, cA4 cA zc, cA5 cA zc] ∧ ∀ i j, (i, j) ∉ ([(0, 0), (0, 10), (6, js), (7, js), (0, 1), (0, 2), (0, 3), (0, 4), (0, 5)] : List (Nat × Nat)) → cF cA (va_up (cs_i zc) 2 0, cs_n zc, cs_I zc, cs_L zc, cs_N zc, cs_S zc, cs_X zc) i j = none ∨ ((i, j) ∉ ([(0, 0), (0, 10), (6, js), (7, js), (0, 1), (0, 2), (0, 3), (0, 4), (0, 5)] : List (Nat × Nat)) ∧ cF cA (va_up (cs_i zc) 2 0, cs_n zc, cs_I zc, cs_L zc, cs_N zc, cs_S zc, cs_X zc) i j = cF cA zc i j) := by
  obtain ⟨⟨hn0, hn1, hn2, hn3, hn4, hn5⟩, hpi, hgk, htk, hpk, hsh⟩ := id hI
  refine ⟨hI, ⟨(by (rw [(kF_tp (cA := cA) (z := (va_up (cs_i zc) 2 0, cs_n zc, cs_I zc, cs_L zc, cs_N zc, cs_S zc, cs_X zc)))]) <;> simp [cTP, cTPN, cTPA, cLo, cA2, cA3, cA4, cA5, cR6, cR7, cR8, cR9, cR10, cTr, cPi, cPiN, cPiT, cGa, cGaK, cTa, cPa, cAu, cAuN, cAuB, cSh, cSc, cs_i, cs_n, cs_I, cs_L, cs_N, cs_S, cs_X, va_up, upd, opN]), (by (rw [(kF_r10 (cA := cA) (z := (va_up (cs_i zc) 2 0, cs_n zc, cs_I zc, cs_L zc, cs_N zc, cs_S zc, cs_X zc)))]) <;> simp [cTP, cTPN, cTPA, cLo, cA2, cA3, cA4, cA5, cR6, cR7, cR8, cR9, cR10, cTr, cPi, cPiN, cPiT, cGa, cGaK, cTa, cPa, cAu, cAuN, cAuB, cSh, cSc, cs_i, cs_n, cs_I, cs_L, cs_N, cs_S, cs_X, va_up, upd, opN]), (by (rw [(kF_sh (z := (va_up (cs_i zc) 2 0, cs_n zc, cs_I zc, cs_L zc, cs_N zc, cs_S zc, cs_X zc)) hjs)]) <;> simp [cTP, cTPN, cTPA, cLo, cA2, cA3, cA4, cA5, cR6, cR7, cR8, cR9, cR10, cTr, cPi, cPiN, cPiT, cGa, cGaK, cTa, cPa, cAu, cAuN, cAuB, cSh, cSc, cs_i, cs_n, cs_I, cs_L, cs_N, cs_S, cs_X, va_up, upd, opN]), (by (rw [(kF_sc (z := (va_up (cs_i zc) 2 0, cs_n zc, cs_I zc, cs_L zc, cs_N zc, cs_S zc, cs_X zc)) hjs)]) <;> simp [cTP, cTPN, cTPA, cLo, cA2, cA3, cA4, cA5, cR6, cR7, cR8, cR9, cR10, cTr, cPi, cPiN, cPiT, cGa, cGaK, cTa, cPa, cAu, cAuN, cAuB, cSh, cSc, cs_i, cs_n, cs_I, cs_L, cs_N, cs_S, cs_X, va_up, upd, opN]), (by (rw [(kF_lo (cA := cA) (z := (va_up (cs_i zc) 2 0, cs_n zc, cs_I zc, cs_L zc, cs_N zc, cs_S zc, cs_X zc)))]) <;> simp [cTP, cTPN, cTPA, cLo, cA2, cA3, cA4, cA5, cR6, cR7, cR8, cR9, cR10, cTr, cPi, cPiN, cPiT, cGa, cGaK, cTa, cPa, cAu, cAuN, cAuB, cSh, cSc, cs_i, cs_n, cs_I, cs_L, cs_N, cs_S, cs_X, va_up, upd, opN]), (by (rw [(kF_a2 (cA := cA) (z := (va_up (cs_i zc) 2 0, cs_n zc, cs_I zc, cs_L zc, cs_N zc, cs_S zc, cs_X zc)))]) <;> simp [cTP, cTPN, cTPA, cLo, cA2, cA3, cA4, cA5, cR6, cR7, cR8, cR9, cR10, cTr, cPi, cPiN, cPiT, cGa, cGaK, cTa, cPa, cAu, cAuN, cAuB, cSh, cSc, cs_i, cs_n, cs_I, cs_L, cs_N, cs_S, cs_X, va_up, upd, opN]), (by (rw [(kF_a3 (cA := cA) (z := (va_up (cs_i zc) 2 0, cs_n zc, cs_I zc, cs_L zc, cs_N zc, cs_S zc, cs_X zc)))]) <;> simp [cTP, cTPN, cTPA, cLo, cA2, cA3, cA4, cA5, cR6, cR7, cR8, cR9, cR10, cTr, cPi, cPiN, cPiT, cGa, cGaK, cTa, cPa, cAu, cAuN, cAuB, cSh, cSc, cs_i, cs_n, cs_I, cs_L, cs_N, cs_S, cs_X, va_up, upd, opN]), (by (rw [(kF_a4 (cA := cA) (z := (va_up (cs_i zc) 2 0, cs_n zc, cs_I zc, cs_L zc, cs_N zc, cs_S zc, cs_X zc)))]) <;> simp [cTP, cTPN, cTPA, cLo, cA2, cA3, cA4, cA5, cR6, cR7, cR8, cR9, cR10, cTr, cPi, cPiN, cPiT, cGa, cGaK, cTa, cPa, cAu, cAuN, cAuB, cSh, cSc, cs_i, cs_n, cs_I, cs_L, cs_N, cs_S, cs_X, va_up, upd, opN]), (by (rw [(kF_a5 (cA := cA) (z := (va_up (cs_i zc) 2 0, cs_n zc, cs_I zc, cs_L zc, cs_N zc, cs_S zc, cs_X zc)))]) <;> simp [cTP, cTPN, cTPA, cLo, cA2, cA3, cA4, cA5, cR6, cR7, cR8, cR9, cR10, cTr, cPi, cPiN, cPiT, cGa, cGaK, cTa, cPa, cAu, cAuN, cAuB, cSh, cSc, cs_i, cs_n, cs_I, cs_L, cs_N, cs_S, cs_X, va_up, upd, opN]), trivial⟩, ?_⟩
  intro i j hij
  refine Or.inr ⟨hij, ?_⟩
  rcases i with _ | _ | _ | _ | _ | _ | _ | _ | i
  · rcases j with _ | _ | _ | _ | _ | _ | _ | _ | _ | _ | _ | _ | j
    · exact absurd (by simp) hij
    · exact absurd (by simp) hij
    · exact absurd (by simp) hij
    · exact absurd (by simp) hij
    · exact absurd (by simp) hij
    · exact absurd (by simp) hij
    · show some (cR6 cA (va_up (cs_i zc) 2 0, cs_n zc, cs_I zc, cs_L zc, cs_N zc, cs_S zc, cs_X zc)) = some (cR6 cA zc); simp [cR6, cs_i, cs_n, cs_I, cs_L, cs_N, cs_S, cs_X, va_up]
    · show some (cR7 cA (va_up (cs_i zc) 2 0, cs_n zc, cs_I zc, cs_L zc, cs_N zc, cs_S zc, cs_X zc)) = some (cR7 cA zc); simp [cR7, cs_i, cs_n, cs_I, cs_L, cs_N, cs_S, cs_X, va_up]
    · show some (cR8 cA (va_up (cs_i zc) 2 0, cs_n zc, cs_I zc, cs_L zc, cs_N zc, cs_S zc, cs_X zc)) = some (cR8 cA zc); simp [cR8, cs_i, cs_n, cs_I, cs_L, cs_N, cs_S, cs_X, va_up]
    · show some (cR9 cA (va_up (cs_i zc) 2 0, cs_n zc, cs_I zc, cs_L zc, cs_N zc, cs_S zc, cs_X zc)) = some (cR9 cA zc); simp [cR9, cs_i, cs_n, cs_I, cs_L, cs_N, cs_S, cs_X, va_up]
    · exact absurd (by simp) hij
    · show some (cTr (va_up (cs_i zc) 2 0, cs_n zc, cs_I zc, cs_L zc, cs_N zc, cs_S zc, cs_X zc)) = some (cTr zc); simp [cTr, cs_i, cs_n, cs_I, cs_L, cs_N, cs_S, cs_X, va_up]
    · show (none : Option (Nat × va_E)) = none; rfl
  · show (if j < cs_n (va_up (cs_i zc) 2 0, cs_n zc, cs_I zc, cs_L zc, cs_N zc, cs_S zc, cs_X zc) 0 then some (cPi (va_up (cs_i zc) 2 0, cs_n zc, cs_I zc, cs_L zc, cs_N zc, cs_S zc, cs_X zc) j) else none) = if j < cs_n zc 0 then some (cPi zc j) else none
    simp [cPi, cs_i, cs_n, cs_I, cs_L, cs_N, cs_S, cs_X, va_up]
  · show (if j < cs_n (va_up (cs_i zc) 2 0, cs_n zc, cs_I zc, cs_L zc, cs_N zc, cs_S zc, cs_X zc) 1 then some (cGa (va_up (cs_i zc) 2 0, cs_n zc, cs_I zc, cs_L zc, cs_N zc, cs_S zc, cs_X zc) j) else none) = if j < cs_n zc 1 then some (cGa zc j) else none
    simp [cGa, cs_i, cs_n, cs_I, cs_L, cs_N, cs_S, cs_X, va_up]
  · show (if j < cs_n (va_up (cs_i zc) 2 0, cs_n zc, cs_I zc, cs_L zc, cs_N zc, cs_S zc, cs_X zc) 2 then some (cTa (va_up (cs_i zc) 2 0, cs_n zc, cs_I zc, cs_L zc, cs_N zc, cs_S zc, cs_X zc) j) else none) = if j < cs_n zc 2 then some (cTa zc j) else none
    simp [cTa, cs_i, cs_n, cs_I, cs_L, cs_N, cs_S, cs_X, va_up]
  · show (if j < cs_n (va_up (cs_i zc) 2 0, cs_n zc, cs_I zc, cs_L zc, cs_N zc, cs_S zc, cs_X zc) 3 then some (cPa (va_up (cs_i zc) 2 0, cs_n zc, cs_I zc, cs_L zc, cs_N zc, cs_S zc, cs_X zc) j) else none) = if j < cs_n zc 3 then some (cPa zc j) else none
    simp [cPa, cs_i, cs_n, cs_I, cs_L, cs_N, cs_S, cs_X, va_up]
  · show (if j = 0 ∧ ¬ cs_n (va_up (cs_i zc) 2 0, cs_n zc, cs_I zc, cs_L zc, cs_N zc, cs_S zc, cs_X zc) 4 = 0 then some (cAu (va_up (cs_i zc) 2 0, cs_n zc, cs_I zc, cs_L zc, cs_N zc, cs_S zc, cs_X zc)) else none) = if j = 0 ∧ ¬ cs_n zc 4 = 0 then some (cAu zc) else none
    simp [cAu, cs_i, cs_n, cs_I, cs_L, cs_N, cs_S, cs_X, va_up]
  · show (if j < 4 then some (cSh (va_up (cs_i zc) 2 0, cs_n zc, cs_I zc, cs_L zc, cs_N zc, cs_S zc, cs_X zc) j) else none) = if j < 4 then some (cSh zc j) else none
    simp [cSh, cs_i, cs_n, cs_I, cs_L, cs_N, cs_S, cs_X, va_up]
  · show (if j < 4 then some (cSc cA (va_up (cs_i zc) 2 0, cs_n zc, cs_I zc, cs_L zc, cs_N zc, cs_S zc, cs_X zc) j) else none) = if j < 4 then some (cSc cA zc j) else none
    simp [cSc, cs_i, cs_n, cs_I, cs_L, cs_N, cs_S, cs_X, va_up]
  · show (none : Option (Nat × va_E)) = none; rfl
set_option maxHeartbeats 4000000 in
theorem lf_chart_4 (cA : Nat → ClassId) (zc : CS) (ln : Int32) (ix : Int32) (n : Int32) (sv : Int32) (js : Nat) (hjs : js < 4) (c4 : 0 ≤ sv ∧ sv ≤ 47) (c6 : 0 ≤ ln ∧ ln ≤ 2) (c8 : ¬ (cfault (cs_I zc 8 js) (cs_I zc 9 js) ln ix n sv) = 0) (hI : invC zc) : invC (va_up (cs_i zc) 2 (cfault (cs_I zc 8 js) (cs_I zc 9 js) ln ix n sv), cs_n zc, cs_I zc, cs_L zc, cs_N zc, cs_S zc, cs_X zc) ∧ kAll (cF cA (va_up (cs_i zc) 2 (cfault (cs_I zc 8 js) (cs_I zc 9 js) ln ix n sv), cs_n zc, cs_I zc, cs_L zc, cs_N zc, cs_S zc, cs_X zc)) [(0, 0), (0, 10), (6, js), (7, js), (0, 1), (0, 2), (0, 3), (0, 4), (0, 5)] [(cs_X zc 0 0, .inr (10, [.ref (cs_X zc 0 1), .ref (cs_X zc 0 6), .ref (cs_X zc 0 7), .ref (cs_X zc 0 8), .ref (cs_X zc 0 9), .ref (cs_X zc 0 10), .ref (cs_X zc 0 11), .int (nI (cs_n zc 0)), .int (nI (cs_n zc 1)), .int (nI (cs_n zc 2)), .int (nI (cs_n zc 3)), va_rf (opN (cs_n zc 4) (fun _ => cs_X zc 5 0)), .int (cfault (cs_I zc 8 js) (cs_I zc 9 js) ln ix n sv)])), cR10 cA zc, cSh zc js, cSc cA zc js, cLo zc, cA2 cA zc, cA3 cA zc, cA4 cA zc, cA5 cA zc] ∧ ∀ i j, (i, j) ∉ ([(0, 0), (0, 10), (6, js), (7, js), (0, 1), (0, 2), (0, 3), (0, 4), (0, 5)] : List (Nat × Nat)) → cF cA (va_up (cs_i zc) 2 (cfault (cs_I zc 8 js) (cs_I zc 9 js) ln ix n sv), cs_n zc, cs_I zc, cs_L zc, cs_N zc, cs_S zc, cs_X zc) i j = none ∨ ((i, j) ∉ ([(0, 0), (0, 10), (6, js), (7, js), (0, 1), (0, 2), (0, 3), (0, 4), (0, 5)] : List (Nat × Nat)) ∧ cF cA (va_up (cs_i zc) 2 (cfault (cs_I zc 8 js) (cs_I zc 9 js) ln ix n sv), cs_n zc, cs_I zc, cs_L zc, cs_N zc, cs_S zc, cs_X zc) i j = cF cA zc i j) := by
  obtain ⟨⟨hn0, hn1, hn2, hn3, hn4, hn5⟩, hpi, hgk, htk, hpk, hsh⟩ := id hI
  refine ⟨hI, ⟨(by (rw [(kF_tp (cA := cA) (z := (va_up (cs_i zc) 2 (cfault (cs_I zc 8 js) (cs_I zc 9 js) ln ix n sv), cs_n zc, cs_I zc, cs_L zc, cs_N zc, cs_S zc, cs_X zc)))]) <;> simp [cTP, cTPN, cTPA, cLo, cA2, cA3, cA4, cA5, cR6, cR7, cR8, cR9, cR10, cTr, cPi, cPiN, cPiT, cGa, cGaK, cTa, cPa, cAu, cAuN, cAuB, cSh, cSc, cs_i, cs_n, cs_I, cs_L, cs_N, cs_S, cs_X, va_up, upd, opN]), (by (rw [(kF_r10 (cA := cA) (z := (va_up (cs_i zc) 2 (cfault (cs_I zc 8 js) (cs_I zc 9 js) ln ix n sv), cs_n zc, cs_I zc, cs_L zc, cs_N zc, cs_S zc, cs_X zc)))]) <;> simp [cTP, cTPN, cTPA, cLo, cA2, cA3, cA4, cA5, cR6, cR7, cR8, cR9, cR10, cTr, cPi, cPiN, cPiT, cGa, cGaK, cTa, cPa, cAu, cAuN, cAuB, cSh, cSc, cs_i, cs_n, cs_I, cs_L, cs_N, cs_S, cs_X, va_up, upd, opN]), (by (rw [(kF_sh (z := (va_up (cs_i zc) 2 (cfault (cs_I zc 8 js) (cs_I zc 9 js) ln ix n sv), cs_n zc, cs_I zc, cs_L zc, cs_N zc, cs_S zc, cs_X zc)) hjs)]) <;> simp [cTP, cTPN, cTPA, cLo, cA2, cA3, cA4, cA5, cR6, cR7, cR8, cR9, cR10, cTr, cPi, cPiN, cPiT, cGa, cGaK, cTa, cPa, cAu, cAuN, cAuB, cSh, cSc, cs_i, cs_n, cs_I, cs_L, cs_N, cs_S, cs_X, va_up, upd, opN]), (by (rw [(kF_sc (z := (va_up (cs_i zc) 2 (cfault (cs_I zc 8 js) (cs_I zc 9 js) ln ix n sv), cs_n zc, cs_I zc, cs_L zc, cs_N zc, cs_S zc, cs_X zc)) hjs)]) <;> simp [cTP, cTPN, cTPA, cLo, cA2, cA3, cA4, cA5, cR6, cR7, cR8, cR9, cR10, cTr, cPi, cPiN, cPiT, cGa, cGaK, cTa, cPa, cAu, cAuN, cAuB, cSh, cSc, cs_i, cs_n, cs_I, cs_L, cs_N, cs_S, cs_X, va_up, upd, opN]), (by (rw [(kF_lo (cA := cA) (z := (va_up (cs_i zc) 2 (cfault (cs_I zc 8 js) (cs_I zc 9 js) ln ix n sv), cs_n zc, cs_I zc, cs_L zc, cs_N zc, cs_S zc, cs_X zc)))]) <;> simp [cTP, cTPN, cTPA, cLo, cA2, cA3, cA4, cA5, cR6, cR7, cR8, cR9, cR10, cTr, cPi, cPiN, cPiT, cGa, cGaK, cTa, cPa, cAu, cAuN, cAuB, cSh, cSc, cs_i, cs_n, cs_I, cs_L, cs_N, cs_S, cs_X, va_up, upd, opN]), (by (rw [(kF_a2 (cA := cA) (z := (va_up (cs_i zc) 2 (cfault (cs_I zc 8 js) (cs_I zc 9 js) ln ix n sv), cs_n zc, cs_I zc, cs_L zc, cs_N zc, cs_S zc, cs_X zc)))]) <;> simp [cTP, cTPN, cTPA, cLo, cA2, cA3, cA4, cA5, cR6, cR7, cR8, cR9, cR10, cTr, cPi, cPiN, cPiT, cGa, cGaK, cTa, cPa, cAu, cAuN, cAuB, cSh, cSc, cs_i, cs_n, cs_I, cs_L, cs_N, cs_S, cs_X, va_up, upd, opN]), (by (rw [(kF_a3 (cA := cA) (z := (va_up (cs_i zc) 2 (cfault (cs_I zc 8 js) (cs_I zc 9 js) ln ix n sv), cs_n zc, cs_I zc, cs_L zc, cs_N zc, cs_S zc, cs_X zc)))]) <;> simp [cTP, cTPN, cTPA, cLo, cA2, cA3, cA4, cA5, cR6, cR7, cR8, cR9, cR10, cTr, cPi, cPiN, cPiT, cGa, cGaK, cTa, cPa, cAu, cAuN, cAuB, cSh, cSc, cs_i, cs_n, cs_I, cs_L, cs_N, cs_S, cs_X, va_up, upd, opN]), (by (rw [(kF_a4 (cA := cA) (z := (va_up (cs_i zc) 2 (cfault (cs_I zc 8 js) (cs_I zc 9 js) ln ix n sv), cs_n zc, cs_I zc, cs_L zc, cs_N zc, cs_S zc, cs_X zc)))]) <;> simp [cTP, cTPN, cTPA, cLo, cA2, cA3, cA4, cA5, cR6, cR7, cR8, cR9, cR10, cTr, cPi, cPiN, cPiT, cGa, cGaK, cTa, cPa, cAu, cAuN, cAuB, cSh, cSc, cs_i, cs_n, cs_I, cs_L, cs_N, cs_S, cs_X, va_up, upd, opN]), (by (rw [(kF_a5 (cA := cA) (z := (va_up (cs_i zc) 2 (cfault (cs_I zc 8 js) (cs_I zc 9 js) ln ix n sv), cs_n zc, cs_I zc, cs_L zc, cs_N zc, cs_S zc, cs_X zc)))]) <;> simp [cTP, cTPN, cTPA, cLo, cA2, cA3, cA4, cA5, cR6, cR7, cR8, cR9, cR10, cTr, cPi, cPiN, cPiT, cGa, cGaK, cTa, cPa, cAu, cAuN, cAuB, cSh, cSc, cs_i, cs_n, cs_I, cs_L, cs_N, cs_S, cs_X, va_up, upd, opN]), trivial⟩, ?_⟩
  intro i j hij
  refine Or.inr ⟨hij, ?_⟩
  rcases i with _ | _ | _ | _ | _ | _ | _ | _ | i
  · rcases j with _ | _ | _ | _ | _ | _ | _ | _ | _ | _ | _ | _ | j
    · exact absurd (by simp) hij
    · exact absurd (by simp) hij
    · exact absurd (by simp) hij
    · exact absurd (by simp) hij
    · exact absurd (by simp) hij
    · exact absurd (by simp) hij
    · show some (cR6 cA (va_up (cs_i zc) 2 (cfault (cs_I zc 8 js) (cs_I zc 9 js) ln ix n sv), cs_n zc, cs_I zc, cs_L zc, cs_N zc, cs_S zc, cs_X zc)) = some (cR6 cA zc); simp [cR6, cs_i, cs_n, cs_I, cs_L, cs_N, cs_S, cs_X, va_up]
    · show some (cR7 cA (va_up (cs_i zc) 2 (cfault (cs_I zc 8 js) (cs_I zc 9 js) ln ix n sv), cs_n zc, cs_I zc, cs_L zc, cs_N zc, cs_S zc, cs_X zc)) = some (cR7 cA zc); simp [cR7, cs_i, cs_n, cs_I, cs_L, cs_N, cs_S, cs_X, va_up]
    · show some (cR8 cA (va_up (cs_i zc) 2 (cfault (cs_I zc 8 js) (cs_I zc 9 js) ln ix n sv), cs_n zc, cs_I zc, cs_L zc, cs_N zc, cs_S zc, cs_X zc)) = some (cR8 cA zc); simp [cR8, cs_i, cs_n, cs_I, cs_L, cs_N, cs_S, cs_X, va_up]
    · show some (cR9 cA (va_up (cs_i zc) 2 (cfault (cs_I zc 8 js) (cs_I zc 9 js) ln ix n sv), cs_n zc, cs_I zc, cs_L zc, cs_N zc, cs_S zc, cs_X zc)) = some (cR9 cA zc); simp [cR9, cs_i, cs_n, cs_I, cs_L, cs_N, cs_S, cs_X, va_up]
    · exact absurd (by simp) hij
    · show some (cTr (va_up (cs_i zc) 2 (cfault (cs_I zc 8 js) (cs_I zc 9 js) ln ix n sv), cs_n zc, cs_I zc, cs_L zc, cs_N zc, cs_S zc, cs_X zc)) = some (cTr zc); simp [cTr, cs_i, cs_n, cs_I, cs_L, cs_N, cs_S, cs_X, va_up]
    · show (none : Option (Nat × va_E)) = none; rfl
  · show (if j < cs_n (va_up (cs_i zc) 2 (cfault (cs_I zc 8 js) (cs_I zc 9 js) ln ix n sv), cs_n zc, cs_I zc, cs_L zc, cs_N zc, cs_S zc, cs_X zc) 0 then some (cPi (va_up (cs_i zc) 2 (cfault (cs_I zc 8 js) (cs_I zc 9 js) ln ix n sv), cs_n zc, cs_I zc, cs_L zc, cs_N zc, cs_S zc, cs_X zc) j) else none) = if j < cs_n zc 0 then some (cPi zc j) else none
    simp [cPi, cs_i, cs_n, cs_I, cs_L, cs_N, cs_S, cs_X, va_up]
  · show (if j < cs_n (va_up (cs_i zc) 2 (cfault (cs_I zc 8 js) (cs_I zc 9 js) ln ix n sv), cs_n zc, cs_I zc, cs_L zc, cs_N zc, cs_S zc, cs_X zc) 1 then some (cGa (va_up (cs_i zc) 2 (cfault (cs_I zc 8 js) (cs_I zc 9 js) ln ix n sv), cs_n zc, cs_I zc, cs_L zc, cs_N zc, cs_S zc, cs_X zc) j) else none) = if j < cs_n zc 1 then some (cGa zc j) else none
    simp [cGa, cs_i, cs_n, cs_I, cs_L, cs_N, cs_S, cs_X, va_up]
  · show (if j < cs_n (va_up (cs_i zc) 2 (cfault (cs_I zc 8 js) (cs_I zc 9 js) ln ix n sv), cs_n zc, cs_I zc, cs_L zc, cs_N zc, cs_S zc, cs_X zc) 2 then some (cTa (va_up (cs_i zc) 2 (cfault (cs_I zc 8 js) (cs_I zc 9 js) ln ix n sv), cs_n zc, cs_I zc, cs_L zc, cs_N zc, cs_S zc, cs_X zc) j) else none) = if j < cs_n zc 2 then some (cTa zc j) else none
    simp [cTa, cs_i, cs_n, cs_I, cs_L, cs_N, cs_S, cs_X, va_up]
  · show (if j < cs_n (va_up (cs_i zc) 2 (cfault (cs_I zc 8 js) (cs_I zc 9 js) ln ix n sv), cs_n zc, cs_I zc, cs_L zc, cs_N zc, cs_S zc, cs_X zc) 3 then some (cPa (va_up (cs_i zc) 2 (cfault (cs_I zc 8 js) (cs_I zc 9 js) ln ix n sv), cs_n zc, cs_I zc, cs_L zc, cs_N zc, cs_S zc, cs_X zc) j) else none) = if j < cs_n zc 3 then some (cPa zc j) else none
    simp [cPa, cs_i, cs_n, cs_I, cs_L, cs_N, cs_S, cs_X, va_up]
  · show (if j = 0 ∧ ¬ cs_n (va_up (cs_i zc) 2 (cfault (cs_I zc 8 js) (cs_I zc 9 js) ln ix n sv), cs_n zc, cs_I zc, cs_L zc, cs_N zc, cs_S zc, cs_X zc) 4 = 0 then some (cAu (va_up (cs_i zc) 2 (cfault (cs_I zc 8 js) (cs_I zc 9 js) ln ix n sv), cs_n zc, cs_I zc, cs_L zc, cs_N zc, cs_S zc, cs_X zc)) else none) = if j = 0 ∧ ¬ cs_n zc 4 = 0 then some (cAu zc) else none
    simp [cAu, cs_i, cs_n, cs_I, cs_L, cs_N, cs_S, cs_X, va_up]
  · show (if j < 4 then some (cSh (va_up (cs_i zc) 2 (cfault (cs_I zc 8 js) (cs_I zc 9 js) ln ix n sv), cs_n zc, cs_I zc, cs_L zc, cs_N zc, cs_S zc, cs_X zc) j) else none) = if j < 4 then some (cSh zc j) else none
    simp [cSh, cs_i, cs_n, cs_I, cs_L, cs_N, cs_S, cs_X, va_up]
  · show (if j < 4 then some (cSc cA (va_up (cs_i zc) 2 (cfault (cs_I zc 8 js) (cs_I zc 9 js) ln ix n sv), cs_n zc, cs_I zc, cs_L zc, cs_N zc, cs_S zc, cs_X zc) j) else none) = if j < 4 then some (cSc cA zc j) else none
    simp [cSc, cs_i, cs_n, cs_I, cs_L, cs_N, cs_S, cs_X, va_up]
  · show (none : Option (Nat × va_E)) = none; rfl
set_option maxHeartbeats 4000000 in
theorem lf_chart_5 (cA : Nat → ClassId) (zc : CS) (ln : Int32) (ix : Int32) (n : Int32) (sv : Int32) (js : Nat) (hjs : js < 4) (c4 : 0 ≤ sv ∧ sv ≤ 47) (c6 : ¬ (0 ≤ ln ∧ ln ≤ 2)) (hI : invC zc) : invC (va_up (cs_i zc) 2 0, cs_n zc, cs_I zc, cs_L zc, cs_N zc, cs_S zc, cs_X zc) ∧ kAll (cF cA (va_up (cs_i zc) 2 0, cs_n zc, cs_I zc, cs_L zc, cs_N zc, cs_S zc, cs_X zc)) [(0, 0), (0, 10), (6, js), (7, js), (0, 1), (0, 2), (0, 3), (0, 4), (0, 5)] [(cs_X zc 0 0, .inr (10, [.ref (cs_X zc 0 1), .ref (cs_X zc 0 6), .ref (cs_X zc 0 7), .ref (cs_X zc 0 8), .ref (cs_X zc 0 9), .ref (cs_X zc 0 10), .ref (cs_X zc 0 11), .int (nI (cs_n zc 0)), .int (nI (cs_n zc 1)), .int (nI (cs_n zc 2)), .int (nI (cs_n zc 3)), va_rf (opN (cs_n zc 4) (fun _ => cs_X zc 5 0)), .int 0])), cR10 cA zc, cSh zc js, cSc cA zc js, cLo zc, cA2 cA zc, cA3 cA zc, cA4 cA zc, cA5 cA zc] ∧ ∀ i j, (i, j) ∉ ([(0, 0), (0, 10), (6, js), (7, js), (0, 1), (0, 2), (0, 3), (0, 4), (0, 5)] : List (Nat × Nat)) → cF cA (va_up (cs_i zc) 2 0, cs_n zc, cs_I zc, cs_L zc, cs_N zc, cs_S zc, cs_X zc) i j = none ∨ ((i, j) ∉ ([(0, 0), (0, 10), (6, js), (7, js), (0, 1), (0, 2), (0, 3), (0, 4), (0, 5)] : List (Nat × Nat)) ∧ cF cA (va_up (cs_i zc) 2 0, cs_n zc, cs_I zc, cs_L zc, cs_N zc, cs_S zc, cs_X zc) i j = cF cA zc i j) := by
  obtain ⟨⟨hn0, hn1, hn2, hn3, hn4, hn5⟩, hpi, hgk, htk, hpk, hsh⟩ := id hI
  refine ⟨hI, ⟨(by (rw [(kF_tp (cA := cA) (z := (va_up (cs_i zc) 2 0, cs_n zc, cs_I zc, cs_L zc, cs_N zc, cs_S zc, cs_X zc)))]) <;> simp [cTP, cTPN, cTPA, cLo, cA2, cA3, cA4, cA5, cR6, cR7, cR8, cR9, cR10, cTr, cPi, cPiN, cPiT, cGa, cGaK, cTa, cPa, cAu, cAuN, cAuB, cSh, cSc, cs_i, cs_n, cs_I, cs_L, cs_N, cs_S, cs_X, va_up, upd, opN]), (by (rw [(kF_r10 (cA := cA) (z := (va_up (cs_i zc) 2 0, cs_n zc, cs_I zc, cs_L zc, cs_N zc, cs_S zc, cs_X zc)))]) <;> simp [cTP, cTPN, cTPA, cLo, cA2, cA3, cA4, cA5, cR6, cR7, cR8, cR9, cR10, cTr, cPi, cPiN, cPiT, cGa, cGaK, cTa, cPa, cAu, cAuN, cAuB, cSh, cSc, cs_i, cs_n, cs_I, cs_L, cs_N, cs_S, cs_X, va_up, upd, opN]), (by (rw [(kF_sh (z := (va_up (cs_i zc) 2 0, cs_n zc, cs_I zc, cs_L zc, cs_N zc, cs_S zc, cs_X zc)) hjs)]) <;> simp [cTP, cTPN, cTPA, cLo, cA2, cA3, cA4, cA5, cR6, cR7, cR8, cR9, cR10, cTr, cPi, cPiN, cPiT, cGa, cGaK, cTa, cPa, cAu, cAuN, cAuB, cSh, cSc, cs_i, cs_n, cs_I, cs_L, cs_N, cs_S, cs_X, va_up, upd, opN]), (by (rw [(kF_sc (z := (va_up (cs_i zc) 2 0, cs_n zc, cs_I zc, cs_L zc, cs_N zc, cs_S zc, cs_X zc)) hjs)]) <;> simp [cTP, cTPN, cTPA, cLo, cA2, cA3, cA4, cA5, cR6, cR7, cR8, cR9, cR10, cTr, cPi, cPiN, cPiT, cGa, cGaK, cTa, cPa, cAu, cAuN, cAuB, cSh, cSc, cs_i, cs_n, cs_I, cs_L, cs_N, cs_S, cs_X, va_up, upd, opN]), (by (rw [(kF_lo (cA := cA) (z := (va_up (cs_i zc) 2 0, cs_n zc, cs_I zc, cs_L zc, cs_N zc, cs_S zc, cs_X zc)))]) <;> simp [cTP, cTPN, cTPA, cLo, cA2, cA3, cA4, cA5, cR6, cR7, cR8, cR9, cR10, cTr, cPi, cPiN, cPiT, cGa, cGaK, cTa, cPa, cAu, cAuN, cAuB, cSh, cSc, cs_i, cs_n, cs_I, cs_L, cs_N, cs_S, cs_X, va_up, upd, opN]), (by (rw [(kF_a2 (cA := cA) (z := (va_up (cs_i zc) 2 0, cs_n zc, cs_I zc, cs_L zc, cs_N zc, cs_S zc, cs_X zc)))]) <;> simp [cTP, cTPN, cTPA, cLo, cA2, cA3, cA4, cA5, cR6, cR7, cR8, cR9, cR10, cTr, cPi, cPiN, cPiT, cGa, cGaK, cTa, cPa, cAu, cAuN, cAuB, cSh, cSc, cs_i, cs_n, cs_I, cs_L, cs_N, cs_S, cs_X, va_up, upd, opN]), (by (rw [(kF_a3 (cA := cA) (z := (va_up (cs_i zc) 2 0, cs_n zc, cs_I zc, cs_L zc, cs_N zc, cs_S zc, cs_X zc)))]) <;> simp [cTP, cTPN, cTPA, cLo, cA2, cA3, cA4, cA5, cR6, cR7, cR8, cR9, cR10, cTr, cPi, cPiN, cPiT, cGa, cGaK, cTa, cPa, cAu, cAuN, cAuB, cSh, cSc, cs_i, cs_n, cs_I, cs_L, cs_N, cs_S, cs_X, va_up, upd, opN]), (by (rw [(kF_a4 (cA := cA) (z := (va_up (cs_i zc) 2 0, cs_n zc, cs_I zc, cs_L zc, cs_N zc, cs_S zc, cs_X zc)))]) <;> simp [cTP, cTPN, cTPA, cLo, cA2, cA3, cA4, cA5, cR6, cR7, cR8, cR9, cR10, cTr, cPi, cPiN, cPiT, cGa, cGaK, cTa, cPa, cAu, cAuN, cAuB, cSh, cSc, cs_i, cs_n, cs_I, cs_L, cs_N, cs_S, cs_X, va_up, upd, opN]), (by (rw [(kF_a5 (cA := cA) (z := (va_up (cs_i zc) 2 0, cs_n zc, cs_I zc, cs_L zc, cs_N zc, cs_S zc, cs_X zc)))]) <;> simp [cTP, cTPN, cTPA, cLo, cA2, cA3, cA4, cA5, cR6, cR7, cR8, cR9, cR10, cTr, cPi, cPiN, cPiT, cGa, cGaK, cTa, cPa, cAu, cAuN, cAuB, cSh, cSc, cs_i, cs_n, cs_I, cs_L, cs_N, cs_S, cs_X, va_up, upd, opN]), trivial⟩, ?_⟩
  intro i j hij
  refine Or.inr ⟨hij, ?_⟩
  rcases i with _ | _ | _ | _ | _ | _ | _ | _ | i
  · rcases j with _ | _ | _ | _ | _ | _ | _ | _ | _ | _ | _ | _ | j
    · exact absurd (by simp) hij
    · exact absurd (by simp) hij
    · exact absurd (by simp) hij
    · exact absurd (by simp) hij
    · exact absurd (by simp) hij
    · exact absurd (by simp) hij
    · show some (cR6 cA (va_up (cs_i zc) 2 0, cs_n zc, cs_I zc, cs_L zc, cs_N zc, cs_S zc, cs_X zc)) = some (cR6 cA zc); simp [cR6, cs_i, cs_n, cs_I, cs_L, cs_N, cs_S, cs_X, va_up]
    · show some (cR7 cA (va_up (cs_i zc) 2 0, cs_n zc, cs_I zc, cs_L zc, cs_N zc, cs_S zc, cs_X zc)) = some (cR7 cA zc); simp [cR7, cs_i, cs_n, cs_I, cs_L, cs_N, cs_S, cs_X, va_up]
    · show some (cR8 cA (va_up (cs_i zc) 2 0, cs_n zc, cs_I zc, cs_L zc, cs_N zc, cs_S zc, cs_X zc)) = some (cR8 cA zc); simp [cR8, cs_i, cs_n, cs_I, cs_L, cs_N, cs_S, cs_X, va_up]
    · show some (cR9 cA (va_up (cs_i zc) 2 0, cs_n zc, cs_I zc, cs_L zc, cs_N zc, cs_S zc, cs_X zc)) = some (cR9 cA zc); simp [cR9, cs_i, cs_n, cs_I, cs_L, cs_N, cs_S, cs_X, va_up]
    · exact absurd (by simp) hij
    · show some (cTr (va_up (cs_i zc) 2 0, cs_n zc, cs_I zc, cs_L zc, cs_N zc, cs_S zc, cs_X zc)) = some (cTr zc); simp [cTr, cs_i, cs_n, cs_I, cs_L, cs_N, cs_S, cs_X, va_up]
    · show (none : Option (Nat × va_E)) = none; rfl
  · show (if j < cs_n (va_up (cs_i zc) 2 0, cs_n zc, cs_I zc, cs_L zc, cs_N zc, cs_S zc, cs_X zc) 0 then some (cPi (va_up (cs_i zc) 2 0, cs_n zc, cs_I zc, cs_L zc, cs_N zc, cs_S zc, cs_X zc) j) else none) = if j < cs_n zc 0 then some (cPi zc j) else none
    simp [cPi, cs_i, cs_n, cs_I, cs_L, cs_N, cs_S, cs_X, va_up]
  · show (if j < cs_n (va_up (cs_i zc) 2 0, cs_n zc, cs_I zc, cs_L zc, cs_N zc, cs_S zc, cs_X zc) 1 then some (cGa (va_up (cs_i zc) 2 0, cs_n zc, cs_I zc, cs_L zc, cs_N zc, cs_S zc, cs_X zc) j) else none) = if j < cs_n zc 1 then some (cGa zc j) else none
    simp [cGa, cs_i, cs_n, cs_I, cs_L, cs_N, cs_S, cs_X, va_up]
  · show (if j < cs_n (va_up (cs_i zc) 2 0, cs_n zc, cs_I zc, cs_L zc, cs_N zc, cs_S zc, cs_X zc) 2 then some (cTa (va_up (cs_i zc) 2 0, cs_n zc, cs_I zc, cs_L zc, cs_N zc, cs_S zc, cs_X zc) j) else none) = if j < cs_n zc 2 then some (cTa zc j) else none
    simp [cTa, cs_i, cs_n, cs_I, cs_L, cs_N, cs_S, cs_X, va_up]
  · show (if j < cs_n (va_up (cs_i zc) 2 0, cs_n zc, cs_I zc, cs_L zc, cs_N zc, cs_S zc, cs_X zc) 3 then some (cPa (va_up (cs_i zc) 2 0, cs_n zc, cs_I zc, cs_L zc, cs_N zc, cs_S zc, cs_X zc) j) else none) = if j < cs_n zc 3 then some (cPa zc j) else none
    simp [cPa, cs_i, cs_n, cs_I, cs_L, cs_N, cs_S, cs_X, va_up]
  · show (if j = 0 ∧ ¬ cs_n (va_up (cs_i zc) 2 0, cs_n zc, cs_I zc, cs_L zc, cs_N zc, cs_S zc, cs_X zc) 4 = 0 then some (cAu (va_up (cs_i zc) 2 0, cs_n zc, cs_I zc, cs_L zc, cs_N zc, cs_S zc, cs_X zc)) else none) = if j = 0 ∧ ¬ cs_n zc 4 = 0 then some (cAu zc) else none
    simp [cAu, cs_i, cs_n, cs_I, cs_L, cs_N, cs_S, cs_X, va_up]
  · show (if j < 4 then some (cSh (va_up (cs_i zc) 2 0, cs_n zc, cs_I zc, cs_L zc, cs_N zc, cs_S zc, cs_X zc) j) else none) = if j < 4 then some (cSh zc j) else none
    simp [cSh, cs_i, cs_n, cs_I, cs_L, cs_N, cs_S, cs_X, va_up]
  · show (if j < 4 then some (cSc cA (va_up (cs_i zc) 2 0, cs_n zc, cs_I zc, cs_L zc, cs_N zc, cs_S zc, cs_X zc) j) else none) = if j < 4 then some (cSc cA zc j) else none
    simp [cSc, cs_i, cs_n, cs_I, cs_L, cs_N, cs_S, cs_X, va_up]
  · show (none : Option (Nat × va_E)) = none; rfl
set_option maxHeartbeats 4000000 in
theorem lf_chart_6 (cA : Nat → ClassId) (zc : CS) (ln : Int32) (ix : Int32) (n : Int32) (sv : Int32) (js : Nat) (hjs : js < 4) (c4 : ¬ (0 ≤ sv ∧ sv ≤ 47)) (hI : invC zc) : invC (va_up (cs_i zc) 2 0, cs_n zc, cs_I zc, cs_L zc, cs_N zc, cs_S zc, cs_X zc) ∧ kAll (cF cA (va_up (cs_i zc) 2 0, cs_n zc, cs_I zc, cs_L zc, cs_N zc, cs_S zc, cs_X zc)) [(0, 0), (0, 10), (6, js), (7, js), (0, 1), (0, 2), (0, 3), (0, 4), (0, 5)] [(cs_X zc 0 0, .inr (10, [.ref (cs_X zc 0 1), .ref (cs_X zc 0 6), .ref (cs_X zc 0 7), .ref (cs_X zc 0 8), .ref (cs_X zc 0 9), .ref (cs_X zc 0 10), .ref (cs_X zc 0 11), .int (nI (cs_n zc 0)), .int (nI (cs_n zc 1)), .int (nI (cs_n zc 2)), .int (nI (cs_n zc 3)), va_rf (opN (cs_n zc 4) (fun _ => cs_X zc 5 0)), .int 0])), cR10 cA zc, cSh zc js, cSc cA zc js, cLo zc, cA2 cA zc, cA3 cA zc, cA4 cA zc, cA5 cA zc] ∧ ∀ i j, (i, j) ∉ ([(0, 0), (0, 10), (6, js), (7, js), (0, 1), (0, 2), (0, 3), (0, 4), (0, 5)] : List (Nat × Nat)) → cF cA (va_up (cs_i zc) 2 0, cs_n zc, cs_I zc, cs_L zc, cs_N zc, cs_S zc, cs_X zc) i j = none ∨ ((i, j) ∉ ([(0, 0), (0, 10), (6, js), (7, js), (0, 1), (0, 2), (0, 3), (0, 4), (0, 5)] : List (Nat × Nat)) ∧ cF cA (va_up (cs_i zc) 2 0, cs_n zc, cs_I zc, cs_L zc, cs_N zc, cs_S zc, cs_X zc) i j = cF cA zc i j) := by
  obtain ⟨⟨hn0, hn1, hn2, hn3, hn4, hn5⟩, hpi, hgk, htk, hpk, hsh⟩ := id hI
  refine ⟨hI, ⟨(by (rw [(kF_tp (cA := cA) (z := (va_up (cs_i zc) 2 0, cs_n zc, cs_I zc, cs_L zc, cs_N zc, cs_S zc, cs_X zc)))]) <;> simp [cTP, cTPN, cTPA, cLo, cA2, cA3, cA4, cA5, cR6, cR7, cR8, cR9, cR10, cTr, cPi, cPiN, cPiT, cGa, cGaK, cTa, cPa, cAu, cAuN, cAuB, cSh, cSc, cs_i, cs_n, cs_I, cs_L, cs_N, cs_S, cs_X, va_up, upd, opN]), (by (rw [(kF_r10 (cA := cA) (z := (va_up (cs_i zc) 2 0, cs_n zc, cs_I zc, cs_L zc, cs_N zc, cs_S zc, cs_X zc)))]) <;> simp [cTP, cTPN, cTPA, cLo, cA2, cA3, cA4, cA5, cR6, cR7, cR8, cR9, cR10, cTr, cPi, cPiN, cPiT, cGa, cGaK, cTa, cPa, cAu, cAuN, cAuB, cSh, cSc, cs_i, cs_n, cs_I, cs_L, cs_N, cs_S, cs_X, va_up, upd, opN]), (by (rw [(kF_sh (z := (va_up (cs_i zc) 2 0, cs_n zc, cs_I zc, cs_L zc, cs_N zc, cs_S zc, cs_X zc)) hjs)]) <;> simp [cTP, cTPN, cTPA, cLo, cA2, cA3, cA4, cA5, cR6, cR7, cR8, cR9, cR10, cTr, cPi, cPiN, cPiT, cGa, cGaK, cTa, cPa, cAu, cAuN, cAuB, cSh, cSc, cs_i, cs_n, cs_I, cs_L, cs_N, cs_S, cs_X, va_up, upd, opN]), (by (rw [(kF_sc (z := (va_up (cs_i zc) 2 0, cs_n zc, cs_I zc, cs_L zc, cs_N zc, cs_S zc, cs_X zc)) hjs)]) <;> simp [cTP, cTPN, cTPA, cLo, cA2, cA3, cA4, cA5, cR6, cR7, cR8, cR9, cR10, cTr, cPi, cPiN, cPiT, cGa, cGaK, cTa, cPa, cAu, cAuN, cAuB, cSh, cSc, cs_i, cs_n, cs_I, cs_L, cs_N, cs_S, cs_X, va_up, upd, opN]), (by (rw [(kF_lo (cA := cA) (z := (va_up (cs_i zc) 2 0, cs_n zc, cs_I zc, cs_L zc, cs_N zc, cs_S zc, cs_X zc)))]) <;> simp [cTP, cTPN, cTPA, cLo, cA2, cA3, cA4, cA5, cR6, cR7, cR8, cR9, cR10, cTr, cPi, cPiN, cPiT, cGa, cGaK, cTa, cPa, cAu, cAuN, cAuB, cSh, cSc, cs_i, cs_n, cs_I, cs_L, cs_N, cs_S, cs_X, va_up, upd, opN]), (by (rw [(kF_a2 (cA := cA) (z := (va_up (cs_i zc) 2 0, cs_n zc, cs_I zc, cs_L zc, cs_N zc, cs_S zc, cs_X zc)))]) <;> simp [cTP, cTPN, cTPA, cLo, cA2, cA3, cA4, cA5, cR6, cR7, cR8, cR9, cR10, cTr, cPi, cPiN, cPiT, cGa, cGaK, cTa, cPa, cAu, cAuN, cAuB, cSh, cSc, cs_i, cs_n, cs_I, cs_L, cs_N, cs_S, cs_X, va_up, upd, opN]), (by (rw [(kF_a3 (cA := cA) (z := (va_up (cs_i zc) 2 0, cs_n zc, cs_I zc, cs_L zc, cs_N zc, cs_S zc, cs_X zc)))]) <;> simp [cTP, cTPN, cTPA, cLo, cA2, cA3, cA4, cA5, cR6, cR7, cR8, cR9, cR10, cTr, cPi, cPiN, cPiT, cGa, cGaK, cTa, cPa, cAu, cAuN, cAuB, cSh, cSc, cs_i, cs_n, cs_I, cs_L, cs_N, cs_S, cs_X, va_up, upd, opN]), (by (rw [(kF_a4 (cA := cA) (z := (va_up (cs_i zc) 2 0, cs_n zc, cs_I zc, cs_L zc, cs_N zc, cs_S zc, cs_X zc)))]) <;> simp [cTP, cTPN, cTPA, cLo, cA2, cA3, cA4, cA5, cR6, cR7, cR8, cR9, cR10, cTr, cPi, cPiN, cPiT, cGa, cGaK, cTa, cPa, cAu, cAuN, cAuB, cSh, cSc, cs_i, cs_n, cs_I, cs_L, cs_N, cs_S, cs_X, va_up, upd, opN]), (by (rw [(kF_a5 (cA := cA) (z := (va_up (cs_i zc) 2 0, cs_n zc, cs_I zc, cs_L zc, cs_N zc, cs_S zc, cs_X zc)))]) <;> simp [cTP, cTPN, cTPA, cLo, cA2, cA3, cA4, cA5, cR6, cR7, cR8, cR9, cR10, cTr, cPi, cPiN, cPiT, cGa, cGaK, cTa, cPa, cAu, cAuN, cAuB, cSh, cSc, cs_i, cs_n, cs_I, cs_L, cs_N, cs_S, cs_X, va_up, upd, opN]), trivial⟩, ?_⟩
  intro i j hij
  refine Or.inr ⟨hij, ?_⟩
  rcases i with _ | _ | _ | _ | _ | _ | _ | _ | i
  · rcases j with _ | _ | _ | _ | _ | _ | _ | _ | _ | _ | _ | _ | j
    · exact absurd (by simp) hij
    · exact absurd (by simp) hij
    · exact absurd (by simp) hij
    · exact absurd (by simp) hij
    · exact absurd (by simp) hij
    · exact absurd (by simp) hij
    · show some (cR6 cA (va_up (cs_i zc) 2 0, cs_n zc, cs_I zc, cs_L zc, cs_N zc, cs_S zc, cs_X zc)) = some (cR6 cA zc); simp [cR6, cs_i, cs_n, cs_I, cs_L, cs_N, cs_S, cs_X, va_up]
    · show some (cR7 cA (va_up (cs_i zc) 2 0, cs_n zc, cs_I zc, cs_L zc, cs_N zc, cs_S zc, cs_X zc)) = some (cR7 cA zc); simp [cR7, cs_i, cs_n, cs_I, cs_L, cs_N, cs_S, cs_X, va_up]
    · show some (cR8 cA (va_up (cs_i zc) 2 0, cs_n zc, cs_I zc, cs_L zc, cs_N zc, cs_S zc, cs_X zc)) = some (cR8 cA zc); simp [cR8, cs_i, cs_n, cs_I, cs_L, cs_N, cs_S, cs_X, va_up]
    · show some (cR9 cA (va_up (cs_i zc) 2 0, cs_n zc, cs_I zc, cs_L zc, cs_N zc, cs_S zc, cs_X zc)) = some (cR9 cA zc); simp [cR9, cs_i, cs_n, cs_I, cs_L, cs_N, cs_S, cs_X, va_up]
    · exact absurd (by simp) hij
    · show some (cTr (va_up (cs_i zc) 2 0, cs_n zc, cs_I zc, cs_L zc, cs_N zc, cs_S zc, cs_X zc)) = some (cTr zc); simp [cTr, cs_i, cs_n, cs_I, cs_L, cs_N, cs_S, cs_X, va_up]
    · show (none : Option (Nat × va_E)) = none; rfl
  · show (if j < cs_n (va_up (cs_i zc) 2 0, cs_n zc, cs_I zc, cs_L zc, cs_N zc, cs_S zc, cs_X zc) 0 then some (cPi (va_up (cs_i zc) 2 0, cs_n zc, cs_I zc, cs_L zc, cs_N zc, cs_S zc, cs_X zc) j) else none) = if j < cs_n zc 0 then some (cPi zc j) else none
    simp [cPi, cs_i, cs_n, cs_I, cs_L, cs_N, cs_S, cs_X, va_up]
  · show (if j < cs_n (va_up (cs_i zc) 2 0, cs_n zc, cs_I zc, cs_L zc, cs_N zc, cs_S zc, cs_X zc) 1 then some (cGa (va_up (cs_i zc) 2 0, cs_n zc, cs_I zc, cs_L zc, cs_N zc, cs_S zc, cs_X zc) j) else none) = if j < cs_n zc 1 then some (cGa zc j) else none
    simp [cGa, cs_i, cs_n, cs_I, cs_L, cs_N, cs_S, cs_X, va_up]
  · show (if j < cs_n (va_up (cs_i zc) 2 0, cs_n zc, cs_I zc, cs_L zc, cs_N zc, cs_S zc, cs_X zc) 2 then some (cTa (va_up (cs_i zc) 2 0, cs_n zc, cs_I zc, cs_L zc, cs_N zc, cs_S zc, cs_X zc) j) else none) = if j < cs_n zc 2 then some (cTa zc j) else none
    simp [cTa, cs_i, cs_n, cs_I, cs_L, cs_N, cs_S, cs_X, va_up]
  · show (if j < cs_n (va_up (cs_i zc) 2 0, cs_n zc, cs_I zc, cs_L zc, cs_N zc, cs_S zc, cs_X zc) 3 then some (cPa (va_up (cs_i zc) 2 0, cs_n zc, cs_I zc, cs_L zc, cs_N zc, cs_S zc, cs_X zc) j) else none) = if j < cs_n zc 3 then some (cPa zc j) else none
    simp [cPa, cs_i, cs_n, cs_I, cs_L, cs_N, cs_S, cs_X, va_up]
  · show (if j = 0 ∧ ¬ cs_n (va_up (cs_i zc) 2 0, cs_n zc, cs_I zc, cs_L zc, cs_N zc, cs_S zc, cs_X zc) 4 = 0 then some (cAu (va_up (cs_i zc) 2 0, cs_n zc, cs_I zc, cs_L zc, cs_N zc, cs_S zc, cs_X zc)) else none) = if j = 0 ∧ ¬ cs_n zc 4 = 0 then some (cAu zc) else none
    simp [cAu, cs_i, cs_n, cs_I, cs_L, cs_N, cs_S, cs_X, va_up]
  · show (if j < 4 then some (cSh (va_up (cs_i zc) 2 0, cs_n zc, cs_I zc, cs_L zc, cs_N zc, cs_S zc, cs_X zc) j) else none) = if j < 4 then some (cSh zc j) else none
    simp [cSh, cs_i, cs_n, cs_I, cs_L, cs_N, cs_S, cs_X, va_up]
  · show (if j < 4 then some (cSc cA (va_up (cs_i zc) 2 0, cs_n zc, cs_I zc, cs_L zc, cs_N zc, cs_S zc, cs_X zc) j) else none) = if j < 4 then some (cSc cA zc j) else none
    simp [cSc, cs_i, cs_n, cs_I, cs_L, cs_N, cs_S, cs_X, va_up]
  · show (none : Option (Nat × va_E)) = none; rfl
set_option maxHeartbeats 4000000 in
set_option maxRecDepth 100000 in
theorem K_chart (l : Launch) (dC : Nat → ClassId) (dI : Nat → Nat → Nat) (cA : Nat → ClassId) (sz : Nat) (zc : CS) (k : Int32) (ln : Int32) (ix : Int32) (n : Int32) (sv : Int32) (hI : invC zc) : Met l yX10_chart wsX10_chart ({ frames := 5, cells := 0, slots := 0, locals := 150 }) (kw (dC, dI) (ctys cA) (cF cA zc) sz [.ref (cs_X zc 0 0), .int k, .int ln, .int ix, .int n, .int sv]) (kQi (dC, dI) (ctys cA) (cF cA zc) sz (cF cA) (fun r u => (invC u ∧ cs_X u 0 0 = cs_X zc 0 0) ∧ pC_chart zc k ln ix n sv r u)) 0 0 (kA (cF cA zc) sz) := by
  refine kw_met (cc := cX10_chart) (maxL := 10) (ret := (some .int)) (by decide) rfl (Nat.le_of_ble_eq_true rfl) ?_
  intro p e s m below meth c0 hx hb hr hml hown hlocks hnm hts hPk hKk hDk hN hsz ls hl
  subst hsz
  have hK : va_K (dC, dI) vwCl [(cA 0, .int), (cA 1, .object RX6), (cA 2, .object RX2), (cA 3, .object RX8), (cA 4, .object RX5), (cA 5, .object RX7)] s := hKk
  obtain ⟨⟨hn0, hn1, hn2, hn3, hn4, hn5⟩, hpi, hgk, htk, hpk, hsh⟩ := id hI
  have hl : lv_has ls 10 [(0, .ref (cs_X zc 0 0)), (1, .int k), (2, .int ln), (3, .int ix), (4, .int n), (5, .int sv)] := hl
  have hiX10 : ∀ w ∈ wsX100, w ∈ wsX10_chart := fun _ h => List.mem_cons_of_mem _ (List.mem_append_left _ (List.mem_append_left _ (List.mem_append_right _ (h))))
  have hiX3 : ∀ w ∈ wsX30, w ∈ wsX10_chart := fun _ h => List.mem_cons_of_mem _ (List.mem_append_right _ (h))
  have hiX7 : ∀ w ∈ wsX70, w ∈ wsX10_chart := fun _ h => List.mem_cons_of_mem _ (List.mem_append_left _ (List.mem_append_right _ (h)))
  generalize hQ : MQ _ _ _ _ _ _ _ = Q
  rcases ixd k 4 with hnojs | ⟨js, hjs, rfl⟩
  · skip
    have hks : kAll (cF cA zc) [(0, 0), (0, 10)] [cTP zc, cR10 cA zc] := ⟨(kF_tp (cA := cA) (z := zc)), (kF_r10 (cA := cA) (z := zc)), trivial⟩
    have hP : va_P (dC, dI) vwCl [cTP zc, cR10 cA zc] s.heap := kAll_P hPk hks
    have hD : va_D (va_A [cTP zc, cR10 cA zc] s.heap.size) [cTP zc, cR10 cA zc] := (kAll_D hDk hks (by simp)).self
    have hA : ∀ q : Nat, s.heap.size ≤ q → va_A [cTP zc, cR10 cA zc] s.heap.size q := fun q h => Or.inr h
    have hS : va_S (va_A [cTP zc, cR10 cA zc] s.heap.size) s.heap s.heap [] := va_S.rf
    refine lv_aload_n hx hb dX10_chart_0 rfl (lv_at hl 0 rfl) ?_
    refine lv_iconst (v := 0) hx hb dX10_chart_1 (by decide) ?_
    refine va_put (D := (dC, dI)) (ci := 10) (v := .int 0) (ty := .int) (C := RX10) (T := TX10) (N := 13) hx hb hts hiX10 tyX10 tyX10_ok nmX10 hown hK hP hD hS 0 rfl rfl 12 (by decide) (hts (.fieldLink RX10 56 "TributePitches" "latestFault" "I") (List.mem_of_getElem? (i := 1) rfl)) (fun _ h9 => h9) rfl (by decide +kernel) rfl rfl (Nat.le_of_ble_eq_true rfl) dX10_chart_2 (fun H locs hP hD hS => ?_)
    have hP : va_P (dC, dI) vwCl [(cs_X zc 0 0, .inr (10, [.ref (cs_X zc 0 1), .ref (cs_X zc 0 6), .ref (cs_X zc 0 7), .ref (cs_X zc 0 8), .ref (cs_X zc 0 9), .ref (cs_X zc 0 10), .ref (cs_X zc 0 11), .int (nI (cs_n zc 0)), .int (nI (cs_n zc 1)), .int (nI (cs_n zc 2)), .int (nI (cs_n zc 3)), va_rf (opN (cs_n zc 4) (fun _ => cs_X zc 5 0)), .int 0])), cR10 cA zc] H := hP
    have hD : va_D _ [(cs_X zc 0 0, .inr (10, [.ref (cs_X zc 0 1), .ref (cs_X zc 0 6), .ref (cs_X zc 0 7), .ref (cs_X zc 0 8), .ref (cs_X zc 0 9), .ref (cs_X zc 0 10), .ref (cs_X zc 0 11), .int (nI (cs_n zc 0)), .int (nI (cs_n zc 1)), .int (nI (cs_n zc 2)), .int (nI (cs_n zc 3)), va_rf (opN (cs_n zc 4) (fun _ => cs_X zc 5 0)), .int 0])), cR10 cA zc] := hD
    refine lv_aload_n hx hb dX10_chart_5 rfl (lv_at hl 0 rfl) ?_
    refine lv_iload_n hx hb dX10_chart_6 rfl (lv_at hl 1 rfl) ?_
    have hPc := hP.sub (ws' := [(cs_X zc 0 0, .inr (10, [.ref (cs_X zc 0 1), .ref (cs_X zc 0 6), .ref (cs_X zc 0 7), .ref (cs_X zc 0 8), .ref (cs_X zc 0 9), .ref (cs_X zc 0 10), .ref (cs_X zc 0 11), .int (nI (cs_n zc 0)), .int (nI (cs_n zc 1)), .int (nI (cs_n zc 2)), .int (nI (cs_n zc 3)), va_rf (opN (cs_n zc 4) (fun _ => cs_X zc 5 0)), .int 0])), cR10 cA zc]) [0, 1] rfl
    have hDc := hD.sub (ws' := [(cs_X zc 0 0, .inr (10, [.ref (cs_X zc 0 1), .ref (cs_X zc 0 6), .ref (cs_X zc 0 7), .ref (cs_X zc 0 8), .ref (cs_X zc 0 9), .ref (cs_X zc 0 10), .ref (cs_X zc 0 11), .int (nI (cs_n zc 0)), .int (nI (cs_n zc 1)), .int (nI (cs_n zc 2)), .int (nI (cs_n zc 3)), va_rf (opN (cs_n zc 4) (fun _ => cs_X zc 5 0)), .int 0])), cR10 cA zc]) [0, 1] (by decide) rfl
    have hKc := hK.sub (tys' := [(cA 5, .object RX7)]) [5] rfl
    refine va_csq (va_Run.run (va_runV (As := [.int k]) (rest := []) ⟨hx, hb, hml, hown, hts⟩ (s_sheetAt_no l dC dI (cA 5) _ (cs_X zc 0 0) (.ref (cs_X zc 0 1)) (.ref (cs_X zc 0 6)) (.ref (cs_X zc 0 7)) (.ref (cs_X zc 0 8)) (.ref (cs_X zc 0 9)) (.ref (cs_X zc 0 11)) (.int (nI (cs_n zc 0))) (.int (nI (cs_n zc 1))) (.int (nI (cs_n zc 2))) (.int (nI (cs_n zc 3))) (va_rf (opN (cs_n zc 4) (fun _ => cs_X zc 5 0))) (.int 0) (cs_X zc 0 10) (rfN 4 (cs_X zc 6)) k (shNo hnojs)) (cwV 1 hts gX10_chart_X10_sheetAt rfl rfl rfl (by decide +kernel) ⟨Nat.le_of_ble_eq_true rfl, Nat.le_of_ble_eq_true rfl⟩) (pw_preV (va_recv hKc hPc (ci := 10) (q0 := 0) rfl rfl) hPc hKc hDc hN) rfl rfl hl.1 rfl (lv_room (Nat.le_of_ble_eq_true rfl)) dX10_chart_7 ⟨Nat.le_of_ble_eq_true rfl, Nat.le_of_ble_eq_true rfl⟩)) (fun r1 hr1 => ?_)
    have hr1 : r1 = none := hr1
    subst hr1
    refine W.eq (g2 := F0 m 10 ls [.null]) rfl ?_
    refine lv_astoreN (lv' := [(6, .null), (0, .ref (cs_X zc 0 0)), (1, .int k), (2, .int ln), (3, .int ix), (4, .int n), (5, .int sv)]) hx hb dX10_chart_10 hl (by decide) rfl (fun ls hl => ?_)
    refine lv_aloadN hx hb dX10_chart_12 (lv_at hl 0 rfl) ?_
    refine lv_ifnullN (tgt := 28) hx hb dX10_chart_14 (by decide) ?_
    refine lv_iconst (v := (-1)) hx hb dX10_chart_28 (by decide) ?_
    subst hQ
    have hP9 : va_P (dC, dI) vwCl [(cs_X zc 0 0, .inr (10, [.ref (cs_X zc 0 1), .ref (cs_X zc 0 6), .ref (cs_X zc 0 7), .ref (cs_X zc 0 8), .ref (cs_X zc 0 9), .ref (cs_X zc 0 10), .ref (cs_X zc 0 11), .int (nI (cs_n zc 0)), .int (nI (cs_n zc 1)), .int (nI (cs_n zc 2)), .int (nI (cs_n zc 3)), va_rf (opN (cs_n zc 4) (fun _ => cs_X zc 5 0)), .int 0])), cR10 cA zc] H := hP.sub [0, 1] rfl
    have hD9 : va_D (va_A [cTP zc, cR10 cA zc] s.heap.size) [(cs_X zc 0 0, .inr (10, [.ref (cs_X zc 0 1), .ref (cs_X zc 0 6), .ref (cs_X zc 0 7), .ref (cs_X zc 0 8), .ref (cs_X zc 0 9), .ref (cs_X zc 0 10), .ref (cs_X zc 0 11), .int (nI (cs_n zc 0)), .int (nI (cs_n zc 1)), .int (nI (cs_n zc 2)), .int (nI (cs_n zc 3)), va_rf (opN (cs_n zc 4) (fun _ => cs_X zc 5 0)), .int 0])), cR10 cA zc] := hD.sub [0, 1] (by decide) rfl
    have hlf := lf_chart_0 cA zc k ln ix n sv hnojs hI
    exact W.iret (v := (-1)) hx hb hr (fun t ht hW => have hJ := kjoin hPk hDk hks rfl (hS.F ht) (by rw [ht]; exact hP9) hD9 hlf.2.1 hlf.2.2; ⟨⟨(-1), (va_up (cs_i zc) 2 0, cs_n zc, cs_I zc, cs_L zc, cs_N zc, cs_S zc, cs_X zc), rfl, ⟨⟨hlf.1, rfl⟩, (Or.inl ⟨hnojs, rfl, rfl⟩)⟩, hJ.1, va_K.moved hW.alike hKk, hJ.2.1⟩, hJ.2.2⟩) (fun q h => kAll_A hks _ (hS.2.2 q h)) dX10_chart_29
  · skip
    have hks : kAll (cF cA zc) [(0, 0), (0, 10), (6, js), (7, js), (0, 1), (0, 2), (0, 3), (0, 4), (0, 5)] [cTP zc, cR10 cA zc, cSh zc js, cSc cA zc js, cLo zc, cA2 cA zc, cA3 cA zc, cA4 cA zc, cA5 cA zc] := ⟨(kF_tp (cA := cA) (z := zc)), (kF_r10 (cA := cA) (z := zc)), (kF_sh (z := zc) hjs), (kF_sc (z := zc) hjs), (kF_lo (cA := cA) (z := zc)), (kF_a2 (cA := cA) (z := zc)), (kF_a3 (cA := cA) (z := zc)), (kF_a4 (cA := cA) (z := zc)), (kF_a5 (cA := cA) (z := zc)), trivial⟩
    have hP : va_P (dC, dI) vwCl [cTP zc, cR10 cA zc, cSh zc js, cSc cA zc js, cLo zc, cA2 cA zc, cA3 cA zc, cA4 cA zc, cA5 cA zc] s.heap := kAll_P hPk hks
    have hD : va_D (va_A [cTP zc, cR10 cA zc, cSh zc js, cSc cA zc js, cLo zc, cA2 cA zc, cA3 cA zc, cA4 cA zc, cA5 cA zc] s.heap.size) [cTP zc, cR10 cA zc, cSh zc js, cSc cA zc js, cLo zc, cA2 cA zc, cA3 cA zc, cA4 cA zc, cA5 cA zc] := (kAll_D hDk hks (by simp)).self
    have hA : ∀ q : Nat, s.heap.size ≤ q → va_A [cTP zc, cR10 cA zc, cSh zc js, cSc cA zc js, cLo zc, cA2 cA zc, cA3 cA zc, cA4 cA zc, cA5 cA zc] s.heap.size q := fun q h => Or.inr h
    have hS : va_S (va_A [cTP zc, cR10 cA zc, cSh zc js, cSc cA zc js, cLo zc, cA2 cA zc, cA3 cA zc, cA4 cA zc, cA5 cA zc] s.heap.size) s.heap s.heap [] := va_S.rf
    refine lv_aload_n hx hb dX10_chart_0 rfl (lv_at hl 0 rfl) ?_
    refine lv_iconst (v := 0) hx hb dX10_chart_1 (by decide) ?_
    refine va_put (D := (dC, dI)) (ci := 10) (v := .int 0) (ty := .int) (C := RX10) (T := TX10) (N := 13) hx hb hts hiX10 tyX10 tyX10_ok nmX10 hown hK hP hD hS 0 rfl rfl 12 (by decide) (hts (.fieldLink RX10 56 "TributePitches" "latestFault" "I") (List.mem_of_getElem? (i := 1) rfl)) (fun _ h9 => h9) rfl (by decide +kernel) rfl rfl (Nat.le_of_ble_eq_true rfl) dX10_chart_2 (fun H locs hP hD hS => ?_)
    have hP : va_P (dC, dI) vwCl [(cs_X zc 0 0, .inr (10, [.ref (cs_X zc 0 1), .ref (cs_X zc 0 6), .ref (cs_X zc 0 7), .ref (cs_X zc 0 8), .ref (cs_X zc 0 9), .ref (cs_X zc 0 10), .ref (cs_X zc 0 11), .int (nI (cs_n zc 0)), .int (nI (cs_n zc 1)), .int (nI (cs_n zc 2)), .int (nI (cs_n zc 3)), va_rf (opN (cs_n zc 4) (fun _ => cs_X zc 5 0)), .int 0])), cR10 cA zc, cSh zc js, cSc cA zc js, cLo zc, cA2 cA zc, cA3 cA zc, cA4 cA zc, cA5 cA zc] H := hP
    have hD : va_D _ [(cs_X zc 0 0, .inr (10, [.ref (cs_X zc 0 1), .ref (cs_X zc 0 6), .ref (cs_X zc 0 7), .ref (cs_X zc 0 8), .ref (cs_X zc 0 9), .ref (cs_X zc 0 10), .ref (cs_X zc 0 11), .int (nI (cs_n zc 0)), .int (nI (cs_n zc 1)), .int (nI (cs_n zc 2)), .int (nI (cs_n zc 3)), va_rf (opN (cs_n zc 4) (fun _ => cs_X zc 5 0)), .int 0])), cR10 cA zc, cSh zc js, cSc cA zc js, cLo zc, cA2 cA zc, cA3 cA zc, cA4 cA zc, cA5 cA zc] := hD
    refine lv_aload_n hx hb dX10_chart_5 rfl (lv_at hl 0 rfl) ?_
    refine lv_iload_n hx hb dX10_chart_6 rfl (lv_at hl 1 rfl) ?_
    have hPc := hP.sub (ws' := [(cs_X zc 0 0, .inr (10, [.ref (cs_X zc 0 1), .ref (cs_X zc 0 6), .ref (cs_X zc 0 7), .ref (cs_X zc 0 8), .ref (cs_X zc 0 9), .ref (cs_X zc 0 10), .ref (cs_X zc 0 11), .int (nI (cs_n zc 0)), .int (nI (cs_n zc 1)), .int (nI (cs_n zc 2)), .int (nI (cs_n zc 3)), va_rf (opN (cs_n zc 4) (fun _ => cs_X zc 5 0)), .int 0])), cR10 cA zc]) [0, 1] rfl
    have hDc := hD.sub (ws' := [(cs_X zc 0 0, .inr (10, [.ref (cs_X zc 0 1), .ref (cs_X zc 0 6), .ref (cs_X zc 0 7), .ref (cs_X zc 0 8), .ref (cs_X zc 0 9), .ref (cs_X zc 0 10), .ref (cs_X zc 0 11), .int (nI (cs_n zc 0)), .int (nI (cs_n zc 1)), .int (nI (cs_n zc 2)), .int (nI (cs_n zc 3)), va_rf (opN (cs_n zc 4) (fun _ => cs_X zc 5 0)), .int 0])), cR10 cA zc]) [0, 1] (by decide) rfl
    have hKc := hK.sub (tys' := [(cA 5, .object RX7)]) [5] rfl
    refine va_csq (va_Run.run (va_runV (As := [.int (nI js)]) (rest := []) ⟨hx, hb, hml, hown, hts⟩ (s_sheetAt_yes l dC dI (cA 5) _ (cs_X zc 0 0) (.ref (cs_X zc 0 1)) (.ref (cs_X zc 0 6)) (.ref (cs_X zc 0 7)) (.ref (cs_X zc 0 8)) (.ref (cs_X zc 0 9)) (.ref (cs_X zc 0 11)) (.int (nI (cs_n zc 0))) (.int (nI (cs_n zc 1))) (.int (nI (cs_n zc 2))) (.int (nI (cs_n zc 3))) (va_rf (opN (cs_n zc 4) (fun _ => cs_X zc 5 0))) (.int 0) (cs_X zc 0 10) js (cs_X zc 6 js) (rfN 4 (cs_X zc 6)) hjs (rfN_at hjs)) (cwV 1 hts gX10_chart_X10_sheetAt rfl rfl rfl (by decide +kernel) ⟨Nat.le_of_ble_eq_true rfl, Nat.le_of_ble_eq_true rfl⟩) (pw_preV (va_recv hKc hPc (ci := 10) (q0 := 0) rfl rfl) hPc hKc hDc hN) rfl rfl hl.1 rfl (lv_room (Nat.le_of_ble_eq_true rfl)) dX10_chart_7 ⟨Nat.le_of_ble_eq_true rfl, Nat.le_of_ble_eq_true rfl⟩)) (fun r2 hr2 => ?_)
    have hr2 : r2 = some (cs_X zc 6 js) := hr2
    subst hr2
    refine W.eq (g2 := F0 m 10 ls [.ref (cs_X zc 6 js)]) rfl ?_
    refine lv_astore (lv' := [(6, .ref (cs_X zc 6 js)), (0, .ref (cs_X zc 0 0)), (1, .int (nI js)), (2, .int ln), (3, .int ix), (4, .int n), (5, .int sv)]) hx hb dX10_chart_10 hl (by decide) rfl (fun ls hl => ?_)
    refine lv_aload hx hb dX10_chart_12 (lv_at hl 0 rfl) ?_
    refine lv_ifnull hx hb dX10_chart_14 ?_
    refine lv_iload hx hb dX10_chart_17 (lv_at hl 6 rfl) ?_
    refine lv_iconst (v := 0) hx hb dX10_chart_19 (by decide) ?_
    refine lv_bipush (v := 47) hx hb dX10_chart_20 (by decide) ?_
    refine vp_callSi (va_Run.run (va_runS (As := [.int sv, .int 0, .int 47]) (rest := []) ⟨hx, hb, hml, hown, hts⟩ (c_X10_isWithin l sv 0 47 ) (va_cwS 3 hts gX10_chart_X10_isWithin rfl rfl rfl (by decide +kernel) ⟨Nat.le_of_ble_eq_true rfl, Nat.le_of_ble_eq_true rfl⟩) (p0_preS hN) rfl rfl hl.1 rfl (lv_room (Nat.le_of_ble_eq_true rfl)) dX10_chart_22 ⟨Nat.le_of_ble_eq_true rfl, Nat.le_of_ble_eq_true rfl⟩)) (fun r3 hr3 => ?_)
    have hr3 : r3 = if 0 ≤ sv ∧ sv ≤ 47 then 1 else 0 := hr3
    refine lv_if_ne (tgt := 30) hx hb dX10_chart_25 (by decide) (fun c4 => ?_) (fun c4 => ?_)
    · skip
      have c4 := (fa_bool_prop hr3).2.mp c4
      refine lv_iload_n hx hb dX10_chart_30 rfl (lv_at hl 3 rfl) ?_
      refine vp_callSi (va_Run.run (va_runS (As := [.int ln]) (rest := []) ⟨hx, hb, hml, hown, hts⟩ (c_X7_isLane l ln ) (va_cwS 1 hts gX10_chart_X7_isLane rfl rfl rfl (by decide +kernel) ⟨Nat.le_of_ble_eq_true rfl, Nat.le_of_ble_eq_true rfl⟩) (p0_preS hN) rfl rfl hl.1 rfl (lv_room (Nat.le_of_ble_eq_true rfl)) dX10_chart_31 ⟨Nat.le_of_ble_eq_true rfl, Nat.le_of_ble_eq_true rfl⟩)) (fun r5 hr5 => ?_)
      have hr5 : r5 = if 0 ≤ ln ∧ ln ≤ 2 then 1 else 0 := hr5
      refine lv_if_ne (tgt := 40) hx hb dX10_chart_34 (by decide) (fun c6 => ?_) (fun c6 => ?_)
      · skip
        have c6 := (fa_bool_prop hr5).2.mp c6
        refine lv_aload hx hb dX10_chart_40 (lv_at hl 0 rfl) ?_
        refine lv_iload_n hx hb dX10_chart_42 rfl (lv_at hl 3 rfl) ?_
        refine lv_iload_n hx hb dX10_chart_43 rfl (lv_at hl 4 rfl) ?_
        refine lv_iload hx hb dX10_chart_44 (lv_at hl 5 rfl) ?_
        refine lv_iload hx hb dX10_chart_46 (lv_at hl 6 rfl) ?_
        have hPc := hP.sub (ws' := [cSh zc js]) [2] rfl
        have hDc := hD.sub (ws' := [cSh zc js]) [2] (by decide) rfl
        have hKc := hK.sub (tys' := []) [] rfl
        refine vp_callSi (va_Run.run (va_runS (As := [.ref (cs_X zc 6 js), .int ln, .int ix, .int n, .int sv]) (rest := []) ⟨hx, hb, hml, hown, hts⟩ (s_chartFault l dC dI  _ (cs_X zc 6 js) (.ref (cs_X zc 7 js)) (cs_I zc 8 js) (cs_I zc 9 js) ln ix n sv ) (va_cwS 5 hts gX10_chart_X10_chartFault rfl rfl rfl (by decide +kernel) ⟨Nat.le_of_ble_eq_true rfl, Nat.le_of_ble_eq_true rfl⟩) (pw_preS hPc hKc hDc hN) rfl rfl hl.1 rfl (lv_room (Nat.le_of_ble_eq_true rfl)) dX10_chart_48 ⟨Nat.le_of_ble_eq_true rfl, Nat.le_of_ble_eq_true rfl⟩)) (fun r7 hr7 => ?_)
        have hr7 : r7 = cfault (cs_I zc 8 js) (cs_I zc 9 js) ln ix n sv := hr7
        have hr7 := hr7.symm
        subst hr7
        refine W.eq (g2 := F0 m 51 ls [.int (cfault (cs_I zc 8 js) (cs_I zc 9 js) ln ix n sv)]) rfl ?_
        refine lv_istore (lv' := [(7, .int (cfault (cs_I zc 8 js) (cs_I zc 9 js) ln ix n sv)), (6, .ref (cs_X zc 6 js)), (0, .ref (cs_X zc 0 0)), (1, .int (nI js)), (2, .int ln), (3, .int ix), (4, .int n), (5, .int sv)]) hx hb dX10_chart_51 hl (by decide) rfl (fun ls hl => ?_)
        refine lv_iload hx hb dX10_chart_53 (lv_at hl 0 rfl) ?_
        refine lv_if_eq (tgt := 65) hx hb dX10_chart_55 (by decide) (fun c8 => ?_) (fun c8 => ?_)
        · skip
          obtain ⟨hln, hnl, nn, sa, e1, e2, hsn, hs48, hcase⟩ := cf0 (hsh js hjs).2 c4 c8
          subst e1
          subst e2
          rcases hcase with e3 | ⟨ia, e3, hian, hia2⟩
          · subst e3
            have hl : lv_has ls 10 [(7, .int (cfault (cs_I zc 8 js) (cs_I zc 9 js) ln ix (nI 0) (nI sa))), (6, .ref (cs_X zc 6 js)), (0, .ref (cs_X zc 0 0)), (1, .int (nI js)), (2, .int ln), (3, .int ix), (4, .int 0), (5, .int (nI sa))] := hl
            refine lv_aload hx hb dX10_chart_65 (lv_at hl 1 rfl) ?_
            refine lv_sipush (v := 1000) hx hb dX10_chart_67 (by decide) ?_
            refine lv_iload_n hx hb dX10_chart_70 rfl (lv_at hl 5 rfl) ?_
            refine lv_iload hx hb dX10_chart_71 (lv_at hl 6 rfl) ?_
            have hPc := hP.sub (ws' := [cSh zc js]) [2] rfl
            have hDc := hD.sub (ws' := [cSh zc js]) [2] (by decide) rfl
            have hKc := hK.sub (tys' := []) [] rfl
            refine vp_callSi (va_Run.run (va_runV (As := [.int 1000, .int ix, .int 0]) (rest := []) ⟨hx, hb, hml, hown, hts⟩ (s_hasAbove0 l dC dI  _ (cs_X zc 6 js) (.ref (cs_X zc 7 js)) (.int (cs_I zc 8 js)) (.int (cs_I zc 9 js)) 1000 ix ) (cwV 3 hts gX10_chart_X7_hasAbove rfl rfl rfl (by decide +kernel) ⟨Nat.le_of_ble_eq_true rfl, Nat.le_of_ble_eq_true rfl⟩) (pw_preV (va_recv hKc hPc (ci := 7) (q0 := 0) rfl rfl) hPc hKc hDc hN) rfl rfl hl.1 rfl (lv_room (Nat.le_of_ble_eq_true rfl)) dX10_chart_73 ⟨Nat.le_of_ble_eq_true rfl, Nat.le_of_ble_eq_true rfl⟩)) (fun r9 hr9 => ?_)
            have hr9 : r9 = 0 := hr9
            subst hr9
            refine lv_if_eq (tgt := 82) hx hb dX10_chart_76 (by decide) (fun c10 => ?_) (fun c10 => ?_)
            · skip
              refine lv_aload_n hx hb dX10_chart_82 rfl (lv_at hl 2 rfl) ?_
              refine va_get (D := (dC, dI)) (ci := 10) (v := .ref (cs_X zc 0 1)) (C := RX10) (T := TX10) (N := 13) hx hb hts hiX10 hown hK hP 0 rfl rfl 0 (by decide) (hts (.fieldLink RX10 12 "TributePitches" "lode" "LTributePitches$Lode;") (List.mem_of_getElem? (i := 2) rfl)) (fun _ h9 => h9) rfl dX10_chart_83 ?_
              have hPc := hP.sub (ws' := [cLo zc, cA2 cA zc, cA3 cA zc, cA4 cA zc, cA5 cA zc]) [4, 5, 6, 7, 8] rfl
              have hDc := hD.sub (ws' := [cLo zc, cA2 cA zc, cA3 cA zc, cA4 cA zc, cA5 cA zc]) [4, 5, 6, 7, 8] (by decide) rfl
              have hKc := hK.sub (tys' := [(cA 0, .int)]) [0] rfl
              have hFc := va_free (wc := [cLo zc, cA2 cA zc, cA3 cA zc, cA4 cA zc, cA5 cA zc]) hD hS hA [4, 5, 6, 7, 8] rfl
              refine va_callv (va_runV (As := []) (rest := []) ⟨hx, hb, hml, hown, hts⟩ (c_X3_beginTrial l dC dI (cA 0) _ (cs_X zc 0 1) (cs_X zc 0 2) (cs_X zc 0 3) (cs_X zc 0 4) (cs_X zc 0 5) (cs_i zc 0) (cs_I zc 0) (cs_I zc 1) (cs_I zc 2) (cs_I zc 3) ) (cwV 0 hts gX10_chart_X3_beginTrial rfl rfl rfl (by decide +kernel) ⟨Nat.le_of_ble_eq_true rfl, Nat.le_of_ble_eq_true rfl⟩) (pw_preV (va_recv hKc hPc (ci := 3) (q0 := 0) rfl rfl) hPc hKc hDc hN) rfl rfl hl.1 rfl (lv_room (Nat.le_of_ble_eq_true rfl)) dX10_chart_86 ⟨Nat.le_of_ble_eq_true rfl, Nat.le_of_ble_eq_true rfl⟩) hS (fun q _ h => hFc q h) hFc (fun u t H1 locs ht hvm hw hB hz1 hk1 hS => ?_)
              obtain ⟨hP1, hK1, hD1⟩ := hB
              rw [ht] at hP1
              obtain ⟨hP, hD⟩ := va_join (wr := [(cs_X zc 0 0, .inr (10, [.ref (cs_X zc 0 1), .ref (cs_X zc 0 6), .ref (cs_X zc 0 7), .ref (cs_X zc 0 8), .ref (cs_X zc 0 9), .ref (cs_X zc 0 10), .ref (cs_X zc 0 11), .int (nI (cs_n zc 0)), .int (nI (cs_n zc 1)), .int (nI (cs_n zc 2)), .int (nI (cs_n zc 3)), va_rf (opN (cs_n zc 4) (fun _ => cs_X zc 5 0)), .int 0])), cR10 cA zc, cSh zc js, cSc cA zc js]) (w1 := [(cs_X zc 0 1, .inr (3, [.ref (cs_X zc 0 2), .ref (cs_X zc 0 3), .ref (cs_X zc 0 4), .ref (cs_X zc 0 5), .int (cs_i zc 0)])), (cs_X zc 0 2, .inl (cA 0, 48, .inl (cs_I zc 0))), (cs_X zc 0 3, .inl (cA 0, 48, .inl (cs_I zc 1))), (cs_X zc 0 4, .inl (cA 0, 48, .inl (cs_I zc 0))), (cs_X zc 0 5, .inl (cA 0, 48, .inl (cs_I zc 1)))]) hP hD [4, 5, 6, 7, 8] [0, 1, 2, 3] rfl rfl (by decide) (by decide) hk1 hFc hP1 hD1
              generalize H1 = H at hP hS ⊢
              have hP : va_P (dC, dI) vwCl [(cs_X zc 0 0, .inr (10, [.ref (cs_X zc 0 1), .ref (cs_X zc 0 6), .ref (cs_X zc 0 7), .ref (cs_X zc 0 8), .ref (cs_X zc 0 9), .ref (cs_X zc 0 10), .ref (cs_X zc 0 11), .int (nI (cs_n zc 0)), .int (nI (cs_n zc 1)), .int (nI (cs_n zc 2)), .int (nI (cs_n zc 3)), va_rf (opN (cs_n zc 4) (fun _ => cs_X zc 5 0)), .int 0])), cR10 cA zc, cSh zc js, cSc cA zc js, (cs_X zc 0 1, .inr (3, [.ref (cs_X zc 0 2), .ref (cs_X zc 0 3), .ref (cs_X zc 0 4), .ref (cs_X zc 0 5), .int (cs_i zc 0)])), (cs_X zc 0 2, .inl (cA 0, 48, .inl (cs_I zc 0))), (cs_X zc 0 3, .inl (cA 0, 48, .inl (cs_I zc 1))), (cs_X zc 0 4, .inl (cA 0, 48, .inl (cs_I zc 0))), (cs_X zc 0 5, .inl (cA 0, 48, .inl (cs_I zc 1)))] H := hP
              have hD : va_D _ [(cs_X zc 0 0, .inr (10, [.ref (cs_X zc 0 1), .ref (cs_X zc 0 6), .ref (cs_X zc 0 7), .ref (cs_X zc 0 8), .ref (cs_X zc 0 9), .ref (cs_X zc 0 10), .ref (cs_X zc 0 11), .int (nI (cs_n zc 0)), .int (nI (cs_n zc 1)), .int (nI (cs_n zc 2)), .int (nI (cs_n zc 3)), va_rf (opN (cs_n zc 4) (fun _ => cs_X zc 5 0)), .int 0])), cR10 cA zc, cSh zc js, cSc cA zc js, (cs_X zc 0 1, .inr (3, [.ref (cs_X zc 0 2), .ref (cs_X zc 0 3), .ref (cs_X zc 0 4), .ref (cs_X zc 0 5), .int (cs_i zc 0)])), (cs_X zc 0 2, .inl (cA 0, 48, .inl (cs_I zc 0))), (cs_X zc 0 3, .inl (cA 0, 48, .inl (cs_I zc 1))), (cs_X zc 0 4, .inl (cA 0, 48, .inl (cs_I zc 0))), (cs_X zc 0 5, .inl (cA 0, 48, .inl (cs_I zc 1)))] := hD
              refine lv_iconst (v := 0) hx hb dX10_chart_89 (by decide) ?_
              refine lv_istore (lv' := [(8, .int 0), (7, .int (cfault (cs_I zc 8 js) (cs_I zc 9 js) ln ix (nI 0) (nI sa))), (6, .ref (cs_X zc 6 js)), (0, .ref (cs_X zc 0 0)), (1, .int (nI js)), (2, .int ln), (3, .int ix), (4, .int 0), (5, .int (nI sa))]) hx hb dX10_chart_90 hl (by decide) rfl (fun ls hl => ?_)
              refine lv_iload hx hb dX10_chart_92 (lv_at hl 0 rfl) ?_
              refine lv_iload hx hb dX10_chart_94 (lv_at hl 7 rfl) ?_
              refine lv_icmp_ge (tgt := 138) hx hb dX10_chart_96 (by decide) (fun c12 => ?_) (fun c12 => ?_)
              · skip
                refine lv_aload_n hx hb dX10_chart_138 rfl (lv_at hl 3 rfl) ?_
                refine va_get (D := (dC, dI)) (ci := 10) (v := .ref (cs_X zc 0 1)) (C := RX10) (T := TX10) (N := 13) hx hb hts hiX10 hown hK hP 0 rfl rfl 0 (by decide) (hts (.fieldLink RX10 12 "TributePitches" "lode" "LTributePitches$Lode;") (List.mem_of_getElem? (i := 2) rfl)) (fun _ h9 => h9) rfl dX10_chart_139 ?_
                refine lv_aload_n hx hb dX10_chart_142 rfl (lv_at hl 3 rfl) ?_
                refine va_get (D := (dC, dI)) (ci := 10) (v := .ref (cs_X zc 0 1)) (C := RX10) (T := TX10) (N := 13) hx hb hts hiX10 hown hK hP 0 rfl rfl 0 (by decide) (hts (.fieldLink RX10 12 "TributePitches" "lode" "LTributePitches$Lode;") (List.mem_of_getElem? (i := 2) rfl)) (fun _ h9 => h9) rfl dX10_chart_143 ?_
                refine va_get (D := (dC, dI)) (ci := 3) (v := .int (cs_i zc 0)) (C := RX3) (T := TX3) (N := 5) hx hb hts hiX3 hown hK hP 4 rfl rfl 4 (by decide) (hts (.fieldLink RX10 79 "TributePitches$Lode" "law" "I") (List.mem_of_getElem? (i := 4) rfl)) (fun _ h9 => h9) rfl dX10_chart_146 ?_
                have hPc := hP.sub (ws' := [(cs_X zc 0 1, .inr (3, [.ref (cs_X zc 0 2), .ref (cs_X zc 0 3), .ref (cs_X zc 0 4), .ref (cs_X zc 0 5), .int (cs_i zc 0)])), (cs_X zc 0 2, .inl (cA 0, 48, .inl (cs_I zc 0))), (cs_X zc 0 3, .inl (cA 0, 48, .inl (cs_I zc 1))), (cs_X zc 0 4, .inl (cA 0, 48, .inl (cs_I zc 0))), (cs_X zc 0 5, .inl (cA 0, 48, .inl (cs_I zc 1)))]) [4, 5, 6, 7, 8] rfl
                have hDc := hD.sub (ws' := [(cs_X zc 0 1, .inr (3, [.ref (cs_X zc 0 2), .ref (cs_X zc 0 3), .ref (cs_X zc 0 4), .ref (cs_X zc 0 5), .int (cs_i zc 0)])), (cs_X zc 0 2, .inl (cA 0, 48, .inl (cs_I zc 0))), (cs_X zc 0 3, .inl (cA 0, 48, .inl (cs_I zc 1))), (cs_X zc 0 4, .inl (cA 0, 48, .inl (cs_I zc 0))), (cs_X zc 0 5, .inl (cA 0, 48, .inl (cs_I zc 1)))]) [4, 5, 6, 7, 8] (by decide) rfl
                have hKc := hK.sub (tys' := [(cA 0, .int)]) [0] rfl
                have hFc := va_free (wc := [(cs_X zc 0 1, .inr (3, [.ref (cs_X zc 0 2), .ref (cs_X zc 0 3), .ref (cs_X zc 0 4), .ref (cs_X zc 0 5), .int (cs_i zc 0)])), (cs_X zc 0 2, .inl (cA 0, 48, .inl (cs_I zc 0))), (cs_X zc 0 3, .inl (cA 0, 48, .inl (cs_I zc 1))), (cs_X zc 0 4, .inl (cA 0, 48, .inl (cs_I zc 0))), (cs_X zc 0 5, .inl (cA 0, 48, .inl (cs_I zc 1)))]) hD hS hA [4, 5, 6, 7, 8] rfl
                refine va_calli (va_runV (As := [.int (cs_i zc 0)]) (rest := []) ⟨hx, hb, hml, hown, hts⟩ (s_endTrial l dC dI (cA 0) _ (cs_X zc 0 1) (cs_X zc 0 2) (cs_X zc 0 3) (cs_X zc 0 4) (cs_X zc 0 5) (cs_i zc 0) (cs_i zc 0) (cs_I zc 0) (cs_I zc 1) (cs_I zc 0) (cs_I zc 1) ) (cwV 1 hts gX10_chart_X3_endTrial rfl rfl rfl (by decide +kernel) ⟨Nat.le_of_ble_eq_true rfl, Nat.le_of_ble_eq_true rfl⟩) (pw_preV (va_recv hKc hPc (ci := 3) (q0 := 0) rfl rfl) hPc hKc hDc hN) rfl rfl hl.1 rfl (lv_room (Nat.le_of_ble_eq_true rfl)) dX10_chart_149 ⟨Nat.le_of_ble_eq_true rfl, Nat.le_of_ble_eq_true rfl⟩) hS (fun q _ h => hFc q h) hFc (fun r13 u t H1 locs ht hvm hw hB hz1 hk1 hS => ?_)
                obtain ⟨fl1_14, fh1_15, la1_16, tl1_17, th1_18⟩ := u
                have hr13 : (tl1_17 = dnL (cs_i zc 0) (swL (cs_i zc 0) (cs_I zc 0) 48) 48 ∧ th1_18 = dnH (cs_i zc 0) (swH (cs_i zc 0) (cs_I zc 1) 48) 48) ∧ ((r13 = -3 ∧ (∃ j, j < 48 ∧ th1_18 j < tl1_17 j) ∧ fl1_14 = (cs_I zc 0) ∧ fh1_15 = (cs_I zc 1) ∧ la1_16 = (cs_i zc 0)) ∨ (r13 = nI (fa_cnt (chg (cs_I zc 0) (cs_I zc 1) tl1_17 th1_18) 48) ∧ (∀ j, j < 48 → ¬ th1_18 j < tl1_17 j) ∧ fl1_14 = tl1_17 ∧ fh1_15 = th1_18 ∧ la1_16 = (cs_i zc 0))) := hw
                obtain ⟨hP1, hK1, hD1⟩ := hB
                rw [ht] at hP1
                obtain ⟨hP, hD⟩ := va_join (wr := [(cs_X zc 0 0, .inr (10, [.ref (cs_X zc 0 1), .ref (cs_X zc 0 6), .ref (cs_X zc 0 7), .ref (cs_X zc 0 8), .ref (cs_X zc 0 9), .ref (cs_X zc 0 10), .ref (cs_X zc 0 11), .int (nI (cs_n zc 0)), .int (nI (cs_n zc 1)), .int (nI (cs_n zc 2)), .int (nI (cs_n zc 3)), va_rf (opN (cs_n zc 4) (fun _ => cs_X zc 5 0)), .int 0])), cR10 cA zc, cSh zc js, cSc cA zc js]) (w1 := [(cs_X zc 0 1, .inr (3, [.ref (cs_X zc 0 2), .ref (cs_X zc 0 3), .ref (cs_X zc 0 4), .ref (cs_X zc 0 5), .int la1_16])), (cs_X zc 0 2, .inl (cA 0, 48, .inl fl1_14)), (cs_X zc 0 3, .inl (cA 0, 48, .inl fh1_15)), (cs_X zc 0 4, .inl (cA 0, 48, .inl tl1_17)), (cs_X zc 0 5, .inl (cA 0, 48, .inl th1_18))]) hP hD [4, 5, 6, 7, 8] [0, 1, 2, 3] rfl rfl (by decide) (by decide) hk1 hFc hP1 hD1
                generalize H1 = H at hP hS ⊢
                have hP : va_P (dC, dI) vwCl [(cs_X zc 0 0, .inr (10, [.ref (cs_X zc 0 1), .ref (cs_X zc 0 6), .ref (cs_X zc 0 7), .ref (cs_X zc 0 8), .ref (cs_X zc 0 9), .ref (cs_X zc 0 10), .ref (cs_X zc 0 11), .int (nI (cs_n zc 0)), .int (nI (cs_n zc 1)), .int (nI (cs_n zc 2)), .int (nI (cs_n zc 3)), va_rf (opN (cs_n zc 4) (fun _ => cs_X zc 5 0)), .int 0])), cR10 cA zc, cSh zc js, cSc cA zc js, (cs_X zc 0 1, .inr (3, [.ref (cs_X zc 0 2), .ref (cs_X zc 0 3), .ref (cs_X zc 0 4), .ref (cs_X zc 0 5), .int la1_16])), (cs_X zc 0 2, .inl (cA 0, 48, .inl fl1_14)), (cs_X zc 0 3, .inl (cA 0, 48, .inl fh1_15)), (cs_X zc 0 4, .inl (cA 0, 48, .inl tl1_17)), (cs_X zc 0 5, .inl (cA 0, 48, .inl th1_18))] H := hP
                have hD : va_D _ [(cs_X zc 0 0, .inr (10, [.ref (cs_X zc 0 1), .ref (cs_X zc 0 6), .ref (cs_X zc 0 7), .ref (cs_X zc 0 8), .ref (cs_X zc 0 9), .ref (cs_X zc 0 10), .ref (cs_X zc 0 11), .int (nI (cs_n zc 0)), .int (nI (cs_n zc 1)), .int (nI (cs_n zc 2)), .int (nI (cs_n zc 3)), va_rf (opN (cs_n zc 4) (fun _ => cs_X zc 5 0)), .int 0])), cR10 cA zc, cSh zc js, cSc cA zc js, (cs_X zc 0 1, .inr (3, [.ref (cs_X zc 0 2), .ref (cs_X zc 0 3), .ref (cs_X zc 0 4), .ref (cs_X zc 0 5), .int la1_16])), (cs_X zc 0 2, .inl (cA 0, 48, .inl fl1_14)), (cs_X zc 0 3, .inl (cA 0, 48, .inl fh1_15)), (cs_X zc 0 4, .inl (cA 0, 48, .inl tl1_17)), (cs_X zc 0 5, .inl (cA 0, 48, .inl th1_18))] := hD
                subst hQ
                have hP9 : va_P (dC, dI) vwCl [(cs_X zc 0 0, .inr (10, [.ref (cs_X zc 0 1), .ref (cs_X zc 0 6), .ref (cs_X zc 0 7), .ref (cs_X zc 0 8), .ref (cs_X zc 0 9), .ref (cs_X zc 0 10), .ref (cs_X zc 0 11), .int (nI (cs_n zc 0)), .int (nI (cs_n zc 1)), .int (nI (cs_n zc 2)), .int (nI (cs_n zc 3)), va_rf (opN (cs_n zc 4) (fun _ => cs_X zc 5 0)), .int 0])), cR10 cA zc, cSh zc js, cSc cA zc js, (cs_X zc 0 1, .inr (3, [.ref (cs_X zc 0 2), .ref (cs_X zc 0 3), .ref (cs_X zc 0 4), .ref (cs_X zc 0 5), .int la1_16])), (cs_X zc 0 2, .inl (cA 0, 48, .inl fl1_14)), (cs_X zc 0 3, .inl (cA 0, 48, .inl fh1_15)), (cs_X zc 0 4, .inl (cA 0, 48, .inl tl1_17)), (cs_X zc 0 5, .inl (cA 0, 48, .inl th1_18))] H := hP.sub [0, 1, 2, 3, 4, 5, 6, 7, 8] rfl
                have hD9 : va_D (va_A [cTP zc, cR10 cA zc, cSh zc js, cSc cA zc js, cLo zc, cA2 cA zc, cA3 cA zc, cA4 cA zc, cA5 cA zc] s.heap.size) [(cs_X zc 0 0, .inr (10, [.ref (cs_X zc 0 1), .ref (cs_X zc 0 6), .ref (cs_X zc 0 7), .ref (cs_X zc 0 8), .ref (cs_X zc 0 9), .ref (cs_X zc 0 10), .ref (cs_X zc 0 11), .int (nI (cs_n zc 0)), .int (nI (cs_n zc 1)), .int (nI (cs_n zc 2)), .int (nI (cs_n zc 3)), va_rf (opN (cs_n zc 4) (fun _ => cs_X zc 5 0)), .int 0])), cR10 cA zc, cSh zc js, cSc cA zc js, (cs_X zc 0 1, .inr (3, [.ref (cs_X zc 0 2), .ref (cs_X zc 0 3), .ref (cs_X zc 0 4), .ref (cs_X zc 0 5), .int la1_16])), (cs_X zc 0 2, .inl (cA 0, 48, .inl fl1_14)), (cs_X zc 0 3, .inl (cA 0, 48, .inl fh1_15)), (cs_X zc 0 4, .inl (cA 0, 48, .inl tl1_17)), (cs_X zc 0 5, .inl (cA 0, 48, .inl th1_18))] := hD.sub [0, 1, 2, 3, 4, 5, 6, 7, 8] (by decide) rfl
                have hlf := lf_chart_1 cA zc ln ix js sa fl1_14 fh1_15 la1_16 tl1_17 th1_18 r13 hjs c4 c6 c8 hs48 hr13 hI
                exact W.iret (v := r13) hx hb hr (fun t ht hW => have hJ := kjoin hPk hDk hks rfl (hS.F ht) (by rw [ht]; exact hP9) hD9 hlf.2.1 hlf.2.2; ⟨⟨r13, (va_up (va_up (cs_i zc) 2 0) 0 la1_16, cs_n zc, va_up (va_up (va_up (va_up (cs_I zc) 0 fl1_14) 1 fh1_15) 2 tl1_17) 3 th1_18, cs_L zc, cs_N zc, cs_S zc, cs_X zc), rfl, ⟨⟨hlf.1, rfl⟩, (Or.inr (Or.inl ⟨js, rfl, hjs, c4, c6, c8, sa, rfl, rfl, hs48, fl1_14, fh1_15, la1_16, tl1_17, th1_18, r13, hr13, rfl, rfl⟩))⟩, hJ.1, va_K.moved hW.alike hKk, hJ.2.1⟩, hJ.2.2⟩) (fun q h => kAll_A hks _ (hS.2.2 q h)) dX10_chart_152
              · exact absurd c12 (by decide)
            · exact absurd c10 (by decide)
          · subst e3
            refine lv_aload hx hb dX10_chart_65 (lv_at hl 1 rfl) ?_
            refine lv_sipush (v := 1000) hx hb dX10_chart_67 (by decide) ?_
            refine lv_iload_n hx hb dX10_chart_70 rfl (lv_at hl 5 rfl) ?_
            refine lv_iload hx hb dX10_chart_71 (lv_at hl 6 rfl) ?_
            have hPc := hP.sub (ws' := [cSh zc js, cSc cA zc js]) [2, 3] rfl
            have hDc := hD.sub (ws' := [cSh zc js, cSc cA zc js]) [2, 3] (by decide) rfl
            have hKc := hK.sub (tys' := [(cA 0, .int)]) [0] rfl
            refine vp_callSi (va_Run.run (va_runV (As := [.int 1000, .int (nI ia), .int (nI nn)]) (rest := []) ⟨hx, hb, hml, hown, hts⟩ (s_hasAbove l dC dI (cA 0) _ (cs_X zc 6 js) (cs_X zc 7 js) ia nn (.int (cs_I zc 8 js)) (.int (cs_I zc 9 js)) 1000 (cs_S zc js) hian) (cwV 3 hts gX10_chart_X7_hasAbove rfl rfl rfl (by decide +kernel) ⟨Nat.le_of_ble_eq_true rfl, Nat.le_of_ble_eq_true rfl⟩) (pw_preV (va_recv hKc hPc (ci := 7) (q0 := 0) rfl rfl) hPc hKc hDc hN) rfl rfl hl.1 rfl (lv_room (Nat.le_of_ble_eq_true rfl)) dX10_chart_73 ⟨Nat.le_of_ble_eq_true rfl, Nat.le_of_ble_eq_true rfl⟩)) (fun r19 hr19 => ?_)
            have hr19 : (r19 = 0 ∧ ∀ c, c < nn → (cs_S zc js) (ia + c) ≤ 1000) ∨ (r19 = 1 ∧ ∃ c, c < nn ∧ 1000 < (cs_S zc js) (ia + c)) := hr19
            rcases hr19 with ⟨er19, habr19⟩ | ⟨er19, habr19⟩
            · subst er19
              refine lv_if_eq (tgt := 82) hx hb dX10_chart_76 (by decide) (fun c20 => ?_) (fun c20 => ?_)
              · skip
                refine lv_aload_n hx hb dX10_chart_82 rfl (lv_at hl 2 rfl) ?_
                refine va_get (D := (dC, dI)) (ci := 10) (v := .ref (cs_X zc 0 1)) (C := RX10) (T := TX10) (N := 13) hx hb hts hiX10 hown hK hP 0 rfl rfl 0 (by decide) (hts (.fieldLink RX10 12 "TributePitches" "lode" "LTributePitches$Lode;") (List.mem_of_getElem? (i := 2) rfl)) (fun _ h9 => h9) rfl dX10_chart_83 ?_
                have hPc := hP.sub (ws' := [cLo zc, cA2 cA zc, cA3 cA zc, cA4 cA zc, cA5 cA zc]) [4, 5, 6, 7, 8] rfl
                have hDc := hD.sub (ws' := [cLo zc, cA2 cA zc, cA3 cA zc, cA4 cA zc, cA5 cA zc]) [4, 5, 6, 7, 8] (by decide) rfl
                have hKc := hK.sub (tys' := [(cA 0, .int)]) [0] rfl
                have hFc := va_free (wc := [cLo zc, cA2 cA zc, cA3 cA zc, cA4 cA zc, cA5 cA zc]) hD hS hA [4, 5, 6, 7, 8] rfl
                refine va_callv (va_runV (As := []) (rest := []) ⟨hx, hb, hml, hown, hts⟩ (c_X3_beginTrial l dC dI (cA 0) _ (cs_X zc 0 1) (cs_X zc 0 2) (cs_X zc 0 3) (cs_X zc 0 4) (cs_X zc 0 5) (cs_i zc 0) (cs_I zc 0) (cs_I zc 1) (cs_I zc 2) (cs_I zc 3) ) (cwV 0 hts gX10_chart_X3_beginTrial rfl rfl rfl (by decide +kernel) ⟨Nat.le_of_ble_eq_true rfl, Nat.le_of_ble_eq_true rfl⟩) (pw_preV (va_recv hKc hPc (ci := 3) (q0 := 0) rfl rfl) hPc hKc hDc hN) rfl rfl hl.1 rfl (lv_room (Nat.le_of_ble_eq_true rfl)) dX10_chart_86 ⟨Nat.le_of_ble_eq_true rfl, Nat.le_of_ble_eq_true rfl⟩) hS (fun q _ h => hFc q h) hFc (fun u t H1 locs ht hvm hw hB hz1 hk1 hS => ?_)
                obtain ⟨hP1, hK1, hD1⟩ := hB
                rw [ht] at hP1
                obtain ⟨hP, hD⟩ := va_join (wr := [(cs_X zc 0 0, .inr (10, [.ref (cs_X zc 0 1), .ref (cs_X zc 0 6), .ref (cs_X zc 0 7), .ref (cs_X zc 0 8), .ref (cs_X zc 0 9), .ref (cs_X zc 0 10), .ref (cs_X zc 0 11), .int (nI (cs_n zc 0)), .int (nI (cs_n zc 1)), .int (nI (cs_n zc 2)), .int (nI (cs_n zc 3)), va_rf (opN (cs_n zc 4) (fun _ => cs_X zc 5 0)), .int 0])), cR10 cA zc, cSh zc js, cSc cA zc js]) (w1 := [(cs_X zc 0 1, .inr (3, [.ref (cs_X zc 0 2), .ref (cs_X zc 0 3), .ref (cs_X zc 0 4), .ref (cs_X zc 0 5), .int (cs_i zc 0)])), (cs_X zc 0 2, .inl (cA 0, 48, .inl (cs_I zc 0))), (cs_X zc 0 3, .inl (cA 0, 48, .inl (cs_I zc 1))), (cs_X zc 0 4, .inl (cA 0, 48, .inl (cs_I zc 0))), (cs_X zc 0 5, .inl (cA 0, 48, .inl (cs_I zc 1)))]) hP hD [4, 5, 6, 7, 8] [0, 1, 2, 3] rfl rfl (by decide) (by decide) hk1 hFc hP1 hD1
                generalize H1 = H at hP hS ⊢
                have hP : va_P (dC, dI) vwCl [(cs_X zc 0 0, .inr (10, [.ref (cs_X zc 0 1), .ref (cs_X zc 0 6), .ref (cs_X zc 0 7), .ref (cs_X zc 0 8), .ref (cs_X zc 0 9), .ref (cs_X zc 0 10), .ref (cs_X zc 0 11), .int (nI (cs_n zc 0)), .int (nI (cs_n zc 1)), .int (nI (cs_n zc 2)), .int (nI (cs_n zc 3)), va_rf (opN (cs_n zc 4) (fun _ => cs_X zc 5 0)), .int 0])), cR10 cA zc, cSh zc js, cSc cA zc js, (cs_X zc 0 1, .inr (3, [.ref (cs_X zc 0 2), .ref (cs_X zc 0 3), .ref (cs_X zc 0 4), .ref (cs_X zc 0 5), .int (cs_i zc 0)])), (cs_X zc 0 2, .inl (cA 0, 48, .inl (cs_I zc 0))), (cs_X zc 0 3, .inl (cA 0, 48, .inl (cs_I zc 1))), (cs_X zc 0 4, .inl (cA 0, 48, .inl (cs_I zc 0))), (cs_X zc 0 5, .inl (cA 0, 48, .inl (cs_I zc 1)))] H := hP
                have hD : va_D _ [(cs_X zc 0 0, .inr (10, [.ref (cs_X zc 0 1), .ref (cs_X zc 0 6), .ref (cs_X zc 0 7), .ref (cs_X zc 0 8), .ref (cs_X zc 0 9), .ref (cs_X zc 0 10), .ref (cs_X zc 0 11), .int (nI (cs_n zc 0)), .int (nI (cs_n zc 1)), .int (nI (cs_n zc 2)), .int (nI (cs_n zc 3)), va_rf (opN (cs_n zc 4) (fun _ => cs_X zc 5 0)), .int 0])), cR10 cA zc, cSh zc js, cSc cA zc js, (cs_X zc 0 1, .inr (3, [.ref (cs_X zc 0 2), .ref (cs_X zc 0 3), .ref (cs_X zc 0 4), .ref (cs_X zc 0 5), .int (cs_i zc 0)])), (cs_X zc 0 2, .inl (cA 0, 48, .inl (cs_I zc 0))), (cs_X zc 0 3, .inl (cA 0, 48, .inl (cs_I zc 1))), (cs_X zc 0 4, .inl (cA 0, 48, .inl (cs_I zc 0))), (cs_X zc 0 5, .inl (cA 0, 48, .inl (cs_I zc 1)))] := hD
                refine lv_iconst (v := 0) hx hb dX10_chart_89 (by decide) ?_
                refine lv_istore (lv' := [(8, .int 0), (7, .int (cfault (cs_I zc 8 js) (cs_I zc 9 js) ln (nI ia) (nI nn) (nI sa))), (6, .ref (cs_X zc 6 js)), (0, .ref (cs_X zc 0 0)), (1, .int (nI js)), (2, .int ln), (3, .int (nI ia)), (4, .int (nI nn)), (5, .int (nI sa))]) hx hb dX10_chart_90 hl (by decide) rfl (fun ls hl => ?_)
                have loop92 : ∀ (ni92 i92 : Nat) (al : Nat → Int32) (ah : Nat → Int32) (H : Heap) (locs : List Loc) (ls : Array Slot), i92 ≤ nn → nn + 1 ≤ i92 + ni92 → al = chL (cs_S zc js) ia sa (cs_I zc 0) i92 → ah = chH (cs_S zc js) ia sa (cs_I zc 1) i92 → va_P (dC, dI) vwCl [(cs_X zc 0 0, .inr (10, [.ref (cs_X zc 0 1), .ref (cs_X zc 0 6), .ref (cs_X zc 0 7), .ref (cs_X zc 0 8), .ref (cs_X zc 0 9), .ref (cs_X zc 0 10), .ref (cs_X zc 0 11), .int (nI (cs_n zc 0)), .int (nI (cs_n zc 1)), .int (nI (cs_n zc 2)), .int (nI (cs_n zc 3)), va_rf (opN (cs_n zc 4) (fun _ => cs_X zc 5 0)), .int 0])), cR10 cA zc, cSh zc js, cSc cA zc js, (cs_X zc 0 1, .inr (3, [.ref (cs_X zc 0 2), .ref (cs_X zc 0 3), .ref (cs_X zc 0 4), .ref (cs_X zc 0 5), .int (cs_i zc 0)])), (cs_X zc 0 2, .inl (cA 0, 48, .inl (cs_I zc 0))), (cs_X zc 0 3, .inl (cA 0, 48, .inl (cs_I zc 1))), (cs_X zc 0 4, .inl (cA 0, 48, .inl al)), (cs_X zc 0 5, .inl (cA 0, 48, .inl ah))] H → va_D (va_A [cTP zc, cR10 cA zc, cSh zc js, cSc cA zc js, cLo zc, cA2 cA zc, cA3 cA zc, cA4 cA zc, cA5 cA zc] s.heap.size) [(cs_X zc 0 0, .inr (10, [.ref (cs_X zc 0 1), .ref (cs_X zc 0 6), .ref (cs_X zc 0 7), .ref (cs_X zc 0 8), .ref (cs_X zc 0 9), .ref (cs_X zc 0 10), .ref (cs_X zc 0 11), .int (nI (cs_n zc 0)), .int (nI (cs_n zc 1)), .int (nI (cs_n zc 2)), .int (nI (cs_n zc 3)), va_rf (opN (cs_n zc 4) (fun _ => cs_X zc 5 0)), .int 0])), cR10 cA zc, cSh zc js, cSc cA zc js, (cs_X zc 0 1, .inr (3, [.ref (cs_X zc 0 2), .ref (cs_X zc 0 3), .ref (cs_X zc 0 4), .ref (cs_X zc 0 5), .int (cs_i zc 0)])), (cs_X zc 0 2, .inl (cA 0, 48, .inl (cs_I zc 0))), (cs_X zc 0 3, .inl (cA 0, 48, .inl (cs_I zc 1))), (cs_X zc 0 4, .inl (cA 0, 48, .inl al)), (cs_X zc 0 5, .inl (cA 0, 48, .inl ah))] → va_S (va_A [cTP zc, cR10 cA zc, cSh zc js, cSc cA zc js, cLo zc, cA2 cA zc, cA3 cA zc, cA4 cA zc, cA5 cA zc] s.heap.size) s.heap H locs → lv_has ls 10 [(8, .int (nI i92)), (7, .int (cfault (cs_I zc 8 js) (cs_I zc 9 js) ln (nI ia) (nI nn) (nI sa))), (6, .ref (cs_X zc 6 js)), (0, .ref (cs_X zc 0 0)), (1, .int (nI js)), (2, .int ln), (3, .int (nI ia)), (4, .int (nI nn)), (5, .int (nI sa))] → W p l e ({ frames := 5, cells := 0, slots := 0, locals := 150 } : Room) s m ([.ref (cs_X zc 0 0), .int (nI js), .int ln, .int (nI ia), .int (nI nn), .int (nI sa)] : List Value).toArray below meth c0 H locs 0 0 Q (F0 m 92 ls []) := by
                  intro ni92
                  induction ni92 with
                  | zero =>
                    intro i92 al ah H locs ls h1 h2
                    exact absurd h2 (by omega)
                  | succ ni92 ihi92 =>
                    intro i92 al ah H locs ls hlei92 hni92 hal hah hP hD hS hl
                    refine lv_iload hx hb dX10_chart_92 (lv_at hl 0 rfl) ?_
                    refine lv_iload hx hb dX10_chart_94 (lv_at hl 7 rfl) ?_
                    refine lv_icmp_ge (tgt := 138) hx hb dX10_chart_96 (by decide) (fun c22 => ?_) (fun c22 => ?_)
                    · skip
                      have hei92 : nn = i92 := (by have q := (nI_leI (a := nn) (b := i92) (by omega) (by omega)).mp c22; omega)
                      subst hei92
                      refine lv_aload_n hx hb dX10_chart_138 rfl (lv_at hl 3 rfl) ?_
                      refine va_get (D := (dC, dI)) (ci := 10) (v := .ref (cs_X zc 0 1)) (C := RX10) (T := TX10) (N := 13) hx hb hts hiX10 hown hK hP 0 rfl rfl 0 (by decide) (hts (.fieldLink RX10 12 "TributePitches" "lode" "LTributePitches$Lode;") (List.mem_of_getElem? (i := 2) rfl)) (fun _ h9 => h9) rfl dX10_chart_139 ?_
                      refine lv_aload_n hx hb dX10_chart_142 rfl (lv_at hl 3 rfl) ?_
                      refine va_get (D := (dC, dI)) (ci := 10) (v := .ref (cs_X zc 0 1)) (C := RX10) (T := TX10) (N := 13) hx hb hts hiX10 hown hK hP 0 rfl rfl 0 (by decide) (hts (.fieldLink RX10 12 "TributePitches" "lode" "LTributePitches$Lode;") (List.mem_of_getElem? (i := 2) rfl)) (fun _ h9 => h9) rfl dX10_chart_143 ?_
                      refine va_get (D := (dC, dI)) (ci := 3) (v := .int (cs_i zc 0)) (C := RX3) (T := TX3) (N := 5) hx hb hts hiX3 hown hK hP 4 rfl rfl 4 (by decide) (hts (.fieldLink RX10 79 "TributePitches$Lode" "law" "I") (List.mem_of_getElem? (i := 4) rfl)) (fun _ h9 => h9) rfl dX10_chart_146 ?_
                      have hPc := hP.sub (ws' := [(cs_X zc 0 1, .inr (3, [.ref (cs_X zc 0 2), .ref (cs_X zc 0 3), .ref (cs_X zc 0 4), .ref (cs_X zc 0 5), .int (cs_i zc 0)])), (cs_X zc 0 2, .inl (cA 0, 48, .inl (cs_I zc 0))), (cs_X zc 0 3, .inl (cA 0, 48, .inl (cs_I zc 1))), (cs_X zc 0 4, .inl (cA 0, 48, .inl al)), (cs_X zc 0 5, .inl (cA 0, 48, .inl ah))]) [4, 5, 6, 7, 8] rfl
                      have hDc := hD.sub (ws' := [(cs_X zc 0 1, .inr (3, [.ref (cs_X zc 0 2), .ref (cs_X zc 0 3), .ref (cs_X zc 0 4), .ref (cs_X zc 0 5), .int (cs_i zc 0)])), (cs_X zc 0 2, .inl (cA 0, 48, .inl (cs_I zc 0))), (cs_X zc 0 3, .inl (cA 0, 48, .inl (cs_I zc 1))), (cs_X zc 0 4, .inl (cA 0, 48, .inl al)), (cs_X zc 0 5, .inl (cA 0, 48, .inl ah))]) [4, 5, 6, 7, 8] (by decide) rfl
                      have hKc := hK.sub (tys' := [(cA 0, .int)]) [0] rfl
                      have hFc := va_free (wc := [(cs_X zc 0 1, .inr (3, [.ref (cs_X zc 0 2), .ref (cs_X zc 0 3), .ref (cs_X zc 0 4), .ref (cs_X zc 0 5), .int (cs_i zc 0)])), (cs_X zc 0 2, .inl (cA 0, 48, .inl (cs_I zc 0))), (cs_X zc 0 3, .inl (cA 0, 48, .inl (cs_I zc 1))), (cs_X zc 0 4, .inl (cA 0, 48, .inl al)), (cs_X zc 0 5, .inl (cA 0, 48, .inl ah))]) hD hS hA [4, 5, 6, 7, 8] rfl
                      refine va_calli (va_runV (As := [.int (cs_i zc 0)]) (rest := []) ⟨hx, hb, hml, hown, hts⟩ (s_endTrial l dC dI (cA 0) _ (cs_X zc 0 1) (cs_X zc 0 2) (cs_X zc 0 3) (cs_X zc 0 4) (cs_X zc 0 5) (cs_i zc 0) (cs_i zc 0) (cs_I zc 0) (cs_I zc 1) al ah ) (cwV 1 hts gX10_chart_X3_endTrial rfl rfl rfl (by decide +kernel) ⟨Nat.le_of_ble_eq_true rfl, Nat.le_of_ble_eq_true rfl⟩) (pw_preV (va_recv hKc hPc (ci := 3) (q0 := 0) rfl rfl) hPc hKc hDc hN) rfl rfl hl.1 rfl (lv_room (Nat.le_of_ble_eq_true rfl)) dX10_chart_149 ⟨Nat.le_of_ble_eq_true rfl, Nat.le_of_ble_eq_true rfl⟩) hS (fun q _ h => hFc q h) hFc (fun r23 u t H1 locs ht hvm hw hB hz1 hk1 hS => ?_)
                      obtain ⟨fl1_24, fh1_25, la1_26, tl1_27, th1_28⟩ := u
                      have hr23 : (tl1_27 = dnL (cs_i zc 0) (swL (cs_i zc 0) al 48) 48 ∧ th1_28 = dnH (cs_i zc 0) (swH (cs_i zc 0) ah 48) 48) ∧ ((r23 = -3 ∧ (∃ j, j < 48 ∧ th1_28 j < tl1_27 j) ∧ fl1_24 = (cs_I zc 0) ∧ fh1_25 = (cs_I zc 1) ∧ la1_26 = (cs_i zc 0)) ∨ (r23 = nI (fa_cnt (chg (cs_I zc 0) (cs_I zc 1) tl1_27 th1_28) 48) ∧ (∀ j, j < 48 → ¬ th1_28 j < tl1_27 j) ∧ fl1_24 = tl1_27 ∧ fh1_25 = th1_28 ∧ la1_26 = (cs_i zc 0))) := hw
                      obtain ⟨hP1, hK1, hD1⟩ := hB
                      rw [ht] at hP1
                      obtain ⟨hP, hD⟩ := va_join (wr := [(cs_X zc 0 0, .inr (10, [.ref (cs_X zc 0 1), .ref (cs_X zc 0 6), .ref (cs_X zc 0 7), .ref (cs_X zc 0 8), .ref (cs_X zc 0 9), .ref (cs_X zc 0 10), .ref (cs_X zc 0 11), .int (nI (cs_n zc 0)), .int (nI (cs_n zc 1)), .int (nI (cs_n zc 2)), .int (nI (cs_n zc 3)), va_rf (opN (cs_n zc 4) (fun _ => cs_X zc 5 0)), .int 0])), cR10 cA zc, cSh zc js, cSc cA zc js]) (w1 := [(cs_X zc 0 1, .inr (3, [.ref (cs_X zc 0 2), .ref (cs_X zc 0 3), .ref (cs_X zc 0 4), .ref (cs_X zc 0 5), .int la1_26])), (cs_X zc 0 2, .inl (cA 0, 48, .inl fl1_24)), (cs_X zc 0 3, .inl (cA 0, 48, .inl fh1_25)), (cs_X zc 0 4, .inl (cA 0, 48, .inl tl1_27)), (cs_X zc 0 5, .inl (cA 0, 48, .inl th1_28))]) hP hD [4, 5, 6, 7, 8] [0, 1, 2, 3] rfl rfl (by decide) (by decide) hk1 hFc hP1 hD1
                      generalize H1 = H at hP hS ⊢
                      have hP : va_P (dC, dI) vwCl [(cs_X zc 0 0, .inr (10, [.ref (cs_X zc 0 1), .ref (cs_X zc 0 6), .ref (cs_X zc 0 7), .ref (cs_X zc 0 8), .ref (cs_X zc 0 9), .ref (cs_X zc 0 10), .ref (cs_X zc 0 11), .int (nI (cs_n zc 0)), .int (nI (cs_n zc 1)), .int (nI (cs_n zc 2)), .int (nI (cs_n zc 3)), va_rf (opN (cs_n zc 4) (fun _ => cs_X zc 5 0)), .int 0])), cR10 cA zc, cSh zc js, cSc cA zc js, (cs_X zc 0 1, .inr (3, [.ref (cs_X zc 0 2), .ref (cs_X zc 0 3), .ref (cs_X zc 0 4), .ref (cs_X zc 0 5), .int la1_26])), (cs_X zc 0 2, .inl (cA 0, 48, .inl fl1_24)), (cs_X zc 0 3, .inl (cA 0, 48, .inl fh1_25)), (cs_X zc 0 4, .inl (cA 0, 48, .inl tl1_27)), (cs_X zc 0 5, .inl (cA 0, 48, .inl th1_28))] H := hP
                      have hD : va_D _ [(cs_X zc 0 0, .inr (10, [.ref (cs_X zc 0 1), .ref (cs_X zc 0 6), .ref (cs_X zc 0 7), .ref (cs_X zc 0 8), .ref (cs_X zc 0 9), .ref (cs_X zc 0 10), .ref (cs_X zc 0 11), .int (nI (cs_n zc 0)), .int (nI (cs_n zc 1)), .int (nI (cs_n zc 2)), .int (nI (cs_n zc 3)), va_rf (opN (cs_n zc 4) (fun _ => cs_X zc 5 0)), .int 0])), cR10 cA zc, cSh zc js, cSc cA zc js, (cs_X zc 0 1, .inr (3, [.ref (cs_X zc 0 2), .ref (cs_X zc 0 3), .ref (cs_X zc 0 4), .ref (cs_X zc 0 5), .int la1_26])), (cs_X zc 0 2, .inl (cA 0, 48, .inl fl1_24)), (cs_X zc 0 3, .inl (cA 0, 48, .inl fh1_25)), (cs_X zc 0 4, .inl (cA 0, 48, .inl tl1_27)), (cs_X zc 0 5, .inl (cA 0, 48, .inl th1_28))] := hD
                      subst hQ
                      have hP9 : va_P (dC, dI) vwCl [(cs_X zc 0 0, .inr (10, [.ref (cs_X zc 0 1), .ref (cs_X zc 0 6), .ref (cs_X zc 0 7), .ref (cs_X zc 0 8), .ref (cs_X zc 0 9), .ref (cs_X zc 0 10), .ref (cs_X zc 0 11), .int (nI (cs_n zc 0)), .int (nI (cs_n zc 1)), .int (nI (cs_n zc 2)), .int (nI (cs_n zc 3)), va_rf (opN (cs_n zc 4) (fun _ => cs_X zc 5 0)), .int 0])), cR10 cA zc, cSh zc js, cSc cA zc js, (cs_X zc 0 1, .inr (3, [.ref (cs_X zc 0 2), .ref (cs_X zc 0 3), .ref (cs_X zc 0 4), .ref (cs_X zc 0 5), .int la1_26])), (cs_X zc 0 2, .inl (cA 0, 48, .inl fl1_24)), (cs_X zc 0 3, .inl (cA 0, 48, .inl fh1_25)), (cs_X zc 0 4, .inl (cA 0, 48, .inl tl1_27)), (cs_X zc 0 5, .inl (cA 0, 48, .inl th1_28))] H := hP.sub [0, 1, 2, 3, 4, 5, 6, 7, 8] rfl
                      have hD9 : va_D (va_A [cTP zc, cR10 cA zc, cSh zc js, cSc cA zc js, cLo zc, cA2 cA zc, cA3 cA zc, cA4 cA zc, cA5 cA zc] s.heap.size) [(cs_X zc 0 0, .inr (10, [.ref (cs_X zc 0 1), .ref (cs_X zc 0 6), .ref (cs_X zc 0 7), .ref (cs_X zc 0 8), .ref (cs_X zc 0 9), .ref (cs_X zc 0 10), .ref (cs_X zc 0 11), .int (nI (cs_n zc 0)), .int (nI (cs_n zc 1)), .int (nI (cs_n zc 2)), .int (nI (cs_n zc 3)), va_rf (opN (cs_n zc 4) (fun _ => cs_X zc 5 0)), .int 0])), cR10 cA zc, cSh zc js, cSc cA zc js, (cs_X zc 0 1, .inr (3, [.ref (cs_X zc 0 2), .ref (cs_X zc 0 3), .ref (cs_X zc 0 4), .ref (cs_X zc 0 5), .int la1_26])), (cs_X zc 0 2, .inl (cA 0, 48, .inl fl1_24)), (cs_X zc 0 3, .inl (cA 0, 48, .inl fh1_25)), (cs_X zc 0 4, .inl (cA 0, 48, .inl tl1_27)), (cs_X zc 0 5, .inl (cA 0, 48, .inl th1_28))] := hD.sub [0, 1, 2, 3, 4, 5, 6, 7, 8] (by decide) rfl
                      have hlf := lf_chart_2 cA zc ln js nn sa ia al ah fl1_24 fh1_25 la1_26 tl1_27 th1_28 r23 hjs c4 c6 c8 hsn hs48 hian hia2 habr19 hal hah hr23 hI
                      exact W.iret (v := r23) hx hb hr (fun t ht hW => have hJ := kjoin hPk hDk hks rfl (hS.F ht) (by rw [ht]; exact hP9) hD9 hlf.2.1 hlf.2.2; ⟨⟨r23, (va_up (va_up (cs_i zc) 2 0) 0 la1_26, cs_n zc, va_up (va_up (va_up (va_up (cs_I zc) 0 fl1_24) 1 fh1_25) 2 tl1_27) 3 th1_28, cs_L zc, cs_N zc, cs_S zc, cs_X zc), rfl, ⟨⟨hlf.1, rfl⟩, (Or.inr (Or.inr (Or.inl ⟨js, rfl, hjs, c4, c6, c8, nn, sa, rfl, rfl, hsn, hs48, ia, rfl, hian, hia2, habr19, al, ah, hal, hah, fl1_24, fh1_25, la1_26, tl1_27, th1_28, r23, hr23, rfl, rfl⟩)))⟩, hJ.1, va_K.moved hW.alike hKk, hJ.2.1⟩, hJ.2.2⟩) (fun q h => kAll_A hks _ (hS.2.2 q h)) dX10_chart_152
                    · skip
                      have hlti92 : i92 < nn := (Nat.lt_or_ge i92 nn).elim id (fun q => absurd (nI_le q (by omega)) c22)
                      refine lv_aload hx hb dX10_chart_99 (lv_at hl 2 rfl) ?_
                      refine va_get (D := (dC, dI)) (ci := 7) (v := .ref (cs_X zc 7 js)) (C := RX7) (T := TX7) (N := 3) hx hb hts hiX7 hown hK hP 2 rfl rfl 0 (by decide) (hts (.fieldLink RX10 111 "TributePitches$Sheet" "cells" "[I") (List.mem_of_getElem? (i := 3) rfl)) (fun _ h9 => h9) rfl dX10_chart_101 ?_
                      refine lv_iload_n hx hb dX10_chart_104 rfl (lv_at hl 6 rfl) ?_
                      refine lv_iload hx hb dX10_chart_105 (lv_at hl 0 rfl) ?_
                      refine lv_iadd hx hb dX10_chart_107 ?_
                      refine lv_topi (fun v107 ev107 => ?_)
                      have ev107 : v107 = nI (ia + i92) := by rw [ev107]; exact nI_add _ _
                      subst ev107
                      refine va_iald hx hb hK hP 3 0 rfl rfl (vp_in_nI (by omega) (by omega)) dX10_chart_108 ?_
                      refine lv_topi (fun v29 ev29 => ?_)
                      have ev29 : v29 = (cs_S zc js) (ia + i92) := by rw [ev29]; rw [nI_clamp (by omega)]
                      subst ev29
                      refine lv_istore (lv' := [(9, .int ((cs_S zc js) (ia + i92))), (8, .int (nI i92)), (7, .int (cfault (cs_I zc 8 js) (cs_I zc 9 js) ln (nI ia) (nI nn) (nI sa))), (6, .ref (cs_X zc 6 js)), (0, .ref (cs_X zc 0 0)), (1, .int (nI js)), (2, .int ln), (3, .int (nI ia)), (4, .int (nI nn)), (5, .int (nI sa))]) hx hb dX10_chart_109 hl (by decide) rfl (fun ls hl => ?_)
                      refine lv_iload hx hb dX10_chart_111 (lv_at hl 0 rfl) ?_
                      refine lv_if_lt (tgt := 132) hx hb dX10_chart_113 (by decide) (fun c30 => ?_) (fun c30 => ?_)
                      · skip
                        refine lv_iinc (v := nI (i92 + 1)) (lv' := [(8, .int (nI (i92 + 1))), (9, .int ((cs_S zc js) (ia + i92))), (7, .int (cfault (cs_I zc 8 js) (cs_I zc 9 js) ln (nI ia) (nI nn) (nI sa))), (6, .ref (cs_X zc 6 js)), (0, .ref (cs_X zc 0 0)), (1, .int (nI js)), (2, .int ln), (3, .int (nI ia)), (4, .int (nI nn)), (5, .int (nI sa))]) hx hb dX10_chart_132 hl (k := 1) rfl (nI_1 i92) (by decide) rfl (fun ls hl => ?_)
                        refine lv_goto (tgt := 92) hx hb dX10_chart_135 (by decide) ?_
                        exact ihi92 (i92 + 1) al ah _ _ ls (by omega) (by omega) (by rw [chL, if_pos c30, ← hal]) (by rw [chH, if_pos c30, ← hah]) (hP.sub [0, 1, 2, 3, 4, 5, 6, 7, 8] rfl) (hD.sub [0, 1, 2, 3, 4, 5, 6, 7, 8] (by decide) rfl) hS (lv_sub hl [0, 2, 3, 4, 5, 6, 7, 8, 9] rfl)
                      · skip
                        refine lv_aload_n hx hb dX10_chart_116 rfl (lv_at hl 4 rfl) ?_
                        refine va_get (D := (dC, dI)) (ci := 10) (v := .ref (cs_X zc 0 1)) (C := RX10) (T := TX10) (N := 13) hx hb hts hiX10 hown hK hP 0 rfl rfl 0 (by decide) (hts (.fieldLink RX10 12 "TributePitches" "lode" "LTributePitches$Lode;") (List.mem_of_getElem? (i := 2) rfl)) (fun _ h9 => h9) rfl dX10_chart_117 ?_
                        refine lv_iload hx hb dX10_chart_120 (lv_at hl 9 rfl) ?_
                        refine lv_iload hx hb dX10_chart_122 (lv_at hl 1 rfl) ?_
                        refine lv_iadd hx hb dX10_chart_124 ?_
                        refine lv_topi (fun v124 ev124 => ?_)
                        have ev124 : v124 = nI (sa + i92) := by rw [ev124]; exact nI_add _ _
                        subst ev124
                        refine lv_iload hx hb dX10_chart_125 (lv_at hl 0 rfl) ?_
                        refine lv_iload hx hb dX10_chart_127 (lv_at hl 0 rfl) ?_
                        have hPc := hP.sub (ws' := [(cs_X zc 0 1, .inr (3, [.ref (cs_X zc 0 2), .ref (cs_X zc 0 3), .ref (cs_X zc 0 4), .ref (cs_X zc 0 5), .int (cs_i zc 0)])), (cs_X zc 0 4, .inl (cA 0, 48, .inl al)), (cs_X zc 0 5, .inl (cA 0, 48, .inl ah))]) [4, 7, 8] rfl
                        have hDc := hD.sub (ws' := [(cs_X zc 0 1, .inr (3, [.ref (cs_X zc 0 2), .ref (cs_X zc 0 3), .ref (cs_X zc 0 4), .ref (cs_X zc 0 5), .int (cs_i zc 0)])), (cs_X zc 0 4, .inl (cA 0, 48, .inl al)), (cs_X zc 0 5, .inl (cA 0, 48, .inl ah))]) [4, 7, 8] (by decide) rfl
                        have hKc := hK.sub (tys' := [(cA 0, .int)]) [0] rfl
                        have hFc := va_free (wc := [(cs_X zc 0 1, .inr (3, [.ref (cs_X zc 0 2), .ref (cs_X zc 0 3), .ref (cs_X zc 0 4), .ref (cs_X zc 0 5), .int (cs_i zc 0)])), (cs_X zc 0 4, .inl (cA 0, 48, .inl al)), (cs_X zc 0 5, .inl (cA 0, 48, .inl ah))]) hD hS hA [4, 7, 8] rfl
                        refine va_callv (va_runV (As := [.int (nI (sa + i92)), .int ((cs_S zc js) (ia + i92)), .int ((cs_S zc js) (ia + i92))]) (rest := []) ⟨hx, hb, hml, hown, hts⟩ (s_tryCommon l dC dI (cA 0) _ (cs_X zc 0 1) (cs_X zc 0 4) (cs_X zc 0 5) (sa + i92) (.ref (cs_X zc 0 2)) (.ref (cs_X zc 0 3)) (.int (cs_i zc 0)) ((cs_S zc js) (ia + i92)) ((cs_S zc js) (ia + i92)) al ah (by omega)) (cwV 3 hts gX10_chart_X3_tryCommon rfl rfl rfl (by decide +kernel) ⟨Nat.le_of_ble_eq_true rfl, Nat.le_of_ble_eq_true rfl⟩) (pw_preV (va_recv hKc hPc (ci := 3) (q0 := 0) rfl rfl) hPc hKc hDc hN) rfl rfl hl.1 rfl (lv_room (Nat.le_of_ble_eq_true rfl)) dX10_chart_129 ⟨Nat.le_of_ble_eq_true rfl, Nat.le_of_ble_eq_true rfl⟩) hS (fun q _ h => hFc q h) hFc (fun u t H1 locs ht hvm hw hB hz1 hk1 hS => ?_)
                        obtain ⟨hP1, hK1, hD1⟩ := hB
                        rw [ht] at hP1
                        obtain ⟨hP, hD⟩ := va_join (wr := [(cs_X zc 0 0, .inr (10, [.ref (cs_X zc 0 1), .ref (cs_X zc 0 6), .ref (cs_X zc 0 7), .ref (cs_X zc 0 8), .ref (cs_X zc 0 9), .ref (cs_X zc 0 10), .ref (cs_X zc 0 11), .int (nI (cs_n zc 0)), .int (nI (cs_n zc 1)), .int (nI (cs_n zc 2)), .int (nI (cs_n zc 3)), va_rf (opN (cs_n zc 4) (fun _ => cs_X zc 5 0)), .int 0])), cR10 cA zc, cSh zc js, cSc cA zc js, (cs_X zc 0 2, .inl (cA 0, 48, .inl (cs_I zc 0))), (cs_X zc 0 3, .inl (cA 0, 48, .inl (cs_I zc 1)))]) (w1 := [(cs_X zc 0 1, .inr (3, [.ref (cs_X zc 0 2), .ref (cs_X zc 0 3), .ref (cs_X zc 0 4), .ref (cs_X zc 0 5), .int (cs_i zc 0)])), (cs_X zc 0 4, .inl (cA 0, 48, .inl (tcL (sa + i92) ((cs_S zc js) (ia + i92)) al))), (cs_X zc 0 5, .inl (cA 0, 48, .inl (tcH (sa + i92) ((cs_S zc js) (ia + i92)) ah)))]) hP hD [4, 7, 8] [0, 1, 2, 3, 5, 6] rfl rfl (by decide) (by decide) hk1 hFc hP1 hD1
                        generalize H1 = H at hP hS ⊢
                        have hP : va_P (dC, dI) vwCl [(cs_X zc 0 0, .inr (10, [.ref (cs_X zc 0 1), .ref (cs_X zc 0 6), .ref (cs_X zc 0 7), .ref (cs_X zc 0 8), .ref (cs_X zc 0 9), .ref (cs_X zc 0 10), .ref (cs_X zc 0 11), .int (nI (cs_n zc 0)), .int (nI (cs_n zc 1)), .int (nI (cs_n zc 2)), .int (nI (cs_n zc 3)), va_rf (opN (cs_n zc 4) (fun _ => cs_X zc 5 0)), .int 0])), cR10 cA zc, cSh zc js, cSc cA zc js, (cs_X zc 0 2, .inl (cA 0, 48, .inl (cs_I zc 0))), (cs_X zc 0 3, .inl (cA 0, 48, .inl (cs_I zc 1))), (cs_X zc 0 1, .inr (3, [.ref (cs_X zc 0 2), .ref (cs_X zc 0 3), .ref (cs_X zc 0 4), .ref (cs_X zc 0 5), .int (cs_i zc 0)])), (cs_X zc 0 4, .inl (cA 0, 48, .inl (tcL (sa + i92) ((cs_S zc js) (ia + i92)) al))), (cs_X zc 0 5, .inl (cA 0, 48, .inl (tcH (sa + i92) ((cs_S zc js) (ia + i92)) ah)))] H := hP
                        have hD : va_D _ [(cs_X zc 0 0, .inr (10, [.ref (cs_X zc 0 1), .ref (cs_X zc 0 6), .ref (cs_X zc 0 7), .ref (cs_X zc 0 8), .ref (cs_X zc 0 9), .ref (cs_X zc 0 10), .ref (cs_X zc 0 11), .int (nI (cs_n zc 0)), .int (nI (cs_n zc 1)), .int (nI (cs_n zc 2)), .int (nI (cs_n zc 3)), va_rf (opN (cs_n zc 4) (fun _ => cs_X zc 5 0)), .int 0])), cR10 cA zc, cSh zc js, cSc cA zc js, (cs_X zc 0 2, .inl (cA 0, 48, .inl (cs_I zc 0))), (cs_X zc 0 3, .inl (cA 0, 48, .inl (cs_I zc 1))), (cs_X zc 0 1, .inr (3, [.ref (cs_X zc 0 2), .ref (cs_X zc 0 3), .ref (cs_X zc 0 4), .ref (cs_X zc 0 5), .int (cs_i zc 0)])), (cs_X zc 0 4, .inl (cA 0, 48, .inl (tcL (sa + i92) ((cs_S zc js) (ia + i92)) al))), (cs_X zc 0 5, .inl (cA 0, 48, .inl (tcH (sa + i92) ((cs_S zc js) (ia + i92)) ah)))] := hD
                        refine lv_iinc (v := nI (i92 + 1)) (lv' := [(8, .int (nI (i92 + 1))), (9, .int ((cs_S zc js) (ia + i92))), (7, .int (cfault (cs_I zc 8 js) (cs_I zc 9 js) ln (nI ia) (nI nn) (nI sa))), (6, .ref (cs_X zc 6 js)), (0, .ref (cs_X zc 0 0)), (1, .int (nI js)), (2, .int ln), (3, .int (nI ia)), (4, .int (nI nn)), (5, .int (nI sa))]) hx hb dX10_chart_132 hl (k := 1) rfl (nI_1 i92) (by decide) rfl (fun ls hl => ?_)
                        refine lv_goto (tgt := 92) hx hb dX10_chart_135 (by decide) ?_
                        exact ihi92 (i92 + 1) (tcL (sa + i92) ((cs_S zc js) (ia + i92)) al) (tcH (sa + i92) ((cs_S zc js) (ia + i92)) ah) _ _ ls (by omega) (by omega) (by rw [chL, if_neg c30, ← hal]) (by rw [chH, if_neg c30, ← hah]) (hP.sub [0, 1, 2, 3, 6, 4, 5, 7, 8] rfl) (hD.sub [0, 1, 2, 3, 6, 4, 5, 7, 8] (by decide) rfl) hS (lv_sub hl [0, 2, 3, 4, 5, 6, 7, 8, 9] rfl)
                exact loop92 (nn + 1 - 0) 0 (cs_I zc 0) (cs_I zc 1) _ _ ls (by omega) (by omega) rfl rfl hP hD hS (lv_sub hl [0, 1, 2, 3, 4, 5, 6, 7, 8] rfl)
              · exact absurd c20 (by decide)
            · subst er19
              refine lv_if_eq (tgt := 82) hx hb dX10_chart_76 (by decide) (fun c32 => ?_) (fun c32 => ?_)
              · exact absurd c32 (by decide)
              · skip
                refine lv_bipush (v := (-2)) hx hb dX10_chart_79 (by decide) ?_
                subst hQ
                have hP9 : va_P (dC, dI) vwCl [(cs_X zc 0 0, .inr (10, [.ref (cs_X zc 0 1), .ref (cs_X zc 0 6), .ref (cs_X zc 0 7), .ref (cs_X zc 0 8), .ref (cs_X zc 0 9), .ref (cs_X zc 0 10), .ref (cs_X zc 0 11), .int (nI (cs_n zc 0)), .int (nI (cs_n zc 1)), .int (nI (cs_n zc 2)), .int (nI (cs_n zc 3)), va_rf (opN (cs_n zc 4) (fun _ => cs_X zc 5 0)), .int 0])), cR10 cA zc, cSh zc js, cSc cA zc js, cLo zc, cA2 cA zc, cA3 cA zc, cA4 cA zc, cA5 cA zc] H := hP.sub [0, 1, 2, 3, 4, 5, 6, 7, 8] rfl
                have hD9 : va_D (va_A [cTP zc, cR10 cA zc, cSh zc js, cSc cA zc js, cLo zc, cA2 cA zc, cA3 cA zc, cA4 cA zc, cA5 cA zc] s.heap.size) [(cs_X zc 0 0, .inr (10, [.ref (cs_X zc 0 1), .ref (cs_X zc 0 6), .ref (cs_X zc 0 7), .ref (cs_X zc 0 8), .ref (cs_X zc 0 9), .ref (cs_X zc 0 10), .ref (cs_X zc 0 11), .int (nI (cs_n zc 0)), .int (nI (cs_n zc 1)), .int (nI (cs_n zc 2)), .int (nI (cs_n zc 3)), va_rf (opN (cs_n zc 4) (fun _ => cs_X zc 5 0)), .int 0])), cR10 cA zc, cSh zc js, cSc cA zc js, cLo zc, cA2 cA zc, cA3 cA zc, cA4 cA zc, cA5 cA zc] := hD.sub [0, 1, 2, 3, 4, 5, 6, 7, 8] (by decide) rfl
                have hlf := lf_chart_3 cA zc ln js nn sa ia hjs c4 c6 c8 hsn hs48 hian hia2 habr19 hI
                exact W.iret (v := (-2)) hx hb hr (fun t ht hW => have hJ := kjoin hPk hDk hks rfl (hS.F ht) (by rw [ht]; exact hP9) hD9 hlf.2.1 hlf.2.2; ⟨⟨(-2), (va_up (cs_i zc) 2 0, cs_n zc, cs_I zc, cs_L zc, cs_N zc, cs_S zc, cs_X zc), rfl, ⟨⟨hlf.1, rfl⟩, (Or.inr (Or.inr (Or.inr (Or.inl ⟨js, rfl, hjs, c4, c6, c8, nn, sa, rfl, rfl, hsn, hs48, ia, rfl, hian, hia2, habr19, rfl, rfl⟩))))⟩, hJ.1, va_K.moved hW.alike hKk, hJ.2.1⟩, hJ.2.2⟩) (fun q h => kAll_A hks _ (hS.2.2 q h)) dX10_chart_81
        · skip
          refine lv_aload_n hx hb dX10_chart_58 rfl (lv_at hl 2 rfl) ?_
          refine lv_iload hx hb dX10_chart_59 (lv_at hl 0 rfl) ?_
          have hPc := hP.sub (ws' := [(cs_X zc 0 0, .inr (10, [.ref (cs_X zc 0 1), .ref (cs_X zc 0 6), .ref (cs_X zc 0 7), .ref (cs_X zc 0 8), .ref (cs_X zc 0 9), .ref (cs_X zc 0 10), .ref (cs_X zc 0 11), .int (nI (cs_n zc 0)), .int (nI (cs_n zc 1)), .int (nI (cs_n zc 2)), .int (nI (cs_n zc 3)), va_rf (opN (cs_n zc 4) (fun _ => cs_X zc 5 0)), .int 0]))]) [0] rfl
          have hDc := hD.sub (ws' := [(cs_X zc 0 0, .inr (10, [.ref (cs_X zc 0 1), .ref (cs_X zc 0 6), .ref (cs_X zc 0 7), .ref (cs_X zc 0 8), .ref (cs_X zc 0 9), .ref (cs_X zc 0 10), .ref (cs_X zc 0 11), .int (nI (cs_n zc 0)), .int (nI (cs_n zc 1)), .int (nI (cs_n zc 2)), .int (nI (cs_n zc 3)), va_rf (opN (cs_n zc 4) (fun _ => cs_X zc 5 0)), .int 0]))]) [0] (by decide) rfl
          have hKc := hK.sub (tys' := []) [] rfl
          have hFc := va_free (wc := [(cs_X zc 0 0, .inr (10, [.ref (cs_X zc 0 1), .ref (cs_X zc 0 6), .ref (cs_X zc 0 7), .ref (cs_X zc 0 8), .ref (cs_X zc 0 9), .ref (cs_X zc 0 10), .ref (cs_X zc 0 11), .int (nI (cs_n zc 0)), .int (nI (cs_n zc 1)), .int (nI (cs_n zc 2)), .int (nI (cs_n zc 3)), va_rf (opN (cs_n zc 4) (fun _ => cs_X zc 5 0)), .int 0]))]) hD hS hA [0] rfl
          refine va_calli (va_runV (As := [.int (cfault (cs_I zc 8 js) (cs_I zc 9 js) ln ix n sv)]) (rest := []) ⟨hx, hb, hml, hown, hts⟩ (c_X10_faulted l dC dI  _ (cs_X zc 0 0) (.ref (cs_X zc 0 1)) (.ref (cs_X zc 0 6)) (.ref (cs_X zc 0 7)) (.ref (cs_X zc 0 8)) (.ref (cs_X zc 0 9)) (.ref (cs_X zc 0 10)) (.ref (cs_X zc 0 11)) (.int (nI (cs_n zc 0))) (.int (nI (cs_n zc 1))) (.int (nI (cs_n zc 2))) (.int (nI (cs_n zc 3))) (va_rf (opN (cs_n zc 4) (fun _ => cs_X zc 5 0))) (.int 0) (cfault (cs_I zc 8 js) (cs_I zc 9 js) ln ix n sv) ) (cwV 1 hts gX10_chart_X10_faulted rfl rfl rfl (by decide +kernel) ⟨Nat.le_of_ble_eq_true rfl, Nat.le_of_ble_eq_true rfl⟩) (pw_preV (va_recv hKc hPc (ci := 10) (q0 := 0) rfl rfl) hPc hKc hDc hN) rfl rfl hl.1 rfl (lv_room (Nat.le_of_ble_eq_true rfl)) dX10_chart_61 ⟨Nat.le_of_ble_eq_true rfl, Nat.le_of_ble_eq_true rfl⟩) hS (fun q _ h => hFc q h) hFc (fun r33 u t H1 locs ht hvm hw hB hz1 hk1 hS => ?_)
          have hr33 : r33 = -10 - (cfault (cs_I zc 8 js) (cs_I zc 9 js) ln ix n sv) := hw
          obtain ⟨hP1, hK1, hD1⟩ := hB
          rw [ht] at hP1
          obtain ⟨hP, hD⟩ := va_join (wr := [cR10 cA zc, cSh zc js, cSc cA zc js, cLo zc, cA2 cA zc, cA3 cA zc, cA4 cA zc, cA5 cA zc]) (w1 := [(cs_X zc 0 0, .inr (10, [.ref (cs_X zc 0 1), .ref (cs_X zc 0 6), .ref (cs_X zc 0 7), .ref (cs_X zc 0 8), .ref (cs_X zc 0 9), .ref (cs_X zc 0 10), .ref (cs_X zc 0 11), .int (nI (cs_n zc 0)), .int (nI (cs_n zc 1)), .int (nI (cs_n zc 2)), .int (nI (cs_n zc 3)), va_rf (opN (cs_n zc 4) (fun _ => cs_X zc 5 0)), .int (cfault (cs_I zc 8 js) (cs_I zc 9 js) ln ix n sv)]))]) hP hD [0] [1, 2, 3, 4, 5, 6, 7, 8] rfl rfl (by decide) (by decide) hk1 hFc hP1 hD1
          generalize H1 = H at hP hS ⊢
          have hP : va_P (dC, dI) vwCl [cR10 cA zc, cSh zc js, cSc cA zc js, cLo zc, cA2 cA zc, cA3 cA zc, cA4 cA zc, cA5 cA zc, (cs_X zc 0 0, .inr (10, [.ref (cs_X zc 0 1), .ref (cs_X zc 0 6), .ref (cs_X zc 0 7), .ref (cs_X zc 0 8), .ref (cs_X zc 0 9), .ref (cs_X zc 0 10), .ref (cs_X zc 0 11), .int (nI (cs_n zc 0)), .int (nI (cs_n zc 1)), .int (nI (cs_n zc 2)), .int (nI (cs_n zc 3)), va_rf (opN (cs_n zc 4) (fun _ => cs_X zc 5 0)), .int (cfault (cs_I zc 8 js) (cs_I zc 9 js) ln ix n sv)]))] H := hP
          have hD : va_D _ [cR10 cA zc, cSh zc js, cSc cA zc js, cLo zc, cA2 cA zc, cA3 cA zc, cA4 cA zc, cA5 cA zc, (cs_X zc 0 0, .inr (10, [.ref (cs_X zc 0 1), .ref (cs_X zc 0 6), .ref (cs_X zc 0 7), .ref (cs_X zc 0 8), .ref (cs_X zc 0 9), .ref (cs_X zc 0 10), .ref (cs_X zc 0 11), .int (nI (cs_n zc 0)), .int (nI (cs_n zc 1)), .int (nI (cs_n zc 2)), .int (nI (cs_n zc 3)), va_rf (opN (cs_n zc 4) (fun _ => cs_X zc 5 0)), .int (cfault (cs_I zc 8 js) (cs_I zc 9 js) ln ix n sv)]))] := hD
          have hr33 := hr33.symm
          subst hr33
          refine W.eq (g2 := F0 m 64 ls [.int (-10 - (cfault (cs_I zc 8 js) (cs_I zc 9 js) ln ix n sv))]) rfl ?_
          subst hQ
          have hP9 : va_P (dC, dI) vwCl [(cs_X zc 0 0, .inr (10, [.ref (cs_X zc 0 1), .ref (cs_X zc 0 6), .ref (cs_X zc 0 7), .ref (cs_X zc 0 8), .ref (cs_X zc 0 9), .ref (cs_X zc 0 10), .ref (cs_X zc 0 11), .int (nI (cs_n zc 0)), .int (nI (cs_n zc 1)), .int (nI (cs_n zc 2)), .int (nI (cs_n zc 3)), va_rf (opN (cs_n zc 4) (fun _ => cs_X zc 5 0)), .int (cfault (cs_I zc 8 js) (cs_I zc 9 js) ln ix n sv)])), cR10 cA zc, cSh zc js, cSc cA zc js, cLo zc, cA2 cA zc, cA3 cA zc, cA4 cA zc, cA5 cA zc] H := hP.sub [8, 0, 1, 2, 3, 4, 5, 6, 7] rfl
          have hD9 : va_D (va_A [cTP zc, cR10 cA zc, cSh zc js, cSc cA zc js, cLo zc, cA2 cA zc, cA3 cA zc, cA4 cA zc, cA5 cA zc] s.heap.size) [(cs_X zc 0 0, .inr (10, [.ref (cs_X zc 0 1), .ref (cs_X zc 0 6), .ref (cs_X zc 0 7), .ref (cs_X zc 0 8), .ref (cs_X zc 0 9), .ref (cs_X zc 0 10), .ref (cs_X zc 0 11), .int (nI (cs_n zc 0)), .int (nI (cs_n zc 1)), .int (nI (cs_n zc 2)), .int (nI (cs_n zc 3)), va_rf (opN (cs_n zc 4) (fun _ => cs_X zc 5 0)), .int (cfault (cs_I zc 8 js) (cs_I zc 9 js) ln ix n sv)])), cR10 cA zc, cSh zc js, cSc cA zc js, cLo zc, cA2 cA zc, cA3 cA zc, cA4 cA zc, cA5 cA zc] := hD.sub [8, 0, 1, 2, 3, 4, 5, 6, 7] (by decide) rfl
          have hlf := lf_chart_4 cA zc ln ix n sv js hjs c4 c6 c8 hI
          exact W.iret (v := -10 - (cfault (cs_I zc 8 js) (cs_I zc 9 js) ln ix n sv)) hx hb hr (fun t ht hW => have hJ := kjoin hPk hDk hks rfl (hS.F ht) (by rw [ht]; exact hP9) hD9 hlf.2.1 hlf.2.2; ⟨⟨-10 - (cfault (cs_I zc 8 js) (cs_I zc 9 js) ln ix n sv), (va_up (cs_i zc) 2 (cfault (cs_I zc 8 js) (cs_I zc 9 js) ln ix n sv), cs_n zc, cs_I zc, cs_L zc, cs_N zc, cs_S zc, cs_X zc), rfl, ⟨⟨hlf.1, rfl⟩, (Or.inr (Or.inr (Or.inr (Or.inr (Or.inl ⟨js, rfl, hjs, c4, c6, c8, rfl, rfl⟩)))))⟩, hJ.1, va_K.moved hW.alike hKk, hJ.2.1⟩, hJ.2.2⟩) (fun q h => kAll_A hks _ (hS.2.2 q h)) dX10_chart_64
      · skip
        have c6 := (fa_bool_prop hr5).1.mp c6
        refine lv_bipush (v := (-2)) hx hb dX10_chart_37 (by decide) ?_
        subst hQ
        have hP9 : va_P (dC, dI) vwCl [(cs_X zc 0 0, .inr (10, [.ref (cs_X zc 0 1), .ref (cs_X zc 0 6), .ref (cs_X zc 0 7), .ref (cs_X zc 0 8), .ref (cs_X zc 0 9), .ref (cs_X zc 0 10), .ref (cs_X zc 0 11), .int (nI (cs_n zc 0)), .int (nI (cs_n zc 1)), .int (nI (cs_n zc 2)), .int (nI (cs_n zc 3)), va_rf (opN (cs_n zc 4) (fun _ => cs_X zc 5 0)), .int 0])), cR10 cA zc, cSh zc js, cSc cA zc js, cLo zc, cA2 cA zc, cA3 cA zc, cA4 cA zc, cA5 cA zc] H := hP.sub [0, 1, 2, 3, 4, 5, 6, 7, 8] rfl
        have hD9 : va_D (va_A [cTP zc, cR10 cA zc, cSh zc js, cSc cA zc js, cLo zc, cA2 cA zc, cA3 cA zc, cA4 cA zc, cA5 cA zc] s.heap.size) [(cs_X zc 0 0, .inr (10, [.ref (cs_X zc 0 1), .ref (cs_X zc 0 6), .ref (cs_X zc 0 7), .ref (cs_X zc 0 8), .ref (cs_X zc 0 9), .ref (cs_X zc 0 10), .ref (cs_X zc 0 11), .int (nI (cs_n zc 0)), .int (nI (cs_n zc 1)), .int (nI (cs_n zc 2)), .int (nI (cs_n zc 3)), va_rf (opN (cs_n zc 4) (fun _ => cs_X zc 5 0)), .int 0])), cR10 cA zc, cSh zc js, cSc cA zc js, cLo zc, cA2 cA zc, cA3 cA zc, cA4 cA zc, cA5 cA zc] := hD.sub [0, 1, 2, 3, 4, 5, 6, 7, 8] (by decide) rfl
        have hlf := lf_chart_5 cA zc ln ix n sv js hjs c4 c6 hI
        exact W.iret (v := (-2)) hx hb hr (fun t ht hW => have hJ := kjoin hPk hDk hks rfl (hS.F ht) (by rw [ht]; exact hP9) hD9 hlf.2.1 hlf.2.2; ⟨⟨(-2), (va_up (cs_i zc) 2 0, cs_n zc, cs_I zc, cs_L zc, cs_N zc, cs_S zc, cs_X zc), rfl, ⟨⟨hlf.1, rfl⟩, (Or.inr (Or.inr (Or.inr (Or.inr (Or.inr (Or.inl ⟨js, rfl, hjs, c4, c6, rfl, rfl⟩))))))⟩, hJ.1, va_K.moved hW.alike hKk, hJ.2.1⟩, hJ.2.2⟩) (fun q h => kAll_A hks _ (hS.2.2 q h)) dX10_chart_39
    · skip
      have c4 := (fa_bool_prop hr3).1.mp c4
      refine lv_iconst (v := (-1)) hx hb dX10_chart_28 (by decide) ?_
      subst hQ
      have hP9 : va_P (dC, dI) vwCl [(cs_X zc 0 0, .inr (10, [.ref (cs_X zc 0 1), .ref (cs_X zc 0 6), .ref (cs_X zc 0 7), .ref (cs_X zc 0 8), .ref (cs_X zc 0 9), .ref (cs_X zc 0 10), .ref (cs_X zc 0 11), .int (nI (cs_n zc 0)), .int (nI (cs_n zc 1)), .int (nI (cs_n zc 2)), .int (nI (cs_n zc 3)), va_rf (opN (cs_n zc 4) (fun _ => cs_X zc 5 0)), .int 0])), cR10 cA zc, cSh zc js, cSc cA zc js, cLo zc, cA2 cA zc, cA3 cA zc, cA4 cA zc, cA5 cA zc] H := hP.sub [0, 1, 2, 3, 4, 5, 6, 7, 8] rfl
      have hD9 : va_D (va_A [cTP zc, cR10 cA zc, cSh zc js, cSc cA zc js, cLo zc, cA2 cA zc, cA3 cA zc, cA4 cA zc, cA5 cA zc] s.heap.size) [(cs_X zc 0 0, .inr (10, [.ref (cs_X zc 0 1), .ref (cs_X zc 0 6), .ref (cs_X zc 0 7), .ref (cs_X zc 0 8), .ref (cs_X zc 0 9), .ref (cs_X zc 0 10), .ref (cs_X zc 0 11), .int (nI (cs_n zc 0)), .int (nI (cs_n zc 1)), .int (nI (cs_n zc 2)), .int (nI (cs_n zc 3)), va_rf (opN (cs_n zc 4) (fun _ => cs_X zc 5 0)), .int 0])), cR10 cA zc, cSh zc js, cSc cA zc js, cLo zc, cA2 cA zc, cA3 cA zc, cA4 cA zc, cA5 cA zc] := hD.sub [0, 1, 2, 3, 4, 5, 6, 7, 8] (by decide) rfl
      have hlf := lf_chart_6 cA zc ln ix n sv js hjs c4 hI
      exact W.iret (v := (-1)) hx hb hr (fun t ht hW => have hJ := kjoin hPk hDk hks rfl (hS.F ht) (by rw [ht]; exact hP9) hD9 hlf.2.1 hlf.2.2; ⟨⟨(-1), (va_up (cs_i zc) 2 0, cs_n zc, cs_I zc, cs_L zc, cs_N zc, cs_S zc, cs_X zc), rfl, ⟨⟨hlf.1, rfl⟩, (Or.inr (Or.inr (Or.inr (Or.inr (Or.inr (Or.inr ⟨js, rfl, hjs, c4, rfl, rfl⟩))))))⟩, hJ.1, va_K.moved hW.alike hKk, hJ.2.1⟩, hJ.2.2⟩) (fun q h => kAll_A hks _ (hS.2.2 q h)) dX10_chart_29
/-! narrowing: what a step of the reference keeps -/
theorem sub_small {a d : Int32} (h : 0 ≤ a.toInt ∧ a.toInt ≤ 1000) (h2 : 0 ≤ d.toInt ∧ d.toInt ≤ 1000) : (a - d).toInt = a.toInt - d.toInt := by
  rw [Int32.toInt_sub]
  apply Int.bmod_eq_of_le <;> omega
theorem add_small {a d : Int32} (h : 0 ≤ a.toInt ∧ a.toInt ≤ 1000) (h2 : 0 ≤ d.toInt ∧ d.toInt ≤ 1000) : (a + d).toInt = a.toInt + d.toInt := by
  rw [Int32.toInt_add]
  apply Int.bmod_eq_of_le <;> omega
def nbr (s n : Nat) : Prop := (s % 8 ≠ 0 ∧ n + 1 = s) ∨ (s % 8 ≠ 7 ∧ n = s + 1) ∨ n + 8 = s ∨ n = s + 8
def rngL (a : Nat → Int32) : Prop := ∀ j, j < 48 → 0 ≤ (a j).toInt ∧ (a j).toInt ≤ 1000
def minL (d : Int32) (g a : Nat → Int32) : Prop := (∀ j, j < 48 → (g j).toInt ≤ (a j).toInt) ∧ ∀ c : Nat → Int, (∀ s n, s < 48 → n < 48 → nbr s n → c n - d.toInt ≤ c s) → (∀ j, j < 48 → (g j).toInt ≤ c j) → ∀ j, j < 48 → (a j).toInt ≤ c j
def maxH (d : Int32) (g b : Nat → Int32) : Prop := (∀ j, j < 48 → (b j).toInt ≤ (g j).toInt) ∧ ∀ c : Nat → Int, (∀ s n, s < 48 → n < 48 → nbr s n → c s ≤ c n + d.toInt) → (∀ j, j < 48 → c j ≤ (g j).toInt) → ∀ j, j < 48 → c j ≤ (b j).toInt
theorem minL_rf {d : Int32} {g : Nat → Int32} : minL d g g := ⟨fun _ _ => Int.le_refl _, fun _ _ h => h⟩
theorem maxH_rf {d : Int32} {g : Nat → Int32} : maxH d g g := ⟨fun _ _ => Int.le_refl _, fun _ _ h => h⟩
def msum (a b : Nat → Int32) : Nat → Nat
  | 0 => 0
  | n + 1 => msum a b n + ((1000 - (a n).toInt).toNat + (b n).toInt.toNat)
theorem msum_le {a b a' b' : Nat → Int32} : ∀ n, (∀ j, j < n → (a j).toInt ≤ (a' j).toInt ∧ (b' j).toInt ≤ (b j).toInt) → msum a' b' n ≤ msum a b n
  | 0, _ => Nat.le_refl _
  | n + 1, h => by
    have h1 := msum_le n (fun j hj => h j (by omega))
    have h2 := h n (by omega)
    simp only [msum]
    omega
theorem msum_lt {a b a' b' : Nat → Int32} : ∀ n, (∀ j, j < n → (a j).toInt ≤ (a' j).toInt ∧ (b' j).toInt ≤ (b j).toInt) → (∃ s, s < n ∧ (((a s).toInt < (a' s).toInt ∧ (a' s).toInt ≤ 1000) ∨ (0 ≤ (b' s).toInt ∧ (b' s).toInt < (b s).toInt))) → msum a' b' n < msum a b n
  | 0, _, ⟨s, hs, _⟩ => absurd hs (Nat.not_lt_zero s)
  | n + 1, h, ⟨s, hs, hx⟩ => by
    have h1 := msum_le n (fun j hj => h j (by omega))
    have h2 := h n (by omega)
    simp only [msum]
    by_cases hsn : s = n
    · subst hsn
      rcases hx with hx | hx <;> omega
    · have h3 := msum_lt n (fun j hj => h j (by omega)) ⟨s, by omega, hx⟩
      omega
theorem tcL_at {s : Nat} {v : Int32} {a : Nat → Int32} : tcL s v a s = if a s < v then v else a s := by unfold tcL; exact pk_us
theorem tcL_ne {s j : Nat} {v : Int32} {a : Nat → Int32} (h : j ≠ s) : tcL s v a j = a j := by unfold tcL; exact pk_un h
theorem tcH_at {s : Nat} {v : Int32} {a : Nat → Int32} : tcH s v a s = if v < a s then v else a s := by unfold tcH; exact pk_us
theorem tcH_ne {s j : Nat} {v : Int32} {a : Nat → Int32} (h : j ≠ s) : tcH s v a j = a j := by unfold tcH; exact pk_un h
theorem tcL_keep {d : Int32} {g a : Nat → Int32} {s n : Nat} (hd : 0 ≤ d.toInt ∧ d.toInt ≤ 1000) (hr : rngL a) (hm : minL d g a) (hs : s < 48) (hn : n < 48) (hb : nbr s n) : rngL (tcL s (a n - d) a) ∧ minL d g (tcL s (a n - d) a) ∧ ∀ j, (a j).toInt ≤ (tcL s (a n - d) a j).toInt := by
  have e := sub_small (hr n hn) hd
  have r1 := hr n hn
  have r2 := hr s hs
  have up : ∀ j, (a j).toInt ≤ (tcL s (a n - d) a j).toInt := by
    intro j
    by_cases hj : j = s
    · subst hj
      rw [tcL_at]
      by_cases h : a j < a n - d
      · rw [if_pos h]; have := (fa_lt _ _).mp h; omega
      · rw [if_neg h]; exact Int.le_refl _
    · rw [tcL_ne hj]; exact Int.le_refl _
  refine ⟨fun j hj => ?_, ⟨fun j hj => Int.le_trans (hm.1 j hj) (up j), fun c hc hg j hj => ?_⟩, up⟩
  · by_cases hjs : j = s
    · subst hjs
      rw [tcL_at]
      by_cases h : a j < a n - d
      · rw [if_pos h]; have := (fa_lt _ _).mp h; omega
      · rw [if_neg h]; exact r2
    · rw [tcL_ne hjs]; exact hr j hj
  · have h1 := hm.2 c hc hg
    by_cases hjs : j = s
    · subst hjs
      rw [tcL_at]
      by_cases h : a j < a n - d
      · rw [if_pos h]; have := hc j n hj hn hb; have := h1 n hn; omega
      · rw [if_neg h]; exact h1 j hj
    · rw [tcL_ne hjs]; exact h1 j hj
theorem tcH_keep {d : Int32} {g a : Nat → Int32} {s n : Nat} (hd : 0 ≤ d.toInt ∧ d.toInt ≤ 1000) (hr : rngL a) (hm : maxH d g a) (hs : s < 48) (hn : n < 48) (hb : nbr s n) : rngL (tcH s (a n + d) a) ∧ maxH d g (tcH s (a n + d) a) ∧ ∀ j, (tcH s (a n + d) a j).toInt ≤ (a j).toInt := by
  have e := add_small (hr n hn) hd
  have r1 := hr n hn
  have r2 := hr s hs
  have dn : ∀ j, (tcH s (a n + d) a j).toInt ≤ (a j).toInt := by
    intro j
    by_cases hj : j = s
    · subst hj
      rw [tcH_at]
      by_cases h : a n + d < a j
      · rw [if_pos h]; have := (fa_lt _ _).mp h; omega
      · rw [if_neg h]; exact Int.le_refl _
    · rw [tcH_ne hj]; exact Int.le_refl _
  refine ⟨fun j hj => ?_, ⟨fun j hj => Int.le_trans (dn j) (hm.1 j hj), fun c hc hg j hj => ?_⟩, dn⟩
  · by_cases hjs : j = s
    · subst hjs
      rw [tcH_at]
      by_cases h : a n + d < a j
      · rw [if_pos h]; have := (fa_lt _ _).mp h; omega
      · rw [if_neg h]; exact r2
    · rw [tcH_ne hjs]; exact hr j hj
  · have h1 := hm.2 c hc hg
    by_cases hjs : j = s
    · subst hjs
      rw [tcH_at]
      by_cases h : a n + d < a j
      · rw [if_pos h]; have := hc j n hj hn hb; have := h1 n hn; omega
      · rw [if_neg h]; exact h1 j hj
    · rw [tcH_ne hjs]; exact h1 j hj
/-- the state within a round at square i: P: which neighbours of i have been met -/
def jst (d : Int32) (gl gh al ah : Nat → Int32) (i : Nat) (P : Nat → Prop) (bl bh : Nat → Int32) (cq : Int32) : Prop := (rngL bl ∧ rngL bh) ∧ (minL d gl bl ∧ maxH d gh bh) ∧ ((cq = 0 ∧ bl = al ∧ bh = ah ∧ (∀ s n, s < i → n < 48 → nbr s n → (al n).toInt - d.toInt ≤ (al s).toInt ∧ (ah s).toInt ≤ (ah n).toInt + d.toInt) ∧ ∀ n, n < 48 → P n → (al n).toInt - d.toInt ≤ (al i).toInt ∧ (ah i).toInt ≤ (ah n).toInt + d.toInt) ∨ (cq = 1 ∧ msum bl bh 48 < msum al ah 48))
theorem jst_no {d : Int32} {gl gh al ah : Nat → Int32} {i : Nat} {P N : Nat → Prop} {bl bh : Nat → Int32} {cq : Int32} (h : jst d gl gh al ah i P bl bh cq) (hno : ∀ n, n < 48 → ¬ N n) : jst d gl gh al ah i (fun n => P n ∨ N n) bl bh cq := by
  obtain ⟨h1, h2, h3⟩ := h
  refine ⟨h1, h2, h3.imp (fun ⟨a, b, c, e, f⟩ => ⟨a, b, c, e, fun n hn hp => hp.elim (f n hn) (fun q => absurd q (hno n hn))⟩) id⟩
theorem jst_yes {d : Int32} {gl gh al ah : Nat → Int32} {i b : Nat} {P N : Nat → Prop} {bl bh : Nat → Int32} {cq : Int32} (hd : 0 ≤ d.toInt ∧ d.toInt ≤ 1000) (hi : i < 48) (hb : b < 48) (hnb : nbr i b) (h : jst d gl gh al ah i P bl bh cq) (hN : ∀ n, n < 48 → N n → n = b) : jst d gl gh al ah i (fun n => P n ∨ N n) (tcL i (bl b - d) bl) (tcH i (bh b + d) bh) (if bl i < bl b - d ∨ bh b + d < bh i then 1 else cq) := by
  obtain ⟨⟨r1, r2⟩, ⟨m1, m2⟩, h3⟩ := h
  have kL := tcL_keep hd r1 m1 hi hb hnb
  have kH := tcH_keep hd r2 m2 hi hb hnb
  refine ⟨⟨kL.1, kH.1⟩, ⟨kL.2.1, kH.2.1⟩, ?_⟩
  by_cases hc : bl i < bl b - d ∨ bh b + d < bh i
  · rw [if_pos hc]
    refine Or.inr ⟨rfl, ?_⟩
    have hlt : msum (tcL i (bl b - d) bl) (tcH i (bh b + d) bh) 48 < msum bl bh 48 := by
      refine msum_lt 48 (fun j _ => ⟨kL.2.2 j, kH.2.2 j⟩) ⟨i, hi, ?_⟩
      rcases hc with q | q
      · refine Or.inl ⟨?_, (kL.1 i hi).2⟩
        rw [tcL_at, if_pos q]; exact (fa_lt _ _).mp q
      · refine Or.inr ⟨(kH.1 i hi).1, ?_⟩
        rw [tcH_at, if_pos q]; exact (fa_lt _ _).mp q
    rcases h3 with ⟨_, e1, e2, _⟩ | ⟨_, h4⟩
    · rw [e1, e2] at hlt; rw [e1, e2]; exact hlt
    · exact Nat.lt_trans hlt h4
  · rw [if_neg hc]
    have nl : ¬ bl i < bl b - d := fun q => hc (Or.inl q)
    have nh : ¬ bh b + d < bh i := fun q => hc (Or.inr q)
    have e1 : tcL i (bl b - d) bl = bl := by unfold tcL; rw [if_neg nl]; exact fa_upd_same rfl
    have e2 : tcH i (bh b + d) bh = bh := by unfold tcH; rw [if_neg nh]; exact fa_upd_same rfl
    rw [e1, e2]
    refine h3.imp (fun ⟨a, b1, c, e, f⟩ => ⟨a, b1, c, e, fun n hn hp => hp.elim (f n hn) (fun q => ?_)⟩) id
    have en := hN n hn q
    subst en
    have s1 := sub_small (r1 n hn) hd
    have s2 := add_small (r2 n hn) hd
    have q1 := (fa_le _ _).mp (Int32.not_lt.mp nl)
    have q2 := (fa_le _ _).mp (Int32.not_lt.mp nh)
    rw [← b1, ← c]
    omega
theorem jst_next {d : Int32} {gl gh al ah : Nat → Int32} {i : Nat} {P : Nat → Prop} {bl bh : Nat → Int32} {cq : Int32} (h : jst d gl gh al ah i P bl bh cq) (hP : ∀ n, n < 48 → nbr i n → P n) : jst d gl gh al ah (i + 1) (fun _ => False) bl bh cq := by
  obtain ⟨h1, h2, h3⟩ := h
  refine ⟨h1, h2, h3.imp (fun ⟨a, b, c, e, f⟩ => ⟨a, b, c, fun s n hs hn hb => ?_, fun n _ q => q.elim⟩) id⟩
  by_cases hsi : s = i
  · subst hsi; exact f n hn (hP n hn hb)
  · exact e s n (by omega) hn hb
theorem jst_start {d : Int32} {gl gh al ah : Nat → Int32} (h : (rngL al ∧ rngL ah) ∧ (minL d gl al ∧ maxH d gh ah)) : jst d gl gh al ah 0 (fun _ => False) al ah 0 :=
  ⟨h.1, h.2, Or.inl ⟨rfl, rfl, rfl, fun s _ hs => absurd hs (Nat.not_lt_zero s), fun _ _ q => q.elim⟩⟩
theorem jst_end {d : Int32} {gl gh al ah : Nat → Int32} {bl bh : Nat → Int32} {cq : Int32} (h : jst d gl gh al ah 48 (fun _ => False) bl bh cq) : (cq = 0 → ∀ s n, s < 48 → n < 48 → nbr s n → (bl n).toInt - d.toInt ≤ (bl s).toInt ∧ (bh s).toInt ≤ (bh n).toInt + d.toInt) ∧ ∀ {ch : Int32}, ¬ ch = 0 → msum bl bh 48 + (if cq = 0 then 0 else 1) < msum al ah 48 + (if ch = 0 then 0 else 1) := by
  obtain ⟨_, _, h3⟩ := h
  rcases h3 with ⟨rfl, rfl, rfl, e, _⟩ | ⟨rfl, h4⟩
  · exact ⟨fun _ => e, fun {ch} hc => by rw [if_pos rfl, if_neg hc]; omega⟩
  · exact ⟨fun q => absurd q (by decide), fun {ch} hc => by rw [if_neg (by decide), if_neg hc]; omega⟩
theorem nb_all {i : Nat} : ∀ n, n < 48 → nbr i n → ((((False ∨ (i % 8 ≠ 0 ∧ n + 1 = i)) ∨ (i % 8 ≠ 7 ∧ n = i + 1)) ∨ (n + 8 = i)) ∨ (n = i + 8)) := by
  intro n _ h
  unfold nbr at h
  omega
theorem nbq1 {i : Nat} (hi : i < 48) : (i % 8 = 0 → ¬ ((0 ≤ (nI (i % 8) - 1) ∧ (nI (i % 8) - 1) ≤ 7) ∧ (0 ≤ (nI (i / 8)) ∧ (nI (i / 8)) ≤ 5))) ∧ (¬ i % 8 = 0 → ((0 ≤ (nI (i % 8) - 1) ∧ (nI (i % 8) - 1) ≤ 7) ∧ (0 ≤ (nI (i / 8)) ∧ (nI (i / 8)) ≤ 5)) ∧ 8 * (nI (i / 8)) + (nI (i % 8) - 1) = nI (i - 1)) := by
  refine ⟨fun hm => fun q => absurd q.1.1 (by rw [hm]; decide), fun hm => ?_⟩
  have e1 : (nI (i % 8) - 1) = nI (i % 8 - 1) := pk_sub (b := 1) (by omega)
  have e2 : (nI (i / 8)) = nI (i / 8) := rfl
  rw [e1, e2, sqn]
  exact ⟨⟨⟨nI_pos' (by omega), show _ ≤ nI 7 from nI_le (by omega) (by omega)⟩, nI_pos' (by omega), show _ ≤ nI 5 from nI_le (by omega) (by omega)⟩, congrArg nI (by omega)⟩
theorem nbq2 {i : Nat} (hi : i < 48) : (i % 8 = 7 → ¬ ((0 ≤ (nI (i % 8) + 1) ∧ (nI (i % 8) + 1) ≤ 7) ∧ (0 ≤ (nI (i / 8)) ∧ (nI (i / 8)) ≤ 5))) ∧ (¬ i % 8 = 7 → ((0 ≤ (nI (i % 8) + 1) ∧ (nI (i % 8) + 1) ≤ 7) ∧ (0 ≤ (nI (i / 8)) ∧ (nI (i / 8)) ≤ 5)) ∧ 8 * (nI (i / 8)) + (nI (i % 8) + 1) = nI (i + 1)) := by
  refine ⟨fun hm => fun q => absurd q.1.2 (by rw [hm]; decide), fun hm => ?_⟩
  have e1 : (nI (i % 8) + 1) = nI (i % 8 + 1) := nI_1 _
  have e2 : (nI (i / 8)) = nI (i / 8) := rfl
  rw [e1, e2, sqn]
  exact ⟨⟨⟨nI_pos' (by omega), show _ ≤ nI 7 from nI_le (by omega) (by omega)⟩, nI_pos' (by omega), show _ ≤ nI 5 from nI_le (by omega) (by omega)⟩, congrArg nI (by omega)⟩
theorem nbq3 {i : Nat} (hi : i < 48) : (i < 8 → ¬ ((0 ≤ (nI (i % 8)) ∧ (nI (i % 8)) ≤ 7) ∧ (0 ≤ (nI (i / 8) - 1) ∧ (nI (i / 8) - 1) ≤ 5))) ∧ (¬ i < 8 → ((0 ≤ (nI (i % 8)) ∧ (nI (i % 8)) ≤ 7) ∧ (0 ≤ (nI (i / 8) - 1) ∧ (nI (i / 8) - 1) ≤ 5)) ∧ 8 * (nI (i / 8) - 1) + (nI (i % 8)) = nI (i - 8)) := by
  refine ⟨fun hm => fun q => absurd q.2.1 (by rw [show i / 8 = 0 by omega]; decide), fun hm => ?_⟩
  have e1 : (nI (i % 8)) = nI (i % 8) := rfl
  have e2 : (nI (i / 8) - 1) = nI (i / 8 - 1) := pk_sub (b := 1) (by omega)
  rw [e1, e2, sqn]
  exact ⟨⟨⟨nI_pos' (by omega), show _ ≤ nI 7 from nI_le (by omega) (by omega)⟩, nI_pos' (by omega), show _ ≤ nI 5 from nI_le (by omega) (by omega)⟩, congrArg nI (by omega)⟩
theorem nbq4 {i : Nat} (hi : i < 48) : (40 ≤ i → ¬ ((0 ≤ (nI (i % 8)) ∧ (nI (i % 8)) ≤ 7) ∧ (0 ≤ (nI (i / 8) + 1) ∧ (nI (i / 8) + 1) ≤ 5))) ∧ (¬ 40 ≤ i → ((0 ≤ (nI (i % 8)) ∧ (nI (i % 8)) ≤ 7) ∧ (0 ≤ (nI (i / 8) + 1) ∧ (nI (i / 8) + 1) ≤ 5)) ∧ 8 * (nI (i / 8) + 1) + (nI (i % 8)) = nI (i + 8)) := by
  refine ⟨fun hm => fun q => absurd q.2.2 (by rw [show i / 8 = 5 by omega]; decide), fun hm => ?_⟩
  have e1 : (nI (i % 8)) = nI (i % 8) := rfl
  have e2 : (nI (i / 8) + 1) = nI (i / 8 + 1) := nI_1 _
  rw [e1, e2, sqn]
  exact ⟨⟨⟨nI_pos' (by omega), show _ ≤ nI 7 from nI_le (by omega) (by omega)⟩, nI_pos' (by omega), show _ ≤ nI 5 from nI_le (by omega) (by omega)⟩, congrArg nI (by omega)⟩
theorem jn1 {d : Int32} {gl gh al ah : Nat → Int32} {i : Nat} {P : Nat → Prop} {bl bh al2 ah2 : Nat → Int32} {cq cq2 : Int32} (hd : 0 ≤ d.toInt ∧ d.toInt ≤ 1000) (hi : i < 48) (h : jst d gl gh al ah i P bl bh cq) (hp : (¬ ((0 ≤ (nI (i % 8) - 1) ∧ (nI (i % 8) - 1) ≤ 7) ∧ (0 ≤ (nI (i / 8)) ∧ (nI (i / 8)) ≤ 5)) ∧ al2 = bl ∧ ah2 = bh ∧ cq2 = cq) ∨ (∃ b, b < 48 ∧ ((0 ≤ (nI (i % 8) - 1) ∧ (nI (i % 8) - 1) ≤ 7) ∧ (0 ≤ (nI (i / 8)) ∧ (nI (i / 8)) ≤ 5)) ∧ 8 * (nI (i / 8)) + (nI (i % 8) - 1) = nI b ∧ al2 = tcL i (bl b - d) bl ∧ ah2 = tcH i (bh b + d) bh ∧ cq2 = (if bl i < bl b - d ∨ bh b + d < bh i then 1 else cq))) : jst d gl gh al ah i (fun n => P n ∨ (i % 8 ≠ 0 ∧ n + 1 = i)) al2 ah2 cq2 := by
  have hq := nbq1 hi
  by_cases hm : i % 8 = 0
  · rcases hp with ⟨_, rfl, rfl, rfl⟩ | ⟨b, _, hs, _⟩
    · exact jst_no h (fun n hn q => by omega)
    · exact absurd hs (hq.1 hm)
  · rcases hp with ⟨hs, _⟩ | ⟨b, hb, _, e, rfl, rfl, rfl⟩
    · exact absurd (hq.2 hm).1 hs
    · have eb : b = i - 1 := (nI_eq (by omega) (by omega)).mp (e.symm.trans (hq.2 hm).2)
      exact jst_yes hd hi hb (by unfold nbr; omega) h (fun n hn q => by omega)
theorem jn2 {d : Int32} {gl gh al ah : Nat → Int32} {i : Nat} {P : Nat → Prop} {bl bh al2 ah2 : Nat → Int32} {cq cq2 : Int32} (hd : 0 ≤ d.toInt ∧ d.toInt ≤ 1000) (hi : i < 48) (h : jst d gl gh al ah i P bl bh cq) (hp : (¬ ((0 ≤ (nI (i % 8) + 1) ∧ (nI (i % 8) + 1) ≤ 7) ∧ (0 ≤ (nI (i / 8)) ∧ (nI (i / 8)) ≤ 5)) ∧ al2 = bl ∧ ah2 = bh ∧ cq2 = cq) ∨ (∃ b, b < 48 ∧ ((0 ≤ (nI (i % 8) + 1) ∧ (nI (i % 8) + 1) ≤ 7) ∧ (0 ≤ (nI (i / 8)) ∧ (nI (i / 8)) ≤ 5)) ∧ 8 * (nI (i / 8)) + (nI (i % 8) + 1) = nI b ∧ al2 = tcL i (bl b - d) bl ∧ ah2 = tcH i (bh b + d) bh ∧ cq2 = (if bl i < bl b - d ∨ bh b + d < bh i then 1 else cq))) : jst d gl gh al ah i (fun n => P n ∨ (i % 8 ≠ 7 ∧ n = i + 1)) al2 ah2 cq2 := by
  have hq := nbq2 hi
  by_cases hm : i % 8 = 7
  · rcases hp with ⟨_, rfl, rfl, rfl⟩ | ⟨b, _, hs, _⟩
    · exact jst_no h (fun n hn q => by omega)
    · exact absurd hs (hq.1 hm)
  · rcases hp with ⟨hs, _⟩ | ⟨b, hb, _, e, rfl, rfl, rfl⟩
    · exact absurd (hq.2 hm).1 hs
    · have eb : b = i + 1 := (nI_eq (by omega) (by omega)).mp (e.symm.trans (hq.2 hm).2)
      exact jst_yes hd hi hb (by unfold nbr; omega) h (fun n hn q => by omega)
theorem jn3 {d : Int32} {gl gh al ah : Nat → Int32} {i : Nat} {P : Nat → Prop} {bl bh al2 ah2 : Nat → Int32} {cq cq2 : Int32} (hd : 0 ≤ d.toInt ∧ d.toInt ≤ 1000) (hi : i < 48) (h : jst d gl gh al ah i P bl bh cq) (hp : (¬ ((0 ≤ (nI (i % 8)) ∧ (nI (i % 8)) ≤ 7) ∧ (0 ≤ (nI (i / 8) - 1) ∧ (nI (i / 8) - 1) ≤ 5)) ∧ al2 = bl ∧ ah2 = bh ∧ cq2 = cq) ∨ (∃ b, b < 48 ∧ ((0 ≤ (nI (i % 8)) ∧ (nI (i % 8)) ≤ 7) ∧ (0 ≤ (nI (i / 8) - 1) ∧ (nI (i / 8) - 1) ≤ 5)) ∧ 8 * (nI (i / 8) - 1) + (nI (i % 8)) = nI b ∧ al2 = tcL i (bl b - d) bl ∧ ah2 = tcH i (bh b + d) bh ∧ cq2 = (if bl i < bl b - d ∨ bh b + d < bh i then 1 else cq))) : jst d gl gh al ah i (fun n => P n ∨ (n + 8 = i)) al2 ah2 cq2 := by
  have hq := nbq3 hi
  by_cases hm : i < 8
  · rcases hp with ⟨_, rfl, rfl, rfl⟩ | ⟨b, _, hs, _⟩
    · exact jst_no h (fun n hn q => by omega)
    · exact absurd hs (hq.1 hm)
  · rcases hp with ⟨hs, _⟩ | ⟨b, hb, _, e, rfl, rfl, rfl⟩
    · exact absurd (hq.2 hm).1 hs
    · have eb : b = i - 8 := (nI_eq (by omega) (by omega)).mp (e.symm.trans (hq.2 hm).2)
      exact jst_yes hd hi hb (by unfold nbr; omega) h (fun n hn q => by omega)
theorem jn4 {d : Int32} {gl gh al ah : Nat → Int32} {i : Nat} {P : Nat → Prop} {bl bh al2 ah2 : Nat → Int32} {cq cq2 : Int32} (hd : 0 ≤ d.toInt ∧ d.toInt ≤ 1000) (hi : i < 48) (h : jst d gl gh al ah i P bl bh cq) (hp : (¬ ((0 ≤ (nI (i % 8)) ∧ (nI (i % 8)) ≤ 7) ∧ (0 ≤ (nI (i / 8) + 1) ∧ (nI (i / 8) + 1) ≤ 5)) ∧ al2 = bl ∧ ah2 = bh ∧ cq2 = cq) ∨ (∃ b, b < 48 ∧ ((0 ≤ (nI (i % 8)) ∧ (nI (i % 8)) ≤ 7) ∧ (0 ≤ (nI (i / 8) + 1) ∧ (nI (i / 8) + 1) ≤ 5)) ∧ 8 * (nI (i / 8) + 1) + (nI (i % 8)) = nI b ∧ al2 = tcL i (bl b - d) bl ∧ ah2 = tcH i (bh b + d) bh ∧ cq2 = (if bl i < bl b - d ∨ bh b + d < bh i then 1 else cq))) : jst d gl gh al ah i (fun n => P n ∨ (n = i + 8)) al2 ah2 cq2 := by
  have hq := nbq4 hi
  by_cases hm : 40 ≤ i
  · rcases hp with ⟨_, rfl, rfl, rfl⟩ | ⟨b, _, hs, _⟩
    · exact jst_no h (fun n hn q => by omega)
    · exact absurd hs (hq.1 hm)
  · rcases hp with ⟨hs, _⟩ | ⟨b, hb, _, e, rfl, rfl, rfl⟩
    · exact absurd (hq.2 hm).1 hs
    · have eb : b = i + 8 := (nI_eq (by omega) (by omega)).mp (e.symm.trans (hq.2 hm).2)
      exact jst_yes hd hi hb (by unfold nbr; omega) h (fun n hn q => by omega)
set_option maxHeartbeats 4000000 in
set_option maxRecDepth 100000 in
theorem r_meet (l : Launch) (dC : Nat → ClassId) (dI : Nat → Nat → Nat) (cI : ClassId) (sz : Nat) (qm : Nat) (w0 : Value) (w1 : Value) (w2 : Value) (w3 : Value) (w7 : Value) (w8 : Value) (w9 : Value) (w10 : Value) (w11 : Value) (w12 : Value) (w13 : Value) (w14 : Value) (w15 : Value) (w16 : Value) (w17 : Value) (w18 : Value) (w19 : Value) (w20 : Value) (w21 : Value) (w22 : Value) (w23 : Value) (w24 : Value) (w25 : Value) (w26 : Value) (w27 : Value) (w28 : Value) (w29 : Value) (w30 : Value) (w31 : Value) (w32 : Value) (w33 : Value) (w34 : Value) (w35 : Value) (w36 : Value) (w37 : Value) (w38 : Value) (nl : Nat) (nh : Nat) (a : Nat) (lo : Int32) (hi : Int32) (ch : Int32) (gl : Nat → Int32) (gh : Nat → Int32) (ha : a < 48) : Met l yX11_meet wsX11_meet ({ frames := 0, cells := 0, slots := 0, locals := 0 }) (pw (dC, dI) [(cI, .int)] [(qm, .inr (11, [w0, w1, w2, w3, .ref nl, .ref nh, .int ch, w7, w8, w9, w10, w11, w12, w13, w14, w15, w16, w17, w18, w19, w20, w21, w22, w23, w24, w25, w26, w27, w28, w29, w30, w31, w32, w33, w34, w35, w36, w37, w38])), (nl, .inl (cI, 48, .inl gl)), (nh, .inl (cI, 48, .inl gh))] sz [.ref qm, .int (nI a), .int lo, .int hi]) (va_Qv (fun (u : (Nat → Int32) × (Nat → Int32) × (Int32)) => (u.1) = tcL a lo gl ∧ (u.2.1) = tcH a hi gh ∧ (u.2.2) = (if gl a < lo ∨ hi < gh a then 1 else ch)) (fun u t => bw (dC, dI) [(cI, .int)] (va_A [(qm, .inr (11, [w0, w1, w2, w3, .ref nl, .ref nh, .int ch, w7, w8, w9, w10, w11, w12, w13, w14, w15, w16, w17, w18, w19, w20, w21, w22, w23, w24, w25, w26, w27, w28, w29, w30, w31, w32, w33, w34, w35, w36, w37, w38])), (nl, .inl (cI, 48, .inl gl)), (nh, .inl (cI, 48, .inl gh))] sz) [(qm, .inr (11, [w0, w1, w2, w3, .ref nl, .ref nh, .int (u.2.2), w7, w8, w9, w10, w11, w12, w13, w14, w15, w16, w17, w18, w19, w20, w21, w22, w23, w24, w25, w26, w27, w28, w29, w30, w31, w32, w33, w34, w35, w36, w37, w38])), (nl, .inl (cI, 48, .inl (u.1))), (nh, .inl (cI, 48, .inl (u.2.1)))] t) (va_A [(qm, .inr (11, [w0, w1, w2, w3, .ref nl, .ref nh, .int ch, w7, w8, w9, w10, w11, w12, w13, w14, w15, w16, w17, w18, w19, w20, w21, w22, w23, w24, w25, w26, w27, w28, w29, w30, w31, w32, w33, w34, w35, w36, w37, w38])), (nl, .inl (cI, 48, .inl gl)), (nh, .inl (cI, 48, .inl gh))] sz)) 0 0 (va_A [(qm, .inr (11, [w0, w1, w2, w3, .ref nl, .ref nh, .int ch, w7, w8, w9, w10, w11, w12, w13, w14, w15, w16, w17, w18, w19, w20, w21, w22, w23, w24, w25, w26, w27, w28, w29, w30, w31, w32, w33, w34, w35, w36, w37, w38])), (nl, .inl (cI, 48, .inl gl)), (nh, .inl (cI, 48, .inl gh))] sz) := by
  refine pw_met (cc := cX11_meet) (maxL := 4) (ret := none) (by decide) rfl (Nat.le_of_ble_eq_true rfl) ?_
  intro p e s m below meth c0 hx hb hr hml hown hlocks hnm hts hP hK hD hN hsz hA hS ls hl
  subst hsz
  have hl : lv_has ls 4 [(0, .ref qm), (1, .int (nI a)), (2, .int lo), (3, .int hi)] := hl
  have hiX11 : ∀ w ∈ wsX110, w ∈ wsX11_meet := fun _ h => List.mem_cons_of_mem _ (List.mem_append_right _ (h))
  generalize hQ : MQ _ _ _ _ _ _ _ = Q
  refine lv_iload_n hx hb dX11_meet_0 rfl (lv_at hl 2 rfl) ?_
  refine lv_aload_n hx hb dX11_meet_1 rfl (lv_at hl 0 rfl) ?_
  refine va_get (D := (dC, dI)) (ci := 11) (v := .ref nl) (C := RX11) (T := TX11) (N := 39) hx hb hts hiX11 hown hK hP 0 rfl rfl 4 (by decide) (hts (.fieldLink RX11 16 "TributePitchesModel" "newLow" "[I") (List.mem_of_getElem? (i := 1) rfl)) (fun _ h9 => h9) rfl dX11_meet_2 ?_
  refine lv_iload_n hx hb dX11_meet_5 rfl (lv_at hl 1 rfl) ?_
  refine va_iald hx hb hK hP 1 0 rfl rfl (vp_in_nI (by omega) (by omega)) dX11_meet_6 ?_
  refine lv_topi (fun v1 ev1 => ?_)
  have ev1 : v1 = gl a := by rw [ev1]; rw [nI_clamp (by omega)]
  subst ev1
  refine lv_icmp_le (tgt := 22) hx hb dX11_meet_7 (by decide) (fun c2 => ?_) (fun c2 => ?_)
  · skip
    refine lv_iload_n hx hb dX11_meet_22 rfl (lv_at hl 3 rfl) ?_
    refine lv_aload_n hx hb dX11_meet_23 rfl (lv_at hl 0 rfl) ?_
    refine va_get (D := (dC, dI)) (ci := 11) (v := .ref nh) (C := RX11) (T := TX11) (N := 39) hx hb hts hiX11 hown hK hP 0 rfl rfl 5 (by decide) (hts (.fieldLink RX11 19 "TributePitchesModel" "newHigh" "[I") (List.mem_of_getElem? (i := 3) rfl)) (fun _ h9 => h9) rfl dX11_meet_24 ?_
    refine lv_iload_n hx hb dX11_meet_27 rfl (lv_at hl 1 rfl) ?_
    refine va_iald hx hb hK hP 2 0 rfl rfl (vp_in_nI (by omega) (by omega)) dX11_meet_28 ?_
    refine lv_topi (fun v3 ev3 => ?_)
    have ev3 : v3 = gh a := by rw [ev3]; rw [nI_clamp (by omega)]
    subst ev3
    refine lv_icmp_ge (tgt := 44) hx hb dX11_meet_29 (by decide) (fun c4 => ?_) (fun c4 => ?_)
    · skip
      subst hQ
      have hP9 := hP.sub (ws' := [(qm, .inr (11, [w0, w1, w2, w3, .ref nl, .ref nh, .int ch, w7, w8, w9, w10, w11, w12, w13, w14, w15, w16, w17, w18, w19, w20, w21, w22, w23, w24, w25, w26, w27, w28, w29, w30, w31, w32, w33, w34, w35, w36, w37, w38])), (nl, .inl (cI, 48, .inl gl)), (nh, .inl (cI, 48, .inl gh))]) [0, 1, 2] rfl
      have hD9 := hD.sub (ws' := [(qm, .inr (11, [w0, w1, w2, w3, .ref nl, .ref nh, .int ch, w7, w8, w9, w10, w11, w12, w13, w14, w15, w16, w17, w18, w19, w20, w21, w22, w23, w24, w25, w26, w27, w28, w29, w30, w31, w32, w33, w34, w35, w36, w37, w38])), (nl, .inl (cI, 48, .inl gl)), (nh, .inl (cI, 48, .inl gh))]) [0, 1, 2] (by decide) rfl
      have hK9 := hK
      exact W.vret hx hb hr (fun t ht hW => ⟨⟨(gl, gh, ch), rfl, ⟨(by rw [tcL, if_neg (Int32.not_lt.mpr c2)]; exact (fa_upd_same rfl).symm), (by rw [tcH, if_neg (Int32.not_lt.mpr c4)]; exact (fa_upd_same rfl).symm), (by rw [if_neg (fun q => q.elim (fun z => absurd z (Int32.not_lt.mpr c2)) (fun z => absurd z (Int32.not_lt.mpr c4)))])⟩, by rw [ht]; exact hP9, va_K.moved hW.alike hK9, hD9⟩, hS.F ht⟩) hS.2.2 dX11_meet_44
    · skip
      refine lv_aload_n hx hb dX11_meet_32 rfl (lv_at hl 0 rfl) ?_
      refine va_get (D := (dC, dI)) (ci := 11) (v := .ref nh) (C := RX11) (T := TX11) (N := 39) hx hb hts hiX11 hown hK hP 0 rfl rfl 5 (by decide) (hts (.fieldLink RX11 19 "TributePitchesModel" "newHigh" "[I") (List.mem_of_getElem? (i := 3) rfl)) (fun _ h9 => h9) rfl dX11_meet_33 ?_
      refine lv_iload_n hx hb dX11_meet_36 rfl (lv_at hl 1 rfl) ?_
      refine lv_iload_n hx hb dX11_meet_37 rfl (lv_at hl 3 rfl) ?_
      refine va_iast hx hb hK hP hD hS 2 0 rfl rfl (vp_in_nI (by omega) (by omega)) dX11_meet_38 (fun H locs hP hD hS => ?_)
      rw [nI_clamp (n := a) (by omega)] at hP hD
      have hP : va_P (dC, dI) vwCl [(qm, .inr (11, [w0, w1, w2, w3, .ref nl, .ref nh, .int ch, w7, w8, w9, w10, w11, w12, w13, w14, w15, w16, w17, w18, w19, w20, w21, w22, w23, w24, w25, w26, w27, w28, w29, w30, w31, w32, w33, w34, w35, w36, w37, w38])), (nl, .inl (cI, 48, .inl gl)), (nh, .inl (cI, 48, .inl (upd gh a hi)))] H := hP
      have hD : va_D _ [(qm, .inr (11, [w0, w1, w2, w3, .ref nl, .ref nh, .int ch, w7, w8, w9, w10, w11, w12, w13, w14, w15, w16, w17, w18, w19, w20, w21, w22, w23, w24, w25, w26, w27, w28, w29, w30, w31, w32, w33, w34, w35, w36, w37, w38])), (nl, .inl (cI, 48, .inl gl)), (nh, .inl (cI, 48, .inl (upd gh a hi)))] := hD
      refine lv_aload_n hx hb dX11_meet_39 rfl (lv_at hl 0 rfl) ?_
      refine lv_iconst (v := 1) hx hb dX11_meet_40 (by decide) ?_
      refine va_put (D := (dC, dI)) (ci := 11) (v := .int 1) (ty := .boolean) (C := RX11) (T := TX11) (N := 39) hx hb hts hiX11 tyX11 tyX11_ok nmX11 hown hK hP hD hS 0 rfl rfl 6 (by decide) (hts (.fieldLink RX11 117 "TributePitchesModel" "isChanged" "Z") (List.mem_of_getElem? (i := 2) rfl)) (fun _ h9 => h9) rfl (by decide +kernel) rfl rfl (Nat.le_of_ble_eq_true rfl) dX11_meet_41 (fun H locs hP hD hS => ?_)
      have hP : va_P (dC, dI) vwCl [(qm, .inr (11, [w0, w1, w2, w3, .ref nl, .ref nh, .int 1, w7, w8, w9, w10, w11, w12, w13, w14, w15, w16, w17, w18, w19, w20, w21, w22, w23, w24, w25, w26, w27, w28, w29, w30, w31, w32, w33, w34, w35, w36, w37, w38])), (nl, .inl (cI, 48, .inl gl)), (nh, .inl (cI, 48, .inl (upd gh a hi)))] H := hP
      have hD : va_D _ [(qm, .inr (11, [w0, w1, w2, w3, .ref nl, .ref nh, .int 1, w7, w8, w9, w10, w11, w12, w13, w14, w15, w16, w17, w18, w19, w20, w21, w22, w23, w24, w25, w26, w27, w28, w29, w30, w31, w32, w33, w34, w35, w36, w37, w38])), (nl, .inl (cI, 48, .inl gl)), (nh, .inl (cI, 48, .inl (upd gh a hi)))] := hD
      subst hQ
      have hP9 := hP.sub (ws' := [(qm, .inr (11, [w0, w1, w2, w3, .ref nl, .ref nh, .int 1, w7, w8, w9, w10, w11, w12, w13, w14, w15, w16, w17, w18, w19, w20, w21, w22, w23, w24, w25, w26, w27, w28, w29, w30, w31, w32, w33, w34, w35, w36, w37, w38])), (nl, .inl (cI, 48, .inl gl)), (nh, .inl (cI, 48, .inl (upd gh a hi)))]) [0, 1, 2] rfl
      have hD9 := hD.sub (ws' := [(qm, .inr (11, [w0, w1, w2, w3, .ref nl, .ref nh, .int 1, w7, w8, w9, w10, w11, w12, w13, w14, w15, w16, w17, w18, w19, w20, w21, w22, w23, w24, w25, w26, w27, w28, w29, w30, w31, w32, w33, w34, w35, w36, w37, w38])), (nl, .inl (cI, 48, .inl gl)), (nh, .inl (cI, 48, .inl (upd gh a hi)))]) [0, 1, 2] (by decide) rfl
      have hK9 := hK
      exact W.vret hx hb hr (fun t ht hW => ⟨⟨(gl, upd gh a hi, 1), rfl, ⟨(by rw [tcL, if_neg (Int32.not_lt.mpr c2)]; exact (fa_upd_same rfl).symm), (by rw [tcH, if_pos (Int32.not_le.mp c4)]), (by rw [if_pos (Or.inr (Int32.not_le.mp c4))])⟩, by rw [ht]; exact hP9, va_K.moved hW.alike hK9, hD9⟩, hS.F ht⟩) hS.2.2 dX11_meet_44
  · skip
    refine lv_aload_n hx hb dX11_meet_10 rfl (lv_at hl 0 rfl) ?_
    refine va_get (D := (dC, dI)) (ci := 11) (v := .ref nl) (C := RX11) (T := TX11) (N := 39) hx hb hts hiX11 hown hK hP 0 rfl rfl 4 (by decide) (hts (.fieldLink RX11 16 "TributePitchesModel" "newLow" "[I") (List.mem_of_getElem? (i := 1) rfl)) (fun _ h9 => h9) rfl dX11_meet_11 ?_
    refine lv_iload_n hx hb dX11_meet_14 rfl (lv_at hl 1 rfl) ?_
    refine lv_iload_n hx hb dX11_meet_15 rfl (lv_at hl 2 rfl) ?_
    refine va_iast hx hb hK hP hD hS 1 0 rfl rfl (vp_in_nI (by omega) (by omega)) dX11_meet_16 (fun H locs hP hD hS => ?_)
    rw [nI_clamp (n := a) (by omega)] at hP hD
    have hP : va_P (dC, dI) vwCl [(qm, .inr (11, [w0, w1, w2, w3, .ref nl, .ref nh, .int ch, w7, w8, w9, w10, w11, w12, w13, w14, w15, w16, w17, w18, w19, w20, w21, w22, w23, w24, w25, w26, w27, w28, w29, w30, w31, w32, w33, w34, w35, w36, w37, w38])), (nl, .inl (cI, 48, .inl (upd gl a lo))), (nh, .inl (cI, 48, .inl gh))] H := hP
    have hD : va_D _ [(qm, .inr (11, [w0, w1, w2, w3, .ref nl, .ref nh, .int ch, w7, w8, w9, w10, w11, w12, w13, w14, w15, w16, w17, w18, w19, w20, w21, w22, w23, w24, w25, w26, w27, w28, w29, w30, w31, w32, w33, w34, w35, w36, w37, w38])), (nl, .inl (cI, 48, .inl (upd gl a lo))), (nh, .inl (cI, 48, .inl gh))] := hD
    refine lv_aload_n hx hb dX11_meet_17 rfl (lv_at hl 0 rfl) ?_
    refine lv_iconst (v := 1) hx hb dX11_meet_18 (by decide) ?_
    refine va_put (D := (dC, dI)) (ci := 11) (v := .int 1) (ty := .boolean) (C := RX11) (T := TX11) (N := 39) hx hb hts hiX11 tyX11 tyX11_ok nmX11 hown hK hP hD hS 0 rfl rfl 6 (by decide) (hts (.fieldLink RX11 117 "TributePitchesModel" "isChanged" "Z") (List.mem_of_getElem? (i := 2) rfl)) (fun _ h9 => h9) rfl (by decide +kernel) rfl rfl (Nat.le_of_ble_eq_true rfl) dX11_meet_19 (fun H locs hP hD hS => ?_)
    have hP : va_P (dC, dI) vwCl [(qm, .inr (11, [w0, w1, w2, w3, .ref nl, .ref nh, .int 1, w7, w8, w9, w10, w11, w12, w13, w14, w15, w16, w17, w18, w19, w20, w21, w22, w23, w24, w25, w26, w27, w28, w29, w30, w31, w32, w33, w34, w35, w36, w37, w38])), (nl, .inl (cI, 48, .inl (upd gl a lo))), (nh, .inl (cI, 48, .inl gh))] H := hP
    have hD : va_D _ [(qm, .inr (11, [w0, w1, w2, w3, .ref nl, .ref nh, .int 1, w7, w8, w9, w10, w11, w12, w13, w14, w15, w16, w17, w18, w19, w20, w21, w22, w23, w24, w25, w26, w27, w28, w29, w30, w31, w32, w33, w34, w35, w36, w37, w38])), (nl, .inl (cI, 48, .inl (upd gl a lo))), (nh, .inl (cI, 48, .inl gh))] := hD
    refine lv_iload_n hx hb dX11_meet_22 rfl (lv_at hl 3 rfl) ?_
    refine lv_aload_n hx hb dX11_meet_23 rfl (lv_at hl 0 rfl) ?_
    refine va_get (D := (dC, dI)) (ci := 11) (v := .ref nh) (C := RX11) (T := TX11) (N := 39) hx hb hts hiX11 hown hK hP 0 rfl rfl 5 (by decide) (hts (.fieldLink RX11 19 "TributePitchesModel" "newHigh" "[I") (List.mem_of_getElem? (i := 3) rfl)) (fun _ h9 => h9) rfl dX11_meet_24 ?_
    refine lv_iload_n hx hb dX11_meet_27 rfl (lv_at hl 1 rfl) ?_
    refine va_iald hx hb hK hP 2 0 rfl rfl (vp_in_nI (by omega) (by omega)) dX11_meet_28 ?_
    refine lv_topi (fun v5 ev5 => ?_)
    have ev5 : v5 = gh a := by rw [ev5]; rw [nI_clamp (by omega)]
    subst ev5
    refine lv_icmp_ge (tgt := 44) hx hb dX11_meet_29 (by decide) (fun c6 => ?_) (fun c6 => ?_)
    · skip
      subst hQ
      have hP9 := hP.sub (ws' := [(qm, .inr (11, [w0, w1, w2, w3, .ref nl, .ref nh, .int 1, w7, w8, w9, w10, w11, w12, w13, w14, w15, w16, w17, w18, w19, w20, w21, w22, w23, w24, w25, w26, w27, w28, w29, w30, w31, w32, w33, w34, w35, w36, w37, w38])), (nl, .inl (cI, 48, .inl (upd gl a lo))), (nh, .inl (cI, 48, .inl gh))]) [0, 1, 2] rfl
      have hD9 := hD.sub (ws' := [(qm, .inr (11, [w0, w1, w2, w3, .ref nl, .ref nh, .int 1, w7, w8, w9, w10, w11, w12, w13, w14, w15, w16, w17, w18, w19, w20, w21, w22, w23, w24, w25, w26, w27, w28, w29, w30, w31, w32, w33, w34, w35, w36, w37, w38])), (nl, .inl (cI, 48, .inl (upd gl a lo))), (nh, .inl (cI, 48, .inl gh))]) [0, 1, 2] (by decide) rfl
      have hK9 := hK
      exact W.vret hx hb hr (fun t ht hW => ⟨⟨(upd gl a lo, gh, 1), rfl, ⟨(by rw [tcL, if_pos (Int32.not_le.mp c2)]), (by rw [tcH, if_neg (Int32.not_lt.mpr c6)]; exact (fa_upd_same rfl).symm), (by rw [if_pos (Or.inl (Int32.not_le.mp c2))])⟩, by rw [ht]; exact hP9, va_K.moved hW.alike hK9, hD9⟩, hS.F ht⟩) hS.2.2 dX11_meet_44
    · skip
      refine lv_aload_n hx hb dX11_meet_32 rfl (lv_at hl 0 rfl) ?_
      refine va_get (D := (dC, dI)) (ci := 11) (v := .ref nh) (C := RX11) (T := TX11) (N := 39) hx hb hts hiX11 hown hK hP 0 rfl rfl 5 (by decide) (hts (.fieldLink RX11 19 "TributePitchesModel" "newHigh" "[I") (List.mem_of_getElem? (i := 3) rfl)) (fun _ h9 => h9) rfl dX11_meet_33 ?_
      refine lv_iload_n hx hb dX11_meet_36 rfl (lv_at hl 1 rfl) ?_
      refine lv_iload_n hx hb dX11_meet_37 rfl (lv_at hl 3 rfl) ?_
      refine va_iast hx hb hK hP hD hS 2 0 rfl rfl (vp_in_nI (by omega) (by omega)) dX11_meet_38 (fun H locs hP hD hS => ?_)
      rw [nI_clamp (n := a) (by omega)] at hP hD
      have hP : va_P (dC, dI) vwCl [(qm, .inr (11, [w0, w1, w2, w3, .ref nl, .ref nh, .int 1, w7, w8, w9, w10, w11, w12, w13, w14, w15, w16, w17, w18, w19, w20, w21, w22, w23, w24, w25, w26, w27, w28, w29, w30, w31, w32, w33, w34, w35, w36, w37, w38])), (nl, .inl (cI, 48, .inl (upd gl a lo))), (nh, .inl (cI, 48, .inl (upd gh a hi)))] H := hP
      have hD : va_D _ [(qm, .inr (11, [w0, w1, w2, w3, .ref nl, .ref nh, .int 1, w7, w8, w9, w10, w11, w12, w13, w14, w15, w16, w17, w18, w19, w20, w21, w22, w23, w24, w25, w26, w27, w28, w29, w30, w31, w32, w33, w34, w35, w36, w37, w38])), (nl, .inl (cI, 48, .inl (upd gl a lo))), (nh, .inl (cI, 48, .inl (upd gh a hi)))] := hD
      refine lv_aload_n hx hb dX11_meet_39 rfl (lv_at hl 0 rfl) ?_
      refine lv_iconst (v := 1) hx hb dX11_meet_40 (by decide) ?_
      refine va_put (D := (dC, dI)) (ci := 11) (v := .int 1) (ty := .boolean) (C := RX11) (T := TX11) (N := 39) hx hb hts hiX11 tyX11 tyX11_ok nmX11 hown hK hP hD hS 0 rfl rfl 6 (by decide) (hts (.fieldLink RX11 117 "TributePitchesModel" "isChanged" "Z") (List.mem_of_getElem? (i := 2) rfl)) (fun _ h9 => h9) rfl (by decide +kernel) rfl rfl (Nat.le_of_ble_eq_true rfl) dX11_meet_41 (fun H locs hP hD hS => ?_)
      have hP : va_P (dC, dI) vwCl [(qm, .inr (11, [w0, w1, w2, w3, .ref nl, .ref nh, .int 1, w7, w8, w9, w10, w11, w12, w13, w14, w15, w16, w17, w18, w19, w20, w21, w22, w23, w24, w25, w26, w27, w28, w29, w30, w31, w32, w33, w34, w35, w36, w37, w38])), (nl, .inl (cI, 48, .inl (upd gl a lo))), (nh, .inl (cI, 48, .inl (upd gh a hi)))] H := hP
      have hD : va_D _ [(qm, .inr (11, [w0, w1, w2, w3, .ref nl, .ref nh, .int 1, w7, w8, w9, w10, w11, w12, w13, w14, w15, w16, w17, w18, w19, w20, w21, w22, w23, w24, w25, w26, w27, w28, w29, w30, w31, w32, w33, w34, w35, w36, w37, w38])), (nl, .inl (cI, 48, .inl (upd gl a lo))), (nh, .inl (cI, 48, .inl (upd gh a hi)))] := hD
      subst hQ
      have hP9 := hP.sub (ws' := [(qm, .inr (11, [w0, w1, w2, w3, .ref nl, .ref nh, .int 1, w7, w8, w9, w10, w11, w12, w13, w14, w15, w16, w17, w18, w19, w20, w21, w22, w23, w24, w25, w26, w27, w28, w29, w30, w31, w32, w33, w34, w35, w36, w37, w38])), (nl, .inl (cI, 48, .inl (upd gl a lo))), (nh, .inl (cI, 48, .inl (upd gh a hi)))]) [0, 1, 2] rfl
      have hD9 := hD.sub (ws' := [(qm, .inr (11, [w0, w1, w2, w3, .ref nl, .ref nh, .int 1, w7, w8, w9, w10, w11, w12, w13, w14, w15, w16, w17, w18, w19, w20, w21, w22, w23, w24, w25, w26, w27, w28, w29, w30, w31, w32, w33, w34, w35, w36, w37, w38])), (nl, .inl (cI, 48, .inl (upd gl a lo))), (nh, .inl (cI, 48, .inl (upd gh a hi)))]) [0, 1, 2] (by decide) rfl
      have hK9 := hK
      exact W.vret hx hb hr (fun t ht hW => ⟨⟨(upd gl a lo, upd gh a hi, 1), rfl, ⟨(by rw [tcL, if_pos (Int32.not_le.mp c2)]), (by rw [tcH, if_pos (Int32.not_le.mp c6)]), (by rw [if_pos (Or.inl (Int32.not_le.mp c2))])⟩, by rw [ht]; exact hP9, va_K.moved hW.alike hK9, hD9⟩, hS.F ht⟩) hS.2.2 dX11_meet_44
set_option maxHeartbeats 4000000 in
set_option maxRecDepth 100000 in
theorem r_meetNeighbour (l : Launch) (dC : Nat → ClassId) (dI : Nat → Nat → Nat) (cI : ClassId) (sz : Nat) (qm : Nat) (w0 : Value) (w1 : Value) (w2 : Value) (w3 : Value) (w7 : Value) (w8 : Value) (w9 : Value) (w10 : Value) (w11 : Value) (w12 : Value) (w13 : Value) (w14 : Value) (w15 : Value) (w16 : Value) (w17 : Value) (w18 : Value) (w19 : Value) (w20 : Value) (w21 : Value) (w22 : Value) (w23 : Value) (w24 : Value) (w25 : Value) (w26 : Value) (w27 : Value) (w28 : Value) (w29 : Value) (w30 : Value) (w31 : Value) (w32 : Value) (w33 : Value) (w34 : Value) (w35 : Value) (w36 : Value) (w37 : Value) (w38 : Value) (nl : Nat) (nh : Nat) (a : Nat) (x : Int32) (y : Int32) (dd : Int32) (ch : Int32) (gl : Nat → Int32) (gh : Nat → Int32) (ha : a < 48) : Met l yX11_meetNeighbour wsX11_meetNeighbour ({ frames := 2, cells := 0, slots := 0, locals := 60 }) (pw (dC, dI) [(cI, .int)] [(qm, .inr (11, [w0, w1, w2, w3, .ref nl, .ref nh, .int ch, w7, w8, w9, w10, w11, w12, w13, w14, w15, w16, w17, w18, w19, w20, w21, w22, w23, w24, w25, w26, w27, w28, w29, w30, w31, w32, w33, w34, w35, w36, w37, w38])), (nl, .inl (cI, 48, .inl gl)), (nh, .inl (cI, 48, .inl gh))] sz [.ref qm, .int (nI a), .int x, .int y, .int dd]) (va_Qv (fun (u : (Nat → Int32) × (Nat → Int32) × (Int32)) => (¬ ((0 ≤ x ∧ x ≤ 7) ∧ (0 ≤ y ∧ y ≤ 5)) ∧ (u.1) = gl ∧ (u.2.1) = gh ∧ (u.2.2) = ch) ∨ (∃ b, b < 48 ∧ ((0 ≤ x ∧ x ≤ 7) ∧ (0 ≤ y ∧ y ≤ 5)) ∧ 8 * y + x = nI b ∧ (u.1) = tcL a (gl b - dd) gl ∧ (u.2.1) = tcH a (gh b + dd) gh ∧ (u.2.2) = (if gl a < gl b - dd ∨ gh b + dd < gh a then 1 else ch))) (fun u t => bw (dC, dI) [(cI, .int)] (va_A [(qm, .inr (11, [w0, w1, w2, w3, .ref nl, .ref nh, .int ch, w7, w8, w9, w10, w11, w12, w13, w14, w15, w16, w17, w18, w19, w20, w21, w22, w23, w24, w25, w26, w27, w28, w29, w30, w31, w32, w33, w34, w35, w36, w37, w38])), (nl, .inl (cI, 48, .inl gl)), (nh, .inl (cI, 48, .inl gh))] sz) [(qm, .inr (11, [w0, w1, w2, w3, .ref nl, .ref nh, .int (u.2.2), w7, w8, w9, w10, w11, w12, w13, w14, w15, w16, w17, w18, w19, w20, w21, w22, w23, w24, w25, w26, w27, w28, w29, w30, w31, w32, w33, w34, w35, w36, w37, w38])), (nl, .inl (cI, 48, .inl (u.1))), (nh, .inl (cI, 48, .inl (u.2.1)))] t) (va_A [(qm, .inr (11, [w0, w1, w2, w3, .ref nl, .ref nh, .int ch, w7, w8, w9, w10, w11, w12, w13, w14, w15, w16, w17, w18, w19, w20, w21, w22, w23, w24, w25, w26, w27, w28, w29, w30, w31, w32, w33, w34, w35, w36, w37, w38])), (nl, .inl (cI, 48, .inl gl)), (nh, .inl (cI, 48, .inl gh))] sz)) 0 0 (va_A [(qm, .inr (11, [w0, w1, w2, w3, .ref nl, .ref nh, .int ch, w7, w8, w9, w10, w11, w12, w13, w14, w15, w16, w17, w18, w19, w20, w21, w22, w23, w24, w25, w26, w27, w28, w29, w30, w31, w32, w33, w34, w35, w36, w37, w38])), (nl, .inl (cI, 48, .inl gl)), (nh, .inl (cI, 48, .inl gh))] sz) := by
  refine pw_met (cc := cX11_meetNeighbour) (maxL := 5) (ret := none) (by decide) rfl (Nat.le_of_ble_eq_true rfl) ?_
  intro p e s m below meth c0 hx hb hr hml hown hlocks hnm hts hP hK hD hN hsz hA hS ls hl
  subst hsz
  have hl : lv_has ls 5 [(0, .ref qm), (1, .int (nI a)), (2, .int x), (3, .int y), (4, .int dd)] := hl
  have hiX11 : ∀ w ∈ wsX110, w ∈ wsX11_meetNeighbour := fun _ h => List.mem_cons_of_mem _ (List.mem_append_right _ (h))
  generalize hQ : MQ _ _ _ _ _ _ _ = Q
  refine lv_iload_n hx hb dX11_meetNeighbour_0 rfl (lv_at hl 2 rfl) ?_
  refine lv_iload_n hx hb dX11_meetNeighbour_1 rfl (lv_at hl 3 rfl) ?_
  refine vp_callSi (va_Run.run (va_runS (As := [.int x, .int y]) (rest := []) ⟨hx, hb, hml, hown, hts⟩ (c_X11_isSquare l x y ) (va_cwS 2 hts gX11_meetNeighbour_X11_isSquare rfl rfl rfl (by decide +kernel) ⟨Nat.le_of_ble_eq_true rfl, Nat.le_of_ble_eq_true rfl⟩) (p0_preS hN) rfl rfl hl.1 rfl (lv_room (Nat.le_of_ble_eq_true rfl)) dX11_meetNeighbour_2 ⟨Nat.le_of_ble_eq_true rfl, Nat.le_of_ble_eq_true rfl⟩)) (fun r1 hr1 => ?_)
  have hr1 : r1 = if (0 ≤ x ∧ x ≤ 7) ∧ (0 ≤ y ∧ y ≤ 5) then 1 else 0 := hr1
  refine lv_if_eq (tgt := 41) hx hb dX11_meetNeighbour_5 (by decide) (fun c2 => ?_) (fun c2 => ?_)
  · skip
    have c2 := (fa_bool_prop hr1).1.mp c2
    subst hQ
    have hP9 := hP.sub (ws' := [(qm, .inr (11, [w0, w1, w2, w3, .ref nl, .ref nh, .int ch, w7, w8, w9, w10, w11, w12, w13, w14, w15, w16, w17, w18, w19, w20, w21, w22, w23, w24, w25, w26, w27, w28, w29, w30, w31, w32, w33, w34, w35, w36, w37, w38])), (nl, .inl (cI, 48, .inl gl)), (nh, .inl (cI, 48, .inl gh))]) [0, 1, 2] rfl
    have hD9 := hD.sub (ws' := [(qm, .inr (11, [w0, w1, w2, w3, .ref nl, .ref nh, .int ch, w7, w8, w9, w10, w11, w12, w13, w14, w15, w16, w17, w18, w19, w20, w21, w22, w23, w24, w25, w26, w27, w28, w29, w30, w31, w32, w33, w34, w35, w36, w37, w38])), (nl, .inl (cI, 48, .inl gl)), (nh, .inl (cI, 48, .inl gh))]) [0, 1, 2] (by decide) rfl
    have hK9 := hK
    exact W.vret hx hb hr (fun t ht hW => ⟨⟨(gl, gh, ch), rfl, (Or.inl ⟨c2, rfl, rfl, rfl⟩), by rw [ht]; exact hP9, va_K.moved hW.alike hK9, hD9⟩, hS.F ht⟩) hS.2.2 dX11_meetNeighbour_41
  · skip
    have c2 := (fa_bool_prop hr1).2.mp c2
    obtain ⟨b, hb9, eb⟩ := sqN c2
    refine lv_aload_n hx hb dX11_meetNeighbour_8 rfl (lv_at hl 0 rfl) ?_
    refine lv_iload_n hx hb dX11_meetNeighbour_9 rfl (lv_at hl 1 rfl) ?_
    refine lv_aload_n hx hb dX11_meetNeighbour_10 rfl (lv_at hl 0 rfl) ?_
    refine va_get (D := (dC, dI)) (ci := 11) (v := .ref nl) (C := RX11) (T := TX11) (N := 39) hx hb hts hiX11 hown hK hP 0 rfl rfl 4 (by decide) (hts (.fieldLink RX11 16 "TributePitchesModel" "newLow" "[I") (List.mem_of_getElem? (i := 1) rfl)) (fun _ h9 => h9) rfl dX11_meetNeighbour_11 ?_
    refine lv_bipush (v := 8) hx hb dX11_meetNeighbour_14 (by decide) ?_
    refine lv_iload_n hx hb dX11_meetNeighbour_16 rfl (lv_at hl 3 rfl) ?_
    refine lv_imul hx hb dX11_meetNeighbour_17 ?_
    refine lv_iload_n hx hb dX11_meetNeighbour_18 rfl (lv_at hl 2 rfl) ?_
    refine lv_iadd hx hb dX11_meetNeighbour_19 ?_
    refine lv_topi (fun vz evz => ?_)
    have evz : vz = nI b := by rw [evz]; exact eb
    subst evz
    refine va_iald hx hb hK hP 1 0 rfl rfl (vp_in_nI (by omega) (by omega)) dX11_meetNeighbour_20 ?_
    refine lv_topi (fun v3 ev3 => ?_)
    have ev3 : v3 = gl b := by rw [ev3]; rw [nI_clamp (by omega)]
    subst ev3
    refine lv_iload hx hb dX11_meetNeighbour_21 (lv_at hl 4 rfl) ?_
    refine lv_isub hx hb dX11_meetNeighbour_23 ?_
    refine lv_aload_n hx hb dX11_meetNeighbour_24 rfl (lv_at hl 0 rfl) ?_
    refine va_get (D := (dC, dI)) (ci := 11) (v := .ref nh) (C := RX11) (T := TX11) (N := 39) hx hb hts hiX11 hown hK hP 0 rfl rfl 5 (by decide) (hts (.fieldLink RX11 19 "TributePitchesModel" "newHigh" "[I") (List.mem_of_getElem? (i := 2) rfl)) (fun _ h9 => h9) rfl dX11_meetNeighbour_25 ?_
    refine lv_bipush (v := 8) hx hb dX11_meetNeighbour_28 (by decide) ?_
    refine lv_iload_n hx hb dX11_meetNeighbour_30 rfl (lv_at hl 3 rfl) ?_
    refine lv_imul hx hb dX11_meetNeighbour_31 ?_
    refine lv_iload_n hx hb dX11_meetNeighbour_32 rfl (lv_at hl 2 rfl) ?_
    refine lv_iadd hx hb dX11_meetNeighbour_33 ?_
    refine lv_topi (fun vz evz => ?_)
    have evz : vz = nI b := by rw [evz]; exact eb
    subst evz
    refine va_iald hx hb hK hP 2 0 rfl rfl (vp_in_nI (by omega) (by omega)) dX11_meetNeighbour_34 ?_
    refine lv_topi (fun v4 ev4 => ?_)
    have ev4 : v4 = gh b := by rw [ev4]; rw [nI_clamp (by omega)]
    subst ev4
    refine lv_iload hx hb dX11_meetNeighbour_35 (lv_at hl 4 rfl) ?_
    refine lv_iadd hx hb dX11_meetNeighbour_37 ?_
    have hPc := hP.sub (ws' := [(qm, .inr (11, [w0, w1, w2, w3, .ref nl, .ref nh, .int ch, w7, w8, w9, w10, w11, w12, w13, w14, w15, w16, w17, w18, w19, w20, w21, w22, w23, w24, w25, w26, w27, w28, w29, w30, w31, w32, w33, w34, w35, w36, w37, w38])), (nl, .inl (cI, 48, .inl gl)), (nh, .inl (cI, 48, .inl gh))]) [0, 1, 2] rfl
    have hDc := hD.sub (ws' := [(qm, .inr (11, [w0, w1, w2, w3, .ref nl, .ref nh, .int ch, w7, w8, w9, w10, w11, w12, w13, w14, w15, w16, w17, w18, w19, w20, w21, w22, w23, w24, w25, w26, w27, w28, w29, w30, w31, w32, w33, w34, w35, w36, w37, w38])), (nl, .inl (cI, 48, .inl gl)), (nh, .inl (cI, 48, .inl gh))]) [0, 1, 2] (by decide) rfl
    have hKc := hK.sub (tys' := [(cI, .int)]) [0] rfl
    have hFc := va_free (wc := [(qm, .inr (11, [w0, w1, w2, w3, .ref nl, .ref nh, .int ch, w7, w8, w9, w10, w11, w12, w13, w14, w15, w16, w17, w18, w19, w20, w21, w22, w23, w24, w25, w26, w27, w28, w29, w30, w31, w32, w33, w34, w35, w36, w37, w38])), (nl, .inl (cI, 48, .inl gl)), (nh, .inl (cI, 48, .inl gh))]) hD hS hA [0, 1, 2] rfl
    refine va_callv (va_runV (As := [.int (nI a), .int ((gl b) - dd), .int ((gh b) + dd)]) (rest := []) ⟨hx, hb, hml, hown, hts⟩ (r_meet l dC dI cI _ qm w0 w1 w2 w3 w7 w8 w9 w10 w11 w12 w13 w14 w15 w16 w17 w18 w19 w20 w21 w22 w23 w24 w25 w26 w27 w28 w29 w30 w31 w32 w33 w34 w35 w36 w37 w38 nl nh a ((gl b) - dd) ((gh b) + dd) ch gl gh ha) (cwV 3 hts gX11_meetNeighbour_X11_meet rfl rfl rfl (by decide +kernel) ⟨Nat.le_of_ble_eq_true rfl, Nat.le_of_ble_eq_true rfl⟩) (pw_preV (va_recv hKc hPc (ci := 11) (q0 := 0) rfl rfl) hPc hKc hDc hN) rfl rfl hl.1 rfl (lv_room (Nat.le_of_ble_eq_true rfl)) dX11_meetNeighbour_38 ⟨Nat.le_of_ble_eq_true rfl, Nat.le_of_ble_eq_true rfl⟩) hS (fun q _ h => hFc q h) hFc (fun u t H1 locs ht hvm hw hB hz1 hk1 hS => ?_)
    obtain ⟨al_6, ah_7, cq_8⟩ := u
    have hr5 : al_6 = tcL a ((gl b) - dd) gl ∧ ah_7 = tcH a ((gh b) + dd) gh ∧ cq_8 = (if gl a < ((gl b) - dd) ∨ ((gh b) + dd) < gh a then 1 else ch) := hw
    obtain ⟨hP1, hK1, hD1⟩ := hB
    rw [ht] at hP1
    obtain ⟨hP, hD⟩ := va_join (wr := []) (w1 := [(qm, .inr (11, [w0, w1, w2, w3, .ref nl, .ref nh, .int cq_8, w7, w8, w9, w10, w11, w12, w13, w14, w15, w16, w17, w18, w19, w20, w21, w22, w23, w24, w25, w26, w27, w28, w29, w30, w31, w32, w33, w34, w35, w36, w37, w38])), (nl, .inl (cI, 48, .inl al_6)), (nh, .inl (cI, 48, .inl ah_7))]) hP hD [0, 1, 2] [] rfl rfl (by decide) (by decide) hk1 hFc hP1 hD1
    generalize H1 = H at hP hS ⊢
    have hP : va_P (dC, dI) vwCl [(qm, .inr (11, [w0, w1, w2, w3, .ref nl, .ref nh, .int cq_8, w7, w8, w9, w10, w11, w12, w13, w14, w15, w16, w17, w18, w19, w20, w21, w22, w23, w24, w25, w26, w27, w28, w29, w30, w31, w32, w33, w34, w35, w36, w37, w38])), (nl, .inl (cI, 48, .inl al_6)), (nh, .inl (cI, 48, .inl ah_7))] H := hP
    have hD : va_D _ [(qm, .inr (11, [w0, w1, w2, w3, .ref nl, .ref nh, .int cq_8, w7, w8, w9, w10, w11, w12, w13, w14, w15, w16, w17, w18, w19, w20, w21, w22, w23, w24, w25, w26, w27, w28, w29, w30, w31, w32, w33, w34, w35, w36, w37, w38])), (nl, .inl (cI, 48, .inl al_6)), (nh, .inl (cI, 48, .inl ah_7))] := hD
    subst hQ
    have hP9 := hP.sub (ws' := [(qm, .inr (11, [w0, w1, w2, w3, .ref nl, .ref nh, .int cq_8, w7, w8, w9, w10, w11, w12, w13, w14, w15, w16, w17, w18, w19, w20, w21, w22, w23, w24, w25, w26, w27, w28, w29, w30, w31, w32, w33, w34, w35, w36, w37, w38])), (nl, .inl (cI, 48, .inl al_6)), (nh, .inl (cI, 48, .inl ah_7))]) [0, 1, 2] rfl
    have hD9 := hD.sub (ws' := [(qm, .inr (11, [w0, w1, w2, w3, .ref nl, .ref nh, .int cq_8, w7, w8, w9, w10, w11, w12, w13, w14, w15, w16, w17, w18, w19, w20, w21, w22, w23, w24, w25, w26, w27, w28, w29, w30, w31, w32, w33, w34, w35, w36, w37, w38])), (nl, .inl (cI, 48, .inl al_6)), (nh, .inl (cI, 48, .inl ah_7))]) [0, 1, 2] (by decide) rfl
    have hK9 := hK
    exact W.vret hx hb hr (fun t ht hW => ⟨⟨(al_6, ah_7, cq_8), rfl, (Or.inr ⟨b, hb9, c2, eb, hr5.1, hr5.2.1, hr5.2.2⟩), by rw [ht]; exact hP9, va_K.moved hW.alike hK9, hD9⟩, hS.F ht⟩) hS.2.2 dX11_meetNeighbour_41
