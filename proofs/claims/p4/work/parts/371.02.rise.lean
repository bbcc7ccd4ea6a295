def pC_rise (zc : CS) (dd : Int32) (r : Int32) (u : CS) : Prop :=
  ((0 ≤ dd ∧ dd ≤ 1000) ∧ (dd ≤ (cs_i zc 0)) ∧ ∃ fl1_6 : Nat → Int32, ∃ fh1_7 : Nat → Int32, ∃ la1_8 : Int32, ∃ tl1_9 : Nat → Int32, ∃ th1_10 : Nat → Int32, ∃ r5 : Int32, ((tl1_9 = dnL dd (swL dd (cs_I zc 0) 48) 48 ∧ th1_10 = dnH dd (swH dd (cs_I zc 1) 48) 48) ∧ ((r5 = -3 ∧ (∃ j, j < 48 ∧ th1_10 j < tl1_9 j) ∧ fl1_6 = (cs_I zc 0) ∧ fh1_7 = (cs_I zc 1) ∧ la1_8 = (cs_i zc 0)) ∨ (r5 = nI (fa_cnt (chg (cs_I zc 0) (cs_I zc 1) tl1_9 th1_10) 48) ∧ (∀ j, j < 48 → ¬ th1_10 j < tl1_9 j) ∧ fl1_6 = tl1_9 ∧ fh1_7 = th1_10 ∧ la1_8 = dd))) ∧ r = (r5) ∧ u = (va_up (cs_i zc) 0 la1_8, cs_n zc, va_up (va_up (va_up (va_up (cs_I zc) 0 fl1_6) 1 fh1_7) 2 tl1_9) 3 th1_10, cs_L zc, cs_N zc, cs_S zc, cs_X zc)) ∨
  ((0 ≤ dd ∧ dd ≤ 1000) ∧ (¬ dd ≤ (cs_i zc 0)) ∧ r = ((-3)) ∧ u = zc) ∨
  ((¬ (0 ≤ dd ∧ dd ≤ 1000)) ∧ r = ((-2)) ∧ u = zc)
set_option maxHeartbeats 4000000 in
theorem lf_rise_0 (cA : Nat → ClassId) (zc : CS) (dd : Int32) (fl1_6 : Nat → Int32) (fh1_7 : Nat → Int32) (la1_8 : Int32) (tl1_9 : Nat → Int32) (th1_10 : Nat → Int32) (r5 : Int32) (c2 : 0 ≤ dd ∧ dd ≤ 1000) (c3 : dd ≤ (cs_i zc 0)) (hr5 : (tl1_9 = dnL dd (swL dd (cs_I zc 0) 48) 48 ∧ th1_10 = dnH dd (swH dd (cs_I zc 1) 48) 48) ∧ ((r5 = -3 ∧ (∃ j, j < 48 ∧ th1_10 j < tl1_9 j) ∧ fl1_6 = (cs_I zc 0) ∧ fh1_7 = (cs_I zc 1) ∧ la1_8 = (cs_i zc 0)) ∨ (r5 = nI (fa_cnt (chg (cs_I zc 0) (cs_I zc 1) tl1_9 th1_10) 48) ∧ (∀ j, j < 48 → ¬ th1_10 j < tl1_9 j) ∧ fl1_6 = tl1_9 ∧ fh1_7 = th1_10 ∧ la1_8 = dd))) (hI : invC zc) : invC (va_up (cs_i zc) 0 la1_8, cs_n zc, va_up (va_up (va_up (va_up (cs_I zc) 0 fl1_6) 1 fh1_7) 2 tl1_9) 3 th1_10, cs_L zc, cs_N zc, cs_S zc, cs_X zc) ∧ kAll (cF cA (va_up (cs_i zc) 0 la1_8, cs_n zc, va_up (va_up (va_up (va_up (cs_I zc) 0 fl1_6) 1 fh1_7) 2 tl1_9) 3 th1_10, cs_L zc, cs_N zc, cs_S zc, cs_X zc)) [(0, 0), (0, 1), (0, 2), (0, 3), (0, 4), (0, 5)] [cTP zc, (cs_X zc 0 1, .inr (3, [.ref (cs_X zc 0 2), .ref (cs_X zc 0 3), .ref (cs_X zc 0 4), .ref (cs_X zc 0 5), .int la1_8])), (cs_X zc 0 2, .inl (cA 0, 48, .inl fl1_6)), (cs_X zc 0 3, .inl (cA 0, 48, .inl fh1_7)), (cs_X zc 0 4, .inl (cA 0, 48, .inl tl1_9)), (cs_X zc 0 5, .inl (cA 0, 48, .inl th1_10))] ∧ ∀ i j, (i, j) ∉ ([(0, 0), (0, 1), (0, 2), (0, 3), (0, 4), (0, 5)] : List (Nat × Nat)) → cF cA (va_up (cs_i zc) 0 la1_8, cs_n zc, va_up (va_up (va_up (va_up (cs_I zc) 0 fl1_6) 1 fh1_7) 2 tl1_9) 3 th1_10, cs_L zc, cs_N zc, cs_S zc, cs_X zc) i j = none ∨ ((i, j) ∉ ([(0, 0), (0, 1), (0, 2), (0, 3), (0, 4), (0, 5)] : List (Nat × Nat)) ∧ cF cA (va_up (cs_i zc) 0 la1_8, cs_n zc, va_up (va_up (va_up (va_up (cs_I zc) 0 fl1_6) 1 fh1_7) 2 tl1_9) 3 th1_10, cs_L zc, cs_N zc, cs_S zc, cs_X zc) i j = cF cA zc i j) := by
  obtain ⟨⟨hn0, hn1, hn2, hn3, hn4, hn5⟩, hpi, hgk, htk, hpk, hsh⟩ := id hI
  refine ⟨hI, ⟨(by (rw [(kF_tp (cA := cA) (z := (va_up (cs_i zc) 0 la1_8, cs_n zc, va_up (va_up (va_up (va_up (cs_I zc) 0 fl1_6) 1 fh1_7) 2 tl1_9) 3 th1_10, cs_L zc, cs_N zc, cs_S zc, cs_X zc)))]) <;> simp [cTP, cTPN, cTPA, cLo, cA2, cA3, cA4, cA5, cR6, cR7, cR8, cR9, cR10, cTr, cPi, cPiN, cPiT, cGa, cGaK, cTa, cPa, cAu, cAuN, cAuB, cSh, cSc, cs_i, cs_n, cs_I, cs_L, cs_N, cs_S, cs_X, va_up, upd, opN]), (by (rw [(kF_lo (cA := cA) (z := (va_up (cs_i zc) 0 la1_8, cs_n zc, va_up (va_up (va_up (va_up (cs_I zc) 0 fl1_6) 1 fh1_7) 2 tl1_9) 3 th1_10, cs_L zc, cs_N zc, cs_S zc, cs_X zc)))]) <;> simp [cTP, cTPN, cTPA, cLo, cA2, cA3, cA4, cA5, cR6, cR7, cR8, cR9, cR10, cTr, cPi, cPiN, cPiT, cGa, cGaK, cTa, cPa, cAu, cAuN, cAuB, cSh, cSc, cs_i, cs_n, cs_I, cs_L, cs_N, cs_S, cs_X, va_up, upd, opN]), (by (rw [(kF_a2 (cA := cA) (z := (va_up (cs_i zc) 0 la1_8, cs_n zc, va_up (va_up (va_up (va_up (cs_I zc) 0 fl1_6) 1 fh1_7) 2 tl1_9) 3 th1_10, cs_L zc, cs_N zc, cs_S zc, cs_X zc)))]) <;> simp [cTP, cTPN, cTPA, cLo, cA2, cA3, cA4, cA5, cR6, cR7, cR8, cR9, cR10, cTr, cPi, cPiN, cPiT, cGa, cGaK, cTa, cPa, cAu, cAuN, cAuB, cSh, cSc, cs_i, cs_n, cs_I, cs_L, cs_N, cs_S, cs_X, va_up, upd, opN]), (by (rw [(kF_a3 (cA := cA) (z := (va_up (cs_i zc) 0 la1_8, cs_n zc, va_up (va_up (va_up (va_up (cs_I zc) 0 fl1_6) 1 fh1_7) 2 tl1_9) 3 th1_10, cs_L zc, cs_N zc, cs_S zc, cs_X zc)))]) <;> simp [cTP, cTPN, cTPA, cLo, cA2, cA3, cA4, cA5, cR6, cR7, cR8, cR9, cR10, cTr, cPi, cPiN, cPiT, cGa, cGaK, cTa, cPa, cAu, cAuN, cAuB, cSh, cSc, cs_i, cs_n, cs_I, cs_L, cs_N, cs_S, cs_X, va_up, upd, opN]), (by (rw [(kF_a4 (cA := cA) (z := (va_up (cs_i zc) 0 la1_8, cs_n zc, va_up (va_up (va_up (va_up (cs_I zc) 0 fl1_6) 1 fh1_7) 2 tl1_9) 3 th1_10, cs_L zc, cs_N zc, cs_S zc, cs_X zc)))]) <;> simp [cTP, cTPN, cTPA, cLo, cA2, cA3, cA4, cA5, cR6, cR7, cR8, cR9, cR10, cTr, cPi, cPiN, cPiT, cGa, cGaK, cTa, cPa, cAu, cAuN, cAuB, cSh, cSc, cs_i, cs_n, cs_I, cs_L, cs_N, cs_S, cs_X, va_up, upd, opN]), (by (rw [(kF_a5 (cA := cA) (z := (va_up (cs_i zc) 0 la1_8, cs_n zc, va_up (va_up (va_up (va_up (cs_I zc) 0 fl1_6) 1 fh1_7) 2 tl1_9) 3 th1_10, cs_L zc, cs_N zc, cs_S zc, cs_X zc)))]) <;> simp [cTP, cTPN, cTPA, cLo, cA2, cA3, cA4, cA5, cR6, cR7, cR8, cR9, cR10, cTr, cPi, cPiN, cPiT, cGa, cGaK, cTa, cPa, cAu, cAuN, cAuB, cSh, cSc, cs_i, cs_n, cs_I, cs_L, cs_N, cs_S, cs_X, va_up, upd, opN]), trivial⟩, ?_⟩
  intro i j hij
  refine Or.inr ⟨hij, ?_⟩
  rcases i with _ | _ | _ | _ | _ | _ | _ | _ | i
  · rcases j with _ | _ | _ | _ | _ | _ | _ | _ | _ | _ | _ | _ | j
    · exact absurd (by simp) hij
    · exact absurd (by simp) hij
    · exact absurd (by simp) hij
    · exact absurd (by simp) hij
    · exact absurd (by simp) hij
    · exact absurd (by simp) hij
    · show some (cR6 cA (va_up (cs_i zc) 0 la1_8, cs_n zc, va_up (va_up (va_up (va_up (cs_I zc) 0 fl1_6) 1 fh1_7) 2 tl1_9) 3 th1_10, cs_L zc, cs_N zc, cs_S zc, cs_X zc)) = some (cR6 cA zc); simp [cR6, cs_i, cs_n, cs_I, cs_L, cs_N, cs_S, cs_X, va_up]
    · show some (cR7 cA (va_up (cs_i zc) 0 la1_8, cs_n zc, va_up (va_up (va_up (va_up (cs_I zc) 0 fl1_6) 1 fh1_7) 2 tl1_9) 3 th1_10, cs_L zc, cs_N zc, cs_S zc, cs_X zc)) = some (cR7 cA zc); simp [cR7, cs_i, cs_n, cs_I, cs_L, cs_N, cs_S, cs_X, va_up]
    · show some (cR8 cA (va_up (cs_i zc) 0 la1_8, cs_n zc, va_up (va_up (va_up (va_up (cs_I zc) 0 fl1_6) 1 fh1_7) 2 tl1_9) 3 th1_10, cs_L zc, cs_N zc, cs_S zc, cs_X zc)) = some (cR8 cA zc); simp [cR8, cs_i, cs_n, cs_I, cs_L, cs_N, cs_S, cs_X, va_up]
    · show some (cR9 cA (va_up (cs_i zc) 0 la1_8, cs_n zc, va_up (va_up (va_up (va_up (cs_I zc) 0 fl1_6) 1 fh1_7) 2 tl1_9) 3 th1_10, cs_L zc, cs_N zc, cs_S zc, cs_X zc)) = some (cR9 cA zc); simp [cR9, cs_i, cs_n, cs_I, cs_L, cs_N, cs_S, cs_X, va_up]
    · show some (cR10 cA (va_up (cs_i zc) 0 la1_8, cs_n zc, va_up (va_up (va_up (va_up (cs_I zc) 0 fl1_6) 1 fh1_7) 2 tl1_9) 3 th1_10, cs_L zc, cs_N zc, cs_S zc, cs_X zc)) = some (cR10 cA zc); simp [cR10, cs_i, cs_n, cs_I, cs_L, cs_N, cs_S, cs_X, va_up]
    · show some (cTr (va_up (cs_i zc) 0 la1_8, cs_n zc, va_up (va_up (va_up (va_up (cs_I zc) 0 fl1_6) 1 fh1_7) 2 tl1_9) 3 th1_10, cs_L zc, cs_N zc, cs_S zc, cs_X zc)) = some (cTr zc); simp [cTr, cs_i, cs_n, cs_I, cs_L, cs_N, cs_S, cs_X, va_up]
    · show (none : Option (Nat × va_E)) = none; rfl
  · show (if j < cs_n (va_up (cs_i zc) 0 la1_8, cs_n zc, va_up (va_up (va_up (va_up (cs_I zc) 0 fl1_6) 1 fh1_7) 2 tl1_9) 3 th1_10, cs_L zc, cs_N zc, cs_S zc, cs_X zc) 0 then some (cPi (va_up (cs_i zc) 0 la1_8, cs_n zc, va_up (va_up (va_up (va_up (cs_I zc) 0 fl1_6) 1 fh1_7) 2 tl1_9) 3 th1_10, cs_L zc, cs_N zc, cs_S zc, cs_X zc) j) else none) = if j < cs_n zc 0 then some (cPi zc j) else none
    simp [cPi, cs_i, cs_n, cs_I, cs_L, cs_N, cs_S, cs_X, va_up]
  · show (if j < cs_n (va_up (cs_i zc) 0 la1_8, cs_n zc, va_up (va_up (va_up (va_up (cs_I zc) 0 fl1_6) 1 fh1_7) 2 tl1_9) 3 th1_10, cs_L zc, cs_N zc, cs_S zc, cs_X zc) 1 then some (cGa (va_up (cs_i zc) 0 la1_8, cs_n zc, va_up (va_up (va_up (va_up (cs_I zc) 0 fl1_6) 1 fh1_7) 2 tl1_9) 3 th1_10, cs_L zc, cs_N zc, cs_S zc, cs_X zc) j) else none) = if j < cs_n zc 1 then some (cGa zc j) else none
    simp [cGa, cs_i, cs_n, cs_I, cs_L, cs_N, cs_S, cs_X, va_up]
  · show (if j < cs_n (va_up (cs_i zc) 0 la1_8, cs_n zc, va_up (va_up (va_up (va_up (cs_I zc) 0 fl1_6) 1 fh1_7) 2 tl1_9) 3 th1_10, cs_L zc, cs_N zc, cs_S zc, cs_X zc) 2 then some (cTa (va_up (cs_i zc) 0 la1_8, cs_n zc, va_up (va_up (va_up (va_up (cs_I zc) 0 fl1_6) 1 fh1_7) 2 tl1_9) 3 th1_10, cs_L zc, cs_N zc, cs_S zc, cs_X zc) j) else none) = if j < cs_n zc 2 then some (cTa zc j) else none
    simp [cTa, cs_i, cs_n, cs_I, cs_L, cs_N, cs_S, cs_X, va_up]
  · show (if j < cs_n (va_up (cs_i zc) 0 la1_8, cs_n zc, va_up (va_up (va_up (va_up (cs_I zc) 0 fl1_6) 1 fh1_7) 2 tl1_9) 3 th1_10, cs_L zc, cs_N zc, cs_S zc, cs_X zc) 3 then some (cPa (va_up (cs_i zc) 0 la1_8, cs_n zc, va_up (va_up (va_up (va_up (cs_I zc) 0 fl1_6) 1 fh1_7) 2 tl1_9) 3 th1_10, cs_L zc, cs_N zc, cs_S zc, cs_X zc) j) else none) = if j < cs_n zc 3 then some (cPa zc j) else none
    simp [cPa, cs_i, cs_n, cs_I, cs_L, cs_N, cs_S, cs_X, va_up]
  · show (if j = 0 ∧ ¬ cs_n (va_up (cs_i zc) 0 la1_8, cs_n zc, va_up (va_up (va_up (va_up (cs_I zc) 0 fl1_6) 1 fh1_7) 2 tl1_9) 3 th1_10, cs_L zc, cs_N zc, cs_S zc, cs_X zc) 4 = 0 then some (cAu (va_up (cs_i zc) 0 la1_8, cs_n zc, va_up (va_up (va_up (va_up (cs_I zc) 0 fl1_6) 1 fh1_7) 2 tl1_9) 3 th1_10, cs_L zc, cs_N zc, cs_S zc, cs_X zc)) else none) = if j = 0 ∧ ¬ cs_n zc 4 = 0 then some (cAu zc) else none
    simp [cAu, cs_i, cs_n, cs_I, cs_L, cs_N, cs_S, cs_X, va_up]
  · show (if j < 4 then some (cSh (va_up (cs_i zc) 0 la1_8, cs_n zc, va_up (va_up (va_up (va_up (cs_I zc) 0 fl1_6) 1 fh1_7) 2 tl1_9) 3 th1_10, cs_L zc, cs_N zc, cs_S zc, cs_X zc) j) else none) = if j < 4 then some (cSh zc j) else none
    simp [cSh, cs_i, cs_n, cs_I, cs_L, cs_N, cs_S, cs_X, va_up]
  · show (if j < 4 then some (cSc cA (va_up (cs_i zc) 0 la1_8, cs_n zc, va_up (va_up (va_up (va_up (cs_I zc) 0 fl1_6) 1 fh1_7) 2 tl1_9) 3 th1_10, cs_L zc, cs_N zc, cs_S zc, cs_X zc) j) else none) = if j < 4 then some (cSc cA zc j) else none
    simp [cSc, cs_i, cs_n, cs_I, cs_L, cs_N, cs_S, cs_X, va_up]
  · show (none : Option (Nat × va_E)) = none; rfl
set_option maxHeartbeats 4000000 in
set_option maxRecDepth 100000 in
theorem K_rise (l : Launch) (dC : Nat → ClassId) (dI : Nat → Nat → Nat) (cA : Nat → ClassId) (sz : Nat) (zc : CS) (dd : Int32) (hI : invC zc) : Met l yX10_rise wsX10_rise ({ frames := 5, cells := 0, slots := 0, locals := 150 }) (kw (dC, dI) (ctys cA) (cF cA zc) sz [.ref (cs_X zc 0 0), .int dd]) (kQi (dC, dI) (ctys cA) (cF cA zc) sz (cF cA) (fun r u => (invC u ∧ cs_X u 0 0 = cs_X zc 0 0) ∧ pC_rise zc dd r u)) 0 0 (kA (cF cA zc) sz) := by
  refine kw_met (cc := cX10_rise) (maxL := 2) (ret := (some .int)) (by decide) rfl (Nat.le_of_ble_eq_true rfl) ?_
  intro p e s m below meth c0 hx hb hr hml hown hlocks hnm hts hPk hKk hDk hN hsz ls hl
  subst hsz
  have hK : va_K (dC, dI) vwCl [(cA 0, .int), (cA 1, .object RX6), (cA 2, .object RX2), (cA 3, .object RX8), (cA 4, .object RX5), (cA 5, .object RX7)] s := hKk
  obtain ⟨⟨hn0, hn1, hn2, hn3, hn4, hn5⟩, hpi, hgk, htk, hpk, hsh⟩ := id hI
  have hl : lv_has ls 2 [(0, .ref (cs_X zc 0 0)), (1, .int dd)] := hl
  have hiX10 : ∀ w ∈ wsX100, w ∈ wsX10_rise := by decide +kernel
  have hiX3 : ∀ w ∈ wsX30, w ∈ wsX10_rise := by decide +kernel
  generalize hQ : MQ _ _ _ _ _ _ _ = Q
  have hks : kAll (cF cA zc) [(0, 0), (0, 1), (0, 2), (0, 3), (0, 4), (0, 5)] [cTP zc, cLo zc, cA2 cA zc, cA3 cA zc, cA4 cA zc, cA5 cA zc] := ⟨(kF_tp (cA := cA) (z := zc)), (kF_lo (cA := cA) (z := zc)), (kF_a2 (cA := cA) (z := zc)), (kF_a3 (cA := cA) (z := zc)), (kF_a4 (cA := cA) (z := zc)), (kF_a5 (cA := cA) (z := zc)), trivial⟩
  have hP : va_P (dC, dI) vwCl [cTP zc, cLo zc, cA2 cA zc, cA3 cA zc, cA4 cA zc, cA5 cA zc] s.heap := kAll_P hPk hks
  have hD : va_D (va_A [cTP zc, cLo zc, cA2 cA zc, cA3 cA zc, cA4 cA zc, cA5 cA zc] s.heap.size) [cTP zc, cLo zc, cA2 cA zc, cA3 cA zc, cA4 cA zc, cA5 cA zc] := (kAll_D hDk hks (by simp)).self
  have hA : ∀ q : Nat, s.heap.size ≤ q → va_A [cTP zc, cLo zc, cA2 cA zc, cA3 cA zc, cA4 cA zc, cA5 cA zc] s.heap.size q := fun q h => Or.inr h
  have hS : va_S (va_A [cTP zc, cLo zc, cA2 cA zc, cA3 cA zc, cA4 cA zc, cA5 cA zc] s.heap.size) s.heap s.heap [] := va_S.rf
  refine lv_iload_n hx hb dX10_rise_0 rfl (lv_at hl 1 rfl) ?_
  refine lv_iconst (v := 0) hx hb dX10_rise_1 (by decide) ?_
  refine lv_sipush (v := 1000) hx hb dX10_rise_2 (by decide) ?_
  refine vp_callSi (va_Run.run (va_runS (As := [.int dd, .int 0, .int 1000]) (rest := []) ⟨hx, hb, hml, hown, hts⟩ (c_X10_isWithin l dd 0 1000 ) (va_cwS 3 hts gX10_rise_X10_isWithin rfl rfl rfl (by decide +kernel) ⟨Nat.le_of_ble_eq_true rfl, Nat.le_of_ble_eq_true rfl⟩) (p0_preS hN) rfl rfl hl.1 rfl (lv_room (Nat.le_of_ble_eq_true rfl)) dX10_rise_5 ⟨Nat.le_of_ble_eq_true rfl, Nat.le_of_ble_eq_true rfl⟩)) (fun r1 hr1 => ?_)
  have hr1 : r1 = if 0 ≤ dd ∧ dd ≤ 1000 then 1 else 0 := hr1
  refine lv_if_ne (tgt := 14) hx hb dX10_rise_8 (by decide) (fun c2 => ?_) (fun c2 => ?_)
  · skip
    have c2 := (fa_bool_prop hr1).2.mp c2
    refine lv_iload_n hx hb dX10_rise_14 rfl (lv_at hl 1 rfl) ?_
    refine lv_aload_n hx hb dX10_rise_15 rfl (lv_at hl 0 rfl) ?_
    refine va_get (D := (dC, dI)) (ci := 10) (v := .ref (cs_X zc 0 1)) (C := RX10) (T := TX10) (N := 13) hx hb hts hiX10 hown hK hP 0 rfl rfl 0 (by decide) (hts (.fieldLink RX10 12 "TributePitches" "lode" "LTributePitches$Lode;") (by decide +kernel)) (fun _ h9 => h9) rfl dX10_rise_16 ?_
    refine va_get (D := (dC, dI)) (ci := 3) (v := .int (cs_i zc 0)) (C := RX3) (T := TX3) (N := 5) hx hb hts hiX3 hown hK hP 1 rfl rfl 4 (by decide) (hts (.fieldLink RX10 79 "TributePitches$Lode" "law" "I") (by decide +kernel)) (fun _ h9 => h9) rfl dX10_rise_19 ?_
    refine lv_icmp_le (tgt := 28) hx hb dX10_rise_22 (by decide) (fun c3 => ?_) (fun c3 => ?_)
    · skip
      refine lv_aload_n hx hb dX10_rise_28 rfl (lv_at hl 0 rfl) ?_
      refine va_get (D := (dC, dI)) (ci := 10) (v := .ref (cs_X zc 0 1)) (C := RX10) (T := TX10) (N := 13) hx hb hts hiX10 hown hK hP 0 rfl rfl 0 (by decide) (hts (.fieldLink RX10 12 "TributePitches" "lode" "LTributePitches$Lode;") (by decide +kernel)) (fun _ h9 => h9) rfl dX10_rise_29 ?_
      have hPc := hP.sub (ws' := [cLo zc, cA2 cA zc, cA3 cA zc, cA4 cA zc, cA5 cA zc]) [1, 2, 3, 4, 5] rfl
      have hDc := hD.sub (ws' := [cLo zc, cA2 cA zc, cA3 cA zc, cA4 cA zc, cA5 cA zc]) [1, 2, 3, 4, 5] (by decide) rfl
      have hKc := hK.sub (tys' := [(cA 0, .int)]) [0] rfl
      have hFc := va_free (wc := [cLo zc, cA2 cA zc, cA3 cA zc, cA4 cA zc, cA5 cA zc]) hD hS hA [1, 2, 3, 4, 5] rfl
      refine va_callv (va_runV (As := []) (rest := []) ⟨hx, hb, hml, hown, hts⟩ (c_X3_beginTrial l dC dI (cA 0) _ (cs_X zc 0 1) (cs_X zc 0 2) (cs_X zc 0 3) (cs_X zc 0 4) (cs_X zc 0 5) (cs_i zc 0) (cs_I zc 0) (cs_I zc 1) (cs_I zc 2) (cs_I zc 3) ) (cwV 0 hts gX10_rise_X3_beginTrial rfl rfl rfl (by decide +kernel) ⟨Nat.le_of_ble_eq_true rfl, Nat.le_of_ble_eq_true rfl⟩) (pw_preV (va_recv hKc hPc (ci := 3) (q0 := 0) rfl rfl) hPc hKc hDc hN) rfl rfl hl.1 rfl (lv_room (Nat.le_of_ble_eq_true rfl)) dX10_rise_32 ⟨Nat.le_of_ble_eq_true rfl, Nat.le_of_ble_eq_true rfl⟩) hS (fun q _ h => hFc q h) hFc (fun u t H1 locs ht hvm hw hB hz1 hk1 hS => ?_)
      obtain ⟨hP1, hK1, hD1⟩ := hB
      rw [ht] at hP1
      obtain ⟨hP, hD⟩ := va_join (wr := [cTP zc]) (w1 := [(cs_X zc 0 1, .inr (3, [.ref (cs_X zc 0 2), .ref (cs_X zc 0 3), .ref (cs_X zc 0 4), .ref (cs_X zc 0 5), .int (cs_i zc 0)])), (cs_X zc 0 2, .inl (cA 0, 48, .inl (cs_I zc 0))), (cs_X zc 0 3, .inl (cA 0, 48, .inl (cs_I zc 1))), (cs_X zc 0 4, .inl (cA 0, 48, .inl (cs_I zc 0))), (cs_X zc 0 5, .inl (cA 0, 48, .inl (cs_I zc 1)))]) hP hD [1, 2, 3, 4, 5] [0] rfl rfl (by decide) (by decide) hk1 hFc hP1 hD1
      generalize H1 = H at hP hS ⊢
      have hP : va_P (dC, dI) vwCl [cTP zc, (cs_X zc 0 1, .inr (3, [.ref (cs_X zc 0 2), .ref (cs_X zc 0 3), .ref (cs_X zc 0 4), .ref (cs_X zc 0 5), .int (cs_i zc 0)])), (cs_X zc 0 2, .inl (cA 0, 48, .inl (cs_I zc 0))), (cs_X zc 0 3, .inl (cA 0, 48, .inl (cs_I zc 1))), (cs_X zc 0 4, .inl (cA 0, 48, .inl (cs_I zc 0))), (cs_X zc 0 5, .inl (cA 0, 48, .inl (cs_I zc 1)))] H := hP
      have hD : va_D _ [cTP zc, (cs_X zc 0 1, .inr (3, [.ref (cs_X zc 0 2), .ref (cs_X zc 0 3), .ref (cs_X zc 0 4), .ref (cs_X zc 0 5), .int (cs_i zc 0)])), (cs_X zc 0 2, .inl (cA 0, 48, .inl (cs_I zc 0))), (cs_X zc 0 3, .inl (cA 0, 48, .inl (cs_I zc 1))), (cs_X zc 0 4, .inl (cA 0, 48, .inl (cs_I zc 0))), (cs_X zc 0 5, .inl (cA 0, 48, .inl (cs_I zc 1)))] := hD
      refine lv_aload_n hx hb dX10_rise_35 rfl (lv_at hl 0 rfl) ?_
      refine va_get (D := (dC, dI)) (ci := 10) (v := .ref (cs_X zc 0 1)) (C := RX10) (T := TX10) (N := 13) hx hb hts hiX10 hown hK hP 0 rfl rfl 0 (by decide) (hts (.fieldLink RX10 12 "TributePitches" "lode" "LTributePitches$Lode;") (by decide +kernel)) (fun _ h9 => h9) rfl dX10_rise_36 ?_
      refine lv_iload_n hx hb dX10_rise_39 rfl (lv_at hl 1 rfl) ?_
      have hPc := hP.sub (ws' := [(cs_X zc 0 1, .inr (3, [.ref (cs_X zc 0 2), .ref (cs_X zc 0 3), .ref (cs_X zc 0 4), .ref (cs_X zc 0 5), .int (cs_i zc 0)])), (cs_X zc 0 2, .inl (cA 0, 48, .inl (cs_I zc 0))), (cs_X zc 0 3, .inl (cA 0, 48, .inl (cs_I zc 1))), (cs_X zc 0 4, .inl (cA 0, 48, .inl (cs_I zc 0))), (cs_X zc 0 5, .inl (cA 0, 48, .inl (cs_I zc 1)))]) [1, 2, 3, 4, 5] rfl
      have hDc := hD.sub (ws' := [(cs_X zc 0 1, .inr (3, [.ref (cs_X zc 0 2), .ref (cs_X zc 0 3), .ref (cs_X zc 0 4), .ref (cs_X zc 0 5), .int (cs_i zc 0)])), (cs_X zc 0 2, .inl (cA 0, 48, .inl (cs_I zc 0))), (cs_X zc 0 3, .inl (cA 0, 48, .inl (cs_I zc 1))), (cs_X zc 0 4, .inl (cA 0, 48, .inl (cs_I zc 0))), (cs_X zc 0 5, .inl (cA 0, 48, .inl (cs_I zc 1)))]) [1, 2, 3, 4, 5] (by decide) rfl
      have hKc := hK.sub (tys' := [(cA 0, .int)]) [0] rfl
      have hFc := va_free (wc := [(cs_X zc 0 1, .inr (3, [.ref (cs_X zc 0 2), .ref (cs_X zc 0 3), .ref (cs_X zc 0 4), .ref (cs_X zc 0 5), .int (cs_i zc 0)])), (cs_X zc 0 2, .inl (cA 0, 48, .inl (cs_I zc 0))), (cs_X zc 0 3, .inl (cA 0, 48, .inl (cs_I zc 1))), (cs_X zc 0 4, .inl (cA 0, 48, .inl (cs_I zc 0))), (cs_X zc 0 5, .inl (cA 0, 48, .inl (cs_I zc 1)))]) hD hS hA [1, 2, 3, 4, 5] rfl
      refine va_calli (va_runV (As := [.int dd]) (rest := []) ⟨hx, hb, hml, hown, hts⟩ (s_endTrial l dC dI (cA 0) _ (cs_X zc 0 1) (cs_X zc 0 2) (cs_X zc 0 3) (cs_X zc 0 4) (cs_X zc 0 5) (cs_i zc 0) dd (cs_I zc 0) (cs_I zc 1) (cs_I zc 0) (cs_I zc 1) ) (cwV 1 hts gX10_rise_X3_endTrial rfl rfl rfl (by decide +kernel) ⟨Nat.le_of_ble_eq_true rfl, Nat.le_of_ble_eq_true rfl⟩) (pw_preV (va_recv hKc hPc (ci := 3) (q0 := 0) rfl rfl) hPc hKc hDc hN) rfl rfl hl.1 rfl (lv_room (Nat.le_of_ble_eq_true rfl)) dX10_rise_40 ⟨Nat.le_of_ble_eq_true rfl, Nat.le_of_ble_eq_true rfl⟩) hS (fun q _ h => hFc q h) hFc (fun r5 u t H1 locs ht hvm hw hB hz1 hk1 hS => ?_)
      obtain ⟨fl1_6, fh1_7, la1_8, tl1_9, th1_10⟩ := u
      have hr5 : (tl1_9 = dnL dd (swL dd (cs_I zc 0) 48) 48 ∧ th1_10 = dnH dd (swH dd (cs_I zc 1) 48) 48) ∧ ((r5 = -3 ∧ (∃ j, j < 48 ∧ th1_10 j < tl1_9 j) ∧ fl1_6 = (cs_I zc 0) ∧ fh1_7 = (cs_I zc 1) ∧ la1_8 = (cs_i zc 0)) ∨ (r5 = nI (fa_cnt (chg (cs_I zc 0) (cs_I zc 1) tl1_9 th1_10) 48) ∧ (∀ j, j < 48 → ¬ th1_10 j < tl1_9 j) ∧ fl1_6 = tl1_9 ∧ fh1_7 = th1_10 ∧ la1_8 = dd)) := hw
      obtain ⟨hP1, hK1, hD1⟩ := hB
      rw [ht] at hP1
      obtain ⟨hP, hD⟩ := va_join (wr := [cTP zc]) (w1 := [(cs_X zc 0 1, .inr (3, [.ref (cs_X zc 0 2), .ref (cs_X zc 0 3), .ref (cs_X zc 0 4), .ref (cs_X zc 0 5), .int la1_8])), (cs_X zc 0 2, .inl (cA 0, 48, .inl fl1_6)), (cs_X zc 0 3, .inl (cA 0, 48, .inl fh1_7)), (cs_X zc 0 4, .inl (cA 0, 48, .inl tl1_9)), (cs_X zc 0 5, .inl (cA 0, 48, .inl th1_10))]) hP hD [1, 2, 3, 4, 5] [0] rfl rfl (by decide) (by decide) hk1 hFc hP1 hD1
      generalize H1 = H at hP hS ⊢
      have hP : va_P (dC, dI) vwCl [cTP zc, (cs_X zc 0 1, .inr (3, [.ref (cs_X zc 0 2), .ref (cs_X zc 0 3), .ref (cs_X zc 0 4), .ref (cs_X zc 0 5), .int la1_8])), (cs_X zc 0 2, .inl (cA 0, 48, .inl fl1_6)), (cs_X zc 0 3, .inl (cA 0, 48, .inl fh1_7)), (cs_X zc 0 4, .inl (cA 0, 48, .inl tl1_9)), (cs_X zc 0 5, .inl (cA 0, 48, .inl th1_10))] H := hP
      have hD : va_D _ [cTP zc, (cs_X zc 0 1, .inr (3, [.ref (cs_X zc 0 2), .ref (cs_X zc 0 3), .ref (cs_X zc 0 4), .ref (cs_X zc 0 5), .int la1_8])), (cs_X zc 0 2, .inl (cA 0, 48, .inl fl1_6)), (cs_X zc 0 3, .inl (cA 0, 48, .inl fh1_7)), (cs_X zc 0 4, .inl (cA 0, 48, .inl tl1_9)), (cs_X zc 0 5, .inl (cA 0, 48, .inl th1_10))] := hD
      subst hQ
      have hP9 : va_P (dC, dI) vwCl [cTP zc, (cs_X zc 0 1, .inr (3, [.ref (cs_X zc 0 2), .ref (cs_X zc 0 3), .ref (cs_X zc 0 4), .ref (cs_X zc 0 5), .int la1_8])), (cs_X zc 0 2, .inl (cA 0, 48, .inl fl1_6)), (cs_X zc 0 3, .inl (cA 0, 48, .inl fh1_7)), (cs_X zc 0 4, .inl (cA 0, 48, .inl tl1_9)), (cs_X zc 0 5, .inl (cA 0, 48, .inl th1_10))] H := hP.sub [0, 1, 2, 3, 4, 5] rfl
      have hD9 : va_D (va_A [cTP zc, cLo zc, cA2 cA zc, cA3 cA zc, cA4 cA zc, cA5 cA zc] s.heap.size) [cTP zc, (cs_X zc 0 1, .inr (3, [.ref (cs_X zc 0 2), .ref (cs_X zc 0 3), .ref (cs_X zc 0 4), .ref (cs_X zc 0 5), .int la1_8])), (cs_X zc 0 2, .inl (cA 0, 48, .inl fl1_6)), (cs_X zc 0 3, .inl (cA 0, 48, .inl fh1_7)), (cs_X zc 0 4, .inl (cA 0, 48, .inl tl1_9)), (cs_X zc 0 5, .inl (cA 0, 48, .inl th1_10))] := hD.sub [0, 1, 2, 3, 4, 5] (by decide) rfl
      have hlf := lf_rise_0 cA zc dd fl1_6 fh1_7 la1_8 tl1_9 th1_10 r5 c2 c3 hr5 hI
      exact W.iret (v := r5) hx hb hr (fun t ht hW => have hJ := kjoin hPk hDk hks rfl (hS.F ht) (by rw [ht]; exact hP9) hD9 hlf.2.1 hlf.2.2; ⟨⟨r5, (va_up (cs_i zc) 0 la1_8, cs_n zc, va_up (va_up (va_up (va_up (cs_I zc) 0 fl1_6) 1 fh1_7) 2 tl1_9) 3 th1_10, cs_L zc, cs_N zc, cs_S zc, cs_X zc), rfl, ⟨⟨hlf.1, rfl⟩, (Or.inl ⟨c2, c3, fl1_6, fh1_7, la1_8, tl1_9, th1_10, r5, hr5, rfl, rfl⟩)⟩, hJ.1, va_K.moved hW.alike hKk, hJ.2.1⟩, hJ.2.2⟩) (fun q h => kAll_A hks _ (hS.2.2 q h)) dX10_rise_43
    · skip
      refine lv_bipush (v := (-3)) hx hb dX10_rise_25 (by decide) ?_
      subst hQ
      exact W.iret (v := (-3)) hx hb hr (fun t ht hW => ⟨⟨(-3), zc, rfl, ⟨⟨hI, rfl⟩, (Or.inr (Or.inl ⟨c2, c3, rfl, rfl⟩))⟩, (by rw [ht]; exact hPk), va_K.moved hW.alike hKk, kDA_self hDk⟩, (kw_same hPk ht).2⟩) (fun q h => absurd h List.not_mem_nil) dX10_rise_27
  · skip
    have c2 := (fa_bool_prop hr1).1.mp c2
    refine lv_bipush (v := (-2)) hx hb dX10_rise_11 (by decide) ?_
    subst hQ
    exact W.iret (v := (-2)) hx hb hr (fun t ht hW => ⟨⟨(-2), zc, rfl, ⟨⟨hI, rfl⟩, (Or.inr (Or.inr ⟨c2, rfl, rfl⟩))⟩, (by rw [ht]; exact hPk), va_K.moved hW.alike hKk, kDA_self hDk⟩, (kw_same hPk ht).2⟩) (fun q h => absurd h List.not_mem_nil) dX10_rise_13
