def pC_lose (zc : CS) (k : Int32) (r : Int32) (u : CS) : Prop :=
  ((∀ j, j < 4 → k ≠ nI j) ∧ r = ((-1)) ∧ u = zc) ∨
  (∃ js : Nat, k = nI js ∧ (js < 4) ∧ (¬ ((cs_I zc 8 js) = -1)) ∧ r = (1) ∧ u = (cs_i zc, cs_n zc, va_up (va_up (cs_I zc) 8 (va_up (cs_I zc 8) js (-1))) 9 (va_up (cs_I zc 9) js 0), cs_L zc, cs_N zc, va_up (cs_S zc) js (fun _ => 0), cs_X zc)) ∨
  (∃ js : Nat, k = nI js ∧ (js < 4) ∧ ((cs_I zc 8 js) = -1) ∧ r = (0) ∧ u = zc)
set_option maxHeartbeats 4000000 in
theorem lf_lose_1 (cA : Nat → ClassId) (zc : CS) (js : Nat) (hjs : js < 4) (c4 : ¬ ((cs_I zc 8 js) = -1)) (hI : invC zc) : invC (cs_i zc, cs_n zc, va_up (va_up (cs_I zc) 8 (va_up (cs_I zc 8) js (-1))) 9 (va_up (cs_I zc 9) js 0), cs_L zc, cs_N zc, va_up (cs_S zc) js (fun _ => 0), cs_X zc) ∧ kAll (cF cA (cs_i zc, cs_n zc, va_up (va_up (cs_I zc) 8 (va_up (cs_I zc 8) js (-1))) 9 (va_up (cs_I zc 9) js 0), cs_L zc, cs_N zc, va_up (cs_S zc) js (fun _ => 0), cs_X zc)) [(0, 0), (0, 10), (6, js), (7, js)] [cTP zc, cR10 cA zc, (cs_X zc 6 js, .inr (7, [.ref (cs_X zc 7 js), .int (-1), .int 0])), (cs_X zc 7 js, .inl (cA 0, 48, .inl (fun _ => 0)))] ∧ ∀ i j, (i, j) ∉ ([(0, 0), (0, 10), (6, js), (7, js)] : List (Nat × Nat)) → cF cA (cs_i zc, cs_n zc, va_up (va_up (cs_I zc) 8 (va_up (cs_I zc 8) js (-1))) 9 (va_up (cs_I zc 9) js 0), cs_L zc, cs_N zc, va_up (cs_S zc) js (fun _ => 0), cs_X zc) i j = none ∨ ((i, j) ∉ ([(0, 0), (0, 10), (6, js), (7, js)] : List (Nat × Nat)) ∧ cF cA (cs_i zc, cs_n zc, va_up (va_up (cs_I zc) 8 (va_up (cs_I zc 8) js (-1))) 9 (va_up (cs_I zc 9) js 0), cs_L zc, cs_N zc, va_up (cs_S zc) js (fun _ => 0), cs_X zc) i j = cF cA zc i j) := by
  obtain ⟨⟨hn0, hn1, hn2, hn3, hn4, hn5⟩, hpi, hgk, htk, hpk, hsh⟩ := id hI
  refine ⟨(by refine ⟨⟨hn0, hn1, hn2, hn3, hn4, hn5⟩, hpi, hgk, htk, hpk, (fun k hk => ?_)⟩; show 0 ≤ (va_up (cs_I zc 9) js 0 k).toInt ∧ (va_up (cs_I zc 9) js 0 k).toInt ≤ 48; by_cases h9 : k = js; (rw [h9, va_up_self]; exact ⟨by decide, by decide⟩); (rw [va_up_ne _ _ h9]; exact hsh k hk)), ⟨(by (rw [(kF_tp (cA := cA) (z := (cs_i zc, cs_n zc, va_up (va_up (cs_I zc) 8 (va_up (cs_I zc 8) js (-1))) 9 (va_up (cs_I zc 9) js 0), cs_L zc, cs_N zc, va_up (cs_S zc) js (fun _ => 0), cs_X zc)))]) <;> simp [cTP, cTPN, cTPA, cLo, cA2, cA3, cA4, cA5, cR6, cR7, cR8, cR9, cR10, cTr, cPi, cPiN, cPiT, cGa, cGaK, cTa, cPa, cAu, cAuN, cAuB, cSh, cSc, cs_i, cs_n, cs_I, cs_L, cs_N, cs_S, cs_X, va_up, upd, opN]), (by (rw [(kF_r10 (cA := cA) (z := (cs_i zc, cs_n zc, va_up (va_up (cs_I zc) 8 (va_up (cs_I zc 8) js (-1))) 9 (va_up (cs_I zc 9) js 0), cs_L zc, cs_N zc, va_up (cs_S zc) js (fun _ => 0), cs_X zc)))]) <;> simp [cTP, cTPN, cTPA, cLo, cA2, cA3, cA4, cA5, cR6, cR7, cR8, cR9, cR10, cTr, cPi, cPiN, cPiT, cGa, cGaK, cTa, cPa, cAu, cAuN, cAuB, cSh, cSc, cs_i, cs_n, cs_I, cs_L, cs_N, cs_S, cs_X, va_up, upd, opN]), (by (rw [(kF_sh (z := (cs_i zc, cs_n zc, va_up (va_up (cs_I zc) 8 (va_up (cs_I zc 8) js (-1))) 9 (va_up (cs_I zc 9) js 0), cs_L zc, cs_N zc, va_up (cs_S zc) js (fun _ => 0), cs_X zc)) hjs)]) <;> simp [cTP, cTPN, cTPA, cLo, cA2, cA3, cA4, cA5, cR6, cR7, cR8, cR9, cR10, cTr, cPi, cPiN, cPiT, cGa, cGaK, cTa, cPa, cAu, cAuN, cAuB, cSh, cSc, cs_i, cs_n, cs_I, cs_L, cs_N, cs_S, cs_X, va_up, upd, opN]), (by (rw [(kF_sc (z := (cs_i zc, cs_n zc, va_up (va_up (cs_I zc) 8 (va_up (cs_I zc 8) js (-1))) 9 (va_up (cs_I zc 9) js 0), cs_L zc, cs_N zc, va_up (cs_S zc) js (fun _ => 0), cs_X zc)) hjs)]) <;> simp [cTP, cTPN, cTPA, cLo, cA2, cA3, cA4, cA5, cR6, cR7, cR8, cR9, cR10, cTr, cPi, cPiN, cPiT, cGa, cGaK, cTa, cPa, cAu, cAuN, cAuB, cSh, cSc, cs_i, cs_n, cs_I, cs_L, cs_N, cs_S, cs_X, va_up, upd, opN]), trivial⟩, ?_⟩
  intro i j hij
  refine Or.inr ⟨hij, ?_⟩
  rcases i with _ | _ | _ | _ | _ | _ | _ | _ | i
  · rcases j with _ | _ | _ | _ | _ | _ | _ | _ | _ | _ | _ | _ | j
    · exact absurd (by simp) hij
    · show some (cLo (cs_i zc, cs_n zc, va_up (va_up (cs_I zc) 8 (va_up (cs_I zc 8) js (-1))) 9 (va_up (cs_I zc 9) js 0), cs_L zc, cs_N zc, va_up (cs_S zc) js (fun _ => 0), cs_X zc)) = some (cLo zc); simp [cLo, cs_i, cs_n, cs_I, cs_L, cs_N, cs_S, cs_X, va_up]
    · show some (cA2 cA (cs_i zc, cs_n zc, va_up (va_up (cs_I zc) 8 (va_up (cs_I zc 8) js (-1))) 9 (va_up (cs_I zc 9) js 0), cs_L zc, cs_N zc, va_up (cs_S zc) js (fun _ => 0), cs_X zc)) = some (cA2 cA zc); simp [cA2, cs_i, cs_n, cs_I, cs_L, cs_N, cs_S, cs_X, va_up]
    · show some (cA3 cA (cs_i zc, cs_n zc, va_up (va_up (cs_I zc) 8 (va_up (cs_I zc 8) js (-1))) 9 (va_up (cs_I zc 9) js 0), cs_L zc, cs_N zc, va_up (cs_S zc) js (fun _ => 0), cs_X zc)) = some (cA3 cA zc); simp [cA3, cs_i, cs_n, cs_I, cs_L, cs_N, cs_S, cs_X, va_up]
    · show some (cA4 cA (cs_i zc, cs_n zc, va_up (va_up (cs_I zc) 8 (va_up (cs_I zc 8) js (-1))) 9 (va_up (cs_I zc 9) js 0), cs_L zc, cs_N zc, va_up (cs_S zc) js (fun _ => 0), cs_X zc)) = some (cA4 cA zc); simp [cA4, cs_i, cs_n, cs_I, cs_L, cs_N, cs_S, cs_X, va_up]
    · show some (cA5 cA (cs_i zc, cs_n zc, va_up (va_up (cs_I zc) 8 (va_up (cs_I zc 8) js (-1))) 9 (va_up (cs_I zc 9) js 0), cs_L zc, cs_N zc, va_up (cs_S zc) js (fun _ => 0), cs_X zc)) = some (cA5 cA zc); simp [cA5, cs_i, cs_n, cs_I, cs_L, cs_N, cs_S, cs_X, va_up]
    · show some (cR6 cA (cs_i zc, cs_n zc, va_up (va_up (cs_I zc) 8 (va_up (cs_I zc 8) js (-1))) 9 (va_up (cs_I zc 9) js 0), cs_L zc, cs_N zc, va_up (cs_S zc) js (fun _ => 0), cs_X zc)) = some (cR6 cA zc); simp [cR6, cs_i, cs_n, cs_I, cs_L, cs_N, cs_S, cs_X, va_up]
    · show some (cR7 cA (cs_i zc, cs_n zc, va_up (va_up (cs_I zc) 8 (va_up (cs_I zc 8) js (-1))) 9 (va_up (cs_I zc 9) js 0), cs_L zc, cs_N zc, va_up (cs_S zc) js (fun _ => 0), cs_X zc)) = some (cR7 cA zc); simp [cR7, cs_i, cs_n, cs_I, cs_L, cs_N, cs_S, cs_X, va_up]
    · show some (cR8 cA (cs_i zc, cs_n zc, va_up (va_up (cs_I zc) 8 (va_up (cs_I zc 8) js (-1))) 9 (va_up (cs_I zc 9) js 0), cs_L zc, cs_N zc, va_up (cs_S zc) js (fun _ => 0), cs_X zc)) = some (cR8 cA zc); simp [cR8, cs_i, cs_n, cs_I, cs_L, cs_N, cs_S, cs_X, va_up]
    · show some (cR9 cA (cs_i zc, cs_n zc, va_up (va_up (cs_I zc) 8 (va_up (cs_I zc 8) js (-1))) 9 (va_up (cs_I zc 9) js 0), cs_L zc, cs_N zc, va_up (cs_S zc) js (fun _ => 0), cs_X zc)) = some (cR9 cA zc); simp [cR9, cs_i, cs_n, cs_I, cs_L, cs_N, cs_S, cs_X, va_up]
    · exact absurd (by simp) hij
    · show some (cTr (cs_i zc, cs_n zc, va_up (va_up (cs_I zc) 8 (va_up (cs_I zc 8) js (-1))) 9 (va_up (cs_I zc 9) js 0), cs_L zc, cs_N zc, va_up (cs_S zc) js (fun _ => 0), cs_X zc)) = some (cTr zc); simp [cTr, cs_i, cs_n, cs_I, cs_L, cs_N, cs_S, cs_X, va_up]
    · show (none : Option (Nat × va_E)) = none; rfl
  · show (if j < cs_n (cs_i zc, cs_n zc, va_up (va_up (cs_I zc) 8 (va_up (cs_I zc 8) js (-1))) 9 (va_up (cs_I zc 9) js 0), cs_L zc, cs_N zc, va_up (cs_S zc) js (fun _ => 0), cs_X zc) 0 then some (cPi (cs_i zc, cs_n zc, va_up (va_up (cs_I zc) 8 (va_up (cs_I zc 8) js (-1))) 9 (va_up (cs_I zc 9) js 0), cs_L zc, cs_N zc, va_up (cs_S zc) js (fun _ => 0), cs_X zc) j) else none) = if j < cs_n zc 0 then some (cPi zc j) else none
    simp [cPi, cs_i, cs_n, cs_I, cs_L, cs_N, cs_S, cs_X, va_up]
  · show (if j < cs_n (cs_i zc, cs_n zc, va_up (va_up (cs_I zc) 8 (va_up (cs_I zc 8) js (-1))) 9 (va_up (cs_I zc 9) js 0), cs_L zc, cs_N zc, va_up (cs_S zc) js (fun _ => 0), cs_X zc) 1 then some (cGa (cs_i zc, cs_n zc, va_up (va_up (cs_I zc) 8 (va_up (cs_I zc 8) js (-1))) 9 (va_up (cs_I zc 9) js 0), cs_L zc, cs_N zc, va_up (cs_S zc) js (fun _ => 0), cs_X zc) j) else none) = if j < cs_n zc 1 then some (cGa zc j) else none
    simp [cGa, cs_i, cs_n, cs_I, cs_L, cs_N, cs_S, cs_X, va_up]
  · show (if j < cs_n (cs_i zc, cs_n zc, va_up (va_up (cs_I zc) 8 (va_up (cs_I zc 8) js (-1))) 9 (va_up (cs_I zc 9) js 0), cs_L zc, cs_N zc, va_up (cs_S zc) js (fun _ => 0), cs_X zc) 2 then some (cTa (cs_i zc, cs_n zc, va_up (va_up (cs_I zc) 8 (va_up (cs_I zc 8) js (-1))) 9 (va_up (cs_I zc 9) js 0), cs_L zc, cs_N zc, va_up (cs_S zc) js (fun _ => 0), cs_X zc) j) else none) = if j < cs_n zc 2 then some (cTa zc j) else none
    simp [cTa, cs_i, cs_n, cs_I, cs_L, cs_N, cs_S, cs_X, va_up]
  · show (if j < cs_n (cs_i zc, cs_n zc, va_up (va_up (cs_I zc) 8 (va_up (cs_I zc 8) js (-1))) 9 (va_up (cs_I zc 9) js 0), cs_L zc, cs_N zc, va_up (cs_S zc) js (fun _ => 0), cs_X zc) 3 then some (cPa (cs_i zc, cs_n zc, va_up (va_up (cs_I zc) 8 (va_up (cs_I zc 8) js (-1))) 9 (va_up (cs_I zc 9) js 0), cs_L zc, cs_N zc, va_up (cs_S zc) js (fun _ => 0), cs_X zc) j) else none) = if j < cs_n zc 3 then some (cPa zc j) else none
    simp [cPa, cs_i, cs_n, cs_I, cs_L, cs_N, cs_S, cs_X, va_up]
  · show (if j = 0 ∧ ¬ cs_n (cs_i zc, cs_n zc, va_up (va_up (cs_I zc) 8 (va_up (cs_I zc 8) js (-1))) 9 (va_up (cs_I zc 9) js 0), cs_L zc, cs_N zc, va_up (cs_S zc) js (fun _ => 0), cs_X zc) 4 = 0 then some (cAu (cs_i zc, cs_n zc, va_up (va_up (cs_I zc) 8 (va_up (cs_I zc 8) js (-1))) 9 (va_up (cs_I zc 9) js 0), cs_L zc, cs_N zc, va_up (cs_S zc) js (fun _ => 0), cs_X zc)) else none) = if j = 0 ∧ ¬ cs_n zc 4 = 0 then some (cAu zc) else none
    simp [cAu, cs_i, cs_n, cs_I, cs_L, cs_N, cs_S, cs_X, va_up]
  · have hne0 : j ≠ js := fun q => hij (by rw [q]; simp)
    have e9 : cSh (cs_i zc, cs_n zc, va_up (va_up (cs_I zc) 8 (va_up (cs_I zc 8) js (-1))) 9 (va_up (cs_I zc 9) js 0), cs_L zc, cs_N zc, va_up (cs_S zc) js (fun _ => 0), cs_X zc) j = cSh zc j := by simp [cSh, cs_i, cs_n, cs_I, cs_L, cs_N, cs_S, cs_X, va_up, hne0]
    show (if j < 4 then some (cSh (cs_i zc, cs_n zc, va_up (va_up (cs_I zc) 8 (va_up (cs_I zc 8) js (-1))) 9 (va_up (cs_I zc 9) js 0), cs_L zc, cs_N zc, va_up (cs_S zc) js (fun _ => 0), cs_X zc) j) else none) = if j < 4 then some (cSh zc j) else none
    (rw [e9]) <;> simp [cs_n, va_up]
  · have hne0 : j ≠ js := fun q => hij (by rw [q]; simp)
    have e9 : cSc cA (cs_i zc, cs_n zc, va_up (va_up (cs_I zc) 8 (va_up (cs_I zc 8) js (-1))) 9 (va_up (cs_I zc 9) js 0), cs_L zc, cs_N zc, va_up (cs_S zc) js (fun _ => 0), cs_X zc) j = cSc cA zc j := by simp [cSc, cs_i, cs_n, cs_I, cs_L, cs_N, cs_S, cs_X, va_up, hne0]
    show (if j < 4 then some (cSc cA (cs_i zc, cs_n zc, va_up (va_up (cs_I zc) 8 (va_up (cs_I zc 8) js (-1))) 9 (va_up (cs_I zc 9) js 0), cs_L zc, cs_N zc, va_up (cs_S zc) js (fun _ => 0), cs_X zc) j) else none) = if j < 4 then some (cSc cA zc j) else none
    (rw [e9]) <;> simp [cs_n, va_up]
  · show (none : Option (Nat × va_E)) = none; rfl
set_option maxHeartbeats 4000000 in
set_option maxRecDepth 100000 in
theorem K_lose (l : Launch) (dC : Nat → ClassId) (dI : Nat → Nat → Nat) (cA : Nat → ClassId) (sz : Nat) (zc : CS) (k : Int32) (hI : invC zc) : Met l yX10_lose wsX10_lose ({ frames := 3, cells := 0, slots := 0, locals := 90 }) (kw (dC, dI) (ctys cA) (cF cA zc) sz [.ref (cs_X zc 0 0), .int k]) (kQi (dC, dI) (ctys cA) (cF cA zc) sz (cF cA) (fun r u => (invC u ∧ cs_X u 0 0 = cs_X zc 0 0) ∧ pC_lose zc k r u)) 0 0 (kA (cF cA zc) sz) := by
  refine kw_met (cc := cX10_lose) (maxL := 3) (ret := (some .int)) (by decide) rfl (Nat.le_of_ble_eq_true rfl) ?_
  intro p e s m below meth c0 hx hb hr hml hown hlocks hnm hts hPk hKk hDk hN hsz ls hl
  subst hsz
  have hK : va_K (dC, dI) vwCl [(cA 0, .int), (cA 1, .object RX6), (cA 2, .object RX2), (cA 3, .object RX8), (cA 4, .object RX5), (cA 5, .object RX7)] s := hKk
  obtain ⟨⟨hn0, hn1, hn2, hn3, hn4, hn5⟩, hpi, hgk, htk, hpk, hsh⟩ := id hI
  have hl : lv_has ls 3 [(0, .ref (cs_X zc 0 0)), (1, .int k)] := hl
  generalize hQ : MQ _ _ _ _ _ _ _ = Q
  rcases ixd k 4 with hnojs | ⟨js, hjs, rfl⟩
  · skip
    have hks : kAll (cF cA zc) [(0, 0), (0, 10)] [cTP zc, cR10 cA zc] := ⟨(kF_tp (cA := cA) (z := zc)), (kF_r10 (cA := cA) (z := zc)), trivial⟩
    have hP : va_P (dC, dI) vwCl [cTP zc, cR10 cA zc] s.heap := kAll_P hPk hks
    have hD : va_D (va_A [cTP zc, cR10 cA zc] s.heap.size) [cTP zc, cR10 cA zc] := (kAll_D hDk hks (by simp)).self
    have hA : ∀ q : Nat, s.heap.size ≤ q → va_A [cTP zc, cR10 cA zc] s.heap.size q := fun q h => Or.inr h
    have hS : va_S (va_A [cTP zc, cR10 cA zc] s.heap.size) s.heap s.heap [] := va_S.rf
    refine lv_aload_n hx hb dX10_lose_0 rfl (lv_at hl 0 rfl) ?_
    refine lv_iload_n hx hb dX10_lose_1 rfl (lv_at hl 1 rfl) ?_
    have hPc := hP.sub (ws' := [cTP zc, cR10 cA zc]) [0, 1] rfl
    have hDc := hD.sub (ws' := [cTP zc, cR10 cA zc]) [0, 1] (by decide) rfl
    have hKc := hK.sub (tys' := [(cA 5, .object RX7)]) [5] rfl
    refine va_csq (va_Run.run (va_runV (As := [.int k]) (rest := []) ⟨hx, hb, hml, hown, hts⟩ (s_sheetAt_no l dC dI (cA 5) _ (cs_X zc 0 0) (.ref (cs_X zc 0 1)) (.ref (cs_X zc 0 6)) (.ref (cs_X zc 0 7)) (.ref (cs_X zc 0 8)) (.ref (cs_X zc 0 9)) (.ref (cs_X zc 0 11)) (.int (nI (cs_n zc 0))) (.int (nI (cs_n zc 1))) (.int (nI (cs_n zc 2))) (.int (nI (cs_n zc 3))) (va_rf (opN (cs_n zc 4) (fun _ => cs_X zc 5 0))) (.int (cs_i zc 2)) (cs_X zc 0 10) (rfN 4 (cs_X zc 6)) k (shNo hnojs)) (cwV 1 hts gX10_lose_X10_sheetAt rfl rfl rfl (by decide +kernel) ⟨Nat.le_of_ble_eq_true rfl, Nat.le_of_ble_eq_true rfl⟩) (pw_preV (va_recv hKc hPc (ci := 10) (q0 := 0) rfl rfl) hPc hKc hDc hN) rfl rfl hl.1 rfl (lv_room (Nat.le_of_ble_eq_true rfl)) dX10_lose_2 ⟨Nat.le_of_ble_eq_true rfl, Nat.le_of_ble_eq_true rfl⟩)) (fun r1 hr1 => ?_)
    have hr1 : r1 = none := hr1
    subst hr1
    refine W.eq (g2 := F0 m 5 ls [.null]) rfl ?_
    refine lv_astore_nN (lv' := [(2, .null), (0, .ref (cs_X zc 0 0)), (1, .int k)]) hx hb dX10_lose_5 rfl hl (by decide) rfl (fun ls hl => ?_)
    refine lv_aload_nN hx hb dX10_lose_6 rfl (lv_at hl 0 rfl) ?_
    refine lv_ifnonnullN hx hb dX10_lose_7 ?_
    refine lv_iconst (v := (-1)) hx hb dX10_lose_10 (by decide) ?_
    subst hQ
    exact W.iret (v := (-1)) hx hb hr (fun t ht hW => ⟨⟨(-1), zc, rfl, ⟨⟨hI, rfl⟩, (Or.inl ⟨hnojs, rfl, rfl⟩)⟩, (by rw [ht]; exact hPk), va_K.moved hW.alike hKk, kDA_self hDk⟩, (kw_same hPk ht).2⟩) (fun q h => absurd h List.not_mem_nil) dX10_lose_11
  · skip
    have hks : kAll (cF cA zc) [(0, 0), (0, 10), (6, js), (7, js)] [cTP zc, cR10 cA zc, cSh zc js, cSc cA zc js] := ⟨(kF_tp (cA := cA) (z := zc)), (kF_r10 (cA := cA) (z := zc)), (kF_sh (z := zc) hjs), (kF_sc (z := zc) hjs), trivial⟩
    have hP : va_P (dC, dI) vwCl [cTP zc, cR10 cA zc, cSh zc js, cSc cA zc js] s.heap := kAll_P hPk hks
    have hD : va_D (va_A [cTP zc, cR10 cA zc, cSh zc js, cSc cA zc js] s.heap.size) [cTP zc, cR10 cA zc, cSh zc js, cSc cA zc js] := (kAll_D hDk hks (by simp)).self
    have hA : ∀ q : Nat, s.heap.size ≤ q → va_A [cTP zc, cR10 cA zc, cSh zc js, cSc cA zc js] s.heap.size q := fun q h => Or.inr h
    have hS : va_S (va_A [cTP zc, cR10 cA zc, cSh zc js, cSc cA zc js] s.heap.size) s.heap s.heap [] := va_S.rf
    refine lv_aload_n hx hb dX10_lose_0 rfl (lv_at hl 0 rfl) ?_
    refine lv_iload_n hx hb dX10_lose_1 rfl (lv_at hl 1 rfl) ?_
    have hPc := hP.sub (ws' := [cTP zc, cR10 cA zc]) [0, 1] rfl
    have hDc := hD.sub (ws' := [cTP zc, cR10 cA zc]) [0, 1] (by decide) rfl
    have hKc := hK.sub (tys' := [(cA 5, .object RX7)]) [5] rfl
    refine va_csq (va_Run.run (va_runV (As := [.int (nI js)]) (rest := []) ⟨hx, hb, hml, hown, hts⟩ (s_sheetAt_yes l dC dI (cA 5) _ (cs_X zc 0 0) (.ref (cs_X zc 0 1)) (.ref (cs_X zc 0 6)) (.ref (cs_X zc 0 7)) (.ref (cs_X zc 0 8)) (.ref (cs_X zc 0 9)) (.ref (cs_X zc 0 11)) (.int (nI (cs_n zc 0))) (.int (nI (cs_n zc 1))) (.int (nI (cs_n zc 2))) (.int (nI (cs_n zc 3))) (va_rf (opN (cs_n zc 4) (fun _ => cs_X zc 5 0))) (.int (cs_i zc 2)) (cs_X zc 0 10) js (cs_X zc 6 js) (rfN 4 (cs_X zc 6)) hjs (rfN_at hjs)) (cwV 1 hts gX10_lose_X10_sheetAt rfl rfl rfl (by decide +kernel) ⟨Nat.le_of_ble_eq_true rfl, Nat.le_of_ble_eq_true rfl⟩) (pw_preV (va_recv hKc hPc (ci := 10) (q0 := 0) rfl rfl) hPc hKc hDc hN) rfl rfl hl.1 rfl (lv_room (Nat.le_of_ble_eq_true rfl)) dX10_lose_2 ⟨Nat.le_of_ble_eq_true rfl, Nat.le_of_ble_eq_true rfl⟩)) (fun r2 hr2 => ?_)
    have hr2 : r2 = some (cs_X zc 6 js) := hr2
    subst hr2
    refine W.eq (g2 := F0 m 5 ls [.ref (cs_X zc 6 js)]) rfl ?_
    refine lv_astore_n (lv' := [(2, .ref (cs_X zc 6 js)), (0, .ref (cs_X zc 0 0)), (1, .int (nI js))]) hx hb dX10_lose_5 rfl hl (by decide) rfl (fun ls hl => ?_)
    refine lv_aload_n hx hb dX10_lose_6 rfl (lv_at hl 0 rfl) ?_
    refine lv_ifnonnull (tgt := 12) hx hb dX10_lose_7 (by decide) ?_
    refine lv_aload_n hx hb dX10_lose_12 rfl (lv_at hl 0 rfl) ?_
    have hPc := hP.sub (ws' := [cSh zc js]) [2] rfl
    have hDc := hD.sub (ws' := [cSh zc js]) [2] (by decide) rfl
    have hKc := hK.sub (tys' := []) [] rfl
    refine vp_callSi (va_Run.run (va_runV (As := []) (rest := []) ⟨hx, hb, hml, hown, hts⟩ (s_hasNothing l dC dI  _ (cs_X zc 6 js) (.ref (cs_X zc 7 js)) (cs_I zc 8 js) (cs_I zc 9 js) ) (cwV 0 hts gX10_lose_X7_hasNothing rfl rfl rfl (by decide +kernel) ⟨Nat.le_of_ble_eq_true rfl, Nat.le_of_ble_eq_true rfl⟩) (pw_preV (va_recv hKc hPc (ci := 7) (q0 := 0) rfl rfl) hPc hKc hDc hN) rfl rfl hl.1 rfl (lv_room (Nat.le_of_ble_eq_true rfl)) dX10_lose_13 ⟨Nat.le_of_ble_eq_true rfl, Nat.le_of_ble_eq_true rfl⟩)) (fun r3 hr3 => ?_)
    have hr3 : r3 = if (cs_I zc 8 js) = -1 then 1 else 0 := hr3
    refine lv_if_eq (tgt := 21) hx hb dX10_lose_16 (by decide) (fun c4 => ?_) (fun c4 => ?_)
    · skip
      have c4 := (fa_bool_prop hr3).1.mp c4
      refine lv_aload_n hx hb dX10_lose_21 rfl (lv_at hl 0 rfl) ?_
      refine lv_iconst (v := (-1)) hx hb dX10_lose_22 (by decide) ?_
      refine lv_iconst (v := 0) hx hb dX10_lose_23 (by decide) ?_
      have hPc := hP.sub (ws' := [cSh zc js, cSc cA zc js]) [2, 3] rfl
      have hDc := hD.sub (ws' := [cSh zc js, cSc cA zc js]) [2, 3] (by decide) rfl
      have hKc := hK.sub (tys' := [(cA 0, .int)]) [0] rfl
      have hFc := va_free (wc := [cSh zc js, cSc cA zc js]) hD hS hA [2, 3] rfl
      refine va_callv (va_runV (As := [.int (-1), .int 0]) (rest := []) ⟨hx, hb, hml, hown, hts⟩ (s_renew l dC dI (cA 0) _ (cs_X zc 6 js) (cs_X zc 7 js) (.int (cs_I zc 8 js)) (.int (cs_I zc 9 js)) (-1) 0 (cs_S zc js) ) (cwV 2 hts gX10_lose_X7_renew rfl rfl rfl (by decide +kernel) ⟨Nat.le_of_ble_eq_true rfl, Nat.le_of_ble_eq_true rfl⟩) (pw_preV (va_recv hKc hPc (ci := 7) (q0 := 0) rfl rfl) hPc hKc hDc hN) rfl rfl hl.1 rfl (lv_room (Nat.le_of_ble_eq_true rfl)) dX10_lose_24 ⟨Nat.le_of_ble_eq_true rfl, Nat.le_of_ble_eq_true rfl⟩) hS (fun q _ h => hFc q h) hFc (fun u t H1 locs ht hvm hw hB hz1 hk1 hS => ?_)
      obtain ⟨hP1, hK1, hD1⟩ := hB
      rw [ht] at hP1
      obtain ⟨hP, hD⟩ := va_join (wr := [cTP zc, cR10 cA zc]) (w1 := [(cs_X zc 6 js, .inr (7, [.ref (cs_X zc 7 js), .int (-1), .int 0])), (cs_X zc 7 js, .inl (cA 0, 48, .inl (fun _ => 0)))]) hP hD [2, 3] [0, 1] rfl rfl (by decide) (by decide) hk1 hFc hP1 hD1
      generalize H1 = H at hP hS ⊢
      have hP : va_P (dC, dI) vwCl [cTP zc, cR10 cA zc, (cs_X zc 6 js, .inr (7, [.ref (cs_X zc 7 js), .int (-1), .int 0])), (cs_X zc 7 js, .inl (cA 0, 48, .inl (fun _ => 0)))] H := hP
      have hD : va_D _ [cTP zc, cR10 cA zc, (cs_X zc 6 js, .inr (7, [.ref (cs_X zc 7 js), .int (-1), .int 0])), (cs_X zc 7 js, .inl (cA 0, 48, .inl (fun _ => 0)))] := hD
      refine lv_iconst (v := 1) hx hb dX10_lose_27 (by decide) ?_
      subst hQ
      have hP9 : va_P (dC, dI) vwCl [cTP zc, cR10 cA zc, (cs_X zc 6 js, .inr (7, [.ref (cs_X zc 7 js), .int (-1), .int 0])), (cs_X zc 7 js, .inl (cA 0, 48, .inl (fun _ => 0)))] H := hP.sub [0, 1, 2, 3] rfl
      have hD9 : va_D (va_A [cTP zc, cR10 cA zc, cSh zc js, cSc cA zc js] s.heap.size) [cTP zc, cR10 cA zc, (cs_X zc 6 js, .inr (7, [.ref (cs_X zc 7 js), .int (-1), .int 0])), (cs_X zc 7 js, .inl (cA 0, 48, .inl (fun _ => 0)))] := hD.sub [0, 1, 2, 3] (by decide) rfl
      have hlf := lf_lose_1 cA zc js hjs c4 hI
      exact W.iret (v := 1) hx hb hr (fun t ht hW => have hJ := kjoin hPk hDk hks rfl (hS.F ht) (by rw [ht]; exact hP9) hD9 hlf.2.1 hlf.2.2; ⟨⟨1, (cs_i zc, cs_n zc, va_up (va_up (cs_I zc) 8 (va_up (cs_I zc 8) js (-1))) 9 (va_up (cs_I zc 9) js 0), cs_L zc, cs_N zc, va_up (cs_S zc) js (fun _ => 0), cs_X zc), rfl, ⟨⟨hlf.1, rfl⟩, (Or.inr (Or.inl ⟨js, rfl, hjs, c4, rfl, rfl⟩))⟩, hJ.1, va_K.moved hW.alike hKk, hJ.2.1⟩, hJ.2.2⟩) (fun q h => kAll_A hks _ (hS.2.2 q h)) dX10_lose_28
    · skip
      have c4 := (fa_bool_prop hr3).2.mp c4
      refine lv_iconst (v := 0) hx hb dX10_lose_19 (by decide) ?_
      subst hQ
      exact W.iret (v := 0) hx hb hr (fun t ht hW => ⟨⟨0, zc, rfl, ⟨⟨hI, rfl⟩, (Or.inr (Or.inr ⟨js, rfl, hjs, c4, rfl, rfl⟩))⟩, (by rw [ht]; exact hPk), va_K.moved hW.alike hKk, kDA_self hDk⟩, (kw_same hPk ht).2⟩) (fun q h => absurd h List.not_mem_nil) dX10_lose_20
