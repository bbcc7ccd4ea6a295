def pC_find (zc : CS) (x : Int32) (y : Int32) (lo : Int32) (hi : Int32) (r : Int32) (u : CS) : Prop :=
  (((0 ≤ x ∧ x ≤ 7) ∧ (0 ≤ y ∧ y ≤ 5)) ∧ (¬ (0 ≤ lo ∧ lo ≤ 1000)) ∧ r = ((-2)) ∧ u = zc) ∨
  (((0 ≤ x ∧ x ≤ 7) ∧ (0 ≤ y ∧ y ≤ 5)) ∧ (0 ≤ lo ∧ lo ≤ 1000) ∧ (¬ (0 ≤ hi ∧ hi ≤ 1000)) ∧ r = ((-2)) ∧ u = zc) ∨
  (((0 ≤ x ∧ x ≤ 7) ∧ (0 ≤ y ∧ y ≤ 5)) ∧ (0 ≤ lo ∧ lo ≤ 1000) ∧ (0 ≤ hi ∧ hi ≤ 1000) ∧ (lo ≤ hi) ∧ ∃ sq : Nat, (sq < 48) ∧ (8 * y + x = nI sq) ∧ ∃ fl1_12 : Nat → Int32, ∃ fh1_13 : Nat → Int32, ∃ la1_14 : Int32, ∃ tl1_15 : Nat → Int32, ∃ th1_16 : Nat → Int32, ∃ r11 : Int32, ((tl1_15 = dnL (cs_i zc 0) (swL (cs_i zc 0) (tcL sq lo (cs_I zc 0)) 48) 48 ∧ th1_16 = dnH (cs_i zc 0) (swH (cs_i zc 0) (tcH sq hi (cs_I zc 1)) 48) 48) ∧ ((r11 = -3 ∧ (∃ j, j < 48 ∧ th1_16 j < tl1_15 j) ∧ fl1_12 = (cs_I zc 0) ∧ fh1_13 = (cs_I zc 1) ∧ la1_14 = (cs_i zc 0)) ∨ (r11 = nI (fa_cnt (chg (cs_I zc 0) (cs_I zc 1) tl1_15 th1_16) 48) ∧ (∀ j, j < 48 → ¬ th1_16 j < tl1_15 j) ∧ fl1_12 = tl1_15 ∧ fh1_13 = th1_16 ∧ la1_14 = (cs_i zc 0)))) ∧ r = (r11) ∧ u = (va_up (cs_i zc) 0 la1_14, cs_n zc, va_up (va_up (va_up (va_up (cs_I zc) 0 fl1_12) 1 fh1_13) 2 tl1_15) 3 th1_16, cs_L zc, cs_N zc, cs_S zc, cs_X zc)) ∨
  (((0 ≤ x ∧ x ≤ 7) ∧ (0 ≤ y ∧ y ≤ 5)) ∧ (0 ≤ lo ∧ lo ≤ 1000) ∧ (0 ≤ hi ∧ hi ≤ 1000) ∧ (¬ lo ≤ hi) ∧ r = ((-2)) ∧ u = zc) ∨
  ((¬ ((0 ≤ x ∧ x ≤ 7) ∧ (0 ≤ y ∧ y ≤ 5))) ∧ r = ((-1)) ∧ u = zc)
set_option maxHeartbeats 4000000 in
theorem lf_find_2 (cA : Nat → ClassId) (zc : CS) (x : Int32) (y : Int32) (lo : Int32) (hi : Int32) (sq : Nat) (fl1_12 : Nat → Int32) (fh1_13 : Nat → Int32) (la1_14 : Int32) (tl1_15 : Nat → Int32) (th1_16 : Nat → Int32) (r11 : Int32) (c2 : (0 ≤ x ∧ x ≤ 7) ∧ (0 ≤ y ∧ y ≤ 5)) (c4 : 0 ≤ lo ∧ lo ≤ 1000) (c6 : 0 ≤ hi ∧ hi ≤ 1000) (c7 : lo ≤ hi) (hsq : sq < 48) (esq : 8 * y + x = nI sq) (hr11 : (tl1_15 = dnL (cs_i zc 0) (swL (cs_i zc 0) (tcL sq lo (cs_I zc 0)) 48) 48 ∧ th1_16 = dnH (cs_i zc 0) (swH (cs_i zc 0) (tcH sq hi (cs_I zc 1)) 48) 48) ∧ ((r11 = -3 ∧ (∃ j, j < 48 ∧ th1_16 j < tl1_15 j) ∧ fl1_12 = (cs_I zc 0) ∧ fh1_13 = (cs_I zc 1) ∧ la1_14 = (cs_i zc 0)) ∨ (r11 = nI (fa_cnt (chg (cs_I zc 0) (cs_I zc 1) tl1_15 th1_16) 48) ∧ (∀ j, j < 48 → ¬ th1_16 j < tl1_15 j) ∧ fl1_12 = tl1_15 ∧ fh1_13 = th1_16 ∧ la1_14 = (cs_i zc 0)))) (hI : invC zc) : invC (va_up (cs_i zc) 0 la1_14, cs_n zc, va_up (va_up (va_up (va_up (cs_I zc) 0 fl1_12) 1 fh1_13) 2 tl1_15) 3 th1_16, cs_L zc, cs_N zc, cs_S zc, cs_X zc) ∧ kAll (cF cA (va_up (cs_i zc) 0 la1_14, cs_n zc, va_up (va_up (va_up (va_up (cs_I zc) 0 fl1_12) 1 fh1_13) 2 tl1_15) 3 th1_16, cs_L zc, cs_N zc, cs_S zc, cs_X zc)) [(0, 0), (0, 1), (0, 2), (0, 3), (0, 4), (0, 5)] [cTP zc, (cs_X zc 0 1, .inr (3, [.ref (cs_X zc 0 2), .ref (cs_X zc 0 3), .ref (cs_X zc 0 4), .ref (cs_X zc 0 5), .int la1_14])), (cs_X zc 0 2, .inl (cA 0, 48, .inl fl1_12)), (cs_X zc 0 3, .inl (cA 0, 48, .inl fh1_13)), (cs_X zc 0 4, .inl (cA 0, 48, .inl tl1_15)), (cs_X zc 0 5, .inl (cA 0, 48, .inl th1_16))] ∧ ∀ i j, (i, j) ∉ ([(0, 0), (0, 1), (0, 2), (0, 3), (0, 4), (0, 5)] : List (Nat × Nat)) → cF cA (va_up (cs_i zc) 0 la1_14, cs_n zc, va_up (va_up (va_up (va_up (cs_I zc) 0 fl1_12) 1 fh1_13) 2 tl1_15) 3 th1_16, cs_L zc, cs_N zc, cs_S zc, cs_X zc) i j = none ∨ ((i, j) ∉ ([(0, 0), (0, 1), (0, 2), (0, 3), (0, 4), (0, 5)] : List (Nat × Nat)) ∧ cF cA (va_up (cs_i zc) 0 la1_14, cs_n zc, va_up (va_up (va_up (va_up (cs_I zc) 0 fl1_12) 1 fh1_13) 2 tl1_15) 3 th1_16, cs_L zc, cs_N zc, cs_S zc, cs_X zc) i j = cF cA zc i j) := by
  obtain ⟨⟨hn0, hn1, hn2, hn3, hn4, hn5⟩, hpi, hgk, htk, hpk, hsh⟩ := id hI
  refine ⟨hI, ⟨(by (rw [(kF_tp (cA := cA) (z := (va_up (cs_i zc) 0 la1_14, cs_n zc, va_up (va_up (va_up (va_up (cs_I zc) 0 fl1_12) 1 fh1_13) 2 tl1_15) 3 th1_16, cs_L zc, cs_N zc, cs_S zc, cs_X zc)))]) <;> simp [cTP, cTPN, cTPA, cLo, cA2, cA3, cA4, cA5, cR6, cR7, cR8, cR9, cR10, cTr, cPi, cPiN, cPiT, cGa, cGaK, cTa, cPa, cAu, cAuN, cAuB, cSh, cSc, cs_i, cs_n, cs_I, cs_L, cs_N, cs_S, cs_X, va_up, upd, opN]), (by (rw [(kF_lo (cA := cA) (z := (va_up (cs_i zc) 0 la1_14, cs_n zc, va_up (va_up (va_up (va_up (cs_I zc) 0 fl1_12) 1 fh1_13) 2 tl1_15) 3 th1_16, cs_L zc, cs_N zc, cs_S zc, cs_X zc)))]) <;> simp [cTP, cTPN, cTPA, cLo, cA2, cA3, cA4, cA5, cR6, cR7, cR8, cR9, cR10, cTr, cPi, cPiN, cPiT, cGa, cGaK, cTa, cPa, cAu, cAuN, cAuB, cSh, cSc, cs_i, cs_n, cs_I, cs_L, cs_N, cs_S, cs_X, va_up, upd, opN]), (by (rw [(kF_a2 (cA := cA) (z := (va_up (cs_i zc) 0 la1_14, cs_n zc, va_up (va_up (va_up (va_up (cs_I zc) 0 fl1_12) 1 fh1_13) 2 tl1_15) 3 th1_16, cs_L zc, cs_N zc, cs_S zc, cs_X zc)))]) <;> simp [cTP, cTPN, cTPA, cLo, cA2, cA3, cA4, cA5, cR6, cR7, cR8, cR9, cR10, cTr, cPi, cPiN, cPiT, cGa, cGaK, cTa, cPa, cAu, cAuN, cAuB, cSh, cSc, cs_i, cs_n, cs_I, cs_L, cs_N, cs_S, cs_X, va_up, upd, opN]), (by (rw [(kF_a3 (cA := cA) (z := (va_up (cs_i zc) 0 la1_14, cs_n zc, va_up (va_up (va_up (va_up (cs_I zc) 0 fl1_12) 1 fh1_13) 2 tl1_15) 3 th1_16, cs_L zc, cs_N zc, cs_S zc, cs_X zc)))]) <;> simp [cTP, cTPN, cTPA, cLo, cA2, cA3, cA4, cA5, cR6, cR7, cR8, cR9, cR10, cTr, cPi, cPiN, cPiT, cGa, cGaK, cTa, cPa, cAu, cAuN, cAuB, cSh, cSc, cs_i, cs_n, cs_I, cs_L, cs_N, cs_S, cs_X, va_up, upd, opN]), (by (rw [(kF_a4 (cA := cA) (z := (va_up (cs_i zc) 0 la1_14, cs_n zc, va_up (va_up (va_up (va_up (cs_I zc) 0 fl1_12) 1 fh1_13) 2 tl1_15) 3 th1_16, cs_L zc, cs_N zc, cs_S zc, cs_X zc)))]) <;> simp [cTP, cTPN, cTPA, cLo, cA2, cA3, cA4, cA5, cR6, cR7, cR8, cR9, cR10, cTr, cPi, cPiN, cPiT, cGa, cGaK, cTa, cPa, cAu, cAuN, cAuB, cSh, cSc, cs_i, cs_n, cs_I, cs_L, cs_N, cs_S, cs_X, va_up, upd, opN]), (by (rw [(kF_a5 (cA := cA) (z := (va_up (cs_i zc) 0 la1_14, cs_n zc, va_up (va_up (va_up (va_up (cs_I zc) 0 fl1_12) 1 fh1_13) 2 tl1_15) 3 th1_16, cs_L zc, cs_N zc, cs_S zc, cs_X zc)))]) <;> simp [cTP, cTPN, cTPA, cLo, cA2, cA3, cA4, cA5, cR6, cR7, cR8, cR9, cR10, cTr, cPi, cPiN, cPiT, cGa, cGaK, cTa, cPa, cAu, cAuN, cAuB, cSh, cSc, cs_i, cs_n, cs_I, cs_L, cs_N, cs_S, cs_X, va_up, upd, opN]), trivial⟩, ?_⟩
  intro i j hij
  refine Or.inr ⟨hij, ?_⟩
  rcases i with _ | _ | _ | _ | _ | _ | _ | _ | i
  · rcases j with _ | _ | _ | _ | _ | _ | _ | _ | _ | _ | _ | _ | j
    · exact absurd (by simp) hij
    · exact absurd (by simp) hij
    · exact absurd (by simp) hij
    · exact absurd (by simp) hij
    · exact absurd (by simp) hij
    · exact absurd (by simp) hij
    · show some (cR6 cA (va_up (cs_i zc) 0 la1_14, cs_n zc, va_up (va_up (va_up (va_up (cs_I zc) 0 fl1_12) 1 fh1_13) 2 tl1_15) 3 th1_16, cs_L zc, cs_N zc, cs_S zc, cs_X zc)) = some (cR6 cA zc); simp [cR6, cs_i, cs_n, cs_I, cs_L, cs_N, cs_S, cs_X, va_up]
    · show some (cR7 cA (va_up (cs_i zc) 0 la1_14, cs_n zc, va_up (va_up (va_up (va_up (cs_I zc) 0 fl1_12) 1 fh1_13) 2 tl1_15) 3 th1_16, cs_L zc, cs_N zc, cs_S zc, cs_X zc)) = some (cR7 cA zc); simp [cR7, cs_i, cs_n, cs_I, cs_L, cs_N, cs_S, cs_X, va_up]
    · show some (cR8 cA (va_up (cs_i zc) 0 la1_14, cs_n zc, va_up (va_up (va_up (va_up (cs_I zc) 0 fl1_12) 1 fh1_13) 2 tl1_15) 3 th1_16, cs_L zc, cs_N zc, cs_S zc, cs_X zc)) = some (cR8 cA zc); simp [cR8, cs_i, cs_n, cs_I, cs_L, cs_N, cs_S, cs_X, va_up]
    · show some (cR9 cA (va_up (cs_i zc) 0 la1_14, cs_n zc, va_up (va_up (va_up (va_up (cs_I zc) 0 fl1_12) 1 fh1_13) 2 tl1_15) 3 th1_16, cs_L zc, cs_N zc, cs_S zc, cs_X zc)) = some (cR9 cA zc); simp [cR9, cs_i, cs_n, cs_I, cs_L, cs_N, cs_S, cs_X, va_up]
    · show some (cR10 cA (va_up (cs_i zc) 0 la1_14, cs_n zc, va_up (va_up (va_up (va_up (cs_I zc) 0 fl1_12) 1 fh1_13) 2 tl1_15) 3 th1_16, cs_L zc, cs_N zc, cs_S zc, cs_X zc)) = some (cR10 cA zc); simp [cR10, cs_i, cs_n, cs_I, cs_L, cs_N, cs_S, cs_X, va_up]
    · show some (cTr (va_up (cs_i zc) 0 la1_14, cs_n zc, va_up (va_up (va_up (va_up (cs_I zc) 0 fl1_12) 1 fh1_13) 2 tl1_15) 3 th1_16, cs_L zc, cs_N zc, cs_S zc, cs_X zc)) = some (cTr zc); simp [cTr, cs_i, cs_n, cs_I, cs_L, cs_N, cs_S, cs_X, va_up]
    · show (none : Option (Nat × va_E)) = none; rfl
  · show (if j < cs_n (va_up (cs_i zc) 0 la1_14, cs_n zc, va_up (va_up (va_up (va_up (cs_I zc) 0 fl1_12) 1 fh1_13) 2 tl1_15) 3 th1_16, cs_L zc, cs_N zc, cs_S zc, cs_X zc) 0 then some (cPi (va_up (cs_i zc) 0 la1_14, cs_n zc, va_up (va_up (va_up (va_up (cs_I zc) 0 fl1_12) 1 fh1_13) 2 tl1_15) 3 th1_16, cs_L zc, cs_N zc, cs_S zc, cs_X zc) j) else none) = if j < cs_n zc 0 then some (cPi zc j) else none
    simp [cPi, cs_i, cs_n, cs_I, cs_L, cs_N, cs_S, cs_X, va_up]
  · show (if j < cs_n (va_up (cs_i zc) 0 la1_14, cs_n zc, va_up (va_up (va_up (va_up (cs_I zc) 0 fl1_12) 1 fh1_13) 2 tl1_15) 3 th1_16, cs_L zc, cs_N zc, cs_S zc, cs_X zc) 1 then some (cGa (va_up (cs_i zc) 0 la1_14, cs_n zc, va_up (va_up (va_up (va_up (cs_I zc) 0 fl1_12) 1 fh1_13) 2 tl1_15) 3 th1_16, cs_L zc, cs_N zc, cs_S zc, cs_X zc) j) else none) = if j < cs_n zc 1 then some (cGa zc j) else none
    simp [cGa, cs_i, cs_n, cs_I, cs_L, cs_N, cs_S, cs_X, va_up]
  · show (if j < cs_n (va_up (cs_i zc) 0 la1_14, cs_n zc, va_up (va_up (va_up (va_up (cs_I zc) 0 fl1_12) 1 fh1_13) 2 tl1_15) 3 th1_16, cs_L zc, cs_N zc, cs_S zc, cs_X zc) 2 then some (cTa (va_up (cs_i zc) 0 la1_14, cs_n zc, va_up (va_up (va_up (va_up (cs_I zc) 0 fl1_12) 1 fh1_13) 2 tl1_15) 3 th1_16, cs_L zc, cs_N zc, cs_S zc, cs_X zc) j) else none) = if j < cs_n zc 2 then some (cTa zc j) else none
    simp [cTa, cs_i, cs_n, cs_I, cs_L, cs_N, cs_S, cs_X, va_up]
  · show (if j < cs_n (va_up (cs_i zc) 0 la1_14, cs_n zc, va_up (va_up (va_up (va_up (cs_I zc) 0 fl1_12) 1 fh1_13) 2 tl1_15) 3 th1_16, cs_L zc, cs_N zc, cs_S zc, cs_X zc) 3 then some (cPa (va_up (cs_i zc) 0 la1_14, cs_n zc, va_up (va_up (va_up (va_up (cs_I zc) 0 fl1_12) 1 fh1_13) 2 tl1_15) 3 th1_16, cs_L zc, cs_N zc, cs_S zc, cs_X zc) j) else none) = if j < cs_n zc 3 then some (cPa zc j) else none
    simp [cPa, cs_i, cs_n, cs_I, cs_L, cs_N, cs_S, cs_X, va_up]
  · show (if j = 0 ∧ ¬ cs_n (va_up (cs_i zc) 0 la1_14, cs_n zc, va_up (va_up (va_up (va_up (cs_I zc) 0 fl1_12) 1 fh1_13) 2 tl1_15) 3 th1_16, cs_L zc, cs_N zc, cs_S zc, cs_X zc) 4 = 0 then some (cAu (va_up (cs_i zc) 0 la1_14, cs_n zc, va_up (va_up (va_up (va_up (cs_I zc) 0 fl1_12) 1 fh1_13) 2 tl1_15) 3 th1_16, cs_L zc, cs_N zc, cs_S zc, cs_X zc)) else none) = if j = 0 ∧ ¬ cs_n zc 4 = 0 then some (cAu zc) else none
    simp [cAu, cs_i, cs_n, cs_I, cs_L, cs_N, cs_S, cs_X, va_up]
  · show (if j < 4 then some (cSh (va_up (cs_i zc) 0 la1_14, cs_n zc, va_up (va_up (va_up (va_up (cs_I zc) 0 fl1_12) 1 fh1_13) 2 tl1_15) 3 th1_16, cs_L zc, cs_N zc, cs_S zc, cs_X zc) j) else none) = if j < 4 then some (cSh zc j) else none
    simp [cSh, cs_i, cs_n, cs_I, cs_L, cs_N, cs_S, cs_X, va_up]
  · show (if j < 4 then some (cSc cA (va_up (cs_i zc) 0 la1_14, cs_n zc, va_up (va_up (va_up (va_up (cs_I zc) 0 fl1_12) 1 fh1_13) 2 tl1_15) 3 th1_16, cs_L zc, cs_N zc, cs_S zc, cs_X zc) j) else none) = if j < 4 then some (cSc cA zc j) else none
    simp [cSc, cs_i, cs_n, cs_I, cs_L, cs_N, cs_S, cs_X, va_up]
  · show (none : Option (Nat × va_E)) = none; rfl
set_option maxHeartbeats 4000000 in
set_option maxRecDepth 100000 in
theorem K_find (l : Launch) (dC : Nat → ClassId) (dI : Nat → Nat → Nat) (cA : Nat → ClassId) (sz : Nat) (zc : CS) (x : Int32) (y : Int32) (lo : Int32) (hi : Int32) (hI : invC zc) : Met l yX10_find wsX10_find ({ frames := 5, cells := 0, slots := 0, locals := 150 }) (kw (dC, dI) (ctys cA) (cF cA zc) sz [.ref (cs_X zc 0 0), .int x, .int y, .int lo, .int hi]) (kQi (dC, dI) (ctys cA) (cF cA zc) sz (cF cA) (fun r u => (invC u ∧ cs_X u 0 0 = cs_X zc 0 0) ∧ pC_find zc x y lo hi r u)) 0 0 (kA (cF cA zc) sz) := by
  refine kw_met (cc := cX10_find) (maxL := 5) (ret := (some .int)) (by decide) rfl (Nat.le_of_ble_eq_true rfl) ?_
  intro p e s m below meth c0 hx hb hr hml hown hlocks hnm hts hPk hKk hDk hN hsz ls hl
  subst hsz
  have hK : va_K (dC, dI) vwCl [(cA 0, .int), (cA 1, .object RX6), (cA 2, .object RX2), (cA 3, .object RX8), (cA 4, .object RX5), (cA 5, .object RX7)] s := hKk
  obtain ⟨⟨hn0, hn1, hn2, hn3, hn4, hn5⟩, hpi, hgk, htk, hpk, hsh⟩ := id hI
  have hl : lv_has ls 5 [(0, .ref (cs_X zc 0 0)), (1, .int x), (2, .int y), (3, .int lo), (4, .int hi)] := hl
  have hiX10 : ∀ w ∈ wsX100, w ∈ wsX10_find := by decide +kernel
  have hiX3 : ∀ w ∈ wsX30, w ∈ wsX10_find := by decide +kernel
  generalize hQ : MQ _ _ _ _ _ _ _ = Q
  have hks : kAll (cF cA zc) [(0, 0), (0, 1), (0, 2), (0, 3), (0, 4), (0, 5)] [cTP zc, cLo zc, cA2 cA zc, cA3 cA zc, cA4 cA zc, cA5 cA zc] := ⟨(kF_tp (cA := cA) (z := zc)), (kF_lo (cA := cA) (z := zc)), (kF_a2 (cA := cA) (z := zc)), (kF_a3 (cA := cA) (z := zc)), (kF_a4 (cA := cA) (z := zc)), (kF_a5 (cA := cA) (z := zc)), trivial⟩
  have hP : va_P (dC, dI) vwCl [cTP zc, cLo zc, cA2 cA zc, cA3 cA zc, cA4 cA zc, cA5 cA zc] s.heap := kAll_P hPk hks
  have hD : va_D (va_A [cTP zc, cLo zc, cA2 cA zc, cA3 cA zc, cA4 cA zc, cA5 cA zc] s.heap.size) [cTP zc, cLo zc, cA2 cA zc, cA3 cA zc, cA4 cA zc, cA5 cA zc] := (kAll_D hDk hks (by simp)).self
  have hA : ∀ q : Nat, s.heap.size ≤ q → va_A [cTP zc, cLo zc, cA2 cA zc, cA3 cA zc, cA4 cA zc, cA5 cA zc] s.heap.size q := fun q h => Or.inr h
  have hS : va_S (va_A [cTP zc, cLo zc, cA2 cA zc, cA3 cA zc, cA4 cA zc, cA5 cA zc] s.heap.size) s.heap s.heap [] := va_S.rf
  refine lv_iload_n hx hb dX10_find_0 rfl (lv_at hl 1 rfl) ?_
  refine lv_iload_n hx hb dX10_find_1 rfl (lv_at hl 2 rfl) ?_
  refine vp_callSi (va_Run.run (va_runS (As := [.int x, .int y]) (rest := []) ⟨hx, hb, hml, hown, hts⟩ (c_X3_hasSquare l x y ) (va_cwS 2 hts gX10_find_X3_hasSquare rfl rfl rfl (by decide +kernel) ⟨Nat.le_of_ble_eq_true rfl, Nat.le_of_ble_eq_true rfl⟩) (p0_preS hN) rfl rfl hl.1 rfl (lv_room (Nat.le_of_ble_eq_true rfl)) dX10_find_2 ⟨Nat.le_of_ble_eq_true rfl, Nat.le_of_ble_eq_true rfl⟩)) (fun r1 hr1 => ?_)
  have hr1 : r1 = if (0 ≤ x ∧ x ≤ 7) ∧ (0 ≤ y ∧ y ≤ 5) then 1 else 0 := hr1
  refine lv_if_ne (tgt := 10) hx hb dX10_find_5 (by decide) (fun c2 => ?_) (fun c2 => ?_)
  · skip
    have c2 := (fa_bool_prop hr1).2.mp c2
    refine lv_iload_n hx hb dX10_find_10 rfl (lv_at hl 3 rfl) ?_
    refine lv_iconst (v := 0) hx hb dX10_find_11 (by decide) ?_
    refine lv_sipush (v := 1000) hx hb dX10_find_12 (by decide) ?_
    refine vp_callSi (va_Run.run (va_runS (As := [.int lo, .int 0, .int 1000]) (rest := []) ⟨hx, hb, hml, hown, hts⟩ (c_X10_isWithin l lo 0 1000 ) (va_cwS 3 hts gX10_find_X10_isWithin rfl rfl rfl (by decide +kernel) ⟨Nat.le_of_ble_eq_true rfl, Nat.le_of_ble_eq_true rfl⟩) (p0_preS hN) rfl rfl hl.1 rfl (lv_room (Nat.le_of_ble_eq_true rfl)) dX10_find_15 ⟨Nat.le_of_ble_eq_true rfl, Nat.le_of_ble_eq_true rfl⟩)) (fun r3 hr3 => ?_)
    have hr3 : r3 = if 0 ≤ lo ∧ lo ≤ 1000 then 1 else 0 := hr3
    refine lv_if_eq (tgt := 39) hx hb dX10_find_18 (by decide) (fun c4 => ?_) (fun c4 => ?_)
    · skip
      have c4 := (fa_bool_prop hr3).1.mp c4
      refine lv_bipush (v := (-2)) hx hb dX10_find_39 (by decide) ?_
      subst hQ
      exact W.iret (v := (-2)) hx hb hr (fun t ht hW => ⟨⟨(-2), zc, rfl, ⟨⟨hI, rfl⟩, (Or.inl ⟨c2, c4, rfl, rfl⟩)⟩, (by rw [ht]; exact hPk), va_K.moved hW.alike hKk, kDA_self hDk⟩, (kw_same hPk ht).2⟩) (fun q h => absurd h List.not_mem_nil) dX10_find_41
    · skip
      have c4 := (fa_bool_prop hr3).2.mp c4
      refine lv_iload hx hb dX10_find_21 (lv_at hl 4 rfl) ?_
      refine lv_iconst (v := 0) hx hb dX10_find_23 (by decide) ?_
      refine lv_sipush (v := 1000) hx hb dX10_find_24 (by decide) ?_
      refine vp_callSi (va_Run.run (va_runS (As := [.int hi, .int 0, .int 1000]) (rest := []) ⟨hx, hb, hml, hown, hts⟩ (c_X10_isWithin l hi 0 1000 ) (va_cwS 3 hts gX10_find_X10_isWithin rfl rfl rfl (by decide +kernel) ⟨Nat.le_of_ble_eq_true rfl, Nat.le_of_ble_eq_true rfl⟩) (p0_preS hN) rfl rfl hl.1 rfl (lv_room (Nat.le_of_ble_eq_true rfl)) dX10_find_27 ⟨Nat.le_of_ble_eq_true rfl, Nat.le_of_ble_eq_true rfl⟩)) (fun r5 hr5 => ?_)
      have hr5 : r5 = if 0 ≤ hi ∧ hi ≤ 1000 then 1 else 0 := hr5
      refine lv_if_eq (tgt := 39) hx hb dX10_find_30 (by decide) (fun c6 => ?_) (fun c6 => ?_)
      · skip
        have c6 := (fa_bool_prop hr5).1.mp c6
        refine lv_bipush (v := (-2)) hx hb dX10_find_39 (by decide) ?_
        subst hQ
        exact W.iret (v := (-2)) hx hb hr (fun t ht hW => ⟨⟨(-2), zc, rfl, ⟨⟨hI, rfl⟩, (Or.inr (Or.inl ⟨c2, c4, c6, rfl, rfl⟩))⟩, (by rw [ht]; exact hPk), va_K.moved hW.alike hKk, kDA_self hDk⟩, (kw_same hPk ht).2⟩) (fun q h => absurd h List.not_mem_nil) dX10_find_41
      · skip
        have c6 := (fa_bool_prop hr5).2.mp c6
        refine lv_iload_n hx hb dX10_find_33 rfl (lv_at hl 3 rfl) ?_
        refine lv_iload hx hb dX10_find_34 (lv_at hl 4 rfl) ?_
        refine lv_icmp_le (tgt := 42) hx hb dX10_find_36 (by decide) (fun c7 => ?_) (fun c7 => ?_)
        · skip
          refine lv_aload_n hx hb dX10_find_42 rfl (lv_at hl 0 rfl) ?_
          refine va_get (D := (dC, dI)) (ci := 10) (v := .ref (cs_X zc 0 1)) (C := RX10) (T := TX10) (N := 13) hx hb hts hiX10 hown hK hP 0 rfl rfl 0 (by decide) (hts (.fieldLink RX10 12 "TributePitches" "lode" "LTributePitches$Lode;") (by decide +kernel)) (fun _ h9 => h9) rfl dX10_find_43 ?_
          have hPc := hP.sub (ws' := [cLo zc, cA2 cA zc, cA3 cA zc, cA4 cA zc, cA5 cA zc]) [1, 2, 3, 4, 5] rfl
          have hDc := hD.sub (ws' := [cLo zc, cA2 cA zc, cA3 cA zc, cA4 cA zc, cA5 cA zc]) [1, 2, 3, 4, 5] (by decide) rfl
          have hKc := hK.sub (tys' := [(cA 0, .int)]) [0] rfl
          have hFc := va_free (wc := [cLo zc, cA2 cA zc, cA3 cA zc, cA4 cA zc, cA5 cA zc]) hD hS hA [1, 2, 3, 4, 5] rfl
          refine va_callv (va_runV (As := []) (rest := []) ⟨hx, hb, hml, hown, hts⟩ (c_X3_beginTrial l dC dI (cA 0) _ (cs_X zc 0 1) (cs_X zc 0 2) (cs_X zc 0 3) (cs_X zc 0 4) (cs_X zc 0 5) (cs_i zc 0) (cs_I zc 0) (cs_I zc 1) (cs_I zc 2) (cs_I zc 3) ) (cwV 0 hts gX10_find_X3_beginTrial rfl rfl rfl (by decide +kernel) ⟨Nat.le_of_ble_eq_true rfl, Nat.le_of_ble_eq_true rfl⟩) (pw_preV (va_recv hKc hPc (ci := 3) (q0 := 0) rfl rfl) hPc hKc hDc hN) rfl rfl hl.1 rfl (lv_room (Nat.le_of_ble_eq_true rfl)) dX10_find_46 ⟨Nat.le_of_ble_eq_true rfl, Nat.le_of_ble_eq_true rfl⟩) hS (fun q _ h => hFc q h) hFc (fun u t H1 locs ht hvm hw hB hz1 hk1 hS => ?_)
          obtain ⟨hP1, hK1, hD1⟩ := hB
          rw [ht] at hP1
          obtain ⟨hP, hD⟩ := va_join (wr := [cTP zc]) (w1 := [(cs_X zc 0 1, .inr (3, [.ref (cs_X zc 0 2), .ref (cs_X zc 0 3), .ref (cs_X zc 0 4), .ref (cs_X zc 0 5), .int (cs_i zc 0)])), (cs_X zc 0 2, .inl (cA 0, 48, .inl (cs_I zc 0))), (cs_X zc 0 3, .inl (cA 0, 48, .inl (cs_I zc 1))), (cs_X zc 0 4, .inl (cA 0, 48, .inl (cs_I zc 0))), (cs_X zc 0 5, .inl (cA 0, 48, .inl (cs_I zc 1)))]) hP hD [1, 2, 3, 4, 5] [0] rfl rfl (by decide) (by decide) hk1 hFc hP1 hD1
          generalize H1 = H at hP hS ⊢
          have hP : va_P (dC, dI) vwCl [cTP zc, (cs_X zc 0 1, .inr (3, [.ref (cs_X zc 0 2), .ref (cs_X zc 0 3), .ref (cs_X zc 0 4), .ref (cs_X zc 0 5), .int (cs_i zc 0)])), (cs_X zc 0 2, .inl (cA 0, 48, .inl (cs_I zc 0))), (cs_X zc 0 3, .inl (cA 0, 48, .inl (cs_I zc 1))), (cs_X zc 0 4, .inl (cA 0, 48, .inl (cs_I zc 0))), (cs_X zc 0 5, .inl (cA 0, 48, .inl (cs_I zc 1)))] H := hP
          have hD : va_D _ [cTP zc, (cs_X zc 0 1, .inr (3, [.ref (cs_X zc 0 2), .ref (cs_X zc 0 3), .ref (cs_X zc 0 4), .ref (cs_X zc 0 5), .int (cs_i zc 0)])), (cs_X zc 0 2, .inl (cA 0, 48, .inl (cs_I zc 0))), (cs_X zc 0 3, .inl (cA 0, 48, .inl (cs_I zc 1))), (cs_X zc 0 4, .inl (cA 0, 48, .inl (cs_I zc 0))), (cs_X zc 0 5, .inl (cA 0, 48, .inl (cs_I zc 1)))] := hD
          refine lv_aload_n hx hb dX10_find_49 rfl (lv_at hl 0 rfl) ?_
          refine va_get (D := (dC, dI)) (ci := 10) (v := .ref (cs_X zc 0 1)) (C := RX10) (T := TX10) (N := 13) hx hb hts hiX10 hown hK hP 0 rfl rfl 0 (by decide) (hts (.fieldLink RX10 12 "TributePitches" "lode" "LTributePitches$Lode;") (by decide +kernel)) (fun _ h9 => h9) rfl dX10_find_50 ?_
          refine lv_iload_n hx hb dX10_find_53 rfl (lv_at hl 1 rfl) ?_
          refine lv_iload_n hx hb dX10_find_54 rfl (lv_at hl 2 rfl) ?_
          refine vp_callSi (va_Run.run (va_runS (As := [.int x, .int y]) (rest := [.ref (cs_X zc 0 1)]) ⟨hx, hb, hml, hown, hts⟩ (c_X3_numberOf l x y ) (va_cwS 2 hts gX10_find_X3_numberOf rfl rfl rfl (by decide +kernel) ⟨Nat.le_of_ble_eq_true rfl, Nat.le_of_ble_eq_true rfl⟩) (p0_preS hN) rfl rfl hl.1 rfl (lv_room (Nat.le_of_ble_eq_true rfl)) dX10_find_55 ⟨Nat.le_of_ble_eq_true rfl, Nat.le_of_ble_eq_true rfl⟩)) (fun r9 hr9 => ?_)
          have hr9 : r9 = 8 * y + x := hr9
          obtain ⟨sq, hsq, esq⟩ := sqN c2
          rw [esq] at hr9
          subst hr9
          refine lv_iload_n hx hb dX10_find_58 rfl (lv_at hl 3 rfl) ?_
          refine lv_iload hx hb dX10_find_59 (lv_at hl 4 rfl) ?_
          have hPc := hP.sub (ws' := [(cs_X zc 0 1, .inr (3, [.ref (cs_X zc 0 2), .ref (cs_X zc 0 3), .ref (cs_X zc 0 4), .ref (cs_X zc 0 5), .int (cs_i zc 0)])), (cs_X zc 0 4, .inl (cA 0, 48, .inl (cs_I zc 0))), (cs_X zc 0 5, .inl (cA 0, 48, .inl (cs_I zc 1)))]) [1, 4, 5] rfl
          have hDc := hD.sub (ws' := [(cs_X zc 0 1, .inr (3, [.ref (cs_X zc 0 2), .ref (cs_X zc 0 3), .ref (cs_X zc 0 4), .ref (cs_X zc 0 5), .int (cs_i zc 0)])), (cs_X zc 0 4, .inl (cA 0, 48, .inl (cs_I zc 0))), (cs_X zc 0 5, .inl (cA 0, 48, .inl (cs_I zc 1)))]) [1, 4, 5] (by decide) rfl
          have hKc := hK.sub (tys' := [(cA 0, .int)]) [0] rfl
          have hFc := va_free (wc := [(cs_X zc 0 1, .inr (3, [.ref (cs_X zc 0 2), .ref (cs_X zc 0 3), .ref (cs_X zc 0 4), .ref (cs_X zc 0 5), .int (cs_i zc 0)])), (cs_X zc 0 4, .inl (cA 0, 48, .inl (cs_I zc 0))), (cs_X zc 0 5, .inl (cA 0, 48, .inl (cs_I zc 1)))]) hD hS hA [1, 4, 5] rfl
          refine va_callv (va_runV (As := [.int (nI sq), .int lo, .int hi]) (rest := []) ⟨hx, hb, hml, hown, hts⟩ (s_tryCommon l dC dI (cA 0) _ (cs_X zc 0 1) (cs_X zc 0 4) (cs_X zc 0 5) sq (.ref (cs_X zc 0 2)) (.ref (cs_X zc 0 3)) (.int (cs_i zc 0)) lo hi (cs_I zc 0) (cs_I zc 1) hsq) (cwV 3 hts gX10_find_X3_tryCommon rfl rfl rfl (by decide +kernel) ⟨Nat.le_of_ble_eq_true rfl, Nat.le_of_ble_eq_true rfl⟩) (pw_preV (va_recv hKc hPc (ci := 3) (q0 := 0) rfl rfl) hPc hKc hDc hN) rfl rfl hl.1 rfl (lv_room (Nat.le_of_ble_eq_true rfl)) dX10_find_61 ⟨Nat.le_of_ble_eq_true rfl, Nat.le_of_ble_eq_true rfl⟩) hS (fun q _ h => hFc q h) hFc (fun u t H1 locs ht hvm hw hB hz1 hk1 hS => ?_)
          obtain ⟨hP1, hK1, hD1⟩ := hB
          rw [ht] at hP1
          obtain ⟨hP, hD⟩ := va_join (wr := [cTP zc, (cs_X zc 0 2, .inl (cA 0, 48, .inl (cs_I zc 0))), (cs_X zc 0 3, .inl (cA 0, 48, .inl (cs_I zc 1)))]) (w1 := [(cs_X zc 0 1, .inr (3, [.ref (cs_X zc 0 2), .ref (cs_X zc 0 3), .ref (cs_X zc 0 4), .ref (cs_X zc 0 5), .int (cs_i zc 0)])), (cs_X zc 0 4, .inl (cA 0, 48, .inl (tcL sq lo (cs_I zc 0)))), (cs_X zc 0 5, .inl (cA 0, 48, .inl (tcH sq hi (cs_I zc 1))))]) hP hD [1, 4, 5] [0, 2, 3] rfl rfl (by decide) (by decide) hk1 hFc hP1 hD1
          generalize H1 = H at hP hS ⊢
          have hP : va_P (dC, dI) vwCl [cTP zc, (cs_X zc 0 2, .inl (cA 0, 48, .inl (cs_I zc 0))), (cs_X zc 0 3, .inl (cA 0, 48, .inl (cs_I zc 1))), (cs_X zc 0 1, .inr (3, [.ref (cs_X zc 0 2), .ref (cs_X zc 0 3), .ref (cs_X zc 0 4), .ref (cs_X zc 0 5), .int (cs_i zc 0)])), (cs_X zc 0 4, .inl (cA 0, 48, .inl (tcL sq lo (cs_I zc 0)))), (cs_X zc 0 5, .inl (cA 0, 48, .inl (tcH sq hi (cs_I zc 1))))] H := hP
          have hD : va_D _ [cTP zc, (cs_X zc 0 2, .inl (cA 0, 48, .inl (cs_I zc 0))), (cs_X zc 0 3, .inl (cA 0, 48, .inl (cs_I zc 1))), (cs_X zc 0 1, .inr (3, [.ref (cs_X zc 0 2), .ref (cs_X zc 0 3), .ref (cs_X zc 0 4), .ref (cs_X zc 0 5), .int (cs_i zc 0)])), (cs_X zc 0 4, .inl (cA 0, 48, .inl (tcL sq lo (cs_I zc 0)))), (cs_X zc 0 5, .inl (cA 0, 48, .inl (tcH sq hi (cs_I zc 1))))] := hD
          refine lv_aload_n hx hb dX10_find_64 rfl (lv_at hl 0 rfl) ?_
          refine va_get (D := (dC, dI)) (ci := 10) (v := .ref (cs_X zc 0 1)) (C := RX10) (T := TX10) (N := 13) hx hb hts hiX10 hown hK hP 0 rfl rfl 0 (by decide) (hts (.fieldLink RX10 12 "TributePitches" "lode" "LTributePitches$Lode;") (by decide +kernel)) (fun _ h9 => h9) rfl dX10_find_65 ?_
          refine lv_aload_n hx hb dX10_find_68 rfl (lv_at hl 0 rfl) ?_
          refine va_get (D := (dC, dI)) (ci := 10) (v := .ref (cs_X zc 0 1)) (C := RX10) (T := TX10) (N := 13) hx hb hts hiX10 hown hK hP 0 rfl rfl 0 (by decide) (hts (.fieldLink RX10 12 "TributePitches" "lode" "LTributePitches$Lode;") (by decide +kernel)) (fun _ h9 => h9) rfl dX10_find_69 ?_
          refine va_get (D := (dC, dI)) (ci := 3) (v := .int (cs_i zc 0)) (C := RX3) (T := TX3) (N := 5) hx hb hts hiX3 hown hK hP 3 rfl rfl 4 (by decide) (hts (.fieldLink RX10 79 "TributePitches$Lode" "law" "I") (by decide +kernel)) (fun _ h9 => h9) rfl dX10_find_72 ?_
          have hPc := hP.sub (ws' := [(cs_X zc 0 1, .inr (3, [.ref (cs_X zc 0 2), .ref (cs_X zc 0 3), .ref (cs_X zc 0 4), .ref (cs_X zc 0 5), .int (cs_i zc 0)])), (cs_X zc 0 2, .inl (cA 0, 48, .inl (cs_I zc 0))), (cs_X zc 0 3, .inl (cA 0, 48, .inl (cs_I zc 1))), (cs_X zc 0 4, .inl (cA 0, 48, .inl (tcL sq lo (cs_I zc 0)))), (cs_X zc 0 5, .inl (cA 0, 48, .inl (tcH sq hi (cs_I zc 1))))]) [3, 1, 2, 4, 5] rfl
          have hDc := hD.sub (ws' := [(cs_X zc 0 1, .inr (3, [.ref (cs_X zc 0 2), .ref (cs_X zc 0 3), .ref (cs_X zc 0 4), .ref (cs_X zc 0 5), .int (cs_i zc 0)])), (cs_X zc 0 2, .inl (cA 0, 48, .inl (cs_I zc 0))), (cs_X zc 0 3, .inl (cA 0, 48, .inl (cs_I zc 1))), (cs_X zc 0 4, .inl (cA 0, 48, .inl (tcL sq lo (cs_I zc 0)))), (cs_X zc 0 5, .inl (cA 0, 48, .inl (tcH sq hi (cs_I zc 1))))]) [3, 1, 2, 4, 5] (by decide) rfl
          have hKc := hK.sub (tys' := [(cA 0, .int)]) [0] rfl
          have hFc := va_free (wc := [(cs_X zc 0 1, .inr (3, [.ref (cs_X zc 0 2), .ref (cs_X zc 0 3), .ref (cs_X zc 0 4), .ref (cs_X zc 0 5), .int (cs_i zc 0)])), (cs_X zc 0 2, .inl (cA 0, 48, .inl (cs_I zc 0))), (cs_X zc 0 3, .inl (cA 0, 48, .inl (cs_I zc 1))), (cs_X zc 0 4, .inl (cA 0, 48, .inl (tcL sq lo (cs_I zc 0)))), (cs_X zc 0 5, .inl (cA 0, 48, .inl (tcH sq hi (cs_I zc 1))))]) hD hS hA [3, 1, 2, 4, 5] rfl
          refine va_calli (va_runV (As := [.int (cs_i zc 0)]) (rest := []) ⟨hx, hb, hml, hown, hts⟩ (s_endTrial l dC dI (cA 0) _ (cs_X zc 0 1) (cs_X zc 0 2) (cs_X zc 0 3) (cs_X zc 0 4) (cs_X zc 0 5) (cs_i zc 0) (cs_i zc 0) (cs_I zc 0) (cs_I zc 1) (tcL sq lo (cs_I zc 0)) (tcH sq hi (cs_I zc 1)) ) (cwV 1 hts gX10_find_X3_endTrial rfl rfl rfl (by decide +kernel) ⟨Nat.le_of_ble_eq_true rfl, Nat.le_of_ble_eq_true rfl⟩) (pw_preV (va_recv hKc hPc (ci := 3) (q0 := 0) rfl rfl) hPc hKc hDc hN) rfl rfl hl.1 rfl (lv_room (Nat.le_of_ble_eq_true rfl)) dX10_find_75 ⟨Nat.le_of_ble_eq_true rfl, Nat.le_of_ble_eq_true rfl⟩) hS (fun q _ h => hFc q h) hFc (fun r11 u t H1 locs ht hvm hw hB hz1 hk1 hS => ?_)
          obtain ⟨fl1_12, fh1_13, la1_14, tl1_15, th1_16⟩ := u
          have hr11 : (tl1_15 = dnL (cs_i zc 0) (swL (cs_i zc 0) (tcL sq lo (cs_I zc 0)) 48) 48 ∧ th1_16 = dnH (cs_i zc 0) (swH (cs_i zc 0) (tcH sq hi (cs_I zc 1)) 48) 48) ∧ ((r11 = -3 ∧ (∃ j, j < 48 ∧ th1_16 j < tl1_15 j) ∧ fl1_12 = (cs_I zc 0) ∧ fh1_13 = (cs_I zc 1) ∧ la1_14 = (cs_i zc 0)) ∨ (r11 = nI (fa_cnt (chg (cs_I zc 0) (cs_I zc 1) tl1_15 th1_16) 48) ∧ (∀ j, j < 48 → ¬ th1_16 j < tl1_15 j) ∧ fl1_12 = tl1_15 ∧ fh1_13 = th1_16 ∧ la1_14 = (cs_i zc 0))) := hw
          obtain ⟨hP1, hK1, hD1⟩ := hB
          rw [ht] at hP1
          obtain ⟨hP, hD⟩ := va_join (wr := [cTP zc]) (w1 := [(cs_X zc 0 1, .inr (3, [.ref (cs_X zc 0 2), .ref (cs_X zc 0 3), .ref (cs_X zc 0 4), .ref (cs_X zc 0 5), .int la1_14])), (cs_X zc 0 2, .inl (cA 0, 48, .inl fl1_12)), (cs_X zc 0 3, .inl (cA 0, 48, .inl fh1_13)), (cs_X zc 0 4, .inl (cA 0, 48, .inl tl1_15)), (cs_X zc 0 5, .inl (cA 0, 48, .inl th1_16))]) hP hD [3, 1, 2, 4, 5] [0] rfl rfl (by decide) (by decide) hk1 hFc hP1 hD1
          generalize H1 = H at hP hS ⊢
          have hP : va_P (dC, dI) vwCl [cTP zc, (cs_X zc 0 1, .inr (3, [.ref (cs_X zc 0 2), .ref (cs_X zc 0 3), .ref (cs_X zc 0 4), .ref (cs_X zc 0 5), .int la1_14])), (cs_X zc 0 2, .inl (cA 0, 48, .inl fl1_12)), (cs_X zc 0 3, .inl (cA 0, 48, .inl fh1_13)), (cs_X zc 0 4, .inl (cA 0, 48, .inl tl1_15)), (cs_X zc 0 5, .inl (cA 0, 48, .inl th1_16))] H := hP
          have hD : va_D _ [cTP zc, (cs_X zc 0 1, .inr (3, [.ref (cs_X zc 0 2), .ref (cs_X zc 0 3), .ref (cs_X zc 0 4), .ref (cs_X zc 0 5), .int la1_14])), (cs_X zc 0 2, .inl (cA 0, 48, .inl fl1_12)), (cs_X zc 0 3, .inl (cA 0, 48, .inl fh1_13)), (cs_X zc 0 4, .inl (cA 0, 48, .inl tl1_15)), (cs_X zc 0 5, .inl (cA 0, 48, .inl th1_16))] := hD
          subst hQ
          have hP9 : va_P (dC, dI) vwCl [cTP zc, (cs_X zc 0 1, .inr (3, [.ref (cs_X zc 0 2), .ref (cs_X zc 0 3), .ref (cs_X zc 0 4), .ref (cs_X zc 0 5), .int la1_14])), (cs_X zc 0 2, .inl (cA 0, 48, .inl fl1_12)), (cs_X zc 0 3, .inl (cA 0, 48, .inl fh1_13)), (cs_X zc 0 4, .inl (cA 0, 48, .inl tl1_15)), (cs_X zc 0 5, .inl (cA 0, 48, .inl th1_16))] H := hP.sub [0, 1, 2, 3, 4, 5] rfl
          have hD9 : va_D (va_A [cTP zc, cLo zc, cA2 cA zc, cA3 cA zc, cA4 cA zc, cA5 cA zc] s.heap.size) [cTP zc, (cs_X zc 0 1, .inr (3, [.ref (cs_X zc 0 2), .ref (cs_X zc 0 3), .ref (cs_X zc 0 4), .ref (cs_X zc 0 5), .int la1_14])), (cs_X zc 0 2, .inl (cA 0, 48, .inl fl1_12)), (cs_X zc 0 3, .inl (cA 0, 48, .inl fh1_13)), (cs_X zc 0 4, .inl (cA 0, 48, .inl tl1_15)), (cs_X zc 0 5, .inl (cA 0, 48, .inl th1_16))] := hD.sub [0, 1, 2, 3, 4, 5] (by decide) rfl
          have hlf := lf_find_2 cA zc x y lo hi sq fl1_12 fh1_13 la1_14 tl1_15 th1_16 r11 c2 c4 c6 c7 hsq esq hr11 hI
          exact W.iret (v := r11) hx hb hr (fun t ht hW => have hJ := kjoin hPk hDk hks rfl (hS.F ht) (by rw [ht]; exact hP9) hD9 hlf.2.1 hlf.2.2; ⟨⟨r11, (va_up (cs_i zc) 0 la1_14, cs_n zc, va_up (va_up (va_up (va_up (cs_I zc) 0 fl1_12) 1 fh1_13) 2 tl1_15) 3 th1_16, cs_L zc, cs_N zc, cs_S zc, cs_X zc), rfl, ⟨⟨hlf.1, rfl⟩, (Or.inr (Or.inr (Or.inl ⟨c2, c4, c6, c7, sq, hsq, esq, fl1_12, fh1_13, la1_14, tl1_15, th1_16, r11, hr11, rfl, rfl⟩)))⟩, hJ.1, va_K.moved hW.alike hKk, hJ.2.1⟩, hJ.2.2⟩) (fun q h => kAll_A hks _ (hS.2.2 q h)) dX10_find_78
        · skip
          refine lv_bipush (v := (-2)) hx hb dX10_find_39 (by decide) ?_
          subst hQ
          exact W.iret (v := (-2)) hx hb hr (fun t ht hW => ⟨⟨(-2), zc, rfl, ⟨⟨hI, rfl⟩, (Or.inr (Or.inr (Or.inr (Or.inl ⟨c2, c4, c6, c7, rfl, rfl⟩))))⟩, (by rw [ht]; exact hPk), va_K.moved hW.alike hKk, kDA_self hDk⟩, (kw_same hPk ht).2⟩) (fun q h => absurd h List.not_mem_nil) dX10_find_41
  · skip
    have c2 := (fa_bool_prop hr1).1.mp c2
    refine lv_iconst (v := (-1)) hx hb dX10_find_8 (by decide) ?_
    subst hQ
    exact W.iret (v := (-1)) hx hb hr (fun t ht hW => ⟨⟨(-1), zc, rfl, ⟨⟨hI, rfl⟩, (Or.inr (Or.inr (Or.inr (Or.inr ⟨c2, rfl, rfl⟩))))⟩, (by rw [ht]; exact hPk), va_K.moved hW.alike hKk, kDA_self hDk⟩, (kw_same hPk ht).2⟩) (fun q h => absurd h List.not_mem_nil) dX10_find_9
