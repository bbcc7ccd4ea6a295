def pC_debt (zc : CS) (g : Int32) (r : Int64) (u : CS) : Prop :=
  ((∀ j, j < cs_n zc 1 → g ≠ nI j) ∧ r = ((-9223372036854775808)) ∧ u = zc) ∨
  (∃ jg : Nat, g = nI jg ∧ (jg < cs_n zc 1) ∧ (cs_N zc 1 jg = 1) ∧ r = (cs_L zc 0 jg) ∧ u = zc) ∨
  (∃ jg : Nat, g = nI jg ∧ (jg < cs_n zc 1) ∧ (cs_N zc 1 jg = 2) ∧ r = (cs_L zc 0 jg) ∧ u = zc) ∨
  (∃ jg : Nat, g = nI jg ∧ (jg < cs_n zc 1) ∧ (cs_N zc 1 jg = 4) ∧ r = (cs_L zc 0 jg) ∧ u = zc)
set_option maxHeartbeats 4000000 in
set_option maxRecDepth 100000 in
theorem K_debt (l : Launch) (dC : Nat → ClassId) (dI : Nat → Nat → Nat) (cA : Nat → ClassId) (sz : Nat) (zc : CS) (g : Int32) (hI : invC zc) : Met l yX10_debt wsX10_debt ({ frames := 2, cells := 0, slots := 0, locals := 60 }) (kw (dC, dI) (ctys cA) (cF cA zc) sz [.ref (cs_X zc 0 0), .int g]) (kQl (dC, dI) (ctys cA) (cF cA zc) sz (cF cA) (fun r u => (invC u ∧ cs_X u 0 0 = cs_X zc 0 0) ∧ pC_debt zc g r u)) 0 0 (kA (cF cA zc) sz) := by
  refine kw_met (cc := cX10_debt) (maxL := 3) (ret := (some .long)) (by decide) rfl (Nat.le_of_ble_eq_true rfl) ?_
  intro p e s m below meth c0 hx hb hr hml hown hlocks hnm hts hPk hKk hDk hN hsz ls hl
  subst hsz
  have hK : va_K (dC, dI) vwCl [(cA 0, .int), (cA 1, .object RX6), (cA 2, .object RX2), (cA 3, .object RX8), (cA 4, .object RX5), (cA 5, .object RX7)] s := hKk
  obtain ⟨⟨hn0, hn1, hn2, hn3, hn4, hn5⟩, hpi, hgk, htk, hpk, hsh⟩ := id hI
  have hl : lv_has ls 3 [(0, .ref (cs_X zc 0 0)), (1, .int g)] := hl
  have hiX1 : ∀ w ∈ wsX10, w ∈ wsX10_debt := by decide +kernel
  have hiX2 : ∀ w ∈ wsX20, w ∈ wsX10_debt := by decide +kernel
  have hiX4 : ∀ w ∈ wsX40, w ∈ wsX10_debt := by decide +kernel
  generalize hQ : MQ _ _ _ _ _ _ _ = Q
  rcases ixd g (cs_n zc 1) with hnojg | ⟨jg, hjg, rfl⟩
  · skip
    have hks : kAll (cF cA zc) [(0, 0), (0, 7)] [cTP zc, cR7 cA zc] := ⟨(kF_tp (cA := cA) (z := zc)), (kF_r7 (cA := cA) (z := zc)), trivial⟩
    have hP : va_P (dC, dI) vwCl [cTP zc, cR7 cA zc] s.heap := kAll_P hPk hks
    have hD : va_D (va_A [cTP zc, cR7 cA zc] s.heap.size) [cTP zc, cR7 cA zc] := (kAll_D hDk hks (by simp)).self
    have hA : ∀ q : Nat, s.heap.size ≤ q → va_A [cTP zc, cR7 cA zc] s.heap.size q := fun q h => Or.inr h
    have hS : va_S (va_A [cTP zc, cR7 cA zc] s.heap.size) s.heap s.heap [] := va_S.rf
    refine lv_aload_n hx hb dX10_debt_0 rfl (lv_at hl 0 rfl) ?_
    refine lv_iload_n hx hb dX10_debt_1 rfl (lv_at hl 1 rfl) ?_
    have hPc := hP.sub (ws' := [cTP zc]) [0] rfl
    have hDc := hD.sub (ws' := [cTP zc]) [0] (by decide) rfl
    have hKc := hK.sub (tys' := []) [] rfl
    refine va_csq (va_Run.run (va_runV (As := [.int g]) (rest := []) ⟨hx, hb, hml, hown, hts⟩ (s_gangAt_no l dC dI  _ (cs_X zc 0 0) (.ref (cs_X zc 0 1)) (.ref (cs_X zc 0 6)) (.ref (cs_X zc 0 7)) (.ref (cs_X zc 0 8)) (.ref (cs_X zc 0 9)) (.ref (cs_X zc 0 10)) (.ref (cs_X zc 0 11)) (.int (nI (cs_n zc 0))) (.int (nI (cs_n zc 2))) (.int (nI (cs_n zc 3))) (va_rf (opN (cs_n zc 4) (fun _ => cs_X zc 5 0))) (.int (cs_i zc 2)) g (cs_n zc 1) (by omega) hnojg) (cwV 1 hts gX10_debt_X10_gangAt rfl rfl rfl (by decide +kernel) ⟨Nat.le_of_ble_eq_true rfl, Nat.le_of_ble_eq_true rfl⟩) (pw_preV (va_recv hKc hPc (ci := 10) (q0 := 0) rfl rfl) hPc hKc hDc hN) rfl rfl hl.1 rfl (lv_room (Nat.le_of_ble_eq_true rfl)) dX10_debt_2 ⟨Nat.le_of_ble_eq_true rfl, Nat.le_of_ble_eq_true rfl⟩)) (fun r1 hr1 => ?_)
    have hr1 : r1 = none := hr1
    subst hr1
    refine W.eq (g2 := F0 m 5 ls [.null]) rfl ?_
    refine lv_astore_nN (lv' := [(2, .null), (0, .ref (cs_X zc 0 0)), (1, .int g)]) hx hb dX10_debt_5 rfl hl (by decide) rfl (fun ls hl => ?_)
    refine lv_aload_nN hx hb dX10_debt_6 rfl (lv_at hl 0 rfl) ?_
    refine lv_ifnonnullN hx hb dX10_debt_7 ?_
    refine lv_ldc2 (v := (-9223372036854775808)) hx hb hown (hts (.constantLong RX10 137 (-9223372036854775808)) (by decide +kernel)) dX10_debt_10 ?_
    refine lv_goto (tgt := 20) hx hb dX10_debt_13 (by decide) ?_
    subst hQ
    exact W.lret (v := (-9223372036854775808)) hx hb hr (fun t ht hW => ⟨⟨(-9223372036854775808), zc, rfl, ⟨⟨hI, rfl⟩, (Or.inl ⟨hnojg, rfl, rfl⟩)⟩, (by rw [ht]; exact hPk), va_K.moved hW.alike hKk, kDA_self hDk⟩, (kw_same hPk ht).2⟩) (fun q h => absurd h List.not_mem_nil) dX10_debt_20
  · skip
    rcases (hgk jg hjg) with hk | hk | hk
    · skip
      have hks : kAll (cF cA zc) [(0, 0), (0, 7), (2, jg)] [cTP zc, cR7 cA zc, cGaK zc jg 1] := ⟨(kF_tp (cA := cA) (z := zc)), (kF_r7 (cA := cA) (z := zc)), (kF_gaK (z := zc) (j := jg) hjg hk), trivial⟩
      have hP : va_P (dC, dI) vwCl [cTP zc, cR7 cA zc, cGaK zc jg 1] s.heap := kAll_P hPk hks
      have hD : va_D (va_A [cTP zc, cR7 cA zc, cGaK zc jg 1] s.heap.size) [cTP zc, cR7 cA zc, cGaK zc jg 1] := (kAll_D hDk hks (by simp)).self
      have hA : ∀ q : Nat, s.heap.size ≤ q → va_A [cTP zc, cR7 cA zc, cGaK zc jg 1] s.heap.size q := fun q h => Or.inr h
      have hS : va_S (va_A [cTP zc, cR7 cA zc, cGaK zc jg 1] s.heap.size) s.heap s.heap [] := va_S.rf
      refine lv_aload_n hx hb dX10_debt_0 rfl (lv_at hl 0 rfl) ?_
      refine lv_iload_n hx hb dX10_debt_1 rfl (lv_at hl 1 rfl) ?_
      have hPc := hP.sub (ws' := [cTP zc, cR7 cA zc]) [0, 1] rfl
      have hDc := hD.sub (ws' := [cTP zc, cR7 cA zc]) [0, 1] (by decide) rfl
      have hKc := hK.sub (tys' := [(cA 2, .object RX2)]) [2] rfl
      refine va_csq (va_Run.run (va_runV (As := [.int (nI jg)]) (rest := []) ⟨hx, hb, hml, hown, hts⟩ (s_gangAt_yes l dC dI (cA 2) _ (cs_X zc 0 0) (.ref (cs_X zc 0 1)) (.ref (cs_X zc 0 6)) (.ref (cs_X zc 0 8)) (.ref (cs_X zc 0 9)) (.ref (cs_X zc 0 10)) (.ref (cs_X zc 0 11)) (.int (nI (cs_n zc 0))) (.int (nI (cs_n zc 2))) (.int (nI (cs_n zc 3))) (va_rf (opN (cs_n zc 4) (fun _ => cs_X zc 5 0))) (.int (cs_i zc 2)) (cs_X zc 0 7) jg (cs_n zc 1) (cs_X zc 2 jg) (rfN (cs_n zc 1) (cs_X zc 2)) hjg (by omega) (rfN_at hjg)) (cwV 1 hts gX10_debt_X10_gangAt rfl rfl rfl (by decide +kernel) ⟨Nat.le_of_ble_eq_true rfl, Nat.le_of_ble_eq_true rfl⟩) (pw_preV (va_recv hKc hPc (ci := 10) (q0 := 0) rfl rfl) hPc hKc hDc hN) rfl rfl hl.1 rfl (lv_room (Nat.le_of_ble_eq_true rfl)) dX10_debt_2 ⟨Nat.le_of_ble_eq_true rfl, Nat.le_of_ble_eq_true rfl⟩)) (fun r2 hr2 => ?_)
      have hr2 : r2 = some (cs_X zc 2 jg) := hr2
      subst hr2
      refine W.eq (g2 := F0 m 5 ls [.ref (cs_X zc 2 jg)]) rfl ?_
      refine lv_astore_n (lv' := [(2, .ref (cs_X zc 2 jg)), (0, .ref (cs_X zc 0 0)), (1, .int (nI jg))]) hx hb dX10_debt_5 rfl hl (by decide) rfl (fun ls hl => ?_)
      refine lv_aload_n hx hb dX10_debt_6 rfl (lv_at hl 0 rfl) ?_
      refine lv_ifnonnull (tgt := 16) hx hb dX10_debt_7 (by decide) ?_
      refine lv_aload_n hx hb dX10_debt_16 rfl (lv_at hl 0 rfl) ?_
      refine va_get (D := (dC, dI)) (ci := 1) (v := .long (cs_L zc 0 jg)) (C := RX1) (T := TX1) (N := 4) hx hb hts hiX1 hown hK hP 2 rfl rfl 3 (by decide) (hts (.fieldLink RX10 271 "TributePitches$Gang" "owed" "J") (by decide +kernel)) (fun _ h9 => h9) rfl dX10_debt_17 ?_
      subst hQ
      exact W.lret (v := cs_L zc 0 jg) hx hb hr (fun t ht hW => ⟨⟨cs_L zc 0 jg, zc, rfl, ⟨⟨hI, rfl⟩, (Or.inr (Or.inl ⟨jg, rfl, hjg, hk, rfl, rfl⟩))⟩, (by rw [ht]; exact hPk), va_K.moved hW.alike hKk, kDA_self hDk⟩, (kw_same hPk ht).2⟩) (fun q h => absurd h List.not_mem_nil) dX10_debt_20
    · skip
      have hks : kAll (cF cA zc) [(0, 0), (0, 7), (2, jg)] [cTP zc, cR7 cA zc, cGaK zc jg 2] := ⟨(kF_tp (cA := cA) (z := zc)), (kF_r7 (cA := cA) (z := zc)), (kF_gaK (z := zc) (j := jg) hjg hk), trivial⟩
      have hP : va_P (dC, dI) vwCl [cTP zc, cR7 cA zc, cGaK zc jg 2] s.heap := kAll_P hPk hks
      have hD : va_D (va_A [cTP zc, cR7 cA zc, cGaK zc jg 2] s.heap.size) [cTP zc, cR7 cA zc, cGaK zc jg 2] := (kAll_D hDk hks (by simp)).self
      have hA : ∀ q : Nat, s.heap.size ≤ q → va_A [cTP zc, cR7 cA zc, cGaK zc jg 2] s.heap.size q := fun q h => Or.inr h
      have hS : va_S (va_A [cTP zc, cR7 cA zc, cGaK zc jg 2] s.heap.size) s.heap s.heap [] := va_S.rf
      refine lv_aload_n hx hb dX10_debt_0 rfl (lv_at hl 0 rfl) ?_
      refine lv_iload_n hx hb dX10_debt_1 rfl (lv_at hl 1 rfl) ?_
      have hPc := hP.sub (ws' := [cTP zc, cR7 cA zc]) [0, 1] rfl
      have hDc := hD.sub (ws' := [cTP zc, cR7 cA zc]) [0, 1] (by decide) rfl
      have hKc := hK.sub (tys' := [(cA 2, .object RX2)]) [2] rfl
      refine va_csq (va_Run.run (va_runV (As := [.int (nI jg)]) (rest := []) ⟨hx, hb, hml, hown, hts⟩ (s_gangAt_yes l dC dI (cA 2) _ (cs_X zc 0 0) (.ref (cs_X zc 0 1)) (.ref (cs_X zc 0 6)) (.ref (cs_X zc 0 8)) (.ref (cs_X zc 0 9)) (.ref (cs_X zc 0 10)) (.ref (cs_X zc 0 11)) (.int (nI (cs_n zc 0))) (.int (nI (cs_n zc 2))) (.int (nI (cs_n zc 3))) (va_rf (opN (cs_n zc 4) (fun _ => cs_X zc 5 0))) (.int (cs_i zc 2)) (cs_X zc 0 7) jg (cs_n zc 1) (cs_X zc 2 jg) (rfN (cs_n zc 1) (cs_X zc 2)) hjg (by omega) (rfN_at hjg)) (cwV 1 hts gX10_debt_X10_gangAt rfl rfl rfl (by decide +kernel) ⟨Nat.le_of_ble_eq_true rfl, Nat.le_of_ble_eq_true rfl⟩) (pw_preV (va_recv hKc hPc (ci := 10) (q0 := 0) rfl rfl) hPc hKc hDc hN) rfl rfl hl.1 rfl (lv_room (Nat.le_of_ble_eq_true rfl)) dX10_debt_2 ⟨Nat.le_of_ble_eq_true rfl, Nat.le_of_ble_eq_true rfl⟩)) (fun r3 hr3 => ?_)
      have hr3 : r3 = some (cs_X zc 2 jg) := hr3
      subst hr3
      refine W.eq (g2 := F0 m 5 ls [.ref (cs_X zc 2 jg)]) rfl ?_
      refine lv_astore_n (lv' := [(2, .ref (cs_X zc 2 jg)), (0, .ref (cs_X zc 0 0)), (1, .int (nI jg))]) hx hb dX10_debt_5 rfl hl (by decide) rfl (fun ls hl => ?_)
      refine lv_aload_n hx hb dX10_debt_6 rfl (lv_at hl 0 rfl) ?_
      refine lv_ifnonnull (tgt := 16) hx hb dX10_debt_7 (by decide) ?_
      refine lv_aload_n hx hb dX10_debt_16 rfl (lv_at hl 0 rfl) ?_
      refine va_get (D := (dC, dI)) (ci := 2) (v := .long (cs_L zc 0 jg)) (C := RX2) (T := TX2) (N := 4) hx hb hts hiX2 hown hK hP 2 rfl rfl 3 (by decide) (hts (.fieldLink RX10 271 "TributePitches$Gang" "owed" "J") (by decide +kernel)) (fun _ h9 => h9) rfl dX10_debt_17 ?_
      subst hQ
      exact W.lret (v := cs_L zc 0 jg) hx hb hr (fun t ht hW => ⟨⟨cs_L zc 0 jg, zc, rfl, ⟨⟨hI, rfl⟩, (Or.inr (Or.inr (Or.inl ⟨jg, rfl, hjg, hk, rfl, rfl⟩)))⟩, (by rw [ht]; exact hPk), va_K.moved hW.alike hKk, kDA_self hDk⟩, (kw_same hPk ht).2⟩) (fun q h => absurd h List.not_mem_nil) dX10_debt_20
    · skip
      have hks : kAll (cF cA zc) [(0, 0), (0, 7), (2, jg)] [cTP zc, cR7 cA zc, cGaK zc jg 4] := ⟨(kF_tp (cA := cA) (z := zc)), (kF_r7 (cA := cA) (z := zc)), (kF_gaK (z := zc) (j := jg) hjg hk), trivial⟩
      have hP : va_P (dC, dI) vwCl [cTP zc, cR7 cA zc, cGaK zc jg 4] s.heap := kAll_P hPk hks
      have hD : va_D (va_A [cTP zc, cR7 cA zc, cGaK zc jg 4] s.heap.size) [cTP zc, cR7 cA zc, cGaK zc jg 4] := (kAll_D hDk hks (by simp)).self
      have hA : ∀ q : Nat, s.heap.size ≤ q → va_A [cTP zc, cR7 cA zc, cGaK zc jg 4] s.heap.size q := fun q h => Or.inr h
      have hS : va_S (va_A [cTP zc, cR7 cA zc, cGaK zc jg 4] s.heap.size) s.heap s.heap [] := va_S.rf
      refine lv_aload_n hx hb dX10_debt_0 rfl (lv_at hl 0 rfl) ?_
      refine lv_iload_n hx hb dX10_debt_1 rfl (lv_at hl 1 rfl) ?_
      have hPc := hP.sub (ws' := [cTP zc, cR7 cA zc]) [0, 1] rfl
      have hDc := hD.sub (ws' := [cTP zc, cR7 cA zc]) [0, 1] (by decide) rfl
      have hKc := hK.sub (tys' := [(cA 2, .object RX2)]) [2] rfl
      refine va_csq (va_Run.run (va_runV (As := [.int (nI jg)]) (rest := []) ⟨hx, hb, hml, hown, hts⟩ (s_gangAt_yes l dC dI (cA 2) _ (cs_X zc 0 0) (.ref (cs_X zc 0 1)) (.ref (cs_X zc 0 6)) (.ref (cs_X zc 0 8)) (.ref (cs_X zc 0 9)) (.ref (cs_X zc 0 10)) (.ref (cs_X zc 0 11)) (.int (nI (cs_n zc 0))) (.int (nI (cs_n zc 2))) (.int (nI (cs_n zc 3))) (va_rf (opN (cs_n zc 4) (fun _ => cs_X zc 5 0))) (.int (cs_i zc 2)) (cs_X zc 0 7) jg (cs_n zc 1) (cs_X zc 2 jg) (rfN (cs_n zc 1) (cs_X zc 2)) hjg (by omega) (rfN_at hjg)) (cwV 1 hts gX10_debt_X10_gangAt rfl rfl rfl (by decide +kernel) ⟨Nat.le_of_ble_eq_true rfl, Nat.le_of_ble_eq_true rfl⟩) (pw_preV (va_recv hKc hPc (ci := 10) (q0 := 0) rfl rfl) hPc hKc hDc hN) rfl rfl hl.1 rfl (lv_room (Nat.le_of_ble_eq_true rfl)) dX10_debt_2 ⟨Nat.le_of_ble_eq_true rfl, Nat.le_of_ble_eq_true rfl⟩)) (fun r4 hr4 => ?_)
      have hr4 : r4 = some (cs_X zc 2 jg) := hr4
      subst hr4
      refine W.eq (g2 := F0 m 5 ls [.ref (cs_X zc 2 jg)]) rfl ?_
      refine lv_astore_n (lv' := [(2, .ref (cs_X zc 2 jg)), (0, .ref (cs_X zc 0 0)), (1, .int (nI jg))]) hx hb dX10_debt_5 rfl hl (by decide) rfl (fun ls hl => ?_)
      refine lv_aload_n hx hb dX10_debt_6 rfl (lv_at hl 0 rfl) ?_
      refine lv_ifnonnull (tgt := 16) hx hb dX10_debt_7 (by decide) ?_
      refine lv_aload_n hx hb dX10_debt_16 rfl (lv_at hl 0 rfl) ?_
      refine va_get (D := (dC, dI)) (ci := 4) (v := .long (cs_L zc 0 jg)) (C := RX4) (T := TX4) (N := 4) hx hb hts hiX4 hown hK hP 2 rfl rfl 3 (by decide) (hts (.fieldLink RX10 271 "TributePitches$Gang" "owed" "J") (by decide +kernel)) (fun _ h9 => h9) rfl dX10_debt_17 ?_
      subst hQ
      exact W.lret (v := cs_L zc 0 jg) hx hb hr (fun t ht hW => ⟨⟨cs_L zc 0 jg, zc, rfl, ⟨⟨hI, rfl⟩, (Or.inr (Or.inr (Or.inr ⟨jg, rfl, hjg, hk, rfl, rfl⟩)))⟩, (by rw [ht]; exact hPk), va_K.moved hW.alike hKk, kDA_self hDk⟩, (kw_same hPk ht).2⟩) (fun q h => absurd h List.not_mem_nil) dX10_debt_20
