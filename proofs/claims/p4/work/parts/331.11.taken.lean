def pC_taken (zc : CS) (t : Int32) (wh : Int32) (r : Int32) (u : CS) : Prop :=
  ((∀ j, j < cs_n zc 2 → t ≠ nI j) ∧ r = ((-1)) ∧ u = zc) ∨
  (∃ jt : Nat, t = nI jt ∧ (jt < cs_n zc 2) ∧ (cs_N zc 1 (cs_N zc 2 jt) = 1) ∧ wh = 0 ∧ r = (nI (cs_N zc 2 jt)) ∧ u = zc) ∨
  (∃ jt : Nat, t = nI jt ∧ (jt < cs_n zc 2) ∧ (cs_N zc 1 (cs_N zc 2 jt) = 1) ∧ wh = 1 ∧ r = (nI (cs_N zc 3 jt)) ∧ u = zc) ∨
  (∃ jt : Nat, t = nI jt ∧ (jt < cs_n zc 2) ∧ (cs_N zc 1 (cs_N zc 2 jt) = 1) ∧ wh = 2 ∧ r = (cs_I zc 31 jt) ∧ u = zc) ∨
  (∃ jt : Nat, t = nI jt ∧ (jt < cs_n zc 2) ∧ (cs_N zc 1 (cs_N zc 2 jt) = 1) ∧ wh = 3 ∧ ((cs_I zc 33 jt) = 0) ∧ r = (0) ∧ u = zc) ∨
  (∃ jt : Nat, t = nI jt ∧ (jt < cs_n zc 2) ∧ (cs_N zc 1 (cs_N zc 2 jt) = 1) ∧ wh = 3 ∧ (¬ (cs_I zc 33 jt) = 0) ∧ r = (1) ∧ u = zc) ∨
  (∃ jt : Nat, t = nI jt ∧ (jt < cs_n zc 2) ∧ (cs_N zc 1 (cs_N zc 2 jt) = 1) ∧ wh = 4 ∧ r = (cs_I zc 32 jt) ∧ u = zc) ∨
  (∃ jt : Nat, t = nI jt ∧ (jt < cs_n zc 2) ∧ (cs_N zc 1 (cs_N zc 2 jt) = 1) ∧ (¬ wh = 0) ∧ (¬ wh = 1) ∧ (¬ wh = 2) ∧ (¬ wh = 3) ∧ (¬ wh = 4) ∧ r = ((-2)) ∧ u = zc) ∨
  (∃ jt : Nat, t = nI jt ∧ (jt < cs_n zc 2) ∧ (cs_N zc 1 (cs_N zc 2 jt) = 2) ∧ wh = 0 ∧ r = (nI (cs_N zc 2 jt)) ∧ u = zc) ∨
  (∃ jt : Nat, t = nI jt ∧ (jt < cs_n zc 2) ∧ (cs_N zc 1 (cs_N zc 2 jt) = 2) ∧ wh = 1 ∧ r = (nI (cs_N zc 3 jt)) ∧ u = zc) ∨
  (∃ jt : Nat, t = nI jt ∧ (jt < cs_n zc 2) ∧ (cs_N zc 1 (cs_N zc 2 jt) = 2) ∧ wh = 2 ∧ r = (cs_I zc 31 jt) ∧ u = zc) ∨
  (∃ jt : Nat, t = nI jt ∧ (jt < cs_n zc 2) ∧ (cs_N zc 1 (cs_N zc 2 jt) = 2) ∧ wh = 3 ∧ ((cs_I zc 33 jt) = 0) ∧ r = (0) ∧ u = zc) ∨
  (∃ jt : Nat, t = nI jt ∧ (jt < cs_n zc 2) ∧ (cs_N zc 1 (cs_N zc 2 jt) = 2) ∧ wh = 3 ∧ (¬ (cs_I zc 33 jt) = 0) ∧ r = (1) ∧ u = zc) ∨
  (∃ jt : Nat, t = nI jt ∧ (jt < cs_n zc 2) ∧ (cs_N zc 1 (cs_N zc 2 jt) = 2) ∧ wh = 4 ∧ r = (cs_I zc 32 jt) ∧ u = zc) ∨
  (∃ jt : Nat, t = nI jt ∧ (jt < cs_n zc 2) ∧ (cs_N zc 1 (cs_N zc 2 jt) = 2) ∧ (¬ wh = 0) ∧ (¬ wh = 1) ∧ (¬ wh = 2) ∧ (¬ wh = 3) ∧ (¬ wh = 4) ∧ r = ((-2)) ∧ u = zc) ∨
  (∃ jt : Nat, t = nI jt ∧ (jt < cs_n zc 2) ∧ (cs_N zc 1 (cs_N zc 2 jt) = 4) ∧ wh = 0 ∧ r = (nI (cs_N zc 2 jt)) ∧ u = zc) ∨
  (∃ jt : Nat, t = nI jt ∧ (jt < cs_n zc 2) ∧ (cs_N zc 1 (cs_N zc 2 jt) = 4) ∧ wh = 1 ∧ r = (nI (cs_N zc 3 jt)) ∧ u = zc) ∨
  (∃ jt : Nat, t = nI jt ∧ (jt < cs_n zc 2) ∧ (cs_N zc 1 (cs_N zc 2 jt) = 4) ∧ wh = 2 ∧ r = (cs_I zc 31 jt) ∧ u = zc) ∨
  (∃ jt : Nat, t = nI jt ∧ (jt < cs_n zc 2) ∧ (cs_N zc 1 (cs_N zc 2 jt) = 4) ∧ wh = 3 ∧ ((cs_I zc 33 jt) = 0) ∧ r = (0) ∧ u = zc) ∨
  (∃ jt : Nat, t = nI jt ∧ (jt < cs_n zc 2) ∧ (cs_N zc 1 (cs_N zc 2 jt) = 4) ∧ wh = 3 ∧ (¬ (cs_I zc 33 jt) = 0) ∧ r = (1) ∧ u = zc) ∨
  (∃ jt : Nat, t = nI jt ∧ (jt < cs_n zc 2) ∧ (cs_N zc 1 (cs_N zc 2 jt) = 4) ∧ wh = 4 ∧ r = (cs_I zc 32 jt) ∧ u = zc) ∨
  (∃ jt : Nat, t = nI jt ∧ (jt < cs_n zc 2) ∧ (cs_N zc 1 (cs_N zc 2 jt) = 4) ∧ (¬ wh = 0) ∧ (¬ wh = 1) ∧ (¬ wh = 2) ∧ (¬ wh = 3) ∧ (¬ wh = 4) ∧ r = ((-2)) ∧ u = zc)
set_option maxHeartbeats 4000000 in
set_option maxRecDepth 100000 in
theorem K_taken (l : Launch) (dC : Nat → ClassId) (dI : Nat → Nat → Nat) (cA : Nat → ClassId) (sz : Nat) (zc : CS) (t : Int32) (wh : Int32) (hI : invC zc) : Met l yX10_taken wsX10_taken ({ frames := 2, cells := 0, slots := 0, locals := 60 }) (kw (dC, dI) (ctys cA) (cF cA zc) sz [.ref (cs_X zc 0 0), .int t, .int wh]) (kQi (dC, dI) (ctys cA) (cF cA zc) sz (cF cA) (fun r u => (invC u ∧ cs_X u 0 0 = cs_X zc 0 0) ∧ pC_taken zc t wh r u)) 0 0 (kA (cF cA zc) sz) := by
  refine kw_met (cc := cX10_taken) (maxL := 4) (ret := (some .int)) (by decide) rfl (Nat.le_of_ble_eq_true rfl) ?_
  intro p e s m below meth c0 hx hb hr hml hown hlocks hnm hts hPk hKk hDk hN hsz ls hl
  subst hsz
  have hK : va_K (dC, dI) vwCl [(cA 0, .int), (cA 1, .object RX6), (cA 2, .object RX2), (cA 3, .object RX8), (cA 4, .object RX5), (cA 5, .object RX7)] s := hKk
  obtain ⟨⟨hn0, hn1, hn2, hn3, hn4, hn5⟩, hpi, hgk, htk, hpk, hsh⟩ := id hI
  have hl : lv_has ls 4 [(0, .ref (cs_X zc 0 0)), (1, .int t), (2, .int wh)] := hl
  have hiX1 : ∀ w ∈ wsX10, w ∈ wsX10_taken := by decide +kernel
  have hiX2 : ∀ w ∈ wsX20, w ∈ wsX10_taken := by decide +kernel
  have hiX4 : ∀ w ∈ wsX40, w ∈ wsX10_taken := by decide +kernel
  have hiX6 : ∀ w ∈ wsX60, w ∈ wsX10_taken := by decide +kernel
  have hiX8 : ∀ w ∈ wsX80, w ∈ wsX10_taken := by decide +kernel
  generalize hQ : MQ _ _ _ _ _ _ _ = Q
  rcases ixd t (cs_n zc 2) with hnojt | ⟨jt, hjt, rfl⟩
  · skip
    have hks : kAll (cF cA zc) [(0, 0), (0, 8)] [cTP zc, cR8 cA zc] := ⟨(kF_tp (cA := cA) (z := zc)), (kF_r8 (cA := cA) (z := zc)), trivial⟩
    have hP : va_P (dC, dI) vwCl [cTP zc, cR8 cA zc] s.heap := kAll_P hPk hks
    have hD : va_D (va_A [cTP zc, cR8 cA zc] s.heap.size) [cTP zc, cR8 cA zc] := (kAll_D hDk hks (by simp)).self
    have hA : ∀ q : Nat, s.heap.size ≤ q → va_A [cTP zc, cR8 cA zc] s.heap.size q := fun q h => Or.inr h
    have hS : va_S (va_A [cTP zc, cR8 cA zc] s.heap.size) s.heap s.heap [] := va_S.rf
    refine lv_aload_n hx hb dX10_taken_0 rfl (lv_at hl 0 rfl) ?_
    refine lv_iload_n hx hb dX10_taken_1 rfl (lv_at hl 1 rfl) ?_
    have hPc := hP.sub (ws' := [cTP zc]) [0] rfl
    have hDc := hD.sub (ws' := [cTP zc]) [0] (by decide) rfl
    have hKc := hK.sub (tys' := []) [] rfl
    refine va_csq (va_Run.run (va_runV (As := [.int t]) (rest := []) ⟨hx, hb, hml, hown, hts⟩ (s_takeAt_no l dC dI  _ (cs_X zc 0 0) (.ref (cs_X zc 0 1)) (.ref (cs_X zc 0 6)) (.ref (cs_X zc 0 7)) (.ref (cs_X zc 0 8)) (.ref (cs_X zc 0 9)) (.ref (cs_X zc 0 10)) (.ref (cs_X zc 0 11)) (.int (nI (cs_n zc 0))) (.int (nI (cs_n zc 1))) (.int (nI (cs_n zc 3))) (va_rf (opN (cs_n zc 4) (fun _ => cs_X zc 5 0))) (.int (cs_i zc 2)) t (cs_n zc 2) (by omega) hnojt) (cwV 1 hts gX10_taken_X10_takeAt rfl rfl rfl (by decide +kernel) ⟨Nat.le_of_ble_eq_true rfl, Nat.le_of_ble_eq_true rfl⟩) (pw_preV (va_recv hKc hPc (ci := 10) (q0 := 0) rfl rfl) hPc hKc hDc hN) rfl rfl hl.1 rfl (lv_room (Nat.le_of_ble_eq_true rfl)) dX10_taken_2 ⟨Nat.le_of_ble_eq_true rfl, Nat.le_of_ble_eq_true rfl⟩)) (fun r1 hr1 => ?_)
    have hr1 : r1 = none := hr1
    subst hr1
    refine W.eq (g2 := F0 m 5 ls [.null]) rfl ?_
    refine lv_astore_nN (lv' := [(3, .null), (0, .ref (cs_X zc 0 0)), (1, .int t), (2, .int wh)]) hx hb dX10_taken_5 rfl hl (by decide) rfl (fun ls hl => ?_)
    refine lv_aload_nN hx hb dX10_taken_6 rfl (lv_at hl 0 rfl) ?_
    refine lv_ifnonnullN hx hb dX10_taken_7 ?_
    refine lv_iconst (v := (-1)) hx hb dX10_taken_10 (by decide) ?_
    subst hQ
    exact W.iret (v := (-1)) hx hb hr (fun t ht hW => ⟨⟨(-1), zc, rfl, ⟨⟨hI, rfl⟩, (Or.inl ⟨hnojt, rfl, rfl⟩)⟩, (by rw [ht]; exact hPk), va_K.moved hW.alike hKk, kDA_self hDk⟩, (kw_same hPk ht).2⟩) (fun q h => absurd h List.not_mem_nil) dX10_taken_11
  · skip
    rcases (hgk (cs_N zc 2 jt) (htk jt hjt).1) with hk | hk | hk
    · skip
      have hks : kAll (cF cA zc) [(0, 0), (0, 8), (3, jt), (2, cs_N zc 2 jt), (1, cs_N zc 3 jt)] [cTP zc, cR8 cA zc, cTa zc jt, cGaK zc (cs_N zc 2 jt) 1, cPi zc (cs_N zc 3 jt)] := ⟨(kF_tp (cA := cA) (z := zc)), (kF_r8 (cA := cA) (z := zc)), (kF_ta (z := zc) hjt), (kF_gaK (z := zc) (j := cs_N zc 2 jt) (htk jt hjt).1 hk), (kF_pi (z := zc) (j := cs_N zc 3 jt) (htk jt hjt).2), trivial⟩
      have hP : va_P (dC, dI) vwCl [cTP zc, cR8 cA zc, cTa zc jt, cGaK zc (cs_N zc 2 jt) 1, cPi zc (cs_N zc 3 jt)] s.heap := kAll_P hPk hks
      have hD : va_D (va_A [cTP zc, cR8 cA zc, cTa zc jt, cGaK zc (cs_N zc 2 jt) 1, cPi zc (cs_N zc 3 jt)] s.heap.size) [cTP zc, cR8 cA zc, cTa zc jt, cGaK zc (cs_N zc 2 jt) 1, cPi zc (cs_N zc 3 jt)] := (kAll_D hDk hks (by simp)).self
      have hA : ∀ q : Nat, s.heap.size ≤ q → va_A [cTP zc, cR8 cA zc, cTa zc jt, cGaK zc (cs_N zc 2 jt) 1, cPi zc (cs_N zc 3 jt)] s.heap.size q := fun q h => Or.inr h
      have hS : va_S (va_A [cTP zc, cR8 cA zc, cTa zc jt, cGaK zc (cs_N zc 2 jt) 1, cPi zc (cs_N zc 3 jt)] s.heap.size) s.heap s.heap [] := va_S.rf
      refine lv_aload_n hx hb dX10_taken_0 rfl (lv_at hl 0 rfl) ?_
      refine lv_iload_n hx hb dX10_taken_1 rfl (lv_at hl 1 rfl) ?_
      have hPc := hP.sub (ws' := [cTP zc, cR8 cA zc]) [0, 1] rfl
      have hDc := hD.sub (ws' := [cTP zc, cR8 cA zc]) [0, 1] (by decide) rfl
      have hKc := hK.sub (tys' := [(cA 3, .object RX8)]) [3] rfl
      refine va_csq (va_Run.run (va_runV (As := [.int (nI jt)]) (rest := []) ⟨hx, hb, hml, hown, hts⟩ (s_takeAt_yes l dC dI (cA 3) _ (cs_X zc 0 0) (.ref (cs_X zc 0 1)) (.ref (cs_X zc 0 6)) (.ref (cs_X zc 0 7)) (.ref (cs_X zc 0 9)) (.ref (cs_X zc 0 10)) (.ref (cs_X zc 0 11)) (.int (nI (cs_n zc 0))) (.int (nI (cs_n zc 1))) (.int (nI (cs_n zc 3))) (va_rf (opN (cs_n zc 4) (fun _ => cs_X zc 5 0))) (.int (cs_i zc 2)) (cs_X zc 0 8) jt (cs_n zc 2) (cs_X zc 3 jt) (rfN (cs_n zc 2) (cs_X zc 3)) hjt (by omega) (rfN_at hjt)) (cwV 1 hts gX10_taken_X10_takeAt rfl rfl rfl (by decide +kernel) ⟨Nat.le_of_ble_eq_true rfl, Nat.le_of_ble_eq_true rfl⟩) (pw_preV (va_recv hKc hPc (ci := 10) (q0 := 0) rfl rfl) hPc hKc hDc hN) rfl rfl hl.1 rfl (lv_room (Nat.le_of_ble_eq_true rfl)) dX10_taken_2 ⟨Nat.le_of_ble_eq_true rfl, Nat.le_of_ble_eq_true rfl⟩)) (fun r2 hr2 => ?_)
      have hr2 : r2 = some (cs_X zc 3 jt) := hr2
      subst hr2
      refine W.eq (g2 := F0 m 5 ls [.ref (cs_X zc 3 jt)]) rfl ?_
      refine lv_astore_n (lv' := [(3, .ref (cs_X zc 3 jt)), (0, .ref (cs_X zc 0 0)), (1, .int (nI jt)), (2, .int wh)]) hx hb dX10_taken_5 rfl hl (by decide) rfl (fun ls hl => ?_)
      refine lv_aload_n hx hb dX10_taken_6 rfl (lv_at hl 0 rfl) ?_
      refine lv_ifnonnull (tgt := 12) hx hb dX10_taken_7 (by decide) ?_
      refine lv_iload_n hx hb dX10_taken_12 rfl (lv_at hl 3 rfl) ?_
      by_cases hw3 : wh = 0
      · subst hw3
        refine lv_tableIn (off := 35) (tgt := 48) hx hb dX10_taken_13 (by decide) (by decide) rfl (by decide) ?_
        refine lv_aload_n hx hb dX10_taken_48 rfl (lv_at hl 0 rfl) ?_
        refine va_get (D := (dC, dI)) (ci := 8) (v := .ref (cs_X zc 2 (cs_N zc 2 jt))) (C := RX8) (T := TX8) (N := 12) hx hb hts hiX8 hown hK hP 2 rfl rfl 2 (by decide) (hts (.fieldLink RX10 265 "TributePitches$Take" "gang" "LTributePitches$Gang;") (by decide +kernel)) (fun _ h9 => h9) rfl dX10_taken_49 ?_
        refine va_get (D := (dC, dI)) (ci := 1) (v := .int (nI (cs_N zc 2 jt))) (C := RX1) (T := TX1) (N := 4) hx hb hts hiX1 hown hK hP 3 rfl rfl 0 (by decide) (hts (.fieldLink RX10 268 "TributePitches$Gang" "number" "I") (by decide +kernel)) (fun _ h9 => h9) rfl dX10_taken_52 ?_
        subst hQ
        exact W.iret (v := nI (cs_N zc 2 jt)) hx hb hr (fun t ht hW => ⟨⟨nI (cs_N zc 2 jt), zc, rfl, ⟨⟨hI, rfl⟩, (Or.inr (Or.inl ⟨jt, rfl, hjt, hk, rfl, rfl, rfl⟩))⟩, (by rw [ht]; exact hPk), va_K.moved hW.alike hKk, kDA_self hDk⟩, (kw_same hPk ht).2⟩) (fun q h => absurd h List.not_mem_nil) dX10_taken_55
      by_cases hw4 : wh = 1
      · subst hw4
        refine lv_tableIn (off := 43) (tgt := 56) hx hb dX10_taken_13 (by decide) (by decide) rfl (by decide) ?_
        refine lv_aload_n hx hb dX10_taken_56 rfl (lv_at hl 0 rfl) ?_
        refine va_get (D := (dC, dI)) (ci := 8) (v := .ref (cs_X zc 1 (cs_N zc 3 jt))) (C := RX8) (T := TX8) (N := 12) hx hb hts hiX8 hown hK hP 2 rfl rfl 3 (by decide) (hts (.fieldLink RX10 245 "TributePitches$Take" "pitch" "LTributePitches$Pitch;") (by decide +kernel)) (fun _ h9 => h9) rfl dX10_taken_57 ?_
        refine va_get (D := (dC, dI)) (ci := 6) (v := .int (nI (cs_N zc 3 jt))) (C := RX6) (T := TX6) (N := 8) hx hb hts hiX6 hown hK hP 4 rfl rfl 0 (by decide) (hts (.fieldLink RX10 269 "TributePitches$Pitch" "number" "I") (by decide +kernel)) (fun _ h9 => h9) rfl dX10_taken_60 ?_
        subst hQ
        exact W.iret (v := nI (cs_N zc 3 jt)) hx hb hr (fun t ht hW => ⟨⟨nI (cs_N zc 3 jt), zc, rfl, ⟨⟨hI, rfl⟩, (Or.inr (Or.inr (Or.inl ⟨jt, rfl, hjt, hk, rfl, rfl, rfl⟩)))⟩, (by rw [ht]; exact hPk), va_K.moved hW.alike hKk, kDA_self hDk⟩, (kw_same hPk ht).2⟩) (fun q h => absurd h List.not_mem_nil) dX10_taken_63
      by_cases hw5 : wh = 2
      · subst hw5
        refine lv_tableIn (off := 51) (tgt := 64) hx hb dX10_taken_13 (by decide) (by decide) rfl (by decide) ?_
        refine lv_aload_n hx hb dX10_taken_64 rfl (lv_at hl 0 rfl) ?_
        refine va_get (D := (dC, dI)) (ci := 8) (v := .int (cs_I zc 31 jt)) (C := RX8) (T := TX8) (N := 12) hx hb hts hiX8 hown hK hP 2 rfl rfl 1 (by decide) (hts (.fieldLink RX10 270 "TributePitches$Take" "share" "I") (by decide +kernel)) (fun _ h9 => h9) rfl dX10_taken_65 ?_
        subst hQ
        exact W.iret (v := cs_I zc 31 jt) hx hb hr (fun t ht hW => ⟨⟨cs_I zc 31 jt, zc, rfl, ⟨⟨hI, rfl⟩, (Or.inr (Or.inr (Or.inr (Or.inl ⟨jt, rfl, hjt, hk, rfl, rfl, rfl⟩))))⟩, (by rw [ht]; exact hPk), va_K.moved hW.alike hKk, kDA_self hDk⟩, (kw_same hPk ht).2⟩) (fun q h => absurd h List.not_mem_nil) dX10_taken_68
      by_cases hw6 : wh = 3
      · subst hw6
        refine lv_tableIn (off := 56) (tgt := 69) hx hb dX10_taken_13 (by decide) (by decide) rfl (by decide) ?_
        refine lv_aload_n hx hb dX10_taken_69 rfl (lv_at hl 0 rfl) ?_
        refine va_get (D := (dC, dI)) (ci := 8) (v := .int (cs_I zc 33 jt)) (C := RX8) (T := TX8) (N := 12) hx hb hts hiX8 hown hK hP 2 rfl rfl 11 (by decide) (hts (.fieldLink RX10 238 "TributePitches$Take" "settled" "Z") (by decide +kernel)) (fun _ h9 => h9) rfl dX10_taken_70 ?_
        refine lv_if_eq (tgt := 80) hx hb dX10_taken_73 (by decide) (fun c7 => ?_) (fun c7 => ?_)
        · skip
          refine lv_iconst (v := 0) hx hb dX10_taken_80 (by decide) ?_
          subst hQ
          exact W.iret (v := 0) hx hb hr (fun t ht hW => ⟨⟨0, zc, rfl, ⟨⟨hI, rfl⟩, (Or.inr (Or.inr (Or.inr (Or.inr (Or.inl ⟨jt, rfl, hjt, hk, rfl, c7, rfl, rfl⟩)))))⟩, (by rw [ht]; exact hPk), va_K.moved hW.alike hKk, kDA_self hDk⟩, (kw_same hPk ht).2⟩) (fun q h => absurd h List.not_mem_nil) dX10_taken_81
        · skip
          refine lv_iconst (v := 1) hx hb dX10_taken_76 (by decide) ?_
          refine lv_goto (tgt := 81) hx hb dX10_taken_77 (by decide) ?_
          subst hQ
          exact W.iret (v := 1) hx hb hr (fun t ht hW => ⟨⟨1, zc, rfl, ⟨⟨hI, rfl⟩, (Or.inr (Or.inr (Or.inr (Or.inr (Or.inr (Or.inl ⟨jt, rfl, hjt, hk, rfl, c7, rfl, rfl⟩))))))⟩, (by rw [ht]; exact hPk), va_K.moved hW.alike hKk, kDA_self hDk⟩, (kw_same hPk ht).2⟩) (fun q h => absurd h List.not_mem_nil) dX10_taken_81
      by_cases hw8 : wh = 4
      · subst hw8
        refine lv_tableIn (off := 69) (tgt := 82) hx hb dX10_taken_13 (by decide) (by decide) rfl (by decide) ?_
        refine lv_aload_n hx hb dX10_taken_82 rfl (lv_at hl 0 rfl) ?_
        refine va_get (D := (dC, dI)) (ci := 8) (v := .int (cs_I zc 32 jt)) (C := RX8) (T := TX8) (N := 12) hx hb hts hiX8 hown hK hP 2 rfl rfl 10 (by decide) (hts (.fieldLink RX10 247 "TributePitches$Take" "parcels" "I") (by decide +kernel)) (fun _ h9 => h9) rfl dX10_taken_83 ?_
        subst hQ
        exact W.iret (v := cs_I zc 32 jt) hx hb hr (fun t ht hW => ⟨⟨cs_I zc 32 jt, zc, rfl, ⟨⟨hI, rfl⟩, (Or.inr (Or.inr (Or.inr (Or.inr (Or.inr (Or.inr (Or.inl ⟨jt, rfl, hjt, hk, rfl, rfl, rfl⟩)))))))⟩, (by rw [ht]; exact hPk), va_K.moved hW.alike hKk, kDA_self hDk⟩, (kw_same hPk ht).2⟩) (fun q h => absurd h List.not_mem_nil) dX10_taken_86
      refine lv_tableOut (tgt := 87) hx hb dX10_taken_13 (tb_out5 hw3 hw4 hw5 hw6 hw8) (by decide) ?_
      refine lv_bipush (v := (-2)) hx hb dX10_taken_87 (by decide) ?_
      subst hQ
      exact W.iret (v := (-2)) hx hb hr (fun t ht hW => ⟨⟨(-2), zc, rfl, ⟨⟨hI, rfl⟩, (Or.inr (Or.inr (Or.inr (Or.inr (Or.inr (Or.inr (Or.inr (Or.inl ⟨jt, rfl, hjt, hk, hw3, hw4, hw5, hw6, hw8, rfl, rfl⟩))))))))⟩, (by rw [ht]; exact hPk), va_K.moved hW.alike hKk, kDA_self hDk⟩, (kw_same hPk ht).2⟩) (fun q h => absurd h List.not_mem_nil) dX10_taken_89
    · skip
      have hks : kAll (cF cA zc) [(0, 0), (0, 8), (3, jt), (2, cs_N zc 2 jt), (1, cs_N zc 3 jt)] [cTP zc, cR8 cA zc, cTa zc jt, cGaK zc (cs_N zc 2 jt) 2, cPi zc (cs_N zc 3 jt)] := ⟨(kF_tp (cA := cA) (z := zc)), (kF_r8 (cA := cA) (z := zc)), (kF_ta (z := zc) hjt), (kF_gaK (z := zc) (j := cs_N zc 2 jt) (htk jt hjt).1 hk), (kF_pi (z := zc) (j := cs_N zc 3 jt) (htk jt hjt).2), trivial⟩
      have hP : va_P (dC, dI) vwCl [cTP zc, cR8 cA zc, cTa zc jt, cGaK zc (cs_N zc 2 jt) 2, cPi zc (cs_N zc 3 jt)] s.heap := kAll_P hPk hks
      have hD : va_D (va_A [cTP zc, cR8 cA zc, cTa zc jt, cGaK zc (cs_N zc 2 jt) 2, cPi zc (cs_N zc 3 jt)] s.heap.size) [cTP zc, cR8 cA zc, cTa zc jt, cGaK zc (cs_N zc 2 jt) 2, cPi zc (cs_N zc 3 jt)] := (kAll_D hDk hks (by simp)).self
      have hA : ∀ q : Nat, s.heap.size ≤ q → va_A [cTP zc, cR8 cA zc, cTa zc jt, cGaK zc (cs_N zc 2 jt) 2, cPi zc (cs_N zc 3 jt)] s.heap.size q := fun q h => Or.inr h
      have hS : va_S (va_A [cTP zc, cR8 cA zc, cTa zc jt, cGaK zc (cs_N zc 2 jt) 2, cPi zc (cs_N zc 3 jt)] s.heap.size) s.heap s.heap [] := va_S.rf
      refine lv_aload_n hx hb dX10_taken_0 rfl (lv_at hl 0 rfl) ?_
      refine lv_iload_n hx hb dX10_taken_1 rfl (lv_at hl 1 rfl) ?_
      have hPc := hP.sub (ws' := [cTP zc, cR8 cA zc]) [0, 1] rfl
      have hDc := hD.sub (ws' := [cTP zc, cR8 cA zc]) [0, 1] (by decide) rfl
      have hKc := hK.sub (tys' := [(cA 3, .object RX8)]) [3] rfl
      refine va_csq (va_Run.run (va_runV (As := [.int (nI jt)]) (rest := []) ⟨hx, hb, hml, hown, hts⟩ (s_takeAt_yes l dC dI (cA 3) _ (cs_X zc 0 0) (.ref (cs_X zc 0 1)) (.ref (cs_X zc 0 6)) (.ref (cs_X zc 0 7)) (.ref (cs_X zc 0 9)) (.ref (cs_X zc 0 10)) (.ref (cs_X zc 0 11)) (.int (nI (cs_n zc 0))) (.int (nI (cs_n zc 1))) (.int (nI (cs_n zc 3))) (va_rf (opN (cs_n zc 4) (fun _ => cs_X zc 5 0))) (.int (cs_i zc 2)) (cs_X zc 0 8) jt (cs_n zc 2) (cs_X zc 3 jt) (rfN (cs_n zc 2) (cs_X zc 3)) hjt (by omega) (rfN_at hjt)) (cwV 1 hts gX10_taken_X10_takeAt rfl rfl rfl (by decide +kernel) ⟨Nat.le_of_ble_eq_true rfl, Nat.le_of_ble_eq_true rfl⟩) (pw_preV (va_recv hKc hPc (ci := 10) (q0 := 0) rfl rfl) hPc hKc hDc hN) rfl rfl hl.1 rfl (lv_room (Nat.le_of_ble_eq_true rfl)) dX10_taken_2 ⟨Nat.le_of_ble_eq_true rfl, Nat.le_of_ble_eq_true rfl⟩)) (fun r9 hr9 => ?_)
      have hr9 : r9 = some (cs_X zc 3 jt) := hr9
      subst hr9
      refine W.eq (g2 := F0 m 5 ls [.ref (cs_X zc 3 jt)]) rfl ?_
      refine lv_astore_n (lv' := [(3, .ref (cs_X zc 3 jt)), (0, .ref (cs_X zc 0 0)), (1, .int (nI jt)), (2, .int wh)]) hx hb dX10_taken_5 rfl hl (by decide) rfl (fun ls hl => ?_)
      refine lv_aload_n hx hb dX10_taken_6 rfl (lv_at hl 0 rfl) ?_
      refine lv_ifnonnull (tgt := 12) hx hb dX10_taken_7 (by decide) ?_
      refine lv_iload_n hx hb dX10_taken_12 rfl (lv_at hl 3 rfl) ?_
      by_cases hw10 : wh = 0
      · subst hw10
        refine lv_tableIn (off := 35) (tgt := 48) hx hb dX10_taken_13 (by decide) (by decide) rfl (by decide) ?_
        refine lv_aload_n hx hb dX10_taken_48 rfl (lv_at hl 0 rfl) ?_
        refine va_get (D := (dC, dI)) (ci := 8) (v := .ref (cs_X zc 2 (cs_N zc 2 jt))) (C := RX8) (T := TX8) (N := 12) hx hb hts hiX8 hown hK hP 2 rfl rfl 2 (by decide) (hts (.fieldLink RX10 265 "TributePitches$Take" "gang" "LTributePitches$Gang;") (by decide +kernel)) (fun _ h9 => h9) rfl dX10_taken_49 ?_
        refine va_get (D := (dC, dI)) (ci := 2) (v := .int (nI (cs_N zc 2 jt))) (C := RX2) (T := TX2) (N := 4) hx hb hts hiX2 hown hK hP 3 rfl rfl 0 (by decide) (hts (.fieldLink RX10 268 "TributePitches$Gang" "number" "I") (by decide +kernel)) (fun _ h9 => h9) rfl dX10_taken_52 ?_
        subst hQ
        exact W.iret (v := nI (cs_N zc 2 jt)) hx hb hr (fun t ht hW => ⟨⟨nI (cs_N zc 2 jt), zc, rfl, ⟨⟨hI, rfl⟩, (Or.inr (Or.inr (Or.inr (Or.inr (Or.inr (Or.inr (Or.inr (Or.inr (Or.inl ⟨jt, rfl, hjt, hk, rfl, rfl, rfl⟩)))))))))⟩, (by rw [ht]; exact hPk), va_K.moved hW.alike hKk, kDA_self hDk⟩, (kw_same hPk ht).2⟩) (fun q h => absurd h List.not_mem_nil) dX10_taken_55
      by_cases hw11 : wh = 1
      · subst hw11
        refine lv_tableIn (off := 43) (tgt := 56) hx hb dX10_taken_13 (by decide) (by decide) rfl (by decide) ?_
        refine lv_aload_n hx hb dX10_taken_56 rfl (lv_at hl 0 rfl) ?_
        refine va_get (D := (dC, dI)) (ci := 8) (v := .ref (cs_X zc 1 (cs_N zc 3 jt))) (C := RX8) (T := TX8) (N := 12) hx hb hts hiX8 hown hK hP 2 rfl rfl 3 (by decide) (hts (.fieldLink RX10 245 "TributePitches$Take" "pitch" "LTributePitches$Pitch;") (by decide +kernel)) (fun _ h9 => h9) rfl dX10_taken_57 ?_
        refine va_get (D := (dC, dI)) (ci := 6) (v := .int (nI (cs_N zc 3 jt))) (C := RX6) (T := TX6) (N := 8) hx hb hts hiX6 hown hK hP 4 rfl rfl 0 (by decide) (hts (.fieldLink RX10 269 "TributePitches$Pitch" "number" "I") (by decide +kernel)) (fun _ h9 => h9) rfl dX10_taken_60 ?_
        subst hQ
        exact W.iret (v := nI (cs_N zc 3 jt)) hx hb hr (fun t ht hW => ⟨⟨nI (cs_N zc 3 jt), zc, rfl, ⟨⟨hI, rfl⟩, (Or.inr (Or.inr (Or.inr (Or.inr (Or.inr (Or.inr (Or.inr (Or.inr (Or.inr (Or.inl ⟨jt, rfl, hjt, hk, rfl, rfl, rfl⟩))))))))))⟩, (by rw [ht]; exact hPk), va_K.moved hW.alike hKk, kDA_self hDk⟩, (kw_same hPk ht).2⟩) (fun q h => absurd h List.not_mem_nil) dX10_taken_63
      by_cases hw12 : wh = 2
      · subst hw12
        refine lv_tableIn (off := 51) (tgt := 64) hx hb dX10_taken_13 (by decide) (by decide) rfl (by decide) ?_
        refine lv_aload_n hx hb dX10_taken_64 rfl (lv_at hl 0 rfl) ?_
        refine va_get (D := (dC, dI)) (ci := 8) (v := .int (cs_I zc 31 jt)) (C := RX8) (T := TX8) (N := 12) hx hb hts hiX8 hown hK hP 2 rfl rfl 1 (by decide) (hts (.fieldLink RX10 270 "TributePitches$Take" "share" "I") (by decide +kernel)) (fun _ h9 => h9) rfl dX10_taken_65 ?_
        subst hQ
        exact W.iret (v := cs_I zc 31 jt) hx hb hr (fun t ht hW => ⟨⟨cs_I zc 31 jt, zc, rfl, ⟨⟨hI, rfl⟩, (Or.inr (Or.inr (Or.inr (Or.inr (Or.inr (Or.inr (Or.inr (Or.inr (Or.inr (Or.inr (Or.inl ⟨jt, rfl, hjt, hk, rfl, rfl, rfl⟩)))))))))))⟩, (by rw [ht]; exact hPk), va_K.moved hW.alike hKk, kDA_self hDk⟩, (kw_same hPk ht).2⟩) (fun q h => absurd h List.not_mem_nil) dX10_taken_68
      by_cases hw13 : wh = 3
      · subst hw13
        refine lv_tableIn (off := 56) (tgt := 69) hx hb dX10_taken_13 (by decide) (by decide) rfl (by decide) ?_
        refine lv_aload_n hx hb dX10_taken_69 rfl (lv_at hl 0 rfl) ?_
        refine va_get (D := (dC, dI)) (ci := 8) (v := .int (cs_I zc 33 jt)) (C := RX8) (T := TX8) (N := 12) hx hb hts hiX8 hown hK hP 2 rfl rfl 11 (by decide) (hts (.fieldLink RX10 238 "TributePitches$Take" "settled" "Z") (by decide +kernel)) (fun _ h9 => h9) rfl dX10_taken_70 ?_
        refine lv_if_eq (tgt := 80) hx hb dX10_taken_73 (by decide) (fun c14 => ?_) (fun c14 => ?_)
        · skip
          refine lv_iconst (v := 0) hx hb dX10_taken_80 (by decide) ?_
          subst hQ
          exact W.iret (v := 0) hx hb hr (fun t ht hW => ⟨⟨0, zc, rfl, ⟨⟨hI, rfl⟩, (Or.inr (Or.inr (Or.inr (Or.inr (Or.inr (Or.inr (Or.inr (Or.inr (Or.inr (Or.inr (Or.inr (Or.inl ⟨jt, rfl, hjt, hk, rfl, c14, rfl, rfl⟩))))))))))))⟩, (by rw [ht]; exact hPk), va_K.moved hW.alike hKk, kDA_self hDk⟩, (kw_same hPk ht).2⟩) (fun q h => absurd h List.not_mem_nil) dX10_taken_81
        · skip
          refine lv_iconst (v := 1) hx hb dX10_taken_76 (by decide) ?_
          refine lv_goto (tgt := 81) hx hb dX10_taken_77 (by decide) ?_
          subst hQ
          exact W.iret (v := 1) hx hb hr (fun t ht hW => ⟨⟨1, zc, rfl, ⟨⟨hI, rfl⟩, (Or.inr (Or.inr (Or.inr (Or.inr (Or.inr (Or.inr (Or.inr (Or.inr (Or.inr (Or.inr (Or.inr (Or.inr (Or.inl ⟨jt, rfl, hjt, hk, rfl, c14, rfl, rfl⟩)))))))))))))⟩, (by rw [ht]; exact hPk), va_K.moved hW.alike hKk, kDA_self hDk⟩, (kw_same hPk ht).2⟩) (fun q h => absurd h List.not_mem_nil) dX10_taken_81
      by_cases hw15 : wh = 4
      · subst hw15
        refine lv_tableIn (off := 69) (tgt := 82) hx hb dX10_taken_13 (by decide) (by decide) rfl (by decide) ?_
        refine lv_aload_n hx hb dX10_taken_82 rfl (lv_at hl 0 rfl) ?_
        refine va_get (D := (dC, dI)) (ci := 8) (v := .int (cs_I zc 32 jt)) (C := RX8) (T := TX8) (N := 12) hx hb hts hiX8 hown hK hP 2 rfl rfl 10 (by decide) (hts (.fieldLink RX10 247 "TributePitches$Take" "parcels" "I") (by decide +kernel)) (fun _ h9 => h9) rfl dX10_taken_83 ?_
        subst hQ
        exact W.iret (v := cs_I zc 32 jt) hx hb hr (fun t ht hW => ⟨⟨cs_I zc 32 jt, zc, rfl, ⟨⟨hI, rfl⟩, (Or.inr (Or.inr (Or.inr (Or.inr (Or.inr (Or.inr (Or.inr (Or.inr (Or.inr (Or.inr (Or.inr (Or.inr (Or.inr (Or.inl ⟨jt, rfl, hjt, hk, rfl, rfl, rfl⟩))))))))))))))⟩, (by rw [ht]; exact hPk), va_K.moved hW.alike hKk, kDA_self hDk⟩, (kw_same hPk ht).2⟩) (fun q h => absurd h List.not_mem_nil) dX10_taken_86
      refine lv_tableOut (tgt := 87) hx hb dX10_taken_13 (tb_out5 hw10 hw11 hw12 hw13 hw15) (by decide) ?_
      refine lv_bipush (v := (-2)) hx hb dX10_taken_87 (by decide) ?_
      subst hQ
      exact W.iret (v := (-2)) hx hb hr (fun t ht hW => ⟨⟨(-2), zc, rfl, ⟨⟨hI, rfl⟩, (Or.inr (Or.inr (Or.inr (Or.inr (Or.inr (Or.inr (Or.inr (Or.inr (Or.inr (Or.inr (Or.inr (Or.inr (Or.inr (Or.inr (Or.inl ⟨jt, rfl, hjt, hk, hw10, hw11, hw12, hw13, hw15, rfl, rfl⟩)))))))))))))))⟩, (by rw [ht]; exact hPk), va_K.moved hW.alike hKk, kDA_self hDk⟩, (kw_same hPk ht).2⟩) (fun q h => absurd h List.not_mem_nil) dX10_taken_89
    · skip
      have hks : kAll (cF cA zc) [(0, 0), (0, 8), (3, jt), (2, cs_N zc 2 jt), (1, cs_N zc 3 jt)] [cTP zc, cR8 cA zc, cTa zc jt, cGaK zc (cs_N zc 2 jt) 4, cPi zc (cs_N zc 3 jt)] := ⟨(kF_tp (cA := cA) (z := zc)), (kF_r8 (cA := cA) (z := zc)), (kF_ta (z := zc) hjt), (kF_gaK (z := zc) (j := cs_N zc 2 jt) (htk jt hjt).1 hk), (kF_pi (z := zc) (j := cs_N zc 3 jt) (htk jt hjt).2), trivial⟩
      have hP : va_P (dC, dI) vwCl [cTP zc, cR8 cA zc, cTa zc jt, cGaK zc (cs_N zc 2 jt) 4, cPi zc (cs_N zc 3 jt)] s.heap := kAll_P hPk hks
      have hD : va_D (va_A [cTP zc, cR8 cA zc, cTa zc jt, cGaK zc (cs_N zc 2 jt) 4, cPi zc (cs_N zc 3 jt)] s.heap.size) [cTP zc, cR8 cA zc, cTa zc jt, cGaK zc (cs_N zc 2 jt) 4, cPi zc (cs_N zc 3 jt)] := (kAll_D hDk hks (by simp)).self
      have hA : ∀ q : Nat, s.heap.size ≤ q → va_A [cTP zc, cR8 cA zc, cTa zc jt, cGaK zc (cs_N zc 2 jt) 4, cPi zc (cs_N zc 3 jt)] s.heap.size q := fun q h => Or.inr h
      have hS : va_S (va_A [cTP zc, cR8 cA zc, cTa zc jt, cGaK zc (cs_N zc 2 jt) 4, cPi zc (cs_N zc 3 jt)] s.heap.size) s.heap s.heap [] := va_S.rf
      refine lv_aload_n hx hb dX10_taken_0 rfl (lv_at hl 0 rfl) ?_
      refine lv_iload_n hx hb dX10_taken_1 rfl (lv_at hl 1 rfl) ?_
      have hPc := hP.sub (ws' := [cTP zc, cR8 cA zc]) [0, 1] rfl
      have hDc := hD.sub (ws' := [cTP zc, cR8 cA zc]) [0, 1] (by decide) rfl
      have hKc := hK.sub (tys' := [(cA 3, .object RX8)]) [3] rfl
      refine va_csq (va_Run.run (va_runV (As := [.int (nI jt)]) (rest := []) ⟨hx, hb, hml, hown, hts⟩ (s_takeAt_yes l dC dI (cA 3) _ (cs_X zc 0 0) (.ref (cs_X zc 0 1)) (.ref (cs_X zc 0 6)) (.ref (cs_X zc 0 7)) (.ref (cs_X zc 0 9)) (.ref (cs_X zc 0 10)) (.ref (cs_X zc 0 11)) (.int (nI (cs_n zc 0))) (.int (nI (cs_n zc 1))) (.int (nI (cs_n zc 3))) (va_rf (opN (cs_n zc 4) (fun _ => cs_X zc 5 0))) (.int (cs_i zc 2)) (cs_X zc 0 8) jt (cs_n zc 2) (cs_X zc 3 jt) (rfN (cs_n zc 2) (cs_X zc 3)) hjt (by omega) (rfN_at hjt)) (cwV 1 hts gX10_taken_X10_takeAt rfl rfl rfl (by decide +kernel) ⟨Nat.le_of_ble_eq_true rfl, Nat.le_of_ble_eq_true rfl⟩) (pw_preV (va_recv hKc hPc (ci := 10) (q0 := 0) rfl rfl) hPc hKc hDc hN) rfl rfl hl.1 rfl (lv_room (Nat.le_of_ble_eq_true rfl)) dX10_taken_2 ⟨Nat.le_of_ble_eq_true rfl, Nat.le_of_ble_eq_true rfl⟩)) (fun r16 hr16 => ?_)
      have hr16 : r16 = some (cs_X zc 3 jt) := hr16
      subst hr16
      refine W.eq (g2 := F0 m 5 ls [.ref (cs_X zc 3 jt)]) rfl ?_
      refine lv_astore_n (lv' := [(3, .ref (cs_X zc 3 jt)), (0, .ref (cs_X zc 0 0)), (1, .int (nI jt)), (2, .int wh)]) hx hb dX10_taken_5 rfl hl (by decide) rfl (fun ls hl => ?_)
      refine lv_aload_n hx hb dX10_taken_6 rfl (lv_at hl 0 rfl) ?_
      refine lv_ifnonnull (tgt := 12) hx hb dX10_taken_7 (by decide) ?_
      refine lv_iload_n hx hb dX10_taken_12 rfl (lv_at hl 3 rfl) ?_
      by_cases hw17 : wh = 0
      · subst hw17
        refine lv_tableIn (off := 35) (tgt := 48) hx hb dX10_taken_13 (by decide) (by decide) rfl (by decide) ?_
        refine lv_aload_n hx hb dX10_taken_48 rfl (lv_at hl 0 rfl) ?_
        refine va_get (D := (dC, dI)) (ci := 8) (v := .ref (cs_X zc 2 (cs_N zc 2 jt))) (C := RX8) (T := TX8) (N := 12) hx hb hts hiX8 hown hK hP 2 rfl rfl 2 (by decide) (hts (.fieldLink RX10 265 "TributePitches$Take" "gang" "LTributePitches$Gang;") (by decide +kernel)) (fun _ h9 => h9) rfl dX10_taken_49 ?_
        refine va_get (D := (dC, dI)) (ci := 4) (v := .int (nI (cs_N zc 2 jt))) (C := RX4) (T := TX4) (N := 4) hx hb hts hiX4 hown hK hP 3 rfl rfl 0 (by decide) (hts (.fieldLink RX10 268 "TributePitches$Gang" "number" "I") (by decide +kernel)) (fun _ h9 => h9) rfl dX10_taken_52 ?_
        subst hQ
        exact W.iret (v := nI (cs_N zc 2 jt)) hx hb hr (fun t ht hW => ⟨⟨nI (cs_N zc 2 jt), zc, rfl, ⟨⟨hI, rfl⟩, (Or.inr (Or.inr (Or.inr (Or.inr (Or.inr (Or.inr (Or.inr (Or.inr (Or.inr (Or.inr (Or.inr (Or.inr (Or.inr (Or.inr (Or.inr (Or.inl ⟨jt, rfl, hjt, hk, rfl, rfl, rfl⟩))))))))))))))))⟩, (by rw [ht]; exact hPk), va_K.moved hW.alike hKk, kDA_self hDk⟩, (kw_same hPk ht).2⟩) (fun q h => absurd h List.not_mem_nil) dX10_taken_55
      by_cases hw18 : wh = 1
      · subst hw18
        refine lv_tableIn (off := 43) (tgt := 56) hx hb dX10_taken_13 (by decide) (by decide) rfl (by decide) ?_
        refine lv_aload_n hx hb dX10_taken_56 rfl (lv_at hl 0 rfl) ?_
        refine va_get (D := (dC, dI)) (ci := 8) (v := .ref (cs_X zc 1 (cs_N zc 3 jt))) (C := RX8) (T := TX8) (N := 12) hx hb hts hiX8 hown hK hP 2 rfl rfl 3 (by decide) (hts (.fieldLink RX10 245 "TributePitches$Take" "pitch" "LTributePitches$Pitch;") (by decide +kernel)) (fun _ h9 => h9) rfl dX10_taken_57 ?_
        refine va_get (D := (dC, dI)) (ci := 6) (v := .int (nI (cs_N zc 3 jt))) (C := RX6) (T := TX6) (N := 8) hx hb hts hiX6 hown hK hP 4 rfl rfl 0 (by decide) (hts (.fieldLink RX10 269 "TributePitches$Pitch" "number" "I") (by decide +kernel)) (fun _ h9 => h9) rfl dX10_taken_60 ?_
        subst hQ
        exact W.iret (v := nI (cs_N zc 3 jt)) hx hb hr (fun t ht hW => ⟨⟨nI (cs_N zc 3 jt), zc, rfl, ⟨⟨hI, rfl⟩, (Or.inr (Or.inr (Or.inr (Or.inr (Or.inr (Or.inr (Or.inr (Or.inr (Or.inr (Or.inr (Or.inr (Or.inr (Or.inr (Or.inr (Or.inr (Or.inr (Or.inl ⟨jt, rfl, hjt, hk, rfl, rfl, rfl⟩)))))))))))))))))⟩, (by rw [ht]; exact hPk), va_K.moved hW.alike hKk, kDA_self hDk⟩, (kw_same hPk ht).2⟩) (fun q h => absurd h List.not_mem_nil) dX10_taken_63
      by_cases hw19 : wh = 2
      · subst hw19
        refine lv_tableIn (off := 51) (tgt := 64) hx hb dX10_taken_13 (by decide) (by decide) rfl (by decide) ?_
        refine lv_aload_n hx hb dX10_taken_64 rfl (lv_at hl 0 rfl) ?_
        refine va_get (D := (dC, dI)) (ci := 8) (v := .int (cs_I zc 31 jt)) (C := RX8) (T := TX8) (N := 12) hx hb hts hiX8 hown hK hP 2 rfl rfl 1 (by decide) (hts (.fieldLink RX10 270 "TributePitches$Take" "share" "I") (by decide +kernel)) (fun _ h9 => h9) rfl dX10_taken_65 ?_
        subst hQ
        exact W.iret (v := cs_I zc 31 jt) hx hb hr (fun t ht hW => ⟨⟨cs_I zc 31 jt, zc, rfl, ⟨⟨hI, rfl⟩, (Or.inr (Or.inr (Or.inr (Or.inr (Or.inr (Or.inr (Or.inr (Or.inr (Or.inr (Or.inr (Or.inr (Or.inr (Or.inr (Or.inr (Or.inr (Or.inr (Or.inr (Or.inl ⟨jt, rfl, hjt, hk, rfl, rfl, rfl⟩))))))))))))))))))⟩, (by rw [ht]; exact hPk), va_K.moved hW.alike hKk, kDA_self hDk⟩, (kw_same hPk ht).2⟩) (fun q h => absurd h List.not_mem_nil) dX10_taken_68
      by_cases hw20 : wh = 3
      · subst hw20
        refine lv_tableIn (off := 56) (tgt := 69) hx hb dX10_taken_13 (by decide) (by decide) rfl (by decide) ?_
        refine lv_aload_n hx hb dX10_taken_69 rfl (lv_at hl 0 rfl) ?_
        refine va_get (D := (dC, dI)) (ci := 8) (v := .int (cs_I zc 33 jt)) (C := RX8) (T := TX8) (N := 12) hx hb hts hiX8 hown hK hP 2 rfl rfl 11 (by decide) (hts (.fieldLink RX10 238 "TributePitches$Take" "settled" "Z") (by decide +kernel)) (fun _ h9 => h9) rfl dX10_taken_70 ?_
        refine lv_if_eq (tgt := 80) hx hb dX10_taken_73 (by decide) (fun c21 => ?_) (fun c21 => ?_)
        · skip
          refine lv_iconst (v := 0) hx hb dX10_taken_80 (by decide) ?_
          subst hQ
          exact W.iret (v := 0) hx hb hr (fun t ht hW => ⟨⟨0, zc, rfl, ⟨⟨hI, rfl⟩, (Or.inr (Or.inr (Or.inr (Or.inr (Or.inr (Or.inr (Or.inr (Or.inr (Or.inr (Or.inr (Or.inr (Or.inr (Or.inr (Or.inr (Or.inr (Or.inr (Or.inr (Or.inr (Or.inl ⟨jt, rfl, hjt, hk, rfl, c21, rfl, rfl⟩)))))))))))))))))))⟩, (by rw [ht]; exact hPk), va_K.moved hW.alike hKk, kDA_self hDk⟩, (kw_same hPk ht).2⟩) (fun q h => absurd h List.not_mem_nil) dX10_taken_81
        · skip
          refine lv_iconst (v := 1) hx hb dX10_taken_76 (by decide) ?_
          refine lv_goto (tgt := 81) hx hb dX10_taken_77 (by decide) ?_
          subst hQ
          exact W.iret (v := 1) hx hb hr (fun t ht hW => ⟨⟨1, zc, rfl, ⟨⟨hI, rfl⟩, (Or.inr (Or.inr (Or.inr (Or.inr (Or.inr (Or.inr (Or.inr (Or.inr (Or.inr (Or.inr (Or.inr (Or.inr (Or.inr (Or.inr (Or.inr (Or.inr (Or.inr (Or.inr (Or.inr (Or.inl ⟨jt, rfl, hjt, hk, rfl, c21, rfl, rfl⟩))))))))))))))))))))⟩, (by rw [ht]; exact hPk), va_K.moved hW.alike hKk, kDA_self hDk⟩, (kw_same hPk ht).2⟩) (fun q h => absurd h List.not_mem_nil) dX10_taken_81
      by_cases hw22 : wh = 4
      · subst hw22
        refine lv_tableIn (off := 69) (tgt := 82) hx hb dX10_taken_13 (by decide) (by decide) rfl (by decide) ?_
        refine lv_aload_n hx hb dX10_taken_82 rfl (lv_at hl 0 rfl) ?_
        refine va_get (D := (dC, dI)) (ci := 8) (v := .int (cs_I zc 32 jt)) (C := RX8) (T := TX8) (N := 12) hx hb hts hiX8 hown hK hP 2 rfl rfl 10 (by decide) (hts (.fieldLink RX10 247 "TributePitches$Take" "parcels" "I") (by decide +kernel)) (fun _ h9 => h9) rfl dX10_taken_83 ?_
        subst hQ
        exact W.iret (v := cs_I zc 32 jt) hx hb hr (fun t ht hW => ⟨⟨cs_I zc 32 jt, zc, rfl, ⟨⟨hI, rfl⟩, (Or.inr (Or.inr (Or.inr (Or.inr (Or.inr (Or.inr (Or.inr (Or.inr (Or.inr (Or.inr (Or.inr (Or.inr (Or.inr (Or.inr (Or.inr (Or.inr (Or.inr (Or.inr (Or.inr (Or.inr (Or.inl ⟨jt, rfl, hjt, hk, rfl, rfl, rfl⟩)))))))))))))))))))))⟩, (by rw [ht]; exact hPk), va_K.moved hW.alike hKk, kDA_self hDk⟩, (kw_same hPk ht).2⟩) (fun q h => absurd h List.not_mem_nil) dX10_taken_86
      refine lv_tableOut (tgt := 87) hx hb dX10_taken_13 (tb_out5 hw17 hw18 hw19 hw20 hw22) (by decide) ?_
      refine lv_bipush (v := (-2)) hx hb dX10_taken_87 (by decide) ?_
      subst hQ
      exact W.iret (v := (-2)) hx hb hr (fun t ht hW => ⟨⟨(-2), zc, rfl, ⟨⟨hI, rfl⟩, (Or.inr (Or.inr (Or.inr (Or.inr (Or.inr (Or.inr (Or.inr (Or.inr (Or.inr (Or.inr (Or.inr (Or.inr (Or.inr (Or.inr (Or.inr (Or.inr (Or.inr (Or.inr (Or.inr (Or.inr (Or.inr ⟨jt, rfl, hjt, hk, hw17, hw18, hw19, hw20, hw22, rfl, rfl⟩)))))))))))))))))))))⟩, (by rw [ht]; exact hPk), va_K.moved hW.alike hKk, kDA_self hDk⟩, (kw_same hPk ht).2⟩) (fun q h => absurd h List.not_mem_nil) dX10_taken_89
