def pC_foretold (zc : CS) (pp : Int32) (wh : Int32) (r : Int64) (u : CS) : Prop :=
  ((∀ j, j < cs_n zc 0 → pp ≠ nI j) ∧ r = ((-9223372036854775808)) ∧ u = zc) ∨
  (∃ jp : Nat, pp = nI jp ∧ (jp < cs_n zc 0) ∧ (0 ≤ wh ∧ wh ≤ 1) ∧ (¬ wh = 0) ∧ r = (pacc (cs_I zc 1) (rXa zc jp) (rWa zc jp) (rYa zc jp) ((rHa zc jp) + 1) * (cs_I zc 15 jp).toInt64) ∧ u = zc) ∨
  (∃ jp : Nat, pp = nI jp ∧ (jp < cs_n zc 0) ∧ (0 ≤ wh ∧ wh ≤ 1) ∧ (wh = 0) ∧ r = (pacc (cs_I zc 0) (rXa zc jp) (rWa zc jp) (rYa zc jp) ((rHa zc jp) + 1) * (cs_I zc 15 jp).toInt64) ∧ u = zc) ∨
  (∃ jp : Nat, pp = nI jp ∧ (jp < cs_n zc 0) ∧ (¬ (0 ≤ wh ∧ wh ≤ 1)) ∧ r = ((-9223372036854775808)) ∧ u = zc)
set_option maxHeartbeats 4000000 in
set_option maxRecDepth 100000 in
theorem K_foretold (l : Launch) (dC : Nat → ClassId) (dI : Nat → Nat → Nat) (cA : Nat → ClassId) (sz : Nat) (zc : CS) (pp : Int32) (wh : Int32) (hI : invC zc) : Met l yX10_foretold wsX10_foretold ({ frames := 2, cells := 0, slots := 0, locals := 60 }) (kw (dC, dI) (ctys cA) (cF cA zc) sz [.ref (cs_X zc 0 0), .int pp, .int wh]) (kQl (dC, dI) (ctys cA) (cF cA zc) sz (cF cA) (fun r u => (invC u ∧ cs_X u 0 0 = cs_X zc 0 0) ∧ pC_foretold zc pp wh r u)) 0 0 (kA (cF cA zc) sz) := by
  refine kw_met (cc := cX10_foretold) (maxL := 4) (ret := (some .long)) (by decide) rfl (Nat.le_of_ble_eq_true rfl) ?_
  intro p e s m below meth c0 hx hb hr hml hown hlocks hnm hts hPk hKk hDk hN hsz ls hl
  subst hsz
  have hK : va_K (dC, dI) vwCl [(cA 0, .int), (cA 1, .object RX6), (cA 2, .object RX2), (cA 3, .object RX8), (cA 4, .object RX5), (cA 5, .object RX7)] s := hKk
  obtain ⟨⟨hn0, hn1, hn2, hn3, hn4, hn5⟩, hpi, hgk, htk, hpk, hsh⟩ := id hI
  have hl : lv_has ls 4 [(0, .ref (cs_X zc 0 0)), (1, .int pp), (2, .int wh)] := hl
  have hiX10 : ∀ w ∈ wsX100, w ∈ wsX10_foretold := by decide +kernel
  have hiX3 : ∀ w ∈ wsX30, w ∈ wsX10_foretold := by decide +kernel
  generalize hQ : MQ _ _ _ _ _ _ _ = Q
  rcases ixd pp (cs_n zc 0) with hnojp | ⟨jp, hjp, rfl⟩
  · skip
    have hks : kAll (cF cA zc) [(0, 0), (0, 6)] [cTP zc, cR6 cA zc] := ⟨(kF_tp (cA := cA) (z := zc)), (kF_r6 (cA := cA) (z := zc)), trivial⟩
    have hP : va_P (dC, dI) vwCl [cTP zc, cR6 cA zc] s.heap := kAll_P hPk hks
    have hD : va_D (va_A [cTP zc, cR6 cA zc] s.heap.size) [cTP zc, cR6 cA zc] := (kAll_D hDk hks (by simp)).self
    have hA : ∀ q : Nat, s.heap.size ≤ q → va_A [cTP zc, cR6 cA zc] s.heap.size q := fun q h => Or.inr h
    have hS : va_S (va_A [cTP zc, cR6 cA zc] s.heap.size) s.heap s.heap [] := va_S.rf
    refine lv_aload_n hx hb dX10_foretold_0 rfl (lv_at hl 0 rfl) ?_
    refine lv_iload_n hx hb dX10_foretold_1 rfl (lv_at hl 1 rfl) ?_
    have hPc := hP.sub (ws' := [cTP zc]) [0] rfl
    have hDc := hD.sub (ws' := [cTP zc]) [0] (by decide) rfl
    have hKc := hK.sub (tys' := []) [] rfl
    refine va_csq (va_Run.run (va_runV (As := [.int pp]) (rest := []) ⟨hx, hb, hml, hown, hts⟩ (s_pitchAt_no l dC dI  _ (cs_X zc 0 0) (.ref (cs_X zc 0 1)) (.ref (cs_X zc 0 6)) (.ref (cs_X zc 0 7)) (.ref (cs_X zc 0 8)) (.ref (cs_X zc 0 9)) (.ref (cs_X zc 0 10)) (.ref (cs_X zc 0 11)) (.int (nI (cs_n zc 1))) (.int (nI (cs_n zc 2))) (.int (nI (cs_n zc 3))) (va_rf (opN (cs_n zc 4) (fun _ => cs_X zc 5 0))) (.int (cs_i zc 2)) pp (cs_n zc 0) (by omega) hnojp) (cwV 1 hts gX10_foretold_X10_pitchAt rfl rfl rfl (by decide +kernel) ⟨Nat.le_of_ble_eq_true rfl, Nat.le_of_ble_eq_true rfl⟩) (pw_preV (va_recv hKc hPc (ci := 10) (q0 := 0) rfl rfl) hPc hKc hDc hN) rfl rfl hl.1 rfl (lv_room (Nat.le_of_ble_eq_true rfl)) dX10_foretold_2 ⟨Nat.le_of_ble_eq_true rfl, Nat.le_of_ble_eq_true rfl⟩)) (fun r1 hr1 => ?_)
    have hr1 : r1 = none := hr1
    subst hr1
    refine W.eq (g2 := F0 m 5 ls [.null]) rfl ?_
    refine lv_astore_nN (lv' := [(3, .null), (0, .ref (cs_X zc 0 0)), (1, .int pp), (2, .int wh)]) hx hb dX10_foretold_5 rfl hl (by decide) rfl (fun ls hl => ?_)
    refine lv_aload_nN hx hb dX10_foretold_6 rfl (lv_at hl 0 rfl) ?_
    refine lv_ifnullN (tgt := 19) hx hb dX10_foretold_7 (by decide) ?_
    refine lv_ldc2 (v := (-9223372036854775808)) hx hb hown (hts (.constantLong RX10 137 (-9223372036854775808)) (by decide +kernel)) dX10_foretold_19 ?_
    subst hQ
    exact W.lret (v := (-9223372036854775808)) hx hb hr (fun t ht hW => ⟨⟨(-9223372036854775808), zc, rfl, ⟨⟨hI, rfl⟩, (Or.inl ⟨hnojp, rfl, rfl⟩)⟩, (by rw [ht]; exact hPk), va_K.moved hW.alike hKk, kDA_self hDk⟩, (kw_same hPk ht).2⟩) (fun q h => absurd h List.not_mem_nil) dX10_foretold_22
  · skip
    have hks : kAll (cF cA zc) [(0, 0), (0, 6), (1, jp), (0, 1), (0, 2), (0, 3)] [cTP zc, cR6 cA zc, cPi zc jp, cLo zc, cA2 cA zc, cA3 cA zc] := ⟨(kF_tp (cA := cA) (z := zc)), (kF_r6 (cA := cA) (z := zc)), (kF_pi (z := zc) (j := jp) hjp), (kF_lo (cA := cA) (z := zc)), (kF_a2 (cA := cA) (z := zc)), (kF_a3 (cA := cA) (z := zc)), trivial⟩
    have hP : va_P (dC, dI) vwCl [cTP zc, cR6 cA zc, cPi zc jp, cLo zc, cA2 cA zc, cA3 cA zc] s.heap := kAll_P hPk hks
    have hD : va_D (va_A [cTP zc, cR6 cA zc, cPi zc jp, cLo zc, cA2 cA zc, cA3 cA zc] s.heap.size) [cTP zc, cR6 cA zc, cPi zc jp, cLo zc, cA2 cA zc, cA3 cA zc] := (kAll_D hDk hks (by simp)).self
    have hA : ∀ q : Nat, s.heap.size ≤ q → va_A [cTP zc, cR6 cA zc, cPi zc jp, cLo zc, cA2 cA zc, cA3 cA zc] s.heap.size q := fun q h => Or.inr h
    have hS : va_S (va_A [cTP zc, cR6 cA zc, cPi zc jp, cLo zc, cA2 cA zc, cA3 cA zc] s.heap.size) s.heap s.heap [] := va_S.rf
    refine lv_aload_n hx hb dX10_foretold_0 rfl (lv_at hl 0 rfl) ?_
    refine lv_iload_n hx hb dX10_foretold_1 rfl (lv_at hl 1 rfl) ?_
    have hPc := hP.sub (ws' := [cTP zc, cR6 cA zc]) [0, 1] rfl
    have hDc := hD.sub (ws' := [cTP zc, cR6 cA zc]) [0, 1] (by decide) rfl
    have hKc := hK.sub (tys' := [(cA 1, .object RX6)]) [1] rfl
    refine va_csq (va_Run.run (va_runV (As := [.int (nI jp)]) (rest := []) ⟨hx, hb, hml, hown, hts⟩ (s_pitchAt_yes l dC dI (cA 1) _ (cs_X zc 0 0) (.ref (cs_X zc 0 1)) (.ref (cs_X zc 0 7)) (.ref (cs_X zc 0 8)) (.ref (cs_X zc 0 9)) (.ref (cs_X zc 0 10)) (.ref (cs_X zc 0 11)) (.int (nI (cs_n zc 1))) (.int (nI (cs_n zc 2))) (.int (nI (cs_n zc 3))) (va_rf (opN (cs_n zc 4) (fun _ => cs_X zc 5 0))) (.int (cs_i zc 2)) (cs_X zc 0 6) jp (cs_n zc 0) (cs_X zc 1 jp) (rfN (cs_n zc 0) (cs_X zc 1)) hjp (by omega) (rfN_at hjp)) (cwV 1 hts gX10_foretold_X10_pitchAt rfl rfl rfl (by decide +kernel) ⟨Nat.le_of_ble_eq_true rfl, Nat.le_of_ble_eq_true rfl⟩) (pw_preV (va_recv hKc hPc (ci := 10) (q0 := 0) rfl rfl) hPc hKc hDc hN) rfl rfl hl.1 rfl (lv_room (Nat.le_of_ble_eq_true rfl)) dX10_foretold_2 ⟨Nat.le_of_ble_eq_true rfl, Nat.le_of_ble_eq_true rfl⟩)) (fun r2 hr2 => ?_)
    have hr2 : r2 = some (cs_X zc 1 jp) := hr2
    subst hr2
    refine W.eq (g2 := F0 m 5 ls [.ref (cs_X zc 1 jp)]) rfl ?_
    refine lv_astore_n (lv' := [(3, .ref (cs_X zc 1 jp)), (0, .ref (cs_X zc 0 0)), (1, .int (nI jp)), (2, .int wh)]) hx hb dX10_foretold_5 rfl hl (by decide) rfl (fun ls hl => ?_)
    refine lv_aload_n hx hb dX10_foretold_6 rfl (lv_at hl 0 rfl) ?_
    refine lv_ifnull hx hb dX10_foretold_7 ?_
    refine lv_iload_n hx hb dX10_foretold_10 rfl (lv_at hl 3 rfl) ?_
    refine lv_iconst (v := 0) hx hb dX10_foretold_11 (by decide) ?_
    refine lv_iconst (v := 1) hx hb dX10_foretold_12 (by decide) ?_
    refine vp_callSi (va_Run.run (va_runS (As := [.int wh, .int 0, .int 1]) (rest := []) ⟨hx, hb, hml, hown, hts⟩ (c_X10_isWithin l wh 0 1 ) (va_cwS 3 hts gX10_foretold_X10_isWithin rfl rfl rfl (by decide +kernel) ⟨Nat.le_of_ble_eq_true rfl, Nat.le_of_ble_eq_true rfl⟩) (p0_preS hN) rfl rfl hl.1 rfl (lv_room (Nat.le_of_ble_eq_true rfl)) dX10_foretold_13 ⟨Nat.le_of_ble_eq_true rfl, Nat.le_of_ble_eq_true rfl⟩)) (fun r3 hr3 => ?_)
    have hr3 : r3 = if 0 ≤ wh ∧ wh ≤ 1 then 1 else 0 := hr3
    refine lv_if_ne (tgt := 23) hx hb dX10_foretold_16 (by decide) (fun c4 => ?_) (fun c4 => ?_)
    · skip
      have c4 := (fa_bool_prop hr3).2.mp c4
      refine lv_iload_n hx hb dX10_foretold_23 rfl (lv_at hl 3 rfl) ?_
      refine lv_if_ne (tgt := 41) hx hb dX10_foretold_24 (by decide) (fun c5 => ?_) (fun c5 => ?_)
      · skip
        refine lv_aload_n hx hb dX10_foretold_41 rfl (lv_at hl 0 rfl) ?_
        refine lv_aload_n hx hb dX10_foretold_42 rfl (lv_at hl 1 rfl) ?_
        refine va_get (D := (dC, dI)) (ci := 10) (v := .ref (cs_X zc 0 1)) (C := RX10) (T := TX10) (N := 13) hx hb hts hiX10 hown hK hP 0 rfl rfl 0 (by decide) (hts (.fieldLink RX10 12 "TributePitches" "lode" "LTributePitches$Lode;") (by decide +kernel)) (fun _ h9 => h9) rfl dX10_foretold_43 ?_
        refine va_get (D := (dC, dI)) (ci := 3) (v := .ref (cs_X zc 0 3)) (C := RX3) (T := TX3) (N := 5) hx hb hts hiX3 hown hK hP 3 rfl rfl 1 (by decide) (hts (.fieldLink RX10 90 "TributePitches$Lode" "highs" "[I") (by decide +kernel)) (fun _ h9 => h9) rfl dX10_foretold_46 ?_
        have hPc := hP.sub (ws' := [cPi zc jp, cA3 cA zc]) [2, 5] rfl
        have hDc := hD.sub (ws' := [cPi zc jp, cA3 cA zc]) [2, 5] (by decide) rfl
        have hKc := hK.sub (tys' := [(cA 0, .int)]) [0] rfl
        refine vp_callSl (va_Run.run (va_runV (As := [.ref (cs_X zc 0 3)]) (rest := []) ⟨hx, hb, hml, hown, hts⟩ (s_foretoldBy l dC dI (cA 0) _ (cs_X zc 1 jp) (cs_X zc 0 3) (.int (nI jp)) (.int (cs_I zc 16 jp)) (va_rf (opN (cs_N zc 0 jp) (cs_X zc 3))) (cs_I zc 11 jp) (cs_I zc 12 jp) (cs_I zc 13 jp) (cs_I zc 14 jp) (rXa zc jp) (rWa zc jp) (rYa zc jp) (rHa zc jp) (cs_I zc 15 jp) (cs_I zc 1) (rectF hI hjp).1 (rectF hI hjp).2.1 (rectF hI hjp).2.2.1 (rectF hI hjp).2.2.2.1 (rectF hI hjp).2.2.2.2.1 (rectF hI hjp).2.2.2.2.2) (cwV 1 hts gX10_foretold_X6_foretoldBy rfl rfl rfl (by decide +kernel) ⟨Nat.le_of_ble_eq_true rfl, Nat.le_of_ble_eq_true rfl⟩) (pw_preV (va_recv hKc hPc (ci := 6) (q0 := 0) rfl rfl) hPc hKc hDc hN) rfl rfl hl.1 rfl (lv_room (Nat.le_of_ble_eq_true rfl)) dX10_foretold_49 ⟨Nat.le_of_ble_eq_true rfl, Nat.le_of_ble_eq_true rfl⟩)) (fun r6 hr6 => ?_)
        have hr6 : r6 = pacc (cs_I zc 1) (rXa zc jp) (rWa zc jp) (rYa zc jp) ((rHa zc jp) + 1) * (cs_I zc 15 jp).toInt64 := hr6
        have hr6 := hr6.symm
        subst hr6
        refine W.eq (g2 := F0 m 52 ls [.long (pacc (cs_I zc 1) (rXa zc jp) (rWa zc jp) (rYa zc jp) ((rHa zc jp) + 1) * (cs_I zc 15 jp).toInt64)]) rfl ?_
        subst hQ
        exact W.lret (v := pacc (cs_I zc 1) (rXa zc jp) (rWa zc jp) (rYa zc jp) ((rHa zc jp) + 1) * (cs_I zc 15 jp).toInt64) hx hb hr (fun t ht hW => ⟨⟨pacc (cs_I zc 1) (rXa zc jp) (rWa zc jp) (rYa zc jp) ((rHa zc jp) + 1) * (cs_I zc 15 jp).toInt64, zc, rfl, ⟨⟨hI, rfl⟩, (Or.inr (Or.inl ⟨jp, rfl, hjp, c4, c5, rfl, rfl⟩))⟩, (by rw [ht]; exact hPk), va_K.moved hW.alike hKk, kDA_self hDk⟩, (kw_same hPk ht).2⟩) (fun q h => absurd h List.not_mem_nil) dX10_foretold_52
      · skip
        refine lv_aload_n hx hb dX10_foretold_27 rfl (lv_at hl 0 rfl) ?_
        refine lv_aload_n hx hb dX10_foretold_28 rfl (lv_at hl 1 rfl) ?_
        refine va_get (D := (dC, dI)) (ci := 10) (v := .ref (cs_X zc 0 1)) (C := RX10) (T := TX10) (N := 13) hx hb hts hiX10 hown hK hP 0 rfl rfl 0 (by decide) (hts (.fieldLink RX10 12 "TributePitches" "lode" "LTributePitches$Lode;") (by decide +kernel)) (fun _ h9 => h9) rfl dX10_foretold_29 ?_
        refine va_get (D := (dC, dI)) (ci := 3) (v := .ref (cs_X zc 0 2)) (C := RX3) (T := TX3) (N := 5) hx hb hts hiX3 hown hK hP 3 rfl rfl 0 (by decide) (hts (.fieldLink RX10 86 "TributePitches$Lode" "lows" "[I") (by decide +kernel)) (fun _ h9 => h9) rfl dX10_foretold_32 ?_
        have hPc := hP.sub (ws' := [cPi zc jp, cA2 cA zc]) [2, 4] rfl
        have hDc := hD.sub (ws' := [cPi zc jp, cA2 cA zc]) [2, 4] (by decide) rfl
        have hKc := hK.sub (tys' := [(cA 0, .int)]) [0] rfl
        refine vp_callSl (va_Run.run (va_runV (As := [.ref (cs_X zc 0 2)]) (rest := []) ⟨hx, hb, hml, hown, hts⟩ (s_foretoldBy l dC dI (cA 0) _ (cs_X zc 1 jp) (cs_X zc 0 2) (.int (nI jp)) (.int (cs_I zc 16 jp)) (va_rf (opN (cs_N zc 0 jp) (cs_X zc 3))) (cs_I zc 11 jp) (cs_I zc 12 jp) (cs_I zc 13 jp) (cs_I zc 14 jp) (rXa zc jp) (rWa zc jp) (rYa zc jp) (rHa zc jp) (cs_I zc 15 jp) (cs_I zc 0) (rectF hI hjp).1 (rectF hI hjp).2.1 (rectF hI hjp).2.2.1 (rectF hI hjp).2.2.2.1 (rectF hI hjp).2.2.2.2.1 (rectF hI hjp).2.2.2.2.2) (cwV 1 hts gX10_foretold_X6_foretoldBy rfl rfl rfl (by decide +kernel) ⟨Nat.le_of_ble_eq_true rfl, Nat.le_of_ble_eq_true rfl⟩) (pw_preV (va_recv hKc hPc (ci := 6) (q0 := 0) rfl rfl) hPc hKc hDc hN) rfl rfl hl.1 rfl (lv_room (Nat.le_of_ble_eq_true rfl)) dX10_foretold_35 ⟨Nat.le_of_ble_eq_true rfl, Nat.le_of_ble_eq_true rfl⟩)) (fun r7 hr7 => ?_)
        have hr7 : r7 = pacc (cs_I zc 0) (rXa zc jp) (rWa zc jp) (rYa zc jp) ((rHa zc jp) + 1) * (cs_I zc 15 jp).toInt64 := hr7
        have hr7 := hr7.symm
        subst hr7
        refine W.eq (g2 := F0 m 38 ls [.long (pacc (cs_I zc 0) (rXa zc jp) (rWa zc jp) (rYa zc jp) ((rHa zc jp) + 1) * (cs_I zc 15 jp).toInt64)]) rfl ?_
        refine lv_goto (tgt := 52) hx hb dX10_foretold_38 (by decide) ?_
        subst hQ
        exact W.lret (v := pacc (cs_I zc 0) (rXa zc jp) (rWa zc jp) (rYa zc jp) ((rHa zc jp) + 1) * (cs_I zc 15 jp).toInt64) hx hb hr (fun t ht hW => ⟨⟨pacc (cs_I zc 0) (rXa zc jp) (rWa zc jp) (rYa zc jp) ((rHa zc jp) + 1) * (cs_I zc 15 jp).toInt64, zc, rfl, ⟨⟨hI, rfl⟩, (Or.inr (Or.inr (Or.inl ⟨jp, rfl, hjp, c4, c5, rfl, rfl⟩)))⟩, (by rw [ht]; exact hPk), va_K.moved hW.alike hKk, kDA_self hDk⟩, (kw_same hPk ht).2⟩) (fun q h => absurd h List.not_mem_nil) dX10_foretold_52
    · skip
      have c4 := (fa_bool_prop hr3).1.mp c4
      refine lv_ldc2 (v := (-9223372036854775808)) hx hb hown (hts (.constantLong RX10 137 (-9223372036854775808)) (by decide +kernel)) dX10_foretold_19 ?_
      subst hQ
      exact W.lret (v := (-9223372036854775808)) hx hb hr (fun t ht hW => ⟨⟨(-9223372036854775808), zc, rfl, ⟨⟨hI, rfl⟩, (Or.inr (Or.inr (Or.inr ⟨jp, rfl, hjp, c4, rfl, rfl⟩)))⟩, (by rw [ht]; exact hPk), va_K.moved hW.alike hKk, kDA_self hDk⟩, (kw_same hPk ht).2⟩) (fun q h => absurd h List.not_mem_nil) dX10_foretold_22
