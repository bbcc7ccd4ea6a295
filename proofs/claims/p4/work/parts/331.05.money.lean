def pC_money (zc : CS) (t : Int32) (wh : Int32) (r : Int64) (u : CS) : Prop :=
  ((∀ j, j < cs_n zc 2 → t ≠ nI j) ∧ r = ((-9223372036854775808)) ∧ u = zc) ∨
  (∃ jt : Nat, t = nI jt ∧ (jt < cs_n zc 2) ∧ wh = 0 ∧ r = (cs_L zc 3 jt) ∧ u = zc) ∨
  (∃ jt : Nat, t = nI jt ∧ (jt < cs_n zc 2) ∧ wh = 1 ∧ r = (cs_L zc 4 jt) ∧ u = zc) ∨
  (∃ jt : Nat, t = nI jt ∧ (jt < cs_n zc 2) ∧ wh = 2 ∧ r = (cs_L zc 5 jt) ∧ u = zc) ∨
  (∃ jt : Nat, t = nI jt ∧ (jt < cs_n zc 2) ∧ wh = 3 ∧ r = (cs_L zc 6 jt) ∧ u = zc) ∨
  (∃ jt : Nat, t = nI jt ∧ (jt < cs_n zc 2) ∧ wh = 4 ∧ r = (cs_L zc 1 jt) ∧ u = zc) ∨
  (∃ jt : Nat, t = nI jt ∧ (jt < cs_n zc 2) ∧ wh = 5 ∧ r = (cs_L zc 2 jt) ∧ u = zc) ∨
  (∃ jt : Nat, t = nI jt ∧ (jt < cs_n zc 2) ∧ (¬ wh = 0) ∧ (¬ wh = 1) ∧ (¬ wh = 2) ∧ (¬ wh = 3) ∧ (¬ wh = 4) ∧ (¬ wh = 5) ∧ r = ((-9223372036854775808)) ∧ u = zc)
set_option maxHeartbeats 4000000 in
set_option maxRecDepth 100000 in
theorem K_money (l : Launch) (dC : Nat → ClassId) (dI : Nat → Nat → Nat) (cA : Nat → ClassId) (sz : Nat) (zc : CS) (t : Int32) (wh : Int32) (hI : invC zc) : Met l yX10_money wsX10_money ({ frames := 2, cells := 0, slots := 0, locals := 60 }) (kw (dC, dI) (ctys cA) (cF cA zc) sz [.ref (cs_X zc 0 0), .int t, .int wh]) (kQl (dC, dI) (ctys cA) (cF cA zc) sz (cF cA) (fun r u => (invC u ∧ cs_X u 0 0 = cs_X zc 0 0) ∧ pC_money zc t wh r u)) 0 0 (kA (cF cA zc) sz) := by
  refine kw_met (cc := cX10_money) (maxL := 4) (ret := (some .long)) (by decide) rfl (Nat.le_of_ble_eq_true rfl) ?_
  intro p e s m below meth c0 hx hb hr hml hown hlocks hnm hts hPk hKk hDk hN hsz ls hl
  subst hsz
  have hK : va_K (dC, dI) vwCl [(cA 0, .int), (cA 1, .object RX6), (cA 2, .object RX2), (cA 3, .object RX8), (cA 4, .object RX5), (cA 5, .object RX7)] s := hKk
  obtain ⟨⟨hn0, hn1, hn2, hn3, hn4, hn5⟩, hpi, hgk, htk, hpk, hsh⟩ := id hI
  have hl : lv_has ls 4 [(0, .ref (cs_X zc 0 0)), (1, .int t), (2, .int wh)] := hl
  have hiX8 : ∀ w ∈ wsX80, w ∈ wsX10_money := by decide +kernel
  generalize hQ : MQ _ _ _ _ _ _ _ = Q
  rcases ixd t (cs_n zc 2) with hnojt | ⟨jt, hjt, rfl⟩
  · skip
    have hks : kAll (cF cA zc) [(0, 0), (0, 8)] [cTP zc, cR8 cA zc] := ⟨(kF_tp (cA := cA) (z := zc)), (kF_r8 (cA := cA) (z := zc)), trivial⟩
    have hP : va_P (dC, dI) vwCl [cTP zc, cR8 cA zc] s.heap := kAll_P hPk hks
    have hD : va_D (va_A [cTP zc, cR8 cA zc] s.heap.size) [cTP zc, cR8 cA zc] := (kAll_D hDk hks (by simp)).self
    have hA : ∀ q : Nat, s.heap.size ≤ q → va_A [cTP zc, cR8 cA zc] s.heap.size q := fun q h => Or.inr h
    have hS : va_S (va_A [cTP zc, cR8 cA zc] s.heap.size) s.heap s.heap [] := va_S.rf
    refine lv_aload_n hx hb dX10_money_0 rfl (lv_at hl 0 rfl) ?_
    refine lv_iload_n hx hb dX10_money_1 rfl (lv_at hl 1 rfl) ?_
    have hPc := hP.sub (ws' := [cTP zc]) [0] rfl
    have hDc := hD.sub (ws' := [cTP zc]) [0] (by decide) rfl
    have hKc := hK.sub (tys' := []) [] rfl
    refine va_csq (va_Run.run (va_runV (As := [.int t]) (rest := []) ⟨hx, hb, hml, hown, hts⟩ (s_takeAt_no l dC dI  _ (cs_X zc 0 0) (.ref (cs_X zc 0 1)) (.ref (cs_X zc 0 6)) (.ref (cs_X zc 0 7)) (.ref (cs_X zc 0 8)) (.ref (cs_X zc 0 9)) (.ref (cs_X zc 0 10)) (.ref (cs_X zc 0 11)) (.int (nI (cs_n zc 0))) (.int (nI (cs_n zc 1))) (.int (nI (cs_n zc 3))) (va_rf (opN (cs_n zc 4) (fun _ => cs_X zc 5 0))) (.int (cs_i zc 2)) t (cs_n zc 2) (by omega) hnojt) (cwV 1 hts gX10_money_X10_takeAt rfl rfl rfl (by decide +kernel) ⟨Nat.le_of_ble_eq_true rfl, Nat.le_of_ble_eq_true rfl⟩) (pw_preV (va_recv hKc hPc (ci := 10) (q0 := 0) rfl rfl) hPc hKc hDc hN) rfl rfl hl.1 rfl (lv_room (Nat.le_of_ble_eq_true rfl)) dX10_money_2 ⟨Nat.le_of_ble_eq_true rfl, Nat.le_of_ble_eq_true rfl⟩)) (fun r1 hr1 => ?_)
    have hr1 : r1 = none := hr1
    subst hr1
    refine W.eq (g2 := F0 m 5 ls [.null]) rfl ?_
    refine lv_astore_nN (lv' := [(3, .null), (0, .ref (cs_X zc 0 0)), (1, .int t), (2, .int wh)]) hx hb dX10_money_5 rfl hl (by decide) rfl (fun ls hl => ?_)
    refine lv_aload_nN hx hb dX10_money_6 rfl (lv_at hl 0 rfl) ?_
    refine lv_ifnonnullN hx hb dX10_money_7 ?_
    refine lv_ldc2 (v := (-9223372036854775808)) hx hb hown (hts (.constantLong RX10 137 (-9223372036854775808)) (by decide +kernel)) dX10_money_10 ?_
    subst hQ
    exact W.lret (v := (-9223372036854775808)) hx hb hr (fun t ht hW => ⟨⟨(-9223372036854775808), zc, rfl, ⟨⟨hI, rfl⟩, (Or.inl ⟨hnojt, rfl, rfl⟩)⟩, (by rw [ht]; exact hPk), va_K.moved hW.alike hKk, kDA_self hDk⟩, (kw_same hPk ht).2⟩) (fun q h => absurd h List.not_mem_nil) dX10_money_13
  · skip
    have hks : kAll (cF cA zc) [(0, 0), (0, 8), (3, jt)] [cTP zc, cR8 cA zc, cTa zc jt] := ⟨(kF_tp (cA := cA) (z := zc)), (kF_r8 (cA := cA) (z := zc)), (kF_ta (z := zc) hjt), trivial⟩
    have hP : va_P (dC, dI) vwCl [cTP zc, cR8 cA zc, cTa zc jt] s.heap := kAll_P hPk hks
    have hD : va_D (va_A [cTP zc, cR8 cA zc, cTa zc jt] s.heap.size) [cTP zc, cR8 cA zc, cTa zc jt] := (kAll_D hDk hks (by simp)).self
    have hA : ∀ q : Nat, s.heap.size ≤ q → va_A [cTP zc, cR8 cA zc, cTa zc jt] s.heap.size q := fun q h => Or.inr h
    have hS : va_S (va_A [cTP zc, cR8 cA zc, cTa zc jt] s.heap.size) s.heap s.heap [] := va_S.rf
    refine lv_aload_n hx hb dX10_money_0 rfl (lv_at hl 0 rfl) ?_
    refine lv_iload_n hx hb dX10_money_1 rfl (lv_at hl 1 rfl) ?_
    have hPc := hP.sub (ws' := [cTP zc, cR8 cA zc]) [0, 1] rfl
    have hDc := hD.sub (ws' := [cTP zc, cR8 cA zc]) [0, 1] (by decide) rfl
    have hKc := hK.sub (tys' := [(cA 3, .object RX8)]) [3] rfl
    refine va_csq (va_Run.run (va_runV (As := [.int (nI jt)]) (rest := []) ⟨hx, hb, hml, hown, hts⟩ (s_takeAt_yes l dC dI (cA 3) _ (cs_X zc 0 0) (.ref (cs_X zc 0 1)) (.ref (cs_X zc 0 6)) (.ref (cs_X zc 0 7)) (.ref (cs_X zc 0 9)) (.ref (cs_X zc 0 10)) (.ref (cs_X zc 0 11)) (.int (nI (cs_n zc 0))) (.int (nI (cs_n zc 1))) (.int (nI (cs_n zc 3))) (va_rf (opN (cs_n zc 4) (fun _ => cs_X zc 5 0))) (.int (cs_i zc 2)) (cs_X zc 0 8) jt (cs_n zc 2) (cs_X zc 3 jt) (rfN (cs_n zc 2) (cs_X zc 3)) hjt (by omega) (rfN_at hjt)) (cwV 1 hts gX10_money_X10_takeAt rfl rfl rfl (by decide +kernel) ⟨Nat.le_of_ble_eq_true rfl, Nat.le_of_ble_eq_true rfl⟩) (pw_preV (va_recv hKc hPc (ci := 10) (q0 := 0) rfl rfl) hPc hKc hDc hN) rfl rfl hl.1 rfl (lv_room (Nat.le_of_ble_eq_true rfl)) dX10_money_2 ⟨Nat.le_of_ble_eq_true rfl, Nat.le_of_ble_eq_true rfl⟩)) (fun r2 hr2 => ?_)
    have hr2 : r2 = some (cs_X zc 3 jt) := hr2
    subst hr2
    refine W.eq (g2 := F0 m 5 ls [.ref (cs_X zc 3 jt)]) rfl ?_
    refine lv_astore_n (lv' := [(3, .ref (cs_X zc 3 jt)), (0, .ref (cs_X zc 0 0)), (1, .int (nI jt)), (2, .int wh)]) hx hb dX10_money_5 rfl hl (by decide) rfl (fun ls hl => ?_)
    refine lv_aload_n hx hb dX10_money_6 rfl (lv_at hl 0 rfl) ?_
    refine lv_ifnonnull (tgt := 14) hx hb dX10_money_7 (by decide) ?_
    refine lv_iload_n hx hb dX10_money_14 rfl (lv_at hl 3 rfl) ?_
    by_cases hw3 : wh = 0
    · subst hw3
      refine lv_tableIn (off := 37) (tgt := 52) hx hb dX10_money_15 (by decide) (by decide) rfl (by decide) ?_
      refine lv_aload_n hx hb dX10_money_52 rfl (lv_at hl 0 rfl) ?_
      refine va_get (D := (dC, dI)) (ci := 8) (v := .long (cs_L zc 3 jt)) (C := RX8) (T := TX8) (N := 12) hx hb hts hiX8 hown hK hP 2 rfl rfl 6 (by decide) (hts (.fieldLink RX10 249 "TributePitches$Take" "worths" "J") (by decide +kernel)) (fun _ h9 => h9) rfl dX10_money_53 ?_
      subst hQ
      exact W.lret (v := cs_L zc 3 jt) hx hb hr (fun t ht hW => ⟨⟨cs_L zc 3 jt, zc, rfl, ⟨⟨hI, rfl⟩, (Or.inr (Or.inl ⟨jt, rfl, hjt, rfl, rfl, rfl⟩))⟩, (by rw [ht]; exact hPk), va_K.moved hW.alike hKk, kDA_self hDk⟩, (kw_same hPk ht).2⟩) (fun q h => absurd h List.not_mem_nil) dX10_money_56
    by_cases hw4 : wh = 1
    · subst hw4
      refine lv_tableIn (off := 42) (tgt := 57) hx hb dX10_money_15 (by decide) (by decide) rfl (by decide) ?_
      refine lv_aload_n hx hb dX10_money_57 rfl (lv_at hl 0 rfl) ?_
      refine va_get (D := (dC, dI)) (ci := 8) (v := .long (cs_L zc 4 jt)) (C := RX8) (T := TX8) (N := 12) hx hb hts hiX8 hown hK hP 2 rfl rfl 7 (by decide) (hts (.fieldLink RX10 253 "TributePitches$Take" "costs" "J") (by decide +kernel)) (fun _ h9 => h9) rfl dX10_money_58 ?_
      subst hQ
      exact W.lret (v := cs_L zc 4 jt) hx hb hr (fun t ht hW => ⟨⟨cs_L zc 4 jt, zc, rfl, ⟨⟨hI, rfl⟩, (Or.inr (Or.inr (Or.inl ⟨jt, rfl, hjt, rfl, rfl, rfl⟩)))⟩, (by rw [ht]; exact hPk), va_K.moved hW.alike hKk, kDA_self hDk⟩, (kw_same hPk ht).2⟩) (fun q h => absurd h List.not_mem_nil) dX10_money_61
    by_cases hw5 : wh = 2
    · subst hw5
      refine lv_tableIn (off := 47) (tgt := 62) hx hb dX10_money_15 (by decide) (by decide) rfl (by decide) ?_
      refine lv_aload_n hx hb dX10_money_62 rfl (lv_at hl 0 rfl) ?_
      refine va_get (D := (dC, dI)) (ci := 8) (v := .long (cs_L zc 5 jt)) (C := RX8) (T := TX8) (N := 12) hx hb hts hiX8 hown hK hP 2 rfl rfl 8 (by decide) (hts (.fieldLink RX10 256 "TributePitches$Take" "ahead" "J") (by decide +kernel)) (fun _ h9 => h9) rfl dX10_money_63 ?_
      subst hQ
      exact W.lret (v := cs_L zc 5 jt) hx hb hr (fun t ht hW => ⟨⟨cs_L zc 5 jt, zc, rfl, ⟨⟨hI, rfl⟩, (Or.inr (Or.inr (Or.inr (Or.inl ⟨jt, rfl, hjt, rfl, rfl, rfl⟩))))⟩, (by rw [ht]; exact hPk), va_K.moved hW.alike hKk, kDA_self hDk⟩, (kw_same hPk ht).2⟩) (fun q h => absurd h List.not_mem_nil) dX10_money_66
    by_cases hw6 : wh = 3
    · subst hw6
      refine lv_tableIn (off := 52) (tgt := 67) hx hb dX10_money_15 (by decide) (by decide) rfl (by decide) ?_
      refine lv_aload_n hx hb dX10_money_67 rfl (lv_at hl 0 rfl) ?_
      refine va_get (D := (dC, dI)) (ci := 8) (v := .long (cs_L zc 6 jt)) (C := RX8) (T := TX8) (N := 12) hx hb hts hiX8 hown hK hP 2 rfl rfl 9 (by decide) (hts (.fieldLink RX10 262 "TributePitches$Take" "pay" "J") (by decide +kernel)) (fun _ h9 => h9) rfl dX10_money_68 ?_
      subst hQ
      exact W.lret (v := cs_L zc 6 jt) hx hb hr (fun t ht hW => ⟨⟨cs_L zc 6 jt, zc, rfl, ⟨⟨hI, rfl⟩, (Or.inr (Or.inr (Or.inr (Or.inr (Or.inl ⟨jt, rfl, hjt, rfl, rfl, rfl⟩)))))⟩, (by rw [ht]; exact hPk), va_K.moved hW.alike hKk, kDA_self hDk⟩, (kw_same hPk ht).2⟩) (fun q h => absurd h List.not_mem_nil) dX10_money_71
    by_cases hw7 : wh = 4
    · subst hw7
      refine lv_tableIn (off := 57) (tgt := 72) hx hb dX10_money_15 (by decide) (by decide) rfl (by decide) ?_
      refine lv_aload_n hx hb dX10_money_72 rfl (lv_at hl 0 rfl) ?_
      refine va_get (D := (dC, dI)) (ci := 8) (v := .long (cs_L zc 1 jt)) (C := RX8) (T := TX8) (N := 12) hx hb hts hiX8 hown hK hP 2 rfl rfl 4 (by decide) (hts (.fieldLink RX10 203 "TributePitches$Take" "least" "J") (by decide +kernel)) (fun _ h9 => h9) rfl dX10_money_73 ?_
      subst hQ
      exact W.lret (v := cs_L zc 1 jt) hx hb hr (fun t ht hW => ⟨⟨cs_L zc 1 jt, zc, rfl, ⟨⟨hI, rfl⟩, (Or.inr (Or.inr (Or.inr (Or.inr (Or.inr (Or.inl ⟨jt, rfl, hjt, rfl, rfl, rfl⟩))))))⟩, (by rw [ht]; exact hPk), va_K.moved hW.alike hKk, kDA_self hDk⟩, (kw_same hPk ht).2⟩) (fun q h => absurd h List.not_mem_nil) dX10_money_76
    by_cases hw8 : wh = 5
    · subst hw8
      refine lv_tableIn (off := 62) (tgt := 77) hx hb dX10_money_15 (by decide) (by decide) rfl (by decide) ?_
      refine lv_aload_n hx hb dX10_money_77 rfl (lv_at hl 0 rfl) ?_
      refine va_get (D := (dC, dI)) (ci := 8) (v := .long (cs_L zc 2 jt)) (C := RX8) (T := TX8) (N := 12) hx hb hts hiX8 hown hK hP 2 rfl rfl 5 (by decide) (hts (.fieldLink RX10 207 "TributePitches$Take" "greatest" "J") (by decide +kernel)) (fun _ h9 => h9) rfl dX10_money_78 ?_
      subst hQ
      exact W.lret (v := cs_L zc 2 jt) hx hb hr (fun t ht hW => ⟨⟨cs_L zc 2 jt, zc, rfl, ⟨⟨hI, rfl⟩, (Or.inr (Or.inr (Or.inr (Or.inr (Or.inr (Or.inr (Or.inl ⟨jt, rfl, hjt, rfl, rfl, rfl⟩)))))))⟩, (by rw [ht]; exact hPk), va_K.moved hW.alike hKk, kDA_self hDk⟩, (kw_same hPk ht).2⟩) (fun q h => absurd h List.not_mem_nil) dX10_money_81
    refine lv_tableOut (tgt := 82) hx hb dX10_money_15 (tb_out6 hw3 hw4 hw5 hw6 hw7 hw8) (by decide) ?_
    refine lv_ldc2 (v := (-9223372036854775808)) hx hb hown (hts (.constantLong RX10 137 (-9223372036854775808)) (by decide +kernel)) dX10_money_82 ?_
    subst hQ
    exact W.lret (v := (-9223372036854775808)) hx hb hr (fun t ht hW => ⟨⟨(-9223372036854775808), zc, rfl, ⟨⟨hI, rfl⟩, (Or.inr (Or.inr (Or.inr (Or.inr (Or.inr (Or.inr (Or.inr ⟨jt, rfl, hjt, hw3, hw4, hw5, hw6, hw7, hw8, rfl, rfl⟩)))))))⟩, (by rw [ht]; exact hPk), va_K.moved hW.alike hKk, kDA_self hDk⟩, (kw_same hPk ht).2⟩) (fun q h => absurd h List.not_mem_nil) dX10_money_85
