def pC_about (zc : CS) (pp : Int32) (wh : Int32) (r : Int32) (u : CS) : Prop :=
  ((∀ j, j < cs_n zc 0 → pp ≠ nI j) ∧ r = ((-1)) ∧ u = zc) ∨
  (∃ jp : Nat, pp = nI jp ∧ (jp < cs_n zc 0) ∧ (cs_N zc 0 jp = 0) ∧ wh = 0 ∧ r = (cs_I zc 11 jp) ∧ u = zc) ∨
  (∃ jp : Nat, pp = nI jp ∧ (jp < cs_n zc 0) ∧ (cs_N zc 0 jp = 0) ∧ wh = 1 ∧ r = (cs_I zc 12 jp) ∧ u = zc) ∨
  (∃ jp : Nat, pp = nI jp ∧ (jp < cs_n zc 0) ∧ (cs_N zc 0 jp = 0) ∧ wh = 2 ∧ r = (cs_I zc 13 jp) ∧ u = zc) ∨
  (∃ jp : Nat, pp = nI jp ∧ (jp < cs_n zc 0) ∧ (cs_N zc 0 jp = 0) ∧ wh = 3 ∧ r = (cs_I zc 14 jp) ∧ u = zc) ∨
  (∃ jp : Nat, pp = nI jp ∧ (jp < cs_n zc 0) ∧ (cs_N zc 0 jp = 0) ∧ wh = 4 ∧ r = (cs_I zc 15 jp) ∧ u = zc) ∨
  (∃ jp : Nat, pp = nI jp ∧ (jp < cs_n zc 0) ∧ (cs_N zc 0 jp = 0) ∧ wh = 5 ∧ r = ((-9)) ∧ u = zc) ∨
  (∃ jp : Nat, pp = nI jp ∧ (jp < cs_n zc 0) ∧ (cs_N zc 0 jp = 0) ∧ wh = 6 ∧ r = (cs_I zc 16 jp) ∧ u = zc) ∨
  (∃ jp : Nat, pp = nI jp ∧ (jp < cs_n zc 0) ∧ (cs_N zc 0 jp = 0) ∧ (¬ wh = 0) ∧ (¬ wh = 1) ∧ (¬ wh = 2) ∧ (¬ wh = 3) ∧ (¬ wh = 4) ∧ (¬ wh = 5) ∧ (¬ wh = 6) ∧ r = ((-2)) ∧ u = zc) ∨
  (∃ jp : Nat, pp = nI jp ∧ (jp < cs_n zc 0) ∧ (¬ cs_N zc 0 jp = 0) ∧ wh = 0 ∧ r = (cs_I zc 11 jp) ∧ u = zc) ∨
  (∃ jp : Nat, pp = nI jp ∧ (jp < cs_n zc 0) ∧ (¬ cs_N zc 0 jp = 0) ∧ wh = 1 ∧ r = (cs_I zc 12 jp) ∧ u = zc) ∨
  (∃ jp : Nat, pp = nI jp ∧ (jp < cs_n zc 0) ∧ (¬ cs_N zc 0 jp = 0) ∧ wh = 2 ∧ r = (cs_I zc 13 jp) ∧ u = zc) ∨
  (∃ jp : Nat, pp = nI jp ∧ (jp < cs_n zc 0) ∧ (¬ cs_N zc 0 jp = 0) ∧ wh = 3 ∧ r = (cs_I zc 14 jp) ∧ u = zc) ∨
  (∃ jp : Nat, pp = nI jp ∧ (jp < cs_n zc 0) ∧ (¬ cs_N zc 0 jp = 0) ∧ wh = 4 ∧ r = (cs_I zc 15 jp) ∧ u = zc) ∨
  (∃ jp : Nat, pp = nI jp ∧ (jp < cs_n zc 0) ∧ (¬ cs_N zc 0 jp = 0) ∧ wh = 5 ∧ r = (nI (cs_N zc 0 jp - 1)) ∧ u = zc) ∨
  (∃ jp : Nat, pp = nI jp ∧ (jp < cs_n zc 0) ∧ (¬ cs_N zc 0 jp = 0) ∧ wh = 6 ∧ r = (cs_I zc 16 jp) ∧ u = zc) ∨
  (∃ jp : Nat, pp = nI jp ∧ (jp < cs_n zc 0) ∧ (¬ cs_N zc 0 jp = 0) ∧ (¬ wh = 0) ∧ (¬ wh = 1) ∧ (¬ wh = 2) ∧ (¬ wh = 3) ∧ (¬ wh = 4) ∧ (¬ wh = 5) ∧ (¬ wh = 6) ∧ r = ((-2)) ∧ u = zc)
set_option maxHeartbeats 4000000 in
set_option maxRecDepth 100000 in
theorem K_about (l : Launch) (dC : Nat → ClassId) (dI : Nat → Nat → Nat) (cA : Nat → ClassId) (sz : Nat) (zc : CS) (pp : Int32) (wh : Int32) (hI : invC zc) : Met l yX10_about wsX10_about ({ frames := 2, cells := 0, slots := 0, locals := 60 }) (kw (dC, dI) (ctys cA) (cF cA zc) sz [.ref (cs_X zc 0 0), .int pp, .int wh]) (kQi (dC, dI) (ctys cA) (cF cA zc) sz (cF cA) (fun r u => (invC u ∧ cs_X u 0 0 = cs_X zc 0 0) ∧ pC_about zc pp wh r u)) 0 0 (kA (cF cA zc) sz) := by
  refine kw_met (cc := cX10_about) (maxL := 4) (ret := (some .int)) (by decide) rfl (Nat.le_of_ble_eq_true rfl) ?_
  intro p e s m below meth c0 hx hb hr hml hown hlocks hnm hts hPk hKk hDk hN hsz ls hl
  subst hsz
  have hK : va_K (dC, dI) vwCl [(cA 0, .int), (cA 1, .object RX6), (cA 2, .object RX2), (cA 3, .object RX8), (cA 4, .object RX5), (cA 5, .object RX7)] s := hKk
  obtain ⟨⟨hn0, hn1, hn2, hn3, hn4, hn5⟩, hpi, hgk, htk, hpk, hsh⟩ := id hI
  have hl : lv_has ls 4 [(0, .ref (cs_X zc 0 0)), (1, .int pp), (2, .int wh)] := hl
  have hiX6 : ∀ w ∈ wsX60, w ∈ wsX10_about := by decide +kernel
  have hiX8 : ∀ w ∈ wsX80, w ∈ wsX10_about := by decide +kernel
  generalize hQ : MQ _ _ _ _ _ _ _ = Q
  rcases ixd pp (cs_n zc 0) with hnojp | ⟨jp, hjp, rfl⟩
  · skip
    have hks : kAll (cF cA zc) [(0, 0), (0, 6)] [cTP zc, cR6 cA zc] := ⟨(kF_tp (cA := cA) (z := zc)), (kF_r6 (cA := cA) (z := zc)), trivial⟩
    have hP : va_P (dC, dI) vwCl [cTP zc, cR6 cA zc] s.heap := kAll_P hPk hks
    have hD : va_D (va_A [cTP zc, cR6 cA zc] s.heap.size) [cTP zc, cR6 cA zc] := (kAll_D hDk hks (by simp)).self
    have hA : ∀ q : Nat, s.heap.size ≤ q → va_A [cTP zc, cR6 cA zc] s.heap.size q := fun q h => Or.inr h
    have hS : va_S (va_A [cTP zc, cR6 cA zc] s.heap.size) s.heap s.heap [] := va_S.rf
    refine lv_aload_n hx hb dX10_about_0 rfl (lv_at hl 0 rfl) ?_
    refine lv_iload_n hx hb dX10_about_1 rfl (lv_at hl 1 rfl) ?_
    have hPc := hP.sub (ws' := [cTP zc]) [0] rfl
    have hDc := hD.sub (ws' := [cTP zc]) [0] (by decide) rfl
    have hKc := hK.sub (tys' := []) [] rfl
    refine va_csq (va_Run.run (va_runV (As := [.int pp]) (rest := []) ⟨hx, hb, hml, hown, hts⟩ (s_pitchAt_no l dC dI  _ (cs_X zc 0 0) (.ref (cs_X zc 0 1)) (.ref (cs_X zc 0 6)) (.ref (cs_X zc 0 7)) (.ref (cs_X zc 0 8)) (.ref (cs_X zc 0 9)) (.ref (cs_X zc 0 10)) (.ref (cs_X zc 0 11)) (.int (nI (cs_n zc 1))) (.int (nI (cs_n zc 2))) (.int (nI (cs_n zc 3))) (va_rf (opN (cs_n zc 4) (fun _ => cs_X zc 5 0))) (.int (cs_i zc 2)) pp (cs_n zc 0) (by omega) hnojp) (cwV 1 hts gX10_about_X10_pitchAt rfl rfl rfl (by decide +kernel) ⟨Nat.le_of_ble_eq_true rfl, Nat.le_of_ble_eq_true rfl⟩) (pw_preV (va_recv hKc hPc (ci := 10) (q0 := 0) rfl rfl) hPc hKc hDc hN) rfl rfl hl.1 rfl (lv_room (Nat.le_of_ble_eq_true rfl)) dX10_about_2 ⟨Nat.le_of_ble_eq_true rfl, Nat.le_of_ble_eq_true rfl⟩)) (fun r1 hr1 => ?_)
    have hr1 : r1 = none := hr1
    subst hr1
    refine W.eq (g2 := F0 m 5 ls [.null]) rfl ?_
    refine lv_astore_nN (lv' := [(3, .null), (0, .ref (cs_X zc 0 0)), (1, .int pp), (2, .int wh)]) hx hb dX10_about_5 rfl hl (by decide) rfl (fun ls hl => ?_)
    refine lv_aload_nN hx hb dX10_about_6 rfl (lv_at hl 0 rfl) ?_
    refine lv_ifnonnullN hx hb dX10_about_7 ?_
    refine lv_iconst (v := (-1)) hx hb dX10_about_10 (by decide) ?_
    subst hQ
    exact W.iret (v := (-1)) hx hb hr (fun t ht hW => ⟨⟨(-1), zc, rfl, ⟨⟨hI, rfl⟩, (Or.inl ⟨hnojp, rfl, rfl⟩)⟩, (by rw [ht]; exact hPk), va_K.moved hW.alike hKk, kDA_self hDk⟩, (kw_same hPk ht).2⟩) (fun q h => absurd h List.not_mem_nil) dX10_about_11
  · skip
    by_cases h0t : cs_N zc 0 jp = 0
    · skip
      have hks : kAll (cF cA zc) [(0, 0), (0, 6), (1, jp)] [cTP zc, cR6 cA zc, cPiN zc jp] := ⟨(kF_tp (cA := cA) (z := zc)), (kF_r6 (cA := cA) (z := zc)), (kF_piN (z := zc) (j := jp) hjp h0t), trivial⟩
      have hP : va_P (dC, dI) vwCl [cTP zc, cR6 cA zc, cPiN zc jp] s.heap := kAll_P hPk hks
      have hD : va_D (va_A [cTP zc, cR6 cA zc, cPiN zc jp] s.heap.size) [cTP zc, cR6 cA zc, cPiN zc jp] := (kAll_D hDk hks (by simp)).self
      have hA : ∀ q : Nat, s.heap.size ≤ q → va_A [cTP zc, cR6 cA zc, cPiN zc jp] s.heap.size q := fun q h => Or.inr h
      have hS : va_S (va_A [cTP zc, cR6 cA zc, cPiN zc jp] s.heap.size) s.heap s.heap [] := va_S.rf
      refine lv_aload_n hx hb dX10_about_0 rfl (lv_at hl 0 rfl) ?_
      refine lv_iload_n hx hb dX10_about_1 rfl (lv_at hl 1 rfl) ?_
      have hPc := hP.sub (ws' := [cTP zc, cR6 cA zc]) [0, 1] rfl
      have hDc := hD.sub (ws' := [cTP zc, cR6 cA zc]) [0, 1] (by decide) rfl
      have hKc := hK.sub (tys' := [(cA 1, .object RX6)]) [1] rfl
      refine va_csq (va_Run.run (va_runV (As := [.int (nI jp)]) (rest := []) ⟨hx, hb, hml, hown, hts⟩ (s_pitchAt_yes l dC dI (cA 1) _ (cs_X zc 0 0) (.ref (cs_X zc 0 1)) (.ref (cs_X zc 0 7)) (.ref (cs_X zc 0 8)) (.ref (cs_X zc 0 9)) (.ref (cs_X zc 0 10)) (.ref (cs_X zc 0 11)) (.int (nI (cs_n zc 1))) (.int (nI (cs_n zc 2))) (.int (nI (cs_n zc 3))) (va_rf (opN (cs_n zc 4) (fun _ => cs_X zc 5 0))) (.int (cs_i zc 2)) (cs_X zc 0 6) jp (cs_n zc 0) (cs_X zc 1 jp) (rfN (cs_n zc 0) (cs_X zc 1)) hjp (by omega) (rfN_at hjp)) (cwV 1 hts gX10_about_X10_pitchAt rfl rfl rfl (by decide +kernel) ⟨Nat.le_of_ble_eq_true rfl, Nat.le_of_ble_eq_true rfl⟩) (pw_preV (va_recv hKc hPc (ci := 10) (q0 := 0) rfl rfl) hPc hKc hDc hN) rfl rfl hl.1 rfl (lv_room (Nat.le_of_ble_eq_true rfl)) dX10_about_2 ⟨Nat.le_of_ble_eq_true rfl, Nat.le_of_ble_eq_true rfl⟩)) (fun r2 hr2 => ?_)
      have hr2 : r2 = some (cs_X zc 1 jp) := hr2
      subst hr2
      refine W.eq (g2 := F0 m 5 ls [.ref (cs_X zc 1 jp)]) rfl ?_
      refine lv_astore_n (lv' := [(3, .ref (cs_X zc 1 jp)), (0, .ref (cs_X zc 0 0)), (1, .int (nI jp)), (2, .int wh)]) hx hb dX10_about_5 rfl hl (by decide) rfl (fun ls hl => ?_)
      refine lv_aload_n hx hb dX10_about_6 rfl (lv_at hl 0 rfl) ?_
      refine lv_ifnonnull (tgt := 12) hx hb dX10_about_7 (by decide) ?_
      refine lv_iload_n hx hb dX10_about_12 rfl (lv_at hl 3 rfl) ?_
      by_cases hw3 : wh = 0
      · subst hw3
        refine lv_tableIn (off := 43) (tgt := 56) hx hb dX10_about_13 (by decide) (by decide) rfl (by decide) ?_
        refine lv_aload_n hx hb dX10_about_56 rfl (lv_at hl 0 rfl) ?_
        refine va_get (D := (dC, dI)) (ci := 6) (v := .int (cs_I zc 11 jp)) (C := RX6) (T := TX6) (N := 8) hx hb hts hiX6 hown hK hP 2 rfl rfl 1 (by decide) (hts (.fieldLink RX10 213 "TributePitches$Pitch" "x" "I") (by decide +kernel)) (fun _ h9 => h9) rfl dX10_about_57 ?_
        subst hQ
        exact W.iret (v := cs_I zc 11 jp) hx hb hr (fun t ht hW => ⟨⟨cs_I zc 11 jp, zc, rfl, ⟨⟨hI, rfl⟩, (Or.inr (Or.inl ⟨jp, rfl, hjp, h0t, rfl, rfl, rfl⟩))⟩, (by rw [ht]; exact hPk), va_K.moved hW.alike hKk, kDA_self hDk⟩, (kw_same hPk ht).2⟩) (fun q h => absurd h List.not_mem_nil) dX10_about_60
      by_cases hw4 : wh = 1
      · subst hw4
        refine lv_tableIn (off := 48) (tgt := 61) hx hb dX10_about_13 (by decide) (by decide) rfl (by decide) ?_
        refine lv_aload_n hx hb dX10_about_61 rfl (lv_at hl 0 rfl) ?_
        refine va_get (D := (dC, dI)) (ci := 6) (v := .int (cs_I zc 12 jp)) (C := RX6) (T := TX6) (N := 8) hx hb hts hiX6 hown hK hP 2 rfl rfl 2 (by decide) (hts (.fieldLink RX10 216 "TributePitches$Pitch" "y" "I") (by decide +kernel)) (fun _ h9 => h9) rfl dX10_about_62 ?_
        subst hQ
        exact W.iret (v := cs_I zc 12 jp) hx hb hr (fun t ht hW => ⟨⟨cs_I zc 12 jp, zc, rfl, ⟨⟨hI, rfl⟩, (Or.inr (Or.inr (Or.inl ⟨jp, rfl, hjp, h0t, rfl, rfl, rfl⟩)))⟩, (by rw [ht]; exact hPk), va_K.moved hW.alike hKk, kDA_self hDk⟩, (kw_same hPk ht).2⟩) (fun q h => absurd h List.not_mem_nil) dX10_about_65
      by_cases hw5 : wh = 2
      · subst hw5
        refine lv_tableIn (off := 53) (tgt := 66) hx hb dX10_about_13 (by decide) (by decide) rfl (by decide) ?_
        refine lv_aload_n hx hb dX10_about_66 rfl (lv_at hl 0 rfl) ?_
        refine va_get (D := (dC, dI)) (ci := 6) (v := .int (cs_I zc 13 jp)) (C := RX6) (T := TX6) (N := 8) hx hb hts hiX6 hown hK hP 2 rfl rfl 3 (by decide) (hts (.fieldLink RX10 219 "TributePitches$Pitch" "x2" "I") (by decide +kernel)) (fun _ h9 => h9) rfl dX10_about_67 ?_
        subst hQ
        exact W.iret (v := cs_I zc 13 jp) hx hb hr (fun t ht hW => ⟨⟨cs_I zc 13 jp, zc, rfl, ⟨⟨hI, rfl⟩, (Or.inr (Or.inr (Or.inr (Or.inl ⟨jp, rfl, hjp, h0t, rfl, rfl, rfl⟩))))⟩, (by rw [ht]; exact hPk), va_K.moved hW.alike hKk, kDA_self hDk⟩, (kw_same hPk ht).2⟩) (fun q h => absurd h List.not_mem_nil) dX10_about_70
      by_cases hw6 : wh = 3
      · subst hw6
        refine lv_tableIn (off := 58) (tgt := 71) hx hb dX10_about_13 (by decide) (by decide) rfl (by decide) ?_
        refine lv_aload_n hx hb dX10_about_71 rfl (lv_at hl 0 rfl) ?_
        refine va_get (D := (dC, dI)) (ci := 6) (v := .int (cs_I zc 14 jp)) (C := RX6) (T := TX6) (N := 8) hx hb hts hiX6 hown hK hP 2 rfl rfl 4 (by decide) (hts (.fieldLink RX10 222 "TributePitches$Pitch" "y2" "I") (by decide +kernel)) (fun _ h9 => h9) rfl dX10_about_72 ?_
        subst hQ
        exact W.iret (v := cs_I zc 14 jp) hx hb hr (fun t ht hW => ⟨⟨cs_I zc 14 jp, zc, rfl, ⟨⟨hI, rfl⟩, (Or.inr (Or.inr (Or.inr (Or.inr (Or.inl ⟨jp, rfl, hjp, h0t, rfl, rfl, rfl⟩)))))⟩, (by rw [ht]; exact hPk), va_K.moved hW.alike hKk, kDA_self hDk⟩, (kw_same hPk ht).2⟩) (fun q h => absurd h List.not_mem_nil) dX10_about_75
      by_cases hw7 : wh = 4
      · subst hw7
        refine lv_tableIn (off := 63) (tgt := 76) hx hb dX10_about_13 (by decide) (by decide) rfl (by decide) ?_
        refine lv_aload_n hx hb dX10_about_76 rfl (lv_at hl 0 rfl) ?_
        refine va_get (D := (dC, dI)) (ci := 6) (v := .int (cs_I zc 15 jp)) (C := RX6) (T := TX6) (N := 8) hx hb hts hiX6 hown hK hP 2 rfl rfl 5 (by decide) (hts (.fieldLink RX10 225 "TributePitches$Pitch" "tons" "I") (by decide +kernel)) (fun _ h9 => h9) rfl dX10_about_77 ?_
        subst hQ
        exact W.iret (v := cs_I zc 15 jp) hx hb hr (fun t ht hW => ⟨⟨cs_I zc 15 jp, zc, rfl, ⟨⟨hI, rfl⟩, (Or.inr (Or.inr (Or.inr (Or.inr (Or.inr (Or.inl ⟨jp, rfl, hjp, h0t, rfl, rfl, rfl⟩))))))⟩, (by rw [ht]; exact hPk), va_K.moved hW.alike hKk, kDA_self hDk⟩, (kw_same hPk ht).2⟩) (fun q h => absurd h List.not_mem_nil) dX10_about_80
      by_cases hw8 : wh = 5
      · subst hw8
        refine lv_tableIn (off := 68) (tgt := 81) hx hb dX10_about_13 (by decide) (by decide) rfl (by decide) ?_
        refine lv_aload_n hx hb dX10_about_81 rfl (lv_at hl 0 rfl) ?_
        refine va_get (D := (dC, dI)) (ci := 6) (v := .null) (C := RX6) (T := TX6) (N := 8) hx hb hts hiX6 hown hK hP 2 rfl rfl 7 (by decide) (hts (.fieldLink RX10 159 "TributePitches$Pitch" "take" "LTributePitches$Take;") (by decide +kernel)) (fun _ h9 => h9) rfl dX10_about_82 ?_
        refine lv_ifnonnullN hx hb dX10_about_85 ?_
        refine lv_bipush (v := (-9)) hx hb dX10_about_88 (by decide) ?_
        refine lv_goto (tgt := 100) hx hb dX10_about_90 (by decide) ?_
        subst hQ
        exact W.iret (v := (-9)) hx hb hr (fun t ht hW => ⟨⟨(-9), zc, rfl, ⟨⟨hI, rfl⟩, (Or.inr (Or.inr (Or.inr (Or.inr (Or.inr (Or.inr (Or.inl ⟨jp, rfl, hjp, h0t, rfl, rfl, rfl⟩)))))))⟩, (by rw [ht]; exact hPk), va_K.moved hW.alike hKk, kDA_self hDk⟩, (kw_same hPk ht).2⟩) (fun q h => absurd h List.not_mem_nil) dX10_about_100
      by_cases hw9 : wh = 6
      · subst hw9
        refine lv_tableIn (off := 88) (tgt := 101) hx hb dX10_about_13 (by decide) (by decide) rfl (by decide) ?_
        refine lv_aload_n hx hb dX10_about_101 rfl (lv_at hl 0 rfl) ?_
        refine va_get (D := (dC, dI)) (ci := 6) (v := .int (cs_I zc 16 jp)) (C := RX6) (T := TX6) (N := 8) hx hb hts hiX6 hown hK hP 2 rfl rfl 6 (by decide) (hts (.fieldLink RX10 231 "TributePitches$Pitch" "takesHad" "I") (by decide +kernel)) (fun _ h9 => h9) rfl dX10_about_102 ?_
        subst hQ
        exact W.iret (v := cs_I zc 16 jp) hx hb hr (fun t ht hW => ⟨⟨cs_I zc 16 jp, zc, rfl, ⟨⟨hI, rfl⟩, (Or.inr (Or.inr (Or.inr (Or.inr (Or.inr (Or.inr (Or.inr (Or.inl ⟨jp, rfl, hjp, h0t, rfl, rfl, rfl⟩))))))))⟩, (by rw [ht]; exact hPk), va_K.moved hW.alike hKk, kDA_self hDk⟩, (kw_same hPk ht).2⟩) (fun q h => absurd h List.not_mem_nil) dX10_about_105
      refine lv_tableOut (tgt := 106) hx hb dX10_about_13 (tb_out7 hw3 hw4 hw5 hw6 hw7 hw8 hw9) (by decide) ?_
      refine lv_bipush (v := (-2)) hx hb dX10_about_106 (by decide) ?_
      subst hQ
      exact W.iret (v := (-2)) hx hb hr (fun t ht hW => ⟨⟨(-2), zc, rfl, ⟨⟨hI, rfl⟩, (Or.inr (Or.inr (Or.inr (Or.inr (Or.inr (Or.inr (Or.inr (Or.inr (Or.inl ⟨jp, rfl, hjp, h0t, hw3, hw4, hw5, hw6, hw7, hw8, hw9, rfl, rfl⟩)))))))))⟩, (by rw [ht]; exact hPk), va_K.moved hW.alike hKk, kDA_self hDk⟩, (kw_same hPk ht).2⟩) (fun q h => absurd h List.not_mem_nil) dX10_about_108
    · skip
      have hks : kAll (cF cA zc) [(0, 0), (0, 6), (1, jp), (3, cs_N zc 0 jp - 1)] [cTP zc, cR6 cA zc, cPiT zc jp, cTa zc (cs_N zc 0 jp - 1)] := ⟨(kF_tp (cA := cA) (z := zc)), (kF_r6 (cA := cA) (z := zc)), (kF_piT (z := zc) (j := jp) hjp h0t), (kF_ta (z := zc) (by have q := (hpi jp hjp).2.2; omega)), trivial⟩
      have hP : va_P (dC, dI) vwCl [cTP zc, cR6 cA zc, cPiT zc jp, cTa zc (cs_N zc 0 jp - 1)] s.heap := kAll_P hPk hks
      have hD : va_D (va_A [cTP zc, cR6 cA zc, cPiT zc jp, cTa zc (cs_N zc 0 jp - 1)] s.heap.size) [cTP zc, cR6 cA zc, cPiT zc jp, cTa zc (cs_N zc 0 jp - 1)] := (kAll_D hDk hks (by simp)).self
      have hA : ∀ q : Nat, s.heap.size ≤ q → va_A [cTP zc, cR6 cA zc, cPiT zc jp, cTa zc (cs_N zc 0 jp - 1)] s.heap.size q := fun q h => Or.inr h
      have hS : va_S (va_A [cTP zc, cR6 cA zc, cPiT zc jp, cTa zc (cs_N zc 0 jp - 1)] s.heap.size) s.heap s.heap [] := va_S.rf
      refine lv_aload_n hx hb dX10_about_0 rfl (lv_at hl 0 rfl) ?_
      refine lv_iload_n hx hb dX10_about_1 rfl (lv_at hl 1 rfl) ?_
      have hPc := hP.sub (ws' := [cTP zc, cR6 cA zc]) [0, 1] rfl
      have hDc := hD.sub (ws' := [cTP zc, cR6 cA zc]) [0, 1] (by decide) rfl
      have hKc := hK.sub (tys' := [(cA 1, .object RX6)]) [1] rfl
      refine va_csq (va_Run.run (va_runV (As := [.int (nI jp)]) (rest := []) ⟨hx, hb, hml, hown, hts⟩ (s_pitchAt_yes l dC dI (cA 1) _ (cs_X zc 0 0) (.ref (cs_X zc 0 1)) (.ref (cs_X zc 0 7)) (.ref (cs_X zc 0 8)) (.ref (cs_X zc 0 9)) (.ref (cs_X zc 0 10)) (.ref (cs_X zc 0 11)) (.int (nI (cs_n zc 1))) (.int (nI (cs_n zc 2))) (.int (nI (cs_n zc 3))) (va_rf (opN (cs_n zc 4) (fun _ => cs_X zc 5 0))) (.int (cs_i zc 2)) (cs_X zc 0 6) jp (cs_n zc 0) (cs_X zc 1 jp) (rfN (cs_n zc 0) (cs_X zc 1)) hjp (by omega) (rfN_at hjp)) (cwV 1 hts gX10_about_X10_pitchAt rfl rfl rfl (by decide +kernel) ⟨Nat.le_of_ble_eq_true rfl, Nat.le_of_ble_eq_true rfl⟩) (pw_preV (va_recv hKc hPc (ci := 10) (q0 := 0) rfl rfl) hPc hKc hDc hN) rfl rfl hl.1 rfl (lv_room (Nat.le_of_ble_eq_true rfl)) dX10_about_2 ⟨Nat.le_of_ble_eq_true rfl, Nat.le_of_ble_eq_true rfl⟩)) (fun r10 hr10 => ?_)
      have hr10 : r10 = some (cs_X zc 1 jp) := hr10
      subst hr10
      refine W.eq (g2 := F0 m 5 ls [.ref (cs_X zc 1 jp)]) rfl ?_
      refine lv_astore_n (lv' := [(3, .ref (cs_X zc 1 jp)), (0, .ref (cs_X zc 0 0)), (1, .int (nI jp)), (2, .int wh)]) hx hb dX10_about_5 rfl hl (by decide) rfl (fun ls hl => ?_)
      refine lv_aload_n hx hb dX10_about_6 rfl (lv_at hl 0 rfl) ?_
      refine lv_ifnonnull (tgt := 12) hx hb dX10_about_7 (by decide) ?_
      refine lv_iload_n hx hb dX10_about_12 rfl (lv_at hl 3 rfl) ?_
      by_cases hw11 : wh = 0
      · subst hw11
        refine lv_tableIn (off := 43) (tgt := 56) hx hb dX10_about_13 (by decide) (by decide) rfl (by decide) ?_
        refine lv_aload_n hx hb dX10_about_56 rfl (lv_at hl 0 rfl) ?_
        refine va_get (D := (dC, dI)) (ci := 6) (v := .int (cs_I zc 11 jp)) (C := RX6) (T := TX6) (N := 8) hx hb hts hiX6 hown hK hP 2 rfl rfl 1 (by decide) (hts (.fieldLink RX10 213 "TributePitches$Pitch" "x" "I") (by decide +kernel)) (fun _ h9 => h9) rfl dX10_about_57 ?_
        subst hQ
        exact W.iret (v := cs_I zc 11 jp) hx hb hr (fun t ht hW => ⟨⟨cs_I zc 11 jp, zc, rfl, ⟨⟨hI, rfl⟩, (Or.inr (Or.inr (Or.inr (Or.inr (Or.inr (Or.inr (Or.inr (Or.inr (Or.inr (Or.inl ⟨jp, rfl, hjp, h0t, rfl, rfl, rfl⟩))))))))))⟩, (by rw [ht]; exact hPk), va_K.moved hW.alike hKk, kDA_self hDk⟩, (kw_same hPk ht).2⟩) (fun q h => absurd h List.not_mem_nil) dX10_about_60
      by_cases hw12 : wh = 1
      · subst hw12
        refine lv_tableIn (off := 48) (tgt := 61) hx hb dX10_about_13 (by decide) (by decide) rfl (by decide) ?_
        refine lv_aload_n hx hb dX10_about_61 rfl (lv_at hl 0 rfl) ?_
        refine va_get (D := (dC, dI)) (ci := 6) (v := .int (cs_I zc 12 jp)) (C := RX6) (T := TX6) (N := 8) hx hb hts hiX6 hown hK hP 2 rfl rfl 2 (by decide) (hts (.fieldLink RX10 216 "TributePitches$Pitch" "y" "I") (by decide +kernel)) (fun _ h9 => h9) rfl dX10_about_62 ?_
        subst hQ
        exact W.iret (v := cs_I zc 12 jp) hx hb hr (fun t ht hW => ⟨⟨cs_I zc 12 jp, zc, rfl, ⟨⟨hI, rfl⟩, (Or.inr (Or.inr (Or.inr (Or.inr (Or.inr (Or.inr (Or.inr (Or.inr (Or.inr (Or.inr (Or.inl ⟨jp, rfl, hjp, h0t, rfl, rfl, rfl⟩)))))))))))⟩, (by rw [ht]; exact hPk), va_K.moved hW.alike hKk, kDA_self hDk⟩, (kw_same hPk ht).2⟩) (fun q h => absurd h List.not_mem_nil) dX10_about_65
      by_cases hw13 : wh = 2
      · subst hw13
        refine lv_tableIn (off := 53) (tgt := 66) hx hb dX10_about_13 (by decide) (by decide) rfl (by decide) ?_
        refine lv_aload_n hx hb dX10_about_66 rfl (lv_at hl 0 rfl) ?_
        refine va_get (D := (dC, dI)) (ci := 6) (v := .int (cs_I zc 13 jp)) (C := RX6) (T := TX6) (N := 8) hx hb hts hiX6 hown hK hP 2 rfl rfl 3 (by decide) (hts (.fieldLink RX10 219 "TributePitches$Pitch" "x2" "I") (by decide +kernel)) (fun _ h9 => h9) rfl dX10_about_67 ?_
        subst hQ
        exact W.iret (v := cs_I zc 13 jp) hx hb hr (fun t ht hW => ⟨⟨cs_I zc 13 jp, zc, rfl, ⟨⟨hI, rfl⟩, (Or.inr (Or.inr (Or.inr (Or.inr (Or.inr (Or.inr (Or.inr (Or.inr (Or.inr (Or.inr (Or.inr (Or.inl ⟨jp, rfl, hjp, h0t, rfl, rfl, rfl⟩))))))))))))⟩, (by rw [ht]; exact hPk), va_K.moved hW.alike hKk, kDA_self hDk⟩, (kw_same hPk ht).2⟩) (fun q h => absurd h List.not_mem_nil) dX10_about_70
      by_cases hw14 : wh = 3
      · subst hw14
        refine lv_tableIn (off := 58) (tgt := 71) hx hb dX10_about_13 (by decide) (by decide) rfl (by decide) ?_
        refine lv_aload_n hx hb dX10_about_71 rfl (lv_at hl 0 rfl) ?_
        refine va_get (D := (dC, dI)) (ci := 6) (v := .int (cs_I zc 14 jp)) (C := RX6) (T := TX6) (N := 8) hx hb hts hiX6 hown hK hP 2 rfl rfl 4 (by decide) (hts (.fieldLink RX10 222 "TributePitches$Pitch" "y2" "I") (by decide +kernel)) (fun _ h9 => h9) rfl dX10_about_72 ?_
        subst hQ
        exact W.iret (v := cs_I zc 14 jp) hx hb hr (fun t ht hW => ⟨⟨cs_I zc 14 jp, zc, rfl, ⟨⟨hI, rfl⟩, (Or.inr (Or.inr (Or.inr (Or.inr (Or.inr (Or.inr (Or.inr (Or.inr (Or.inr (Or.inr (Or.inr (Or.inr (Or.inl ⟨jp, rfl, hjp, h0t, rfl, rfl, rfl⟩)))))))))))))⟩, (by rw [ht]; exact hPk), va_K.moved hW.alike hKk, kDA_self hDk⟩, (kw_same hPk ht).2⟩) (fun q h => absurd h List.not_mem_nil) dX10_about_75
      by_cases hw15 : wh = 4
      · subst hw15
        refine lv_tableIn (off := 63) (tgt := 76) hx hb dX10_about_13 (by decide) (by decide) rfl (by decide) ?_
        refine lv_aload_n hx hb dX10_about_76 rfl (lv_at hl 0 rfl) ?_
        refine va_get (D := (dC, dI)) (ci := 6) (v := .int (cs_I zc 15 jp)) (C := RX6) (T := TX6) (N := 8) hx hb hts hiX6 hown hK hP 2 rfl rfl 5 (by decide) (hts (.fieldLink RX10 225 "TributePitches$Pitch" "tons" "I") (by decide +kernel)) (fun _ h9 => h9) rfl dX10_about_77 ?_
        subst hQ
        exact W.iret (v := cs_I zc 15 jp) hx hb hr (fun t ht hW => ⟨⟨cs_I zc 15 jp, zc, rfl, ⟨⟨hI, rfl⟩, (Or.inr (Or.inr (Or.inr (Or.inr (Or.inr (Or.inr (Or.inr (Or.inr (Or.inr (Or.inr (Or.inr (Or.inr (Or.inr (Or.inl ⟨jp, rfl, hjp, h0t, rfl, rfl, rfl⟩))))))))))))))⟩, (by rw [ht]; exact hPk), va_K.moved hW.alike hKk, kDA_self hDk⟩, (kw_same hPk ht).2⟩) (fun q h => absurd h List.not_mem_nil) dX10_about_80
      by_cases hw16 : wh = 5
      · subst hw16
        refine lv_tableIn (off := 68) (tgt := 81) hx hb dX10_about_13 (by decide) (by decide) rfl (by decide) ?_
        refine lv_aload_n hx hb dX10_about_81 rfl (lv_at hl 0 rfl) ?_
        refine va_get (D := (dC, dI)) (ci := 6) (v := .ref (cs_X zc 3 (cs_N zc 0 jp - 1))) (C := RX6) (T := TX6) (N := 8) hx hb hts hiX6 hown hK hP 2 rfl rfl 7 (by decide) (hts (.fieldLink RX10 159 "TributePitches$Pitch" "take" "LTributePitches$Take;") (by decide +kernel)) (fun _ h9 => h9) rfl dX10_about_82 ?_
        refine lv_ifnonnull (tgt := 93) hx hb dX10_about_85 (by decide) ?_
        refine lv_aload_n hx hb dX10_about_93 rfl (lv_at hl 0 rfl) ?_
        refine va_get (D := (dC, dI)) (ci := 6) (v := .ref (cs_X zc 3 (cs_N zc 0 jp - 1))) (C := RX6) (T := TX6) (N := 8) hx hb hts hiX6 hown hK hP 2 rfl rfl 7 (by decide) (hts (.fieldLink RX10 159 "TributePitches$Pitch" "take" "LTributePitches$Take;") (by decide +kernel)) (fun _ h9 => h9) rfl dX10_about_94 ?_
        refine va_get (D := (dC, dI)) (ci := 8) (v := .int (nI (cs_N zc 0 jp - 1))) (C := RX8) (T := TX8) (N := 12) hx hb hts hiX8 hown hK hP 3 rfl rfl 0 (by decide) (hts (.fieldLink RX10 228 "TributePitches$Take" "number" "I") (by decide +kernel)) (fun _ h9 => h9) rfl dX10_about_97 ?_
        subst hQ
        exact W.iret (v := nI (cs_N zc 0 jp - 1)) hx hb hr (fun t ht hW => ⟨⟨nI (cs_N zc 0 jp - 1), zc, rfl, ⟨⟨hI, rfl⟩, (Or.inr (Or.inr (Or.inr (Or.inr (Or.inr (Or.inr (Or.inr (Or.inr (Or.inr (Or.inr (Or.inr (Or.inr (Or.inr (Or.inr (Or.inl ⟨jp, rfl, hjp, h0t, rfl, rfl, rfl⟩)))))))))))))))⟩, (by rw [ht]; exact hPk), va_K.moved hW.alike hKk, kDA_self hDk⟩, (kw_same hPk ht).2⟩) (fun q h => absurd h List.not_mem_nil) dX10_about_100
      by_cases hw17 : wh = 6
      · subst hw17
        refine lv_tableIn (off := 88) (tgt := 101) hx hb dX10_about_13 (by decide) (by decide) rfl (by decide) ?_
        refine lv_aload_n hx hb dX10_about_101 rfl (lv_at hl 0 rfl) ?_
        refine va_get (D := (dC, dI)) (ci := 6) (v := .int (cs_I zc 16 jp)) (C := RX6) (T := TX6) (N := 8) hx hb hts hiX6 hown hK hP 2 rfl rfl 6 (by decide) (hts (.fieldLink RX10 231 "TributePitches$Pitch" "takesHad" "I") (by decide +kernel)) (fun _ h9 => h9) rfl dX10_about_102 ?_
        subst hQ
        exact W.iret (v := cs_I zc 16 jp) hx hb hr (fun t ht hW => ⟨⟨cs_I zc 16 jp, zc, rfl, ⟨⟨hI, rfl⟩, (Or.inr (Or.inr (Or.inr (Or.inr (Or.inr (Or.inr (Or.inr (Or.inr (Or.inr (Or.inr (Or.inr (Or.inr (Or.inr (Or.inr (Or.inr (Or.inl ⟨jp, rfl, hjp, h0t, rfl, rfl, rfl⟩))))))))))))))))⟩, (by rw [ht]; exact hPk), va_K.moved hW.alike hKk, kDA_self hDk⟩, (kw_same hPk ht).2⟩) (fun q h => absurd h List.not_mem_nil) dX10_about_105
      refine lv_tableOut (tgt := 106) hx hb dX10_about_13 (tb_out7 hw11 hw12 hw13 hw14 hw15 hw16 hw17) (by decide) ?_
      refine lv_bipush (v := (-2)) hx hb dX10_about_106 (by decide) ?_
      subst hQ
      exact W.iret (v := (-2)) hx hb hr (fun t ht hW => ⟨⟨(-2), zc, rfl, ⟨⟨hI, rfl⟩, (Or.inr (Or.inr (Or.inr (Or.inr (Or.inr (Or.inr (Or.inr (Or.inr (Or.inr (Or.inr (Or.inr (Or.inr (Or.inr (Or.inr (Or.inr (Or.inr ⟨jp, rfl, hjp, h0t, hw11, hw12, hw13, hw14, hw15, hw16, hw17, rfl, rfl⟩))))))))))))))))⟩, (by rw [ht]; exact hPk), va_K.moved hW.alike hKk, kDA_self hDk⟩, (kw_same hPk ht).2⟩) (fun q h => absurd h List.not_mem_nil) dX10_about_108
