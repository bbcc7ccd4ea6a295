def pC_told (zc : CS) (a0 : Int32) (r : Int32) (u : CS) : Prop :=
  ((cs_n zc 4 = 0) ∧ a0 = 0 ∧ r = (nI (cs_n zc 0)) ∧ u = zc) ∨
  ((cs_n zc 4 = 0) ∧ a0 = 1 ∧ r = (nI (cs_n zc 1)) ∧ u = zc) ∨
  ((cs_n zc 4 = 0) ∧ a0 = 2 ∧ r = (nI (cs_n zc 2)) ∧ u = zc) ∨
  ((cs_n zc 4 = 0) ∧ a0 = 3 ∧ r = (nI (cs_n zc 3)) ∧ u = zc) ∨
  ((cs_n zc 4 = 0) ∧ a0 = 4 ∧ r = (cs_i zc 0) ∧ u = zc) ∨
  ((cs_n zc 4 = 0) ∧ a0 = 5 ∧ r = ((-9)) ∧ u = zc) ∨
  ((cs_n zc 4 = 0) ∧ a0 = 6 ∧ r = ((-9)) ∧ u = zc) ∨
  ((cs_n zc 4 = 0) ∧ a0 = 7 ∧ r = ((-9)) ∧ u = zc) ∨
  ((cs_n zc 4 = 0) ∧ (¬ a0 = 0) ∧ (¬ a0 = 1) ∧ (¬ a0 = 2) ∧ (¬ a0 = 3) ∧ (¬ a0 = 4) ∧ (¬ a0 = 5) ∧ (¬ a0 = 6) ∧ (¬ a0 = 7) ∧ r = ((-2)) ∧ u = zc) ∨
  ((¬ cs_n zc 4 = 0) ∧ a0 = 0 ∧ r = (nI (cs_n zc 0)) ∧ u = zc) ∨
  ((¬ cs_n zc 4 = 0) ∧ a0 = 1 ∧ r = (nI (cs_n zc 1)) ∧ u = zc) ∨
  ((¬ cs_n zc 4 = 0) ∧ a0 = 2 ∧ r = (nI (cs_n zc 2)) ∧ u = zc) ∨
  ((¬ cs_n zc 4 = 0) ∧ a0 = 3 ∧ r = (nI (cs_n zc 3)) ∧ u = zc) ∨
  ((¬ cs_n zc 4 = 0) ∧ a0 = 4 ∧ r = (cs_i zc 0) ∧ u = zc) ∨
  ((¬ cs_n zc 4 = 0) ∧ a0 = 5 ∧ r = (cs_i zc 4) ∧ u = zc) ∨
  ((¬ cs_n zc 4 = 0) ∧ a0 = 6 ∧ r = (nI (cs_n zc 4 - 1)) ∧ u = zc) ∨
  ((¬ cs_n zc 4 = 0) ∧ a0 = 7 ∧ r = (cs_i zc 3) ∧ u = zc) ∨
  ((¬ cs_n zc 4 = 0) ∧ (¬ a0 = 0) ∧ (¬ a0 = 1) ∧ (¬ a0 = 2) ∧ (¬ a0 = 3) ∧ (¬ a0 = 4) ∧ (¬ a0 = 5) ∧ (¬ a0 = 6) ∧ (¬ a0 = 7) ∧ r = ((-2)) ∧ u = zc)
set_option maxHeartbeats 4000000 in
set_option maxRecDepth 100000 in
theorem K_told (l : Launch) (dC : Nat → ClassId) (dI : Nat → Nat → Nat) (cA : Nat → ClassId) (sz : Nat) (zc : CS) (a0 : Int32) (hI : invC zc) : Met l yX10_told wsX10_told ({ frames := 1, cells := 0, slots := 0, locals := 30 }) (kw (dC, dI) (ctys cA) (cF cA zc) sz [.ref (cs_X zc 0 0), .int a0]) (kQi (dC, dI) (ctys cA) (cF cA zc) sz (cF cA) (fun r u => (invC u ∧ cs_X u 0 0 = cs_X zc 0 0) ∧ pC_told zc a0 r u)) 0 0 (kA (cF cA zc) sz) := by
  refine kw_met (cc := cX10_told) (maxL := 2) (ret := (some .int)) (by decide) rfl (Nat.le_of_ble_eq_true rfl) ?_
  intro p e s m below meth c0 hx hb hr hml hown hlocks hnm hts hPk hKk hDk hN hsz ls hl
  subst hsz
  have hK : va_K (dC, dI) vwCl [(cA 0, .int), (cA 1, .object RX6), (cA 2, .object RX2), (cA 3, .object RX8), (cA 4, .object RX5), (cA 5, .object RX7)] s := hKk
  obtain ⟨⟨hn0, hn1, hn2, hn3, hn4, hn5⟩, hpi, hgk, htk, hpk, hsh⟩ := id hI
  have hl : lv_has ls 2 [(0, .ref (cs_X zc 0 0)), (1, .int a0)] := hl
  have hiX0 : ∀ w ∈ wsX00, w ∈ wsX10_told := by decide +kernel
  have hiX10 : ∀ w ∈ wsX100, w ∈ wsX10_told := by decide +kernel
  have hiX3 : ∀ w ∈ wsX30, w ∈ wsX10_told := by decide +kernel
  have hiX6 : ∀ w ∈ wsX60, w ∈ wsX10_told := by decide +kernel
  generalize hQ : MQ _ _ _ _ _ _ _ = Q
  by_cases hcur : cs_n zc 4 = 0
  · skip
    have hks : kAll (cF cA zc) [(0, 0), (0, 1)] [cTPN zc, cLo zc] := ⟨(kF_tpN (z := zc) hcur), (kF_lo (cA := cA) (z := zc)), trivial⟩
    have hP : va_P (dC, dI) vwCl [cTPN zc, cLo zc] s.heap := kAll_P hPk hks
    have hD : va_D (va_A [cTPN zc, cLo zc] s.heap.size) [cTPN zc, cLo zc] := (kAll_D hDk hks (by simp)).self
    have hA : ∀ q : Nat, s.heap.size ≤ q → va_A [cTPN zc, cLo zc] s.heap.size q := fun q h => Or.inr h
    have hS : va_S (va_A [cTPN zc, cLo zc] s.heap.size) s.heap s.heap [] := va_S.rf
    refine lv_iload_n hx hb dX10_told_0 rfl (lv_at hl 1 rfl) ?_
    by_cases hw1 : a0 = 0
    · subst hw1
      refine lv_tableIn (off := 47) (tgt := 48) hx hb dX10_told_1 (by decide) (by decide) rfl (by decide) ?_
      refine lv_aload_n hx hb dX10_told_48 rfl (lv_at hl 0 rfl) ?_
      refine va_get (D := (dC, dI)) (ci := 10) (v := .int (nI (cs_n zc 0))) (C := RX10) (T := TX10) (N := 13) hx hb hts hiX10 hown hK hP 0 rfl rfl 7 (by decide) (hts (.fieldLink RX10 124 "TributePitches" "pitchCount" "I") (by decide +kernel)) (fun _ h9 => h9) rfl dX10_told_49 ?_
      subst hQ
      exact W.iret (v := nI (cs_n zc 0)) hx hb hr (fun t ht hW => ⟨⟨nI (cs_n zc 0), zc, rfl, ⟨⟨hI, rfl⟩, (Or.inl ⟨hcur, rfl, rfl, rfl⟩)⟩, (by rw [ht]; exact hPk), va_K.moved hW.alike hKk, kDA_self hDk⟩, (kw_same hPk ht).2⟩) (fun q h => absurd h List.not_mem_nil) dX10_told_52
    by_cases hw2 : a0 = 1
    · subst hw2
      refine lv_tableIn (off := 52) (tgt := 53) hx hb dX10_told_1 (by decide) (by decide) rfl (by decide) ?_
      refine lv_aload_n hx hb dX10_told_53 rfl (lv_at hl 0 rfl) ?_
      refine va_get (D := (dC, dI)) (ci := 10) (v := .int (nI (cs_n zc 1))) (C := RX10) (T := TX10) (N := 13) hx hb hts hiX10 hown hK hP 0 rfl rfl 8 (by decide) (hts (.fieldLink RX10 143 "TributePitches" "gangCount" "I") (by decide +kernel)) (fun _ h9 => h9) rfl dX10_told_54 ?_
      subst hQ
      exact W.iret (v := nI (cs_n zc 1)) hx hb hr (fun t ht hW => ⟨⟨nI (cs_n zc 1), zc, rfl, ⟨⟨hI, rfl⟩, (Or.inr (Or.inl ⟨hcur, rfl, rfl, rfl⟩))⟩, (by rw [ht]; exact hPk), va_K.moved hW.alike hKk, kDA_self hDk⟩, (kw_same hPk ht).2⟩) (fun q h => absurd h List.not_mem_nil) dX10_told_57
    by_cases hw3 : a0 = 2
    · subst hw3
      refine lv_tableIn (off := 57) (tgt := 58) hx hb dX10_told_1 (by decide) (by decide) rfl (by decide) ?_
      refine lv_aload_n hx hb dX10_told_58 rfl (lv_at hl 0 rfl) ?_
      refine va_get (D := (dC, dI)) (ci := 10) (v := .int (nI (cs_n zc 2))) (C := RX10) (T := TX10) (N := 13) hx hb hts hiX10 hown hK hP 0 rfl rfl 9 (by decide) (hts (.fieldLink RX10 197 "TributePitches" "takeCount" "I") (by decide +kernel)) (fun _ h9 => h9) rfl dX10_told_59 ?_
      subst hQ
      exact W.iret (v := nI (cs_n zc 2)) hx hb hr (fun t ht hW => ⟨⟨nI (cs_n zc 2), zc, rfl, ⟨⟨hI, rfl⟩, (Or.inr (Or.inr (Or.inl ⟨hcur, rfl, rfl, rfl⟩)))⟩, (by rw [ht]; exact hPk), va_K.moved hW.alike hKk, kDA_self hDk⟩, (kw_same hPk ht).2⟩) (fun q h => absurd h List.not_mem_nil) dX10_told_62
    by_cases hw4 : a0 = 3
    · subst hw4
      refine lv_tableIn (off := 62) (tgt := 63) hx hb dX10_told_1 (by decide) (by decide) rfl (by decide) ?_
      refine lv_aload_n hx hb dX10_told_63 rfl (lv_at hl 0 rfl) ?_
      refine va_get (D := (dC, dI)) (ci := 10) (v := .int (nI (cs_n zc 3))) (C := RX10) (T := TX10) (N := 13) hx hb hts hiX10 hown hK hP 0 rfl rfl 10 (by decide) (hts (.fieldLink RX10 242 "TributePitches" "parcelCount" "I") (by decide +kernel)) (fun _ h9 => h9) rfl dX10_told_64 ?_
      subst hQ
      exact W.iret (v := nI (cs_n zc 3)) hx hb hr (fun t ht hW => ⟨⟨nI (cs_n zc 3), zc, rfl, ⟨⟨hI, rfl⟩, (Or.inr (Or.inr (Or.inr (Or.inl ⟨hcur, rfl, rfl, rfl⟩))))⟩, (by rw [ht]; exact hPk), va_K.moved hW.alike hKk, kDA_self hDk⟩, (kw_same hPk ht).2⟩) (fun q h => absurd h List.not_mem_nil) dX10_told_67
    by_cases hw5 : a0 = 4
    · subst hw5
      refine lv_tableIn (off := 67) (tgt := 68) hx hb dX10_told_1 (by decide) (by decide) rfl (by decide) ?_
      refine lv_aload_n hx hb dX10_told_68 rfl (lv_at hl 0 rfl) ?_
      refine va_get (D := (dC, dI)) (ci := 10) (v := .ref (cs_X zc 0 1)) (C := RX10) (T := TX10) (N := 13) hx hb hts hiX10 hown hK hP 0 rfl rfl 0 (by decide) (hts (.fieldLink RX10 12 "TributePitches" "lode" "LTributePitches$Lode;") (by decide +kernel)) (fun _ h9 => h9) rfl dX10_told_69 ?_
      refine va_get (D := (dC, dI)) (ci := 3) (v := .int (cs_i zc 0)) (C := RX3) (T := TX3) (N := 5) hx hb hts hiX3 hown hK hP 1 rfl rfl 4 (by decide) (hts (.fieldLink RX10 79 "TributePitches$Lode" "law" "I") (by decide +kernel)) (fun _ h9 => h9) rfl dX10_told_72 ?_
      subst hQ
      exact W.iret (v := cs_i zc 0) hx hb hr (fun t ht hW => ⟨⟨cs_i zc 0, zc, rfl, ⟨⟨hI, rfl⟩, (Or.inr (Or.inr (Or.inr (Or.inr (Or.inl ⟨hcur, rfl, rfl, rfl⟩)))))⟩, (by rw [ht]; exact hPk), va_K.moved hW.alike hKk, kDA_self hDk⟩, (kw_same hPk ht).2⟩) (fun q h => absurd h List.not_mem_nil) dX10_told_75
    by_cases hw6 : a0 = 5
    · subst hw6
      refine lv_tableIn (off := 75) (tgt := 76) hx hb dX10_told_1 (by decide) (by decide) rfl (by decide) ?_
      refine lv_aload_n hx hb dX10_told_76 rfl (lv_at hl 0 rfl) ?_
      refine va_get (D := (dC, dI)) (ci := 10) (v := .null) (C := RX10) (T := TX10) (N := 13) hx hb hts hiX10 hown hK hP 0 rfl rfl 11 (by decide) (hts (.fieldLink RX10 163 "TributePitches" "current" "LTributePitches$Auction;") (by decide +kernel)) (fun _ h9 => h9) rfl dX10_told_77 ?_
      refine lv_ifnonnullN hx hb dX10_told_80 ?_
      refine lv_bipush (v := (-9)) hx hb dX10_told_83 (by decide) ?_
      refine lv_goto (tgt := 95) hx hb dX10_told_85 (by decide) ?_
      subst hQ
      exact W.iret (v := (-9)) hx hb hr (fun t ht hW => ⟨⟨(-9), zc, rfl, ⟨⟨hI, rfl⟩, (Or.inr (Or.inr (Or.inr (Or.inr (Or.inr (Or.inl ⟨hcur, rfl, rfl, rfl⟩))))))⟩, (by rw [ht]; exact hPk), va_K.moved hW.alike hKk, kDA_self hDk⟩, (kw_same hPk ht).2⟩) (fun q h => absurd h List.not_mem_nil) dX10_told_95
    by_cases hw7 : a0 = 6
    · subst hw7
      refine lv_tableIn (off := 95) (tgt := 96) hx hb dX10_told_1 (by decide) (by decide) rfl (by decide) ?_
      refine lv_aload_n hx hb dX10_told_96 rfl (lv_at hl 0 rfl) ?_
      refine va_get (D := (dC, dI)) (ci := 10) (v := .null) (C := RX10) (T := TX10) (N := 13) hx hb hts hiX10 hown hK hP 0 rfl rfl 11 (by decide) (hts (.fieldLink RX10 163 "TributePitches" "current" "LTributePitches$Auction;") (by decide +kernel)) (fun _ h9 => h9) rfl dX10_told_97 ?_
      refine lv_ifnonnullN hx hb dX10_told_100 ?_
      refine lv_bipush (v := (-9)) hx hb dX10_told_103 (by decide) ?_
      refine lv_goto (tgt := 118) hx hb dX10_told_105 (by decide) ?_
      subst hQ
      exact W.iret (v := (-9)) hx hb hr (fun t ht hW => ⟨⟨(-9), zc, rfl, ⟨⟨hI, rfl⟩, (Or.inr (Or.inr (Or.inr (Or.inr (Or.inr (Or.inr (Or.inl ⟨hcur, rfl, rfl, rfl⟩)))))))⟩, (by rw [ht]; exact hPk), va_K.moved hW.alike hKk, kDA_self hDk⟩, (kw_same hPk ht).2⟩) (fun q h => absurd h List.not_mem_nil) dX10_told_118
    by_cases hw8 : a0 = 7
    · subst hw8
      refine lv_tableIn (off := 118) (tgt := 119) hx hb dX10_told_1 (by decide) (by decide) rfl (by decide) ?_
      refine lv_aload_n hx hb dX10_told_119 rfl (lv_at hl 0 rfl) ?_
      refine va_get (D := (dC, dI)) (ci := 10) (v := .null) (C := RX10) (T := TX10) (N := 13) hx hb hts hiX10 hown hK hP 0 rfl rfl 11 (by decide) (hts (.fieldLink RX10 163 "TributePitches" "current" "LTributePitches$Auction;") (by decide +kernel)) (fun _ h9 => h9) rfl dX10_told_120 ?_
      refine lv_ifnonnullN hx hb dX10_told_123 ?_
      refine lv_bipush (v := (-9)) hx hb dX10_told_126 (by decide) ?_
      refine lv_goto (tgt := 138) hx hb dX10_told_128 (by decide) ?_
      subst hQ
      exact W.iret (v := (-9)) hx hb hr (fun t ht hW => ⟨⟨(-9), zc, rfl, ⟨⟨hI, rfl⟩, (Or.inr (Or.inr (Or.inr (Or.inr (Or.inr (Or.inr (Or.inr (Or.inl ⟨hcur, rfl, rfl, rfl⟩))))))))⟩, (by rw [ht]; exact hPk), va_K.moved hW.alike hKk, kDA_self hDk⟩, (kw_same hPk ht).2⟩) (fun q h => absurd h List.not_mem_nil) dX10_told_138
    refine lv_tableOut (tgt := 139) hx hb dX10_told_1 (tb_out8 hw1 hw2 hw3 hw4 hw5 hw6 hw7 hw8) (by decide) ?_
    refine lv_bipush (v := (-2)) hx hb dX10_told_139 (by decide) ?_
    subst hQ
    exact W.iret (v := (-2)) hx hb hr (fun t ht hW => ⟨⟨(-2), zc, rfl, ⟨⟨hI, rfl⟩, (Or.inr (Or.inr (Or.inr (Or.inr (Or.inr (Or.inr (Or.inr (Or.inr (Or.inl ⟨hcur, hw1, hw2, hw3, hw4, hw5, hw6, hw7, hw8, rfl, rfl⟩)))))))))⟩, (by rw [ht]; exact hPk), va_K.moved hW.alike hKk, kDA_self hDk⟩, (kw_same hPk ht).2⟩) (fun q h => absurd h List.not_mem_nil) dX10_told_141
  · skip
    have hks : kAll (cF cA zc) [(0, 0), (0, 1), (5, 0), (1, cs_n zc 4 - 1)] [cTPA zc, cLo zc, cAu zc, cPi zc (cs_n zc 4 - 1)] := ⟨(kF_tpA (z := zc) hcur), (kF_lo (cA := cA) (z := zc)), (kF_au (z := zc) hcur), (kF_pi (z := zc) (j := cs_n zc 4 - 1) (by omega)), trivial⟩
    have hP : va_P (dC, dI) vwCl [cTPA zc, cLo zc, cAu zc, cPi zc (cs_n zc 4 - 1)] s.heap := kAll_P hPk hks
    have hD : va_D (va_A [cTPA zc, cLo zc, cAu zc, cPi zc (cs_n zc 4 - 1)] s.heap.size) [cTPA zc, cLo zc, cAu zc, cPi zc (cs_n zc 4 - 1)] := (kAll_D hDk hks (by simp)).self
    have hA : ∀ q : Nat, s.heap.size ≤ q → va_A [cTPA zc, cLo zc, cAu zc, cPi zc (cs_n zc 4 - 1)] s.heap.size q := fun q h => Or.inr h
    have hS : va_S (va_A [cTPA zc, cLo zc, cAu zc, cPi zc (cs_n zc 4 - 1)] s.heap.size) s.heap s.heap [] := va_S.rf
    refine lv_iload_n hx hb dX10_told_0 rfl (lv_at hl 1 rfl) ?_
    by_cases hw9 : a0 = 0
    · subst hw9
      refine lv_tableIn (off := 47) (tgt := 48) hx hb dX10_told_1 (by decide) (by decide) rfl (by decide) ?_
      refine lv_aload_n hx hb dX10_told_48 rfl (lv_at hl 0 rfl) ?_
      refine va_get (D := (dC, dI)) (ci := 10) (v := .int (nI (cs_n zc 0))) (C := RX10) (T := TX10) (N := 13) hx hb hts hiX10 hown hK hP 0 rfl rfl 7 (by decide) (hts (.fieldLink RX10 124 "TributePitches" "pitchCount" "I") (by decide +kernel)) (fun _ h9 => h9) rfl dX10_told_49 ?_
      subst hQ
      exact W.iret (v := nI (cs_n zc 0)) hx hb hr (fun t ht hW => ⟨⟨nI (cs_n zc 0), zc, rfl, ⟨⟨hI, rfl⟩, (Or.inr (Or.inr (Or.inr (Or.inr (Or.inr (Or.inr (Or.inr (Or.inr (Or.inr (Or.inl ⟨hcur, rfl, rfl, rfl⟩))))))))))⟩, (by rw [ht]; exact hPk), va_K.moved hW.alike hKk, kDA_self hDk⟩, (kw_same hPk ht).2⟩) (fun q h => absurd h List.not_mem_nil) dX10_told_52
    by_cases hw10 : a0 = 1
    · subst hw10
      refine lv_tableIn (off := 52) (tgt := 53) hx hb dX10_told_1 (by decide) (by decide) rfl (by decide) ?_
      refine lv_aload_n hx hb dX10_told_53 rfl (lv_at hl 0 rfl) ?_
      refine va_get (D := (dC, dI)) (ci := 10) (v := .int (nI (cs_n zc 1))) (C := RX10) (T := TX10) (N := 13) hx hb hts hiX10 hown hK hP 0 rfl rfl 8 (by decide) (hts (.fieldLink RX10 143 "TributePitches" "gangCount" "I") (by decide +kernel)) (fun _ h9 => h9) rfl dX10_told_54 ?_
      subst hQ
      exact W.iret (v := nI (cs_n zc 1)) hx hb hr (fun t ht hW => ⟨⟨nI (cs_n zc 1), zc, rfl, ⟨⟨hI, rfl⟩, (Or.inr (Or.inr (Or.inr (Or.inr (Or.inr (Or.inr (Or.inr (Or.inr (Or.inr (Or.inr (Or.inl ⟨hcur, rfl, rfl, rfl⟩)))))))))))⟩, (by rw [ht]; exact hPk), va_K.moved hW.alike hKk, kDA_self hDk⟩, (kw_same hPk ht).2⟩) (fun q h => absurd h List.not_mem_nil) dX10_told_57
    by_cases hw11 : a0 = 2
    · subst hw11
      refine lv_tableIn (off := 57) (tgt := 58) hx hb dX10_told_1 (by decide) (by decide) rfl (by decide) ?_
      refine lv_aload_n hx hb dX10_told_58 rfl (lv_at hl 0 rfl) ?_
      refine va_get (D := (dC, dI)) (ci := 10) (v := .int (nI (cs_n zc 2))) (C := RX10) (T := TX10) (N := 13) hx hb hts hiX10 hown hK hP 0 rfl rfl 9 (by decide) (hts (.fieldLink RX10 197 "TributePitches" "takeCount" "I") (by decide +kernel)) (fun _ h9 => h9) rfl dX10_told_59 ?_
      subst hQ
      exact W.iret (v := nI (cs_n zc 2)) hx hb hr (fun t ht hW => ⟨⟨nI (cs_n zc 2), zc, rfl, ⟨⟨hI, rfl⟩, (Or.inr (Or.inr (Or.inr (Or.inr (Or.inr (Or.inr (Or.inr (Or.inr (Or.inr (Or.inr (Or.inr (Or.inl ⟨hcur, rfl, rfl, rfl⟩))))))))))))⟩, (by rw [ht]; exact hPk), va_K.moved hW.alike hKk, kDA_self hDk⟩, (kw_same hPk ht).2⟩) (fun q h => absurd h List.not_mem_nil) dX10_told_62
    by_cases hw12 : a0 = 3
    · subst hw12
      refine lv_tableIn (off := 62) (tgt := 63) hx hb dX10_told_1 (by decide) (by decide) rfl (by decide) ?_
      refine lv_aload_n hx hb dX10_told_63 rfl (lv_at hl 0 rfl) ?_
      refine va_get (D := (dC, dI)) (ci := 10) (v := .int (nI (cs_n zc 3))) (C := RX10) (T := TX10) (N := 13) hx hb hts hiX10 hown hK hP 0 rfl rfl 10 (by decide) (hts (.fieldLink RX10 242 "TributePitches" "parcelCount" "I") (by decide +kernel)) (fun _ h9 => h9) rfl dX10_told_64 ?_
      subst hQ
      exact W.iret (v := nI (cs_n zc 3)) hx hb hr (fun t ht hW => ⟨⟨nI (cs_n zc 3), zc, rfl, ⟨⟨hI, rfl⟩, (Or.inr (Or.inr (Or.inr (Or.inr (Or.inr (Or.inr (Or.inr (Or.inr (Or.inr (Or.inr (Or.inr (Or.inr (Or.inl ⟨hcur, rfl, rfl, rfl⟩)))))))))))))⟩, (by rw [ht]; exact hPk), va_K.moved hW.alike hKk, kDA_self hDk⟩, (kw_same hPk ht).2⟩) (fun q h => absurd h List.not_mem_nil) dX10_told_67
    by_cases hw13 : a0 = 4
    · subst hw13
      refine lv_tableIn (off := 67) (tgt := 68) hx hb dX10_told_1 (by decide) (by decide) rfl (by decide) ?_
      refine lv_aload_n hx hb dX10_told_68 rfl (lv_at hl 0 rfl) ?_
      refine va_get (D := (dC, dI)) (ci := 10) (v := .ref (cs_X zc 0 1)) (C := RX10) (T := TX10) (N := 13) hx hb hts hiX10 hown hK hP 0 rfl rfl 0 (by decide) (hts (.fieldLink RX10 12 "TributePitches" "lode" "LTributePitches$Lode;") (by decide +kernel)) (fun _ h9 => h9) rfl dX10_told_69 ?_
      refine va_get (D := (dC, dI)) (ci := 3) (v := .int (cs_i zc 0)) (C := RX3) (T := TX3) (N := 5) hx hb hts hiX3 hown hK hP 1 rfl rfl 4 (by decide) (hts (.fieldLink RX10 79 "TributePitches$Lode" "law" "I") (by decide +kernel)) (fun _ h9 => h9) rfl dX10_told_72 ?_
      subst hQ
      exact W.iret (v := cs_i zc 0) hx hb hr (fun t ht hW => ⟨⟨cs_i zc 0, zc, rfl, ⟨⟨hI, rfl⟩, (Or.inr (Or.inr (Or.inr (Or.inr (Or.inr (Or.inr (Or.inr (Or.inr (Or.inr (Or.inr (Or.inr (Or.inr (Or.inr (Or.inl ⟨hcur, rfl, rfl, rfl⟩))))))))))))))⟩, (by rw [ht]; exact hPk), va_K.moved hW.alike hKk, kDA_self hDk⟩, (kw_same hPk ht).2⟩) (fun q h => absurd h List.not_mem_nil) dX10_told_75
    by_cases hw14 : a0 = 5
    · subst hw14
      refine lv_tableIn (off := 75) (tgt := 76) hx hb dX10_told_1 (by decide) (by decide) rfl (by decide) ?_
      refine lv_aload_n hx hb dX10_told_76 rfl (lv_at hl 0 rfl) ?_
      refine va_get (D := (dC, dI)) (ci := 10) (v := .ref (cs_X zc 5 0)) (C := RX10) (T := TX10) (N := 13) hx hb hts hiX10 hown hK hP 0 rfl rfl 11 (by decide) (hts (.fieldLink RX10 163 "TributePitches" "current" "LTributePitches$Auction;") (by decide +kernel)) (fun _ h9 => h9) rfl dX10_told_77 ?_
      refine lv_ifnonnull (tgt := 88) hx hb dX10_told_80 (by decide) ?_
      refine lv_aload_n hx hb dX10_told_88 rfl (lv_at hl 0 rfl) ?_
      refine va_get (D := (dC, dI)) (ci := 10) (v := .ref (cs_X zc 5 0)) (C := RX10) (T := TX10) (N := 13) hx hb hts hiX10 hown hK hP 0 rfl rfl 11 (by decide) (hts (.fieldLink RX10 163 "TributePitches" "current" "LTributePitches$Auction;") (by decide +kernel)) (fun _ h9 => h9) rfl dX10_told_89 ?_
      refine va_get (D := (dC, dI)) (ci := 0) (v := .int (cs_i zc 4)) (C := RX0) (T := TX0) (N := 4) hx hb hts hiX0 hown hK hP 2 rfl rfl 2 (by decide) (hts (.fieldLink RX10 187 "TributePitches$Auction" "bids" "I") (by decide +kernel)) (fun _ h9 => h9) rfl dX10_told_92 ?_
      subst hQ
      exact W.iret (v := cs_i zc 4) hx hb hr (fun t ht hW => ⟨⟨cs_i zc 4, zc, rfl, ⟨⟨hI, rfl⟩, (Or.inr (Or.inr (Or.inr (Or.inr (Or.inr (Or.inr (Or.inr (Or.inr (Or.inr (Or.inr (Or.inr (Or.inr (Or.inr (Or.inr (Or.inl ⟨hcur, rfl, rfl, rfl⟩)))))))))))))))⟩, (by rw [ht]; exact hPk), va_K.moved hW.alike hKk, kDA_self hDk⟩, (kw_same hPk ht).2⟩) (fun q h => absurd h List.not_mem_nil) dX10_told_95
    by_cases hw15 : a0 = 6
    · subst hw15
      refine lv_tableIn (off := 95) (tgt := 96) hx hb dX10_told_1 (by decide) (by decide) rfl (by decide) ?_
      refine lv_aload_n hx hb dX10_told_96 rfl (lv_at hl 0 rfl) ?_
      refine va_get (D := (dC, dI)) (ci := 10) (v := .ref (cs_X zc 5 0)) (C := RX10) (T := TX10) (N := 13) hx hb hts hiX10 hown hK hP 0 rfl rfl 11 (by decide) (hts (.fieldLink RX10 163 "TributePitches" "current" "LTributePitches$Auction;") (by decide +kernel)) (fun _ h9 => h9) rfl dX10_told_97 ?_
      refine lv_ifnonnull (tgt := 108) hx hb dX10_told_100 (by decide) ?_
      refine lv_aload_n hx hb dX10_told_108 rfl (lv_at hl 0 rfl) ?_
      refine va_get (D := (dC, dI)) (ci := 10) (v := .ref (cs_X zc 5 0)) (C := RX10) (T := TX10) (N := 13) hx hb hts hiX10 hown hK hP 0 rfl rfl 11 (by decide) (hts (.fieldLink RX10 163 "TributePitches" "current" "LTributePitches$Auction;") (by decide +kernel)) (fun _ h9 => h9) rfl dX10_told_109 ?_
      refine va_get (D := (dC, dI)) (ci := 0) (v := .ref (cs_X zc 1 (cs_n zc 4 - 1))) (C := RX0) (T := TX0) (N := 4) hx hb hts hiX0 hown hK hP 2 rfl rfl 0 (by decide) (hts (.fieldLink RX10 193 "TributePitches$Auction" "pitch" "LTributePitches$Pitch;") (by decide +kernel)) (fun _ h9 => h9) rfl dX10_told_112 ?_
      refine va_get (D := (dC, dI)) (ci := 6) (v := .int (nI (cs_n zc 4 - 1))) (C := RX6) (T := TX6) (N := 8) hx hb hts hiX6 hown hK hP 3 rfl rfl 0 (by decide) (hts (.fieldLink RX10 269 "TributePitches$Pitch" "number" "I") (by decide +kernel)) (fun _ h9 => h9) rfl dX10_told_115 ?_
      subst hQ
      exact W.iret (v := nI (cs_n zc 4 - 1)) hx hb hr (fun t ht hW => ⟨⟨nI (cs_n zc 4 - 1), zc, rfl, ⟨⟨hI, rfl⟩, (Or.inr (Or.inr (Or.inr (Or.inr (Or.inr (Or.inr (Or.inr (Or.inr (Or.inr (Or.inr (Or.inr (Or.inr (Or.inr (Or.inr (Or.inr (Or.inl ⟨hcur, rfl, rfl, rfl⟩))))))))))))))))⟩, (by rw [ht]; exact hPk), va_K.moved hW.alike hKk, kDA_self hDk⟩, (kw_same hPk ht).2⟩) (fun q h => absurd h List.not_mem_nil) dX10_told_118
    by_cases hw16 : a0 = 7
    · subst hw16
      refine lv_tableIn (off := 118) (tgt := 119) hx hb dX10_told_1 (by decide) (by decide) rfl (by decide) ?_
      refine lv_aload_n hx hb dX10_told_119 rfl (lv_at hl 0 rfl) ?_
      refine va_get (D := (dC, dI)) (ci := 10) (v := .ref (cs_X zc 5 0)) (C := RX10) (T := TX10) (N := 13) hx hb hts hiX10 hown hK hP 0 rfl rfl 11 (by decide) (hts (.fieldLink RX10 163 "TributePitches" "current" "LTributePitches$Auction;") (by decide +kernel)) (fun _ h9 => h9) rfl dX10_told_120 ?_
      refine lv_ifnonnull (tgt := 131) hx hb dX10_told_123 (by decide) ?_
      refine lv_aload_n hx hb dX10_told_131 rfl (lv_at hl 0 rfl) ?_
      refine va_get (D := (dC, dI)) (ci := 10) (v := .ref (cs_X zc 5 0)) (C := RX10) (T := TX10) (N := 13) hx hb hts hiX10 hown hK hP 0 rfl rfl 11 (by decide) (hts (.fieldLink RX10 163 "TributePitches" "current" "LTributePitches$Auction;") (by decide +kernel)) (fun _ h9 => h9) rfl dX10_told_132 ?_
      refine va_get (D := (dC, dI)) (ci := 0) (v := .int (cs_i zc 3)) (C := RX0) (T := TX0) (N := 4) hx hb hts hiX0 hown hK hP 2 rfl rfl 1 (by decide) (hts (.fieldLink RX10 190 "TributePitches$Auction" "share" "I") (by decide +kernel)) (fun _ h9 => h9) rfl dX10_told_135 ?_
      subst hQ
      exact W.iret (v := cs_i zc 3) hx hb hr (fun t ht hW => ⟨⟨cs_i zc 3, zc, rfl, ⟨⟨hI, rfl⟩, (Or.inr (Or.inr (Or.inr (Or.inr (Or.inr (Or.inr (Or.inr (Or.inr (Or.inr (Or.inr (Or.inr (Or.inr (Or.inr (Or.inr (Or.inr (Or.inr (Or.inl ⟨hcur, rfl, rfl, rfl⟩)))))))))))))))))⟩, (by rw [ht]; exact hPk), va_K.moved hW.alike hKk, kDA_self hDk⟩, (kw_same hPk ht).2⟩) (fun q h => absurd h List.not_mem_nil) dX10_told_138
    refine lv_tableOut (tgt := 139) hx hb dX10_told_1 (tb_out8 hw9 hw10 hw11 hw12 hw13 hw14 hw15 hw16) (by decide) ?_
    refine lv_bipush (v := (-2)) hx hb dX10_told_139 (by decide) ?_
    subst hQ
    exact W.iret (v := (-2)) hx hb hr (fun t ht hW => ⟨⟨(-2), zc, rfl, ⟨⟨hI, rfl⟩, (Or.inr (Or.inr (Or.inr (Or.inr (Or.inr (Or.inr (Or.inr (Or.inr (Or.inr (Or.inr (Or.inr (Or.inr (Or.inr (Or.inr (Or.inr (Or.inr (Or.inr ⟨hcur, hw9, hw10, hw11, hw12, hw13, hw14, hw15, hw16, rfl, rfl⟩)))))))))))))))))⟩, (by rw [ht]; exact hPk), va_K.moved hW.alike hKk, kDA_self hDk⟩, (kw_same hPk ht).2⟩) (fun q h => absurd h List.not_mem_nil) dX10_told_141
