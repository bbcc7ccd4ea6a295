theorem inv_settle {z : CS} {jt : Nat} {a b c e : Int32} {x y w : Int64} (hI : invC z) : invC (cs_i z, cs_n z, va_up (va_up (cs_I z) 33 (va_up (cs_I z 33) jt a)) 22 (va_up (cs_I z 22) (cs_N z 2 jt) b), va_up (va_up (cs_L z) 6 (va_up (cs_L z 6) jt x)) 0 (va_up (cs_L z 0) (cs_N z 2 jt) y), va_up (cs_N z) 0 (va_up (cs_N z 0) (cs_N z 3 jt) 0), cs_S z, cs_X z) := by
  obtain ⟨h1, hpi, h2, h3, h4, h5⟩ := hI
  refine ⟨h1, fun p hp => ⟨(hpi p hp).1, (hpi p hp).2.1, ?_⟩, h2, h3, h4, h5⟩
  show va_up (cs_N z 0) (cs_N z 3 jt) 0 p ≤ cs_n z 2
  by_cases h : p = cs_N z 3 jt
  · rw [h, va_up_self]; exact Nat.zero_le _
  · rw [va_up_ne _ _ h]; exact (hpi p hp).2.2
theorem tb_out5 {w : Int32} (h0 : ¬ w = 0) (h1 : ¬ w = 1) (h2 : ¬ w = 2) (h3 : ¬ w = 3) (h4 : ¬ w = 4) : w.toInt < 0 ∨ 4 < w.toInt := by
  have e0 : ¬ w.toInt = 0 := fun q => h0 ((fa_eq _ _).mpr q)
  have e1 : ¬ w.toInt = 1 := fun q => h1 ((fa_eq _ _).mpr q)
  have e2 : ¬ w.toInt = 2 := fun q => h2 ((fa_eq _ _).mpr q)
  have e3 : ¬ w.toInt = 3 := fun q => h3 ((fa_eq _ _).mpr q)
  have e4 : ¬ w.toInt = 4 := fun q => h4 ((fa_eq _ _).mpr q)
  omega
theorem tb_out6 {w : Int32} (h0 : ¬ w = 0) (h1 : ¬ w = 1) (h2 : ¬ w = 2) (h3 : ¬ w = 3) (h4 : ¬ w = 4) (h5 : ¬ w = 5) : w.toInt < 0 ∨ 5 < w.toInt := by
  have e5 : ¬ w.toInt = 5 := fun q => h5 ((fa_eq _ _).mpr q)
  have := tb_out5 h0 h1 h2 h3 h4
  omega
theorem tb_out7 {w : Int32} (h0 : ¬ w = 0) (h1 : ¬ w = 1) (h2 : ¬ w = 2) (h3 : ¬ w = 3) (h4 : ¬ w = 4) (h5 : ¬ w = 5) (h6 : ¬ w = 6) : w.toInt < 0 ∨ 6 < w.toInt := by
  have e6 : ¬ w.toInt = 6 := fun q => h6 ((fa_eq _ _).mpr q)
  have := tb_out6 h0 h1 h2 h3 h4 h5
  omega
def pC_trace (zc : CS) (r : Int32) (u : CS) : Prop :=
  (r = cs_i zc 1 ∧ u = zc)
set_option maxHeartbeats 4000000 in
set_option maxRecDepth 100000 in
theorem K_trace (l : Launch) (dC : Nat → ClassId) (dI : Nat → Nat → Nat) (cA : Nat → ClassId) (sz : Nat) (zc : CS) (hI : invC zc) : Met l yX10_trace wsX10_trace ({ frames := 1, cells := 0, slots := 0, locals := 30 }) (kw (dC, dI) (ctys cA) (cF cA zc) sz [.ref (cs_X zc 0 0)]) (kQi (dC, dI) (ctys cA) (cF cA zc) sz (cF cA) (fun r u => invC u ∧ pC_trace zc r u)) 0 0 (kA (cF cA zc) sz) := by
  refine kw_met (cc := cX10_trace) (maxL := 1) (ret := (some .int)) (by decide) rfl (Nat.le_of_ble_eq_true rfl) ?_
  intro p e s m below meth c0 hx hb hr hml hown hlocks hnm hts hPk hKk hDk hN hsz ls hl
  subst hsz
  have hK : va_K (dC, dI) vwCl [(cA 0, .int), (cA 1, .object RX6), (cA 2, .object RX2), (cA 3, .object RX8), (cA 4, .object RX5), (cA 5, .object RX7)] s := hKk
  obtain ⟨⟨hn0, hn1, hn2, hn3, hn4, hn5⟩, hpi, hgk, htk, hpk, hsh⟩ := id hI
  have hl : lv_has ls 1 [(0, .ref (cs_X zc 0 0))] := hl
  have hiX10 : ∀ w ∈ wsX100, w ∈ wsX10_trace := by decide +kernel
  have hiX9 : ∀ w ∈ wsX90, w ∈ wsX10_trace := by decide +kernel
  generalize hQ : MQ _ _ _ _ _ _ _ = Q
  have hks : kAll (cF cA zc) [(0, 0), (0, 11)] [cTP zc, cTr zc] := ⟨rfl, rfl, trivial⟩
  have hP : va_P (dC, dI) vwCl [cTP zc, cTr zc] s.heap := kAll_P hPk hks
  have hD : va_D (va_A [cTP zc, cTr zc] s.heap.size) [cTP zc, cTr zc] := (kAll_D hDk hks (by simp)).self
  have hA : ∀ q : Nat, s.heap.size ≤ q → va_A [cTP zc, cTr zc] s.heap.size q := fun q h => Or.inr h
  have hS : va_S (va_A [cTP zc, cTr zc] s.heap.size) s.heap s.heap [] := va_S.rf
  refine lv_aload_n hx hb dX10_trace_0 rfl (lv_at hl 0 rfl) ?_
  refine va_get (D := (dC, dI)) (ci := 10) (v := .ref (cs_X zc 0 11)) (C := RX10) (T := TX10) (N := 13) hx hb hts hiX10 hown hK hP 0 rfl rfl 6 (by decide) (hts (.fieldLink RX10 52 "TributePitches" "steps" "LTributePitches$Trace;") (by decide +kernel)) (fun _ h9 => h9) rfl dX10_trace_1 ?_
  refine va_get (D := (dC, dI)) (ci := 9) (v := .int (cs_i zc 1)) (C := RX9) (T := TX9) (N := 1) hx hb hts hiX9 hown hK hP 1 rfl rfl 0 (by decide) (hts (.fieldLink RX10 315 "TributePitches$Trace" "number" "I") (by decide +kernel)) (fun _ h9 => h9) rfl dX10_trace_4 ?_
  subst hQ
  exact W.iret (v := cs_i zc 1) hx hb hr (fun t ht hW => ⟨⟨cs_i zc 1, zc, rfl, ⟨hI, ⟨rfl, rfl⟩⟩, (by rw [ht]; exact hPk), va_K.moved hW.alike hKk, hDk⟩, (kw_same hPk ht).2⟩) (fun q h => absurd h List.not_mem_nil) dX10_trace_7
def pC_fault (zc : CS) (r : Int32) (u : CS) : Prop :=
  (r = cs_i zc 2 ∧ u = zc)
set_option maxHeartbeats 4000000 in
set_option maxRecDepth 100000 in
theorem K_fault (l : Launch) (dC : Nat → ClassId) (dI : Nat → Nat → Nat) (cA : Nat → ClassId) (sz : Nat) (zc : CS) (hI : invC zc) : Met l yX10_fault wsX10_fault ({ frames := 1, cells := 0, slots := 0, locals := 30 }) (kw (dC, dI) (ctys cA) (cF cA zc) sz [.ref (cs_X zc 0 0)]) (kQi (dC, dI) (ctys cA) (cF cA zc) sz (cF cA) (fun r u => invC u ∧ pC_fault zc r u)) 0 0 (kA (cF cA zc) sz) := by
  refine kw_met (cc := cX10_fault) (maxL := 1) (ret := (some .int)) (by decide) rfl (Nat.le_of_ble_eq_true rfl) ?_
  intro p e s m below meth c0 hx hb hr hml hown hlocks hnm hts hPk hKk hDk hN hsz ls hl
  subst hsz
  have hK : va_K (dC, dI) vwCl [(cA 0, .int), (cA 1, .object RX6), (cA 2, .object RX2), (cA 3, .object RX8), (cA 4, .object RX5), (cA 5, .object RX7)] s := hKk
  obtain ⟨⟨hn0, hn1, hn2, hn3, hn4, hn5⟩, hpi, hgk, htk, hpk, hsh⟩ := id hI
  have hl : lv_has ls 1 [(0, .ref (cs_X zc 0 0))] := hl
  have hiX10 : ∀ w ∈ wsX100, w ∈ wsX10_fault := by decide +kernel
  generalize hQ : MQ _ _ _ _ _ _ _ = Q
  have hks : kAll (cF cA zc) [(0, 0)] [cTP zc] := ⟨rfl, trivial⟩
  have hP : va_P (dC, dI) vwCl [cTP zc] s.heap := kAll_P hPk hks
  have hD : va_D (va_A [cTP zc] s.heap.size) [cTP zc] := (kAll_D hDk hks (by simp)).self
  have hA : ∀ q : Nat, s.heap.size ≤ q → va_A [cTP zc] s.heap.size q := fun q h => Or.inr h
  have hS : va_S (va_A [cTP zc] s.heap.size) s.heap s.heap [] := va_S.rf
  refine lv_aload_n hx hb dX10_fault_0 rfl (lv_at hl 0 rfl) ?_
  refine va_get (D := (dC, dI)) (ci := 10) (v := .int (cs_i zc 2)) (C := RX10) (T := TX10) (N := 13) hx hb hts hiX10 hown hK hP 0 rfl rfl 12 (by decide) (hts (.fieldLink RX10 56 "TributePitches" "latestFault" "I") (by decide +kernel)) (fun _ h9 => h9) rfl dX10_fault_1 ?_
  subst hQ
  exact W.iret (v := cs_i zc 2) hx hb hr (fun t ht hW => ⟨⟨cs_i zc 2, zc, rfl, ⟨hI, ⟨rfl, rfl⟩⟩, (by rw [ht]; exact hPk), va_K.moved hW.alike hKk, hDk⟩, (kw_same hPk ht).2⟩) (fun q h => absurd h List.not_mem_nil) dX10_fault_4
def pC_told (zc : CS) (a0 : Int32) (r : Int32) (u : CS) : Prop :=
  ((cs_n zc 4 = 0) ∧ a0 = 0 ∧ r = nI (cs_n zc 0) ∧ u = zc) ∨
  ((cs_n zc 4 = 0) ∧ a0 = 1 ∧ r = nI (cs_n zc 1) ∧ u = zc) ∨
  ((cs_n zc 4 = 0) ∧ a0 = 2 ∧ r = nI (cs_n zc 2) ∧ u = zc) ∨
  ((cs_n zc 4 = 0) ∧ a0 = 3 ∧ r = nI (cs_n zc 3) ∧ u = zc) ∨
  ((cs_n zc 4 = 0) ∧ a0 = 4 ∧ r = cs_i zc 0 ∧ u = zc) ∨
  ((cs_n zc 4 = 0) ∧ a0 = 5 ∧ r = (-9) ∧ u = zc) ∨
  ((cs_n zc 4 = 0) ∧ a0 = 6 ∧ r = (-9) ∧ u = zc) ∨
  ((cs_n zc 4 = 0) ∧ a0 = 7 ∧ r = (-9) ∧ u = zc) ∨
  ((cs_n zc 4 = 0) ∧ (¬ a0 = 0) ∧ (¬ a0 = 1) ∧ (¬ a0 = 2) ∧ (¬ a0 = 3) ∧ (¬ a0 = 4) ∧ (¬ a0 = 5) ∧ (¬ a0 = 6) ∧ (¬ a0 = 7) ∧ r = (-2) ∧ u = zc) ∨
  ((¬ cs_n zc 4 = 0) ∧ a0 = 0 ∧ r = nI (cs_n zc 0) ∧ u = zc) ∨
  ((¬ cs_n zc 4 = 0) ∧ a0 = 1 ∧ r = nI (cs_n zc 1) ∧ u = zc) ∨
  ((¬ cs_n zc 4 = 0) ∧ a0 = 2 ∧ r = nI (cs_n zc 2) ∧ u = zc) ∨
  ((¬ cs_n zc 4 = 0) ∧ a0 = 3 ∧ r = nI (cs_n zc 3) ∧ u = zc) ∨
  ((¬ cs_n zc 4 = 0) ∧ a0 = 4 ∧ r = cs_i zc 0 ∧ u = zc) ∨
  ((¬ cs_n zc 4 = 0) ∧ a0 = 5 ∧ r = cs_i zc 4 ∧ u = zc) ∨
  ((¬ cs_n zc 4 = 0) ∧ a0 = 6 ∧ r = nI (cs_n zc 4 - 1) ∧ u = zc) ∨
  ((¬ cs_n zc 4 = 0) ∧ a0 = 7 ∧ r = cs_i zc 3 ∧ u = zc) ∨
  ((¬ cs_n zc 4 = 0) ∧ (¬ a0 = 0) ∧ (¬ a0 = 1) ∧ (¬ a0 = 2) ∧ (¬ a0 = 3) ∧ (¬ a0 = 4) ∧ (¬ a0 = 5) ∧ (¬ a0 = 6) ∧ (¬ a0 = 7) ∧ r = (-2) ∧ u = zc)
set_option maxHeartbeats 4000000 in
set_option maxRecDepth 100000 in
theorem K_told (l : Launch) (dC : Nat → ClassId) (dI : Nat → Nat → Nat) (cA : Nat → ClassId) (sz : Nat) (zc : CS) (a0 : Int32) (hI : invC zc) : Met l yX10_told wsX10_told ({ frames := 1, cells := 0, slots := 0, locals := 30 }) (kw (dC, dI) (ctys cA) (cF cA zc) sz [.ref (cs_X zc 0 0), .int a0]) (kQi (dC, dI) (ctys cA) (cF cA zc) sz (cF cA) (fun r u => invC u ∧ pC_told zc a0 r u)) 0 0 (kA (cF cA zc) sz) := by
  refine kw_met (cc := cX10_told) (maxL := 2) (ret := (some .int)) (by decide) rfl (Nat.le_of_ble_eq_true rfl) ?_
  intro p e s m below meth c0 hx hb hr hml hown hlocks hnm hts hPk hKk hDk hN hsz ls hl
  subst hsz
  have hK : va_K (dC, dI) vwCl [(cA 0, .int), (cA 1, .object RX6), (cA 2, .object RX2), (cA 3, .object RX8), (cA 4, .object RX5), (cA 5, .object RX7)] s := hKk
  obtain ⟨⟨hn0, hn1, hn2, hn3, hn4, hn5⟩, hpi, hgk, htk, hpk, hsh⟩ := id hI
  have hl : lv_has ls 2 [(0, .ref (cs_X zc 0 0)), (1, .int a0)] := hl
  have hiX0 : ∀ w ∈ wsX00, w ∈ wsX10_told := by decide +kernel
  have hiX10 : ∀ w ∈ wsX100, w ∈ wsX10_told := by decide +kernel
  have hiX3 : ∀ w ∈ wsX30, w ∈ wsX10_told := by decide +kernel
  have hiX6 : ∀ w ∈ wsX60, w ∈ wsX10_told := by decide +kernel
  generalize hQ : MQ _ _ _ _ _ _ _ = Q
  by_cases hcur : cs_n zc 4 = 0
  · skip
    have hks : kAll (cF cA zc) [(0, 0), (0, 1)] [cTPN zc, cLo zc] := ⟨(kF_tpN (z := zc) hcur), rfl, trivial⟩
    have hP : va_P (dC, dI) vwCl [cTPN zc, cLo zc] s.heap := kAll_P hPk hks
    have hD : va_D (va_A [cTPN zc, cLo zc] s.heap.size) [cTPN zc, cLo zc] := (kAll_D hDk hks (by simp)).self
    have hA : ∀ q : Nat, s.heap.size ≤ q → va_A [cTPN zc, cLo zc] s.heap.size q := fun q h => Or.inr h
    have hS : va_S (va_A [cTPN zc, cLo zc] s.heap.size) s.heap s.heap [] := va_S.rf
    refine lv_iload_n hx hb dX10_told_0 rfl (lv_at hl 1 rfl) ?_
    by_cases hw1 : a0 = 0
    · subst hw1
      refine lv_tableIn (off := 47) (tgt := 48) hx hb dX10_told_1 (by decide) (by decide) rfl (by decide) ?_
      refine lv_aload_n hx hb dX10_told_48 rfl (lv_at hl 0 rfl) ?_
      refine va_get (D := (dC, dI)) (ci := 10) (v := .int (nI (cs_n zc 0))) (C := RX10) (T := TX10) (N := 13) hx hb hts hiX10 hown hK hP 0 rfl rfl 7 (by decide) (hts (.fieldLink RX10 124 "TributePitches" "pitchCount" "I") (by decide +kernel)) (fun _ h9 => h9) rfl dX10_told_49 ?_
      subst hQ
      exact W.iret (v := nI (cs_n zc 0)) hx hb hr (fun t ht hW => ⟨⟨nI (cs_n zc 0), zc, rfl, ⟨hI, (Or.inl ⟨hcur, rfl, rfl, rfl⟩)⟩, (by rw [ht]; exact hPk), va_K.moved hW.alike hKk, hDk⟩, (kw_same hPk ht).2⟩) (fun q h => absurd h List.not_mem_nil) dX10_told_52
    by_cases hw2 : a0 = 1
    · subst hw2
      refine lv_tableIn (off := 52) (tgt := 53) hx hb dX10_told_1 (by decide) (by decide) rfl (by decide) ?_
      refine lv_aload_n hx hb dX10_told_53 rfl (lv_at hl 0 rfl) ?_
      refine va_get (D := (dC, dI)) (ci := 10) (v := .int (nI (cs_n zc 1))) (C := RX10) (T := TX10) (N := 13) hx hb hts hiX10 hown hK hP 0 rfl rfl 8 (by decide) (hts (.fieldLink RX10 143 "TributePitches" "gangCount" "I") (by decide +kernel)) (fun _ h9 => h9) rfl dX10_told_54 ?_
      subst hQ
      exact W.iret (v := nI (cs_n zc 1)) hx hb hr (fun t ht hW => ⟨⟨nI (cs_n zc 1), zc, rfl, ⟨hI, (Or.inr (Or.inl ⟨hcur, rfl, rfl, rfl⟩))⟩, (by rw [ht]; exact hPk), va_K.moved hW.alike hKk, hDk⟩, (kw_same hPk ht).2⟩) (fun q h => absurd h List.not_mem_nil) dX10_told_57
    by_cases hw3 : a0 = 2
    · subst hw3
      refine lv_tableIn (off := 57) (tgt := 58) hx hb dX10_told_1 (by decide) (by decide) rfl (by decide) ?_
      refine lv_aload_n hx hb dX10_told_58 rfl (lv_at hl 0 rfl) ?_
      refine va_get (D := (dC, dI)) (ci := 10) (v := .int (nI (cs_n zc 2))) (C := RX10) (T := TX10) (N := 13) hx hb hts hiX10 hown hK hP 0 rfl rfl 9 (by decide) (hts (.fieldLink RX10 197 "TributePitches" "takeCount" "I") (by decide +kernel)) (fun _ h9 => h9) rfl dX10_told_59 ?_
      subst hQ
      exact W.iret (v := nI (cs_n zc 2)) hx hb hr (fun t ht hW => ⟨⟨nI (cs_n zc 2), zc, rfl, ⟨hI, (Or.inr (Or.inr (Or.inl ⟨hcur, rfl, rfl, rfl⟩)))⟩, (by rw [ht]; exact hPk), va_K.moved hW.alike hKk, hDk⟩, (kw_same hPk ht).2⟩) (fun q h => absurd h List.not_mem_nil) dX10_told_62
    by_cases hw4 : a0 = 3
    · subst hw4
      refine lv_tableIn (off := 62) (tgt := 63) hx hb dX10_told_1 (by decide) (by decide) rfl (by decide) ?_
      refine lv_aload_n hx hb dX10_told_63 rfl (lv_at hl 0 rfl) ?_
      refine va_get (D := (dC, dI)) (ci := 10) (v := .int (nI (cs_n zc 3))) (C := RX10) (T := TX10) (N := 13) hx hb hts hiX10 hown hK hP 0 rfl rfl 10 (by decide) (hts (.fieldLink RX10 242 "TributePitches" "parcelCount" "I") (by decide +kernel)) (fun _ h9 => h9) rfl dX10_told_64 ?_
      subst hQ
      exact W.iret (v := nI (cs_n zc 3)) hx hb hr (fun t ht hW => ⟨⟨nI (cs_n zc 3), zc, rfl, ⟨hI, (Or.inr (Or.inr (Or.inr (Or.inl ⟨hcur, rfl, rfl, rfl⟩))))⟩, (by rw [ht]; exact hPk), va_K.moved hW.alike hKk, hDk⟩, (kw_same hPk ht).2⟩) (fun q h => absurd h List.not_mem_nil) dX10_told_67
    by_cases hw5 : a0 = 4
    · subst hw5
      refine lv_tableIn (off := 67) (tgt := 68) hx hb dX10_told_1 (by decide) (by decide) rfl (by decide) ?_
      refine lv_aload_n hx hb dX10_told_68 rfl (lv_at hl 0 rfl) ?_
      refine va_get (D := (dC, dI)) (ci := 10) (v := .ref (cs_X zc 0 1)) (C := RX10) (T := TX10) (N := 13) hx hb hts hiX10 hown hK hP 0 rfl rfl 0 (by decide) (hts (.fieldLink RX10 12 "TributePitches" "lode" "LTributePitches$Lode;") (by decide +kernel)) (fun _ h9 => h9) rfl dX10_told_69 ?_
      refine va_get (D := (dC, dI)) (ci := 3) (v := .int (cs_i zc 0)) (C := RX3) (T := TX3) (N := 5) hx hb hts hiX3 hown hK hP 1 rfl rfl 4 (by decide) (hts (.fieldLink RX10 79 "TributePitches$Lode" "law" "I") (by decide +kernel)) (fun _ h9 => h9) rfl dX10_told_72 ?_
      subst hQ
      exact W.iret (v := cs_i zc 0) hx hb hr (fun t ht hW => ⟨⟨cs_i zc 0, zc, rfl, ⟨hI, (Or.inr (Or.inr (Or.inr (Or.inr (Or.inl ⟨hcur, rfl, rfl, rfl⟩)))))⟩, (by rw [ht]; exact hPk), va_K.moved hW.alike hKk, hDk⟩, (kw_same hPk ht).2⟩) (fun q h => absurd h List.not_mem_nil) dX10_told_75
    by_cases hw6 : a0 = 5
    · subst hw6
      refine lv_tableIn (off := 75) (tgt := 76) hx hb dX10_told_1 (by decide) (by decide) rfl (by decide) ?_
      refine lv_aload_n hx hb dX10_told_76 rfl (lv_at hl 0 rfl) ?_
      refine va_get (D := (dC, dI)) (ci := 10) (v := .null) (C := RX10) (T := TX10) (N := 13) hx hb hts hiX10 hown hK hP 0 rfl rfl 11 (by decide) (hts (.fieldLink RX10 163 "TributePitches" "current" "LTributePitches$Auction;") (by decide +kernel)) (fun _ h9 => h9) rfl dX10_told_77 ?_
      refine lv_ifnonnullN hx hb dX10_told_80 ?_
      refine lv_bipush (v := (-9)) hx hb dX10_told_83 (by decide) ?_
      refine lv_goto (tgt := 95) hx hb dX10_told_85 (by decide) ?_
      subst hQ
      exact W.iret (v := (-9)) hx hb hr (fun t ht hW => ⟨⟨(-9), zc, rfl, ⟨hI, (Or.inr (Or.inr (Or.inr (Or.inr (Or.inr (Or.inl ⟨hcur, rfl, rfl, rfl⟩))))))⟩, (by rw [ht]; exact hPk), va_K.moved hW.alike hKk, hDk⟩, (kw_same hPk ht).2⟩) (fun q h => absurd h List.not_mem_nil) dX10_told_95
    by_cases hw7 : a0 = 6
    · subst hw7
      refine lv_tableIn (off := 95) (tgt := 96) hx hb dX10_told_1 (by decide) (by decide) rfl (by decide) ?_
      refine lv_aload_n hx hb dX10_told_96 rfl (lv_at hl 0 rfl) ?_
      refine va_get (D := (dC, dI)) (ci := 10) (v := .null) (C := RX10) (T := TX10) (N := 13) hx hb hts hiX10 hown hK hP 0 rfl rfl 11 (by decide) (hts (.fieldLink RX10 163 "TributePitches" "current" "LTributePitches$Auction;") (by decide +kernel)) (fun _ h9 => h9) rfl dX10_told_97 ?_
      refine lv_ifnonnullN hx hb dX10_told_100 ?_
      refine lv_bipush (v := (-9)) hx hb dX10_told_103 (by decide) ?_
      refine lv_goto (tgt := 118) hx hb dX10_told_105 (by decide) ?_
      subst hQ
      exact W.iret (v := (-9)) hx hb hr (fun t ht hW => ⟨⟨(-9), zc, rfl, ⟨hI, (Or.inr (Or.inr (Or.inr (Or.inr (Or.inr (Or.inr (Or.inl ⟨hcur, rfl, rfl, rfl⟩)))))))⟩, (by rw [ht]; exact hPk), va_K.moved hW.alike hKk, hDk⟩, (kw_same hPk ht).2⟩) (fun q h => absurd h List.not_mem_nil) dX10_told_118
    by_cases hw8 : a0 = 7
    · subst hw8
      refine lv_tableIn (off := 118) (tgt := 119) hx hb dX10_told_1 (by decide) (by decide) rfl (by decide) ?_
      refine lv_aload_n hx hb dX10_told_119 rfl (lv_at hl 0 rfl) ?_
      refine va_get (D := (dC, dI)) (ci := 10) (v := .null) (C := RX10) (T := TX10) (N := 13) hx hb hts hiX10 hown hK hP 0 rfl rfl 11 (by decide) (hts (.fieldLink RX10 163 "TributePitches" "current" "LTributePitches$Auction;") (by decide +kernel)) (fun _ h9 => h9) rfl dX10_told_120 ?_
      refine lv_ifnonnullN hx hb dX10_told_123 ?_
      refine lv_bipush (v := (-9)) hx hb dX10_told_126 (by decide) ?_
      refine lv_goto (tgt := 138) hx hb dX10_told_128 (by decide) ?_
      subst hQ
      exact W.iret (v := (-9)) hx hb hr (fun t ht hW => ⟨⟨(-9), zc, rfl, ⟨hI, (Or.inr (Or.inr (Or.inr (Or.inr (Or.inr (Or.inr (Or.inr (Or.inl ⟨hcur, rfl, rfl, rfl⟩))))))))⟩, (by rw [ht]; exact hPk), va_K.moved hW.alike hKk, hDk⟩, (kw_same hPk ht).2⟩) (fun q h => absurd h List.not_mem_nil) dX10_told_138
    refine lv_tableOut (tgt := 139) hx hb dX10_told_1 (tb_out8 hw1 hw2 hw3 hw4 hw5 hw6 hw7 hw8) (by decide) ?_
    refine lv_bipush (v := (-2)) hx hb dX10_told_139 (by decide) ?_
    subst hQ
    exact W.iret (v := (-2)) hx hb hr (fun t ht hW => ⟨⟨(-2), zc, rfl, ⟨hI, (Or.inr (Or.inr (Or.inr (Or.inr (Or.inr (Or.inr (Or.inr (Or.inr (Or.inl ⟨hcur, hw1, hw2, hw3, hw4, hw5, hw6, hw7, hw8, rfl, rfl⟩)))))))))⟩, (by rw [ht]; exact hPk), va_K.moved hW.alike hKk, hDk⟩, (kw_same hPk ht).2⟩) (fun q h => absurd h List.not_mem_nil) dX10_told_141
  · skip
    have hks : kAll (cF cA zc) [(0, 0), (0, 1), (5, 0), (1, cs_n zc 4 - 1)] [cTPA zc, cLo zc, cAu zc, cPi zc (cs_n zc 4 - 1)] := ⟨(kF_tpA (z := zc) hcur), rfl, (kF_au (z := zc) hcur), (kF_pi (z := zc) (by omega)), trivial⟩
    have hP : va_P (dC, dI) vwCl [cTPA zc, cLo zc, cAu zc, cPi zc (cs_n zc 4 - 1)] s.heap := kAll_P hPk hks
    have hD : va_D (va_A [cTPA zc, cLo zc, cAu zc, cPi zc (cs_n zc 4 - 1)] s.heap.size) [cTPA zc, cLo zc, cAu zc, cPi zc (cs_n zc 4 - 1)] := (kAll_D hDk hks (by simp)).self
    have hA : ∀ q : Nat, s.heap.size ≤ q → va_A [cTPA zc, cLo zc, cAu zc, cPi zc (cs_n zc 4 - 1)] s.heap.size q := fun q h => Or.inr h
    have hS : va_S (va_A [cTPA zc, cLo zc, cAu zc, cPi zc (cs_n zc 4 - 1)] s.heap.size) s.heap s.heap [] := va_S.rf
    refine lv_iload_n hx hb dX10_told_0 rfl (lv_at hl 1 rfl) ?_
    by_cases hw9 : a0 = 0
    · subst hw9
      refine lv_tableIn (off := 47) (tgt := 48) hx hb dX10_told_1 (by decide) (by decide) rfl (by decide) ?_
      refine lv_aload_n hx hb dX10_told_48 rfl (lv_at hl 0 rfl) ?_
      refine va_get (D := (dC, dI)) (ci := 10) (v := .int (nI (cs_n zc 0))) (C := RX10) (T := TX10) (N := 13) hx hb hts hiX10 hown hK hP 0 rfl rfl 7 (by decide) (hts (.fieldLink RX10 124 "TributePitches" "pitchCount" "I") (by decide +kernel)) (fun _ h9 => h9) rfl dX10_told_49 ?_
      subst hQ
      exact W.iret (v := nI (cs_n zc 0)) hx hb hr (fun t ht hW => ⟨⟨nI (cs_n zc 0), zc, rfl, ⟨hI, (Or.inr (Or.inr (Or.inr (Or.inr (Or.inr (Or.inr (Or.inr (Or.inr (Or.inr (Or.inl ⟨hcur, rfl, rfl, rfl⟩))))))))))⟩, (by rw [ht]; exact hPk), va_K.moved hW.alike hKk, hDk⟩, (kw_same hPk ht).2⟩) (fun q h => absurd h List.not_mem_nil) dX10_told_52
    by_cases hw10 : a0 = 1
    · subst hw10
      refine lv_tableIn (off := 52) (tgt := 53) hx hb dX10_told_1 (by decide) (by decide) rfl (by decide) ?_
      refine lv_aload_n hx hb dX10_told_53 rfl (lv_at hl 0 rfl) ?_
      refine va_get (D := (dC, dI)) (ci := 10) (v := .int (nI (cs_n zc 1))) (C := RX10) (T := TX10) (N := 13) hx hb hts hiX10 hown hK hP 0 rfl rfl 8 (by decide) (hts (.fieldLink RX10 143 "TributePitches" "gangCount" "I") (by decide +kernel)) (fun _ h9 => h9) rfl dX10_told_54 ?_
      subst hQ
      exact W.iret (v := nI (cs_n zc 1)) hx hb hr (fun t ht hW => ⟨⟨nI (cs_n zc 1), zc, rfl, ⟨hI, (Or.inr (Or.inr (Or.inr (Or.inr (Or.inr (Or.inr (Or.inr (Or.inr (Or.inr (Or.inr (Or.inl ⟨hcur, rfl, rfl, rfl⟩)))))))))))⟩, (by rw [ht]; exact hPk), va_K.moved hW.alike hKk, hDk⟩, (kw_same hPk ht).2⟩) (fun q h => absurd h List.not_mem_nil) dX10_told_57
    by_cases hw11 : a0 = 2
    · subst hw11
      refine lv_tableIn (off := 57) (tgt := 58) hx hb dX10_told_1 (by decide) (by decide) rfl (by decide) ?_
      refine lv_aload_n hx hb dX10_told_58 rfl (lv_at hl 0 rfl) ?_
      refine va_get (D := (dC, dI)) (ci := 10) (v := .int (nI (cs_n zc 2))) (C := RX10) (T := TX10) (N := 13) hx hb hts hiX10 hown hK hP 0 rfl rfl 9 (by decide) (hts (.fieldLink RX10 197 "TributePitches" "takeCount" "I") (by decide +kernel)) (fun _ h9 => h9) rfl dX10_told_59 ?_
      subst hQ
      exact W.iret (v := nI (cs_n zc 2)) hx hb hr (fun t ht hW => ⟨⟨nI (cs_n zc 2), zc, rfl, ⟨hI, (Or.inr (Or.inr (Or.inr (Or.inr (Or.inr (Or.inr (Or.inr (Or.inr (Or.inr (Or.inr (Or.inr (Or.inl ⟨hcur, rfl, rfl, rfl⟩))))))))))))⟩, (by rw [ht]; exact hPk), va_K.moved hW.alike hKk, hDk⟩, (kw_same hPk ht).2⟩) (fun q h => absurd h List.not_mem_nil) dX10_told_62
    by_cases hw12 : a0 = 3
    · subst hw12
      refine lv_tableIn (off := 62) (tgt := 63) hx hb dX10_told_1 (by decide) (by decide) rfl (by decide) ?_
      refine lv_aload_n hx hb dX10_told_63 rfl (lv_at hl 0 rfl) ?_
      refine va_get (D := (dC, dI)) (ci := 10) (v := .int (nI (cs_n zc 3))) (C := RX10) (T := TX10) (N := 13) hx hb hts hiX10 hown hK hP 0 rfl rfl 10 (by decide) (hts (.fieldLink RX10 242 "TributePitches" "parcelCount" "I") (by decide +kernel)) (fun _ h9 => h9) rfl dX10_told_64 ?_
      subst hQ
      exact W.iret (v := nI (cs_n zc 3)) hx hb hr (fun t ht hW => ⟨⟨nI (cs_n zc 3), zc, rfl, ⟨hI, (Or.inr (Or.inr (Or.inr (Or.inr (Or.inr (Or.inr (Or.inr (Or.inr (Or.inr (Or.inr (Or.inr (Or.inr (Or.inl ⟨hcur, rfl, rfl, rfl⟩)))))))))))))⟩, (by rw [ht]; exact hPk), va_K.moved hW.alike hKk, hDk⟩, (kw_same hPk ht).2⟩) (fun q h => absurd h List.not_mem_nil) dX10_told_67
    by_cases hw13 : a0 = 4
    · subst hw13
      refine lv_tableIn (off := 67) (tgt := 68) hx hb dX10_told_1 (by decide) (by decide) rfl (by decide) ?_
      refine lv_aload_n hx hb dX10_told_68 rfl (lv_at hl 0 rfl) ?_
      refine va_get (D := (dC, dI)) (ci := 10) (v := .ref (cs_X zc 0 1)) (C := RX10) (T := TX10) (N := 13) hx hb hts hiX10 hown hK hP 0 rfl rfl 0 (by decide) (hts (.fieldLink RX10 12 "TributePitches" "lode" "LTributePitches$Lode;") (by decide +kernel)) (fun _ h9 => h9) rfl dX10_told_69 ?_
      refine va_get (D := (dC, dI)) (ci := 3) (v := .int (cs_i zc 0)) (C := RX3) (T := TX3) (N := 5) hx hb hts hiX3 hown hK hP 1 rfl rfl 4 (by decide) (hts (.fieldLink RX10 79 "TributePitches$Lode" "law" "I") (by decide +kernel)) (fun _ h9 => h9) rfl dX10_told_72 ?_
      subst hQ
      exact W.iret (v := cs_i zc 0) hx hb hr (fun t ht hW => ⟨⟨cs_i zc 0, zc, rfl, ⟨hI, (Or.inr (Or.inr (Or.inr (Or.inr (Or.inr (Or.inr (Or.inr (Or.inr (Or.inr (Or.inr (Or.inr (Or.inr (Or.inr (Or.inl ⟨hcur, rfl, rfl, rfl⟩))))))))))))))⟩, (by rw [ht]; exact hPk), va_K.moved hW.alike hKk, hDk⟩, (kw_same hPk ht).2⟩) (fun q h => absurd h List.not_mem_nil) dX10_told_75
    by_cases hw14 : a0 = 5
    · subst hw14
      refine lv_tableIn (off := 75) (tgt := 76) hx hb dX10_told_1 (by decide) (by decide) rfl (by decide) ?_
      refine lv_aload_n hx hb dX10_told_76 rfl (lv_at hl 0 rfl) ?_
      refine va_get (D := (dC, dI)) (ci := 10) (v := .ref (cs_X zc 5 0)) (C := RX10) (T := TX10) (N := 13) hx hb hts hiX10 hown hK hP 0 rfl rfl 11 (by decide) (hts (.fieldLink RX10 163 "TributePitches" "current" "LTributePitches$Auction;") (by decide +kernel)) (fun _ h9 => h9) rfl dX10_told_77 ?_
      refine lv_ifnonnull (tgt := 88) hx hb dX10_told_80 (by decide) ?_
      refine lv_aload_n hx hb dX10_told_88 rfl (lv_at hl 0 rfl) ?_
      refine va_get (D := (dC, dI)) (ci := 10) (v := .ref (cs_X zc 5 0)) (C := RX10) (T := TX10) (N := 13) hx hb hts hiX10 hown hK hP 0 rfl rfl 11 (by decide) (hts (.fieldLink RX10 163 "TributePitches" "current" "LTributePitches$Auction;") (by decide +kernel)) (fun _ h9 => h9) rfl dX10_told_89 ?_
      refine va_get (D := (dC, dI)) (ci := 0) (v := .int (cs_i zc 4)) (C := RX0) (T := TX0) (N := 4) hx hb hts hiX0 hown hK hP 2 rfl rfl 2 (by decide) (hts (.fieldLink RX10 187 "TributePitches$Auction" "bids" "I") (by decide +kernel)) (fun _ h9 => h9) rfl dX10_told_92 ?_
      subst hQ
      exact W.iret (v := cs_i zc 4) hx hb hr (fun t ht hW => ⟨⟨cs_i zc 4, zc, rfl, ⟨hI, (Or.inr (Or.inr (Or.inr (Or.inr (Or.inr (Or.inr (Or.inr (Or.inr (Or.inr (Or.inr (Or.inr (Or.inr (Or.inr (Or.inr (Or.inl ⟨hcur, rfl, rfl, rfl⟩)))))))))))))))⟩, (by rw [ht]; exact hPk), va_K.moved hW.alike hKk, hDk⟩, (kw_same hPk ht).2⟩) (fun q h => absurd h List.not_mem_nil) dX10_told_95
    by_cases hw15 : a0 = 6
    · subst hw15
      refine lv_tableIn (off := 95) (tgt := 96) hx hb dX10_told_1 (by decide) (by decide) rfl (by decide) ?_
      refine lv_aload_n hx hb dX10_told_96 rfl (lv_at hl 0 rfl) ?_
      refine va_get (D := (dC, dI)) (ci := 10) (v := .ref (cs_X zc 5 0)) (C := RX10) (T := TX10) (N := 13) hx hb hts hiX10 hown hK hP 0 rfl rfl 11 (by decide) (hts (.fieldLink RX10 163 "TributePitches" "current" "LTributePitches$Auction;") (by decide +kernel)) (fun _ h9 => h9) rfl dX10_told_97 ?_
      refine lv_ifnonnull (tgt := 108) hx hb dX10_told_100 (by decide) ?_
      refine lv_aload_n hx hb dX10_told_108 rfl (lv_at hl 0 rfl) ?_
      refine va_get (D := (dC, dI)) (ci := 10) (v := .ref (cs_X zc 5 0)) (C := RX10) (T := TX10) (N := 13) hx hb hts hiX10 hown hK hP 0 rfl rfl 11 (by decide) (hts (.fieldLink RX10 163 "TributePitches" "current" "LTributePitches$Auction;") (by decide +kernel)) (fun _ h9 => h9) rfl dX10_told_109 ?_
      refine va_get (D := (dC, dI)) (ci := 0) (v := .ref (cs_X zc 1 (cs_n zc 4 - 1))) (C := RX0) (T := TX0) (N := 4) hx hb hts hiX0 hown hK hP 2 rfl rfl 0 (by decide) (hts (.fieldLink RX10 193 "TributePitches$Auction" "pitch" "LTributePitches$Pitch;") (by decide +kernel)) (fun _ h9 => h9) rfl dX10_told_112 ?_
      refine va_get (D := (dC, dI)) (ci := 6) (v := .int (nI (cs_n zc 4 - 1))) (C := RX6) (T := TX6) (N := 8) hx hb hts hiX6 hown hK hP 3 rfl rfl 0 (by decide) (hts (.fieldLink RX10 269 "TributePitches$Pitch" "number" "I") (by decide +kernel)) (fun _ h9 => h9) rfl dX10_told_115 ?_
      subst hQ
      exact W.iret (v := nI (cs_n zc 4 - 1)) hx hb hr (fun t ht hW => ⟨⟨nI (cs_n zc 4 - 1), zc, rfl, ⟨hI, (Or.inr (Or.inr (Or.inr (Or.inr (Or.inr (Or.inr (Or.inr (Or.inr (Or.inr (Or.inr (Or.inr (Or.inr (Or.inr (Or.inr (Or.inr (Or.inl ⟨hcur, rfl, rfl, rfl⟩))))))))))))))))⟩, (by rw [ht]; exact hPk), va_K.moved hW.alike hKk, hDk⟩, (kw_same hPk ht).2⟩) (fun q h => absurd h List.not_mem_nil) dX10_told_118
    by_cases hw16 : a0 = 7
    · subst hw16
      refine lv_tableIn (off := 118) (tgt := 119) hx hb dX10_told_1 (by decide) (by decide) rfl (by decide) ?_
      refine lv_aload_n hx hb dX10_told_119 rfl (lv_at hl 0 rfl) ?_
      refine va_get (D := (dC, dI)) (ci := 10) (v := .ref (cs_X zc 5 0)) (C := RX10) (T := TX10) (N := 13) hx hb hts hiX10 hown hK hP 0 rfl rfl 11 (by decide) (hts (.fieldLink RX10 163 "TributePitches" "current" "LTributePitches$Auction;") (by decide +kernel)) (fun _ h9 => h9) rfl dX10_told_120 ?_
      refine lv_ifnonnull (tgt := 131) hx hb dX10_told_123 (by decide) ?_
      refine lv_aload_n hx hb dX10_told_131 rfl (lv_at hl 0 rfl) ?_
      refine va_get (D := (dC, dI)) (ci := 10) (v := .ref (cs_X zc 5 0)) (C := RX10) (T := TX10) (N := 13) hx hb hts hiX10 hown hK hP 0 rfl rfl 11 (by decide) (hts (.fieldLink RX10 163 "TributePitches" "current" "LTributePitches$Auction;") (by decide +kernel)) (fun _ h9 => h9) rfl dX10_told_132 ?_
      refine va_get (D := (dC, dI)) (ci := 0) (v := .int (cs_i zc 3)) (C := RX0) (T := TX0) (N := 4) hx hb hts hiX0 hown hK hP 2 rfl rfl 1 (by decide) (hts (.fieldLink RX10 190 "TributePitches$Auction" "share" "I") (by decide +kernel)) (fun _ h9 => h9) rfl dX10_told_135 ?_
      subst hQ
      exact W.iret (v := cs_i zc 3) hx hb hr (fun t ht hW => ⟨⟨cs_i zc 3, zc, rfl, ⟨hI, (Or.inr (Or.inr (Or.inr (Or.inr (Or.inr (Or.inr (Or.inr (Or.inr (Or.inr (Or.inr (Or.inr (Or.inr (Or.inr (Or.inr (Or.inr (Or.inr (Or.inl ⟨hcur, rfl, rfl, rfl⟩)))))))))))))))))⟩, (by rw [ht]; exact hPk), va_K.moved hW.alike hKk, hDk⟩, (kw_same hPk ht).2⟩) (fun q h => absurd h List.not_mem_nil) dX10_told_138
    refine lv_tableOut (tgt := 139) hx hb dX10_told_1 (tb_out8 hw9 hw10 hw11 hw12 hw13 hw14 hw15 hw16) (by decide) ?_
    refine lv_bipush (v := (-2)) hx hb dX10_told_139 (by decide) ?_
    subst hQ
    exact W.iret (v := (-2)) hx hb hr (fun t ht hW => ⟨⟨(-2), zc, rfl, ⟨hI, (Or.inr (Or.inr (Or.inr (Or.inr (Or.inr (Or.inr (Or.inr (Or.inr (Or.inr (Or.inr (Or.inr (Or.inr (Or.inr (Or.inr (Or.inr (Or.inr (Or.inr ⟨hcur, hw9, hw10, hw11, hw12, hw13, hw14, hw15, hw16, rfl, rfl⟩)))))))))))))))))⟩, (by rw [ht]; exact hPk), va_K.moved hW.alike hKk, hDk⟩, (kw_same hPk ht).2⟩) (fun q h => absurd h List.not_mem_nil) dX10_told_141
def pC_good (zc : CS) (x : Int32) (y : Int32) (wh : Int32) (r : Int32) (u : CS) : Prop :=
  (((0 ≤ x ∧ x ≤ 7) ∧ (0 ≤ y ∧ y ≤ 5)) ∧ (0 ≤ wh ∧ wh ≤ 1) ∧ (¬ wh = 0) ∧ r = (cs_I zc 1) (8 * y + x).toNatClampNeg ∧ u = zc) ∨
  (((0 ≤ x ∧ x ≤ 7) ∧ (0 ≤ y ∧ y ≤ 5)) ∧ (0 ≤ wh ∧ wh ≤ 1) ∧ (wh = 0) ∧ r = (cs_I zc 0) (8 * y + x).toNatClampNeg ∧ u = zc) ∨
  (((0 ≤ x ∧ x ≤ 7) ∧ (0 ≤ y ∧ y ≤ 5)) ∧ (¬ (0 ≤ wh ∧ wh ≤ 1)) ∧ r = (-2) ∧ u = zc) ∨
  ((¬ ((0 ≤ x ∧ x ≤ 7) ∧ (0 ≤ y ∧ y ≤ 5))) ∧ r = (-1) ∧ u = zc)
set_option maxHeartbeats 4000000 in
set_option maxRecDepth 100000 in
theorem K_good (l : Launch) (dC : Nat → ClassId) (dI : Nat → Nat → Nat) (cA : Nat → ClassId) (sz : Nat) (zc : CS) (x : Int32) (y : Int32) (wh : Int32) (hI : invC zc) : Met l yX10_good wsX10_good ({ frames := 2, cells := 0, slots := 0, locals := 60 }) (kw (dC, dI) (ctys cA) (cF cA zc) sz [.ref (cs_X zc 0 0), .int x, .int y, .int wh]) (kQi (dC, dI) (ctys cA) (cF cA zc) sz (cF cA) (fun r u => invC u ∧ pC_good zc x y wh r u)) 0 0 (kA (cF cA zc) sz) := by
  refine kw_met (cc := cX10_good) (maxL := 5) (ret := (some .int)) (by decide) rfl (Nat.le_of_ble_eq_true rfl) ?_
  intro p e s m below meth c0 hx hb hr hml hown hlocks hnm hts hPk hKk hDk hN hsz ls hl
  subst hsz
  have hK : va_K (dC, dI) vwCl [(cA 0, .int), (cA 1, .object RX6), (cA 2, .object RX2), (cA 3, .object RX8), (cA 4, .object RX5), (cA 5, .object RX7)] s := hKk
  obtain ⟨⟨hn0, hn1, hn2, hn3, hn4, hn5⟩, hpi, hgk, htk, hpk, hsh⟩ := id hI
  have hl : lv_has ls 5 [(0, .ref (cs_X zc 0 0)), (1, .int x), (2, .int y), (3, .int wh)] := hl
  have hiX10 : ∀ w ∈ wsX100, w ∈ wsX10_good := by decide +kernel
  have hiX3 : ∀ w ∈ wsX30, w ∈ wsX10_good := by decide +kernel
  generalize hQ : MQ _ _ _ _ _ _ _ = Q
  have hks : kAll (cF cA zc) [(0, 0), (0, 1), (0, 2), (0, 3)] [cTP zc, cLo zc, cA2 cA zc, cA3 cA zc] := ⟨rfl, rfl, rfl, rfl, trivial⟩
  have hP : va_P (dC, dI) vwCl [cTP zc, cLo zc, cA2 cA zc, cA3 cA zc] s.heap := kAll_P hPk hks
  have hD : va_D (va_A [cTP zc, cLo zc, cA2 cA zc, cA3 cA zc] s.heap.size) [cTP zc, cLo zc, cA2 cA zc, cA3 cA zc] := (kAll_D hDk hks (by simp)).self
  have hA : ∀ q : Nat, s.heap.size ≤ q → va_A [cTP zc, cLo zc, cA2 cA zc, cA3 cA zc] s.heap.size q := fun q h => Or.inr h
  have hS : va_S (va_A [cTP zc, cLo zc, cA2 cA zc, cA3 cA zc] s.heap.size) s.heap s.heap [] := va_S.rf
  refine lv_iload_n hx hb dX10_good_0 rfl (lv_at hl 1 rfl) ?_
  refine lv_iload_n hx hb dX10_good_1 rfl (lv_at hl 2 rfl) ?_
  refine vp_callSi (va_Run.run (va_runS (As := [.int x, .int y]) (rest := []) ⟨hx, hb, hml, hown, hts⟩ (c_X3_hasSquare l x y ) (va_cwS 2 hts gX10_good_X3_hasSquare rfl rfl rfl (by decide +kernel) ⟨Nat.le_of_ble_eq_true rfl, Nat.le_of_ble_eq_true rfl⟩) (p0_preS hN) rfl rfl hl.1 rfl (lv_room (Nat.le_of_ble_eq_true rfl)) dX10_good_2 ⟨Nat.le_of_ble_eq_true rfl, Nat.le_of_ble_eq_true rfl⟩)) (fun r1 hr1 => ?_)
  have hr1 : r1 = if (0 ≤ x ∧ x ≤ 7) ∧ (0 ≤ y ∧ y ≤ 5) then 1 else 0 := hr1
  refine lv_if_ne (tgt := 10) hx hb dX10_good_5 (by decide) (fun c2 => ?_) (fun c2 => ?_)
  · skip
    have c2 := (fa_bool_prop hr1).2.mp c2
    refine lv_iload_n hx hb dX10_good_10 rfl (lv_at hl 3 rfl) ?_
    refine lv_iconst (v := 0) hx hb dX10_good_11 (by decide) ?_
    refine lv_iconst (v := 1) hx hb dX10_good_12 (by decide) ?_
    refine vp_callSi (va_Run.run (va_runS (As := [.int wh, .int 0, .int 1]) (rest := []) ⟨hx, hb, hml, hown, hts⟩ (c_X10_isWithin l wh 0 1 ) (va_cwS 3 hts gX10_good_X10_isWithin rfl rfl rfl (by decide +kernel) ⟨Nat.le_of_ble_eq_true rfl, Nat.le_of_ble_eq_true rfl⟩) (p0_preS hN) rfl rfl hl.1 rfl (lv_room (Nat.le_of_ble_eq_true rfl)) dX10_good_13 ⟨Nat.le_of_ble_eq_true rfl, Nat.le_of_ble_eq_true rfl⟩)) (fun r3 hr3 => ?_)
    have hr3 : r3 = if 0 ≤ wh ∧ wh ≤ 1 then 1 else 0 := hr3
    refine lv_if_ne (tgt := 22) hx hb dX10_good_16 (by decide) (fun c4 => ?_) (fun c4 => ?_)
    · skip
      have c4 := (fa_bool_prop hr3).2.mp c4
      refine lv_iload_n hx hb dX10_good_22 rfl (lv_at hl 1 rfl) ?_
      refine lv_iload_n hx hb dX10_good_23 rfl (lv_at hl 2 rfl) ?_
      refine vp_callSi (va_Run.run (va_runS (As := [.int x, .int y]) (rest := []) ⟨hx, hb, hml, hown, hts⟩ (c_X3_numberOf l x y ) (va_cwS 2 hts gX10_good_X3_numberOf rfl rfl rfl (by decide +kernel) ⟨Nat.le_of_ble_eq_true rfl, Nat.le_of_ble_eq_true rfl⟩) (p0_preS hN) rfl rfl hl.1 rfl (lv_room (Nat.le_of_ble_eq_true rfl)) dX10_good_24 ⟨Nat.le_of_ble_eq_true rfl, Nat.le_of_ble_eq_true rfl⟩)) (fun r5 hr5 => ?_)
      have hr5 : r5 = 8 * y + x := hr5
      have hr5 := hr5.symm
      subst hr5
      refine W.eq (g2 := F0 m 27 ls [.int (8 * y + x)]) rfl ?_
      refine lv_istore (lv' := [(4, .int (8 * y + x)), (0, .ref (cs_X zc 0 0)), (1, .int x), (2, .int y), (3, .int wh)]) hx hb dX10_good_27 hl (by decide) rfl (fun ls hl => ?_)
      refine lv_iload_n hx hb dX10_good_29 rfl (lv_at hl 4 rfl) ?_
      refine lv_if_ne (tgt := 46) hx hb dX10_good_30 (by decide) (fun c6 => ?_) (fun c6 => ?_)
      · skip
        refine lv_aload_n hx hb dX10_good_46 rfl (lv_at hl 1 rfl) ?_
        refine va_get (D := (dC, dI)) (ci := 10) (v := .ref (cs_X zc 0 1)) (C := RX10) (T := TX10) (N := 13) hx hb hts hiX10 hown hK hP 0 rfl rfl 0 (by decide) (hts (.fieldLink RX10 12 "TributePitches" "lode" "LTributePitches$Lode;") (by decide +kernel)) (fun _ h9 => h9) rfl dX10_good_47 ?_
        refine va_get (D := (dC, dI)) (ci := 3) (v := .ref (cs_X zc 0 3)) (C := RX3) (T := TX3) (N := 5) hx hb hts hiX3 hown hK hP 1 rfl rfl 1 (by decide) (hts (.fieldLink RX10 90 "TributePitches$Lode" "highs" "[I") (by decide +kernel)) (fun _ h9 => h9) rfl dX10_good_50 ?_
        refine lv_iload hx hb dX10_good_53 (lv_at hl 0 rfl) ?_
        refine va_iald hx hb hK hP 3 0 rfl rfl (sq_in c2) dX10_good_55 ?_
        subst hQ
        exact W.iret (v := (cs_I zc 1) (8 * y + x).toNatClampNeg) hx hb hr (fun t ht hW => ⟨⟨(cs_I zc 1) (8 * y + x).toNatClampNeg, zc, rfl, ⟨hI, (Or.inl ⟨c2, c4, c6, rfl, rfl⟩)⟩, (by rw [ht]; exact hPk), va_K.moved hW.alike hKk, hDk⟩, (kw_same hPk ht).2⟩) (fun q h => absurd h List.not_mem_nil) dX10_good_56
      · skip
        refine lv_aload_n hx hb dX10_good_33 rfl (lv_at hl 1 rfl) ?_
        refine va_get (D := (dC, dI)) (ci := 10) (v := .ref (cs_X zc 0 1)) (C := RX10) (T := TX10) (N := 13) hx hb hts hiX10 hown hK hP 0 rfl rfl 0 (by decide) (hts (.fieldLink RX10 12 "TributePitches" "lode" "LTributePitches$Lode;") (by decide +kernel)) (fun _ h9 => h9) rfl dX10_good_34 ?_
        refine va_get (D := (dC, dI)) (ci := 3) (v := .ref (cs_X zc 0 2)) (C := RX3) (T := TX3) (N := 5) hx hb hts hiX3 hown hK hP 1 rfl rfl 0 (by decide) (hts (.fieldLink RX10 86 "TributePitches$Lode" "lows" "[I") (by decide +kernel)) (fun _ h9 => h9) rfl dX10_good_37 ?_
        refine lv_iload hx hb dX10_good_40 (lv_at hl 0 rfl) ?_
        refine va_iald hx hb hK hP 2 0 rfl rfl (sq_in c2) dX10_good_42 ?_
        refine lv_goto (tgt := 56) hx hb dX10_good_43 (by decide) ?_
        subst hQ
        exact W.iret (v := (cs_I zc 0) (8 * y + x).toNatClampNeg) hx hb hr (fun t ht hW => ⟨⟨(cs_I zc 0) (8 * y + x).toNatClampNeg, zc, rfl, ⟨hI, (Or.inr (Or.inl ⟨c2, c4, c6, rfl, rfl⟩))⟩, (by rw [ht]; exact hPk), va_K.moved hW.alike hKk, hDk⟩, (kw_same hPk ht).2⟩) (fun q h => absurd h List.not_mem_nil) dX10_good_56
    · skip
      have c4 := (fa_bool_prop hr3).1.mp c4
      refine lv_bipush (v := (-2)) hx hb dX10_good_19 (by decide) ?_
      subst hQ
      exact W.iret (v := (-2)) hx hb hr (fun t ht hW => ⟨⟨(-2), zc, rfl, ⟨hI, (Or.inr (Or.inr (Or.inl ⟨c2, c4, rfl, rfl⟩)))⟩, (by rw [ht]; exact hPk), va_K.moved hW.alike hKk, hDk⟩, (kw_same hPk ht).2⟩) (fun q h => absurd h List.not_mem_nil) dX10_good_21
  · skip
    have c2 := (fa_bool_prop hr1).1.mp c2
    refine lv_iconst (v := (-1)) hx hb dX10_good_8 (by decide) ?_
    subst hQ
    exact W.iret (v := (-1)) hx hb hr (fun t ht hW => ⟨⟨(-1), zc, rfl, ⟨hI, (Or.inr (Or.inr (Or.inr ⟨c2, rfl, rfl⟩)))⟩, (by rw [ht]; exact hPk), va_K.moved hW.alike hKk, hDk⟩, (kw_same hPk ht).2⟩) (fun q h => absurd h List.not_mem_nil) dX10_good_9
def pC_money (zc : CS) (t : Int32) (wh : Int32) (r : Int64) (u : CS) : Prop :=
  ((∀ j, j < cs_n zc 2 → t ≠ nI j) ∧ r = (-9223372036854775808) ∧ u = zc) ∨
  (∃ jt : Nat, t = nI jt ∧ (jt < cs_n zc 2) ∧ wh = 0 ∧ r = cs_L zc 3 jt ∧ u = zc) ∨
  (∃ jt : Nat, t = nI jt ∧ (jt < cs_n zc 2) ∧ wh = 1 ∧ r = cs_L zc 4 jt ∧ u = zc) ∨
  (∃ jt : Nat, t = nI jt ∧ (jt < cs_n zc 2) ∧ wh = 2 ∧ r = cs_L zc 5 jt ∧ u = zc) ∨
  (∃ jt : Nat, t = nI jt ∧ (jt < cs_n zc 2) ∧ wh = 3 ∧ r = cs_L zc 6 jt ∧ u = zc) ∨
  (∃ jt : Nat, t = nI jt ∧ (jt < cs_n zc 2) ∧ wh = 4 ∧ r = cs_L zc 1 jt ∧ u = zc) ∨
  (∃ jt : Nat, t = nI jt ∧ (jt < cs_n zc 2) ∧ wh = 5 ∧ r = cs_L zc 2 jt ∧ u = zc) ∨
  (∃ jt : Nat, t = nI jt ∧ (jt < cs_n zc 2) ∧ (¬ wh = 0) ∧ (¬ wh = 1) ∧ (¬ wh = 2) ∧ (¬ wh = 3) ∧ (¬ wh = 4) ∧ (¬ wh = 5) ∧ r = (-9223372036854775808) ∧ u = zc)
set_option maxHeartbeats 4000000 in
set_option maxRecDepth 100000 in
theorem K_money (l : Launch) (dC : Nat → ClassId) (dI : Nat → Nat → Nat) (cA : Nat → ClassId) (sz : Nat) (zc : CS) (t : Int32) (wh : Int32) (hI : invC zc) : Met l yX10_money wsX10_money ({ frames := 2, cells := 0, slots := 0, locals := 60 }) (kw (dC, dI) (ctys cA) (cF cA zc) sz [.ref (cs_X zc 0 0), .int t, .int wh]) (kQl (dC, dI) (ctys cA) (cF cA zc) sz (cF cA) (fun r u => invC u ∧ pC_money zc t wh r u)) 0 0 (kA (cF cA zc) sz) := by
  refine kw_met (cc := cX10_money) (maxL := 4) (ret := (some .long)) (by decide) rfl (Nat.le_of_ble_eq_true rfl) ?_
  intro p e s m below meth c0 hx hb hr hml hown hlocks hnm hts hPk hKk hDk hN hsz ls hl
  subst hsz
  have hK : va_K (dC, dI) vwCl [(cA 0, .int), (cA 1, .object RX6), (cA 2, .object RX2), (cA 3, .object RX8), (cA 4, .object RX5), (cA 5, .object RX7)] s := hKk
  obtain ⟨⟨hn0, hn1, hn2, hn3, hn4, hn5⟩, hpi, hgk, htk, hpk, hsh⟩ := id hI
  have hl : lv_has ls 4 [(0, .ref (cs_X zc 0 0)), (1, .int t), (2, .int wh)] := hl
  have hiX8 : ∀ w ∈ wsX80, w ∈ wsX10_money := by decide +kernel
  generalize hQ : MQ _ _ _ _ _ _ _ = Q
  rcases ixd t (cs_n zc 2) with hnojt | ⟨jt, hjt, rfl⟩
  · skip
    have hks : kAll (cF cA zc) [(0, 0), (0, 8)] [cTP zc, cR8 cA zc] := ⟨rfl, rfl, trivial⟩
    have hP : va_P (dC, dI) vwCl [cTP zc, cR8 cA zc] s.heap := kAll_P hPk hks
    have hD : va_D (va_A [cTP zc, cR8 cA zc] s.heap.size) [cTP zc, cR8 cA zc] := (kAll_D hDk hks (by simp)).self
    have hA : ∀ q : Nat, s.heap.size ≤ q → va_A [cTP zc, cR8 cA zc] s.heap.size q := fun q h => Or.inr h
    have hS : va_S (va_A [cTP zc, cR8 cA zc] s.heap.size) s.heap s.heap [] := va_S.rf
    refine lv_aload_n hx hb dX10_money_0 rfl (lv_at hl 0 rfl) ?_
    refine lv_iload_n hx hb dX10_money_1 rfl (lv_at hl 1 rfl) ?_
    have hPc := hP.sub (ws' := [cTP zc]) [0] rfl
    have hDc := hD.sub (ws' := [cTP zc]) [0] (by decide) rfl
    have hKc := hK.sub (tys' := []) [] rfl
    refine va_csq (va_Run.run (va_runV (As := [.int t]) (rest := []) ⟨hx, hb, hml, hown, hts⟩ (s_takeAt_no l dC dI  _ (cs_X zc 0 0) (.ref (cs_X zc 0 1)) (.ref (cs_X zc 0 6)) (.ref (cs_X zc 0 7)) (.ref (cs_X zc 0 8)) (.ref (cs_X zc 0 9)) (.ref (cs_X zc 0 10)) (.ref (cs_X zc 0 11)) (.int (nI (cs_n zc 0))) (.int (nI (cs_n zc 1))) (.int (nI (cs_n zc 3))) (va_rf (opN (cs_n zc 4) (fun _ => cs_X zc 5 0))) (.int (cs_i zc 2)) t (cs_n zc 2) (by omega) hnojt) (cwV 1 hts gX10_money_X10_takeAt rfl rfl rfl (by decide +kernel) ⟨Nat.le_of_ble_eq_true rfl, Nat.le_of_ble_eq_true rfl⟩) (pw_preV (va_recv hKc hPc (ci := 10) (q0 := 0) rfl rfl) hPc hKc hDc hN) rfl rfl hl.1 rfl (lv_room (Nat.le_of_ble_eq_true rfl)) dX10_money_2 ⟨Nat.le_of_ble_eq_true rfl, Nat.le_of_ble_eq_true rfl⟩)) (fun r1 hr1 => ?_)
    have hr1 : r1 = none := hr1
    subst hr1
    refine W.eq (g2 := F0 m 5 ls [.null]) rfl ?_
    refine lv_astore_nN (lv' := [(3, .null), (0, .ref (cs_X zc 0 0)), (1, .int t), (2, .int wh)]) hx hb dX10_money_5 rfl hl (by decide) rfl (fun ls hl => ?_)
    refine lv_aload_nN hx hb dX10_money_6 rfl (lv_at hl 0 rfl) ?_
    refine lv_ifnonnullN hx hb dX10_money_7 ?_
    refine lv_ldc2 (v := (-9223372036854775808)) hx hb hown (hts (.constantLong RX10 137 (-9223372036854775808)) (by decide +kernel)) dX10_money_10 ?_
    subst hQ
    exact W.lret (v := (-9223372036854775808)) hx hb hr (fun t ht hW => ⟨⟨(-9223372036854775808), zc, rfl, ⟨hI, (Or.inl ⟨hnojt, rfl, rfl⟩)⟩, (by rw [ht]; exact hPk), va_K.moved hW.alike hKk, hDk⟩, (kw_same hPk ht).2⟩) (fun q h => absurd h List.not_mem_nil) dX10_money_13
  · skip
    have hks : kAll (cF cA zc) [(0, 0), (0, 8), (3, jt)] [cTP zc, cR8 cA zc, cTa zc jt] := ⟨rfl, rfl, (kF_ta (z := zc) hjt), trivial⟩
    have hP : va_P (dC, dI) vwCl [cTP zc, cR8 cA zc, cTa zc jt] s.heap := kAll_P hPk hks
    have hD : va_D (va_A [cTP zc, cR8 cA zc, cTa zc jt] s.heap.size) [cTP zc, cR8 cA zc, cTa zc jt] := (kAll_D hDk hks (by simp)).self
    have hA : ∀ q : Nat, s.heap.size ≤ q → va_A [cTP zc, cR8 cA zc, cTa zc jt] s.heap.size q := fun q h => Or.inr h
    have hS : va_S (va_A [cTP zc, cR8 cA zc, cTa zc jt] s.heap.size) s.heap s.heap [] := va_S.rf
    refine lv_aload_n hx hb dX10_money_0 rfl (lv_at hl 0 rfl) ?_
    refine lv_iload_n hx hb dX10_money_1 rfl (lv_at hl 1 rfl) ?_
    have hPc := hP.sub (ws' := [cTP zc, cR8 cA zc]) [0, 1] rfl
    have hDc := hD.sub (ws' := [cTP zc, cR8 cA zc]) [0, 1] (by decide) rfl
    have hKc := hK.sub (tys' := [(cA 3, .object RX8)]) [3] rfl
    refine va_csq (va_Run.run (va_runV (As := [.int (nI jt)]) (rest := []) ⟨hx, hb, hml, hown, hts⟩ (s_takeAt_yes l dC dI (cA 3) _ (cs_X zc 0 0) (.ref (cs_X zc 0 1)) (.ref (cs_X zc 0 6)) (.ref (cs_X zc 0 7)) (.ref (cs_X zc 0 9)) (.ref (cs_X zc 0 10)) (.ref (cs_X zc 0 11)) (.int (nI (cs_n zc 0))) (.int (nI (cs_n zc 1))) (.int (nI (cs_n zc 3))) (va_rf (opN (cs_n zc 4) (fun _ => cs_X zc 5 0))) (.int (cs_i zc 2)) (cs_X zc 0 8) jt (cs_n zc 2) (cs_X zc 3 jt) (rfN (cs_n zc 2) (cs_X zc 3)) hjt (by omega) (rfN_at hjt)) (cwV 1 hts gX10_money_X10_takeAt rfl rfl rfl (by decide +kernel) ⟨Nat.le_of_ble_eq_true rfl, Nat.le_of_ble_eq_true rfl⟩) (pw_preV (va_recv hKc hPc (ci := 10) (q0 := 0) rfl rfl) hPc hKc hDc hN) rfl rfl hl.1 rfl (lv_room (Nat.le_of_ble_eq_true rfl)) dX10_money_2 ⟨Nat.le_of_ble_eq_true rfl, Nat.le_of_ble_eq_true rfl⟩)) (fun r2 hr2 => ?_)
    have hr2 : r2 = some cs_X zc 3 jt := hr2
    subst hr2
    refine W.eq (g2 := F0 m 5 ls [.ref (cs_X zc 3 jt)]) rfl ?_
    refine lv_astore_n (lv' := [(3, .ref (cs_X zc 3 jt)), (0, .ref (cs_X zc 0 0)), (1, .int (nI jt)), (2, .int wh)]) hx hb dX10_money_5 rfl hl (by decide) rfl (fun ls hl => ?_)
    refine lv_aload_n hx hb dX10_money_6 rfl (lv_at hl 0 rfl) ?_
    refine lv_ifnonnull (tgt := 14) hx hb dX10_money_7 (by decide) ?_
    refine lv_iload_n hx hb dX10_money_14 rfl (lv_at hl 3 rfl) ?_
    by_cases hw3 : wh = 0
    · subst hw3
      refine lv_tableIn (off := 37) (tgt := 52) hx hb dX10_money_15 (by decide) (by decide) rfl (by decide) ?_
      refine lv_aload_n hx hb dX10_money_52 rfl (lv_at hl 0 rfl) ?_
      refine va_get (D := (dC, dI)) (ci := 8) (v := .long (cs_L zc 3 jt)) (C := RX8) (T := TX8) (N := 12) hx hb hts hiX8 hown hK hP 2 rfl rfl 6 (by decide) (hts (.fieldLink RX10 249 "TributePitches$Take" "worths" "J") (by decide +kernel)) (fun _ h9 => h9) rfl dX10_money_53 ?_
      subst hQ
      exact W.lret (v := cs_L zc 3 jt) hx hb hr (fun t ht hW => ⟨⟨cs_L zc 3 jt, zc, rfl, ⟨hI, (Or.inr (Or.inl ⟨jt, rfl, hjt, rfl, rfl, rfl⟩))⟩, (by rw [ht]; exact hPk), va_K.moved hW.alike hKk, hDk⟩, (kw_same hPk ht).2⟩) (fun q h => absurd h List.not_mem_nil) dX10_money_56
    by_cases hw4 : wh = 1
    · subst hw4
      refine lv_tableIn (off := 42) (tgt := 57) hx hb dX10_money_15 (by decide) (by decide) rfl (by decide) ?_
      refine lv_aload_n hx hb dX10_money_57 rfl (lv_at hl 0 rfl) ?_
      refine va_get (D := (dC, dI)) (ci := 8) (v := .long (cs_L zc 4 jt)) (C := RX8) (T := TX8) (N := 12) hx hb hts hiX8 hown hK hP 2 rfl rfl 7 (by decide) (hts (.fieldLink RX10 253 "TributePitches$Take" "costs" "J") (by decide +kernel)) (fun _ h9 => h9) rfl dX10_money_58 ?_
      subst hQ
      exact W.lret (v := cs_L zc 4 jt) hx hb hr (fun t ht hW => ⟨⟨cs_L zc 4 jt, zc, rfl, ⟨hI, (Or.inr (Or.inr (Or.inl ⟨jt, rfl, hjt, rfl, rfl, rfl⟩)))⟩, (by rw [ht]; exact hPk), va_K.moved hW.alike hKk, hDk⟩, (kw_same hPk ht).2⟩) (fun q h => absurd h List.not_mem_nil) dX10_money_61
    by_cases hw5 : wh = 2
    · subst hw5
      refine lv_tableIn (off := 47) (tgt := 62) hx hb dX10_money_15 (by decide) (by decide) rfl (by decide) ?_
      refine lv_aload_n hx hb dX10_money_62 rfl (lv_at hl 0 rfl) ?_
      refine va_get (D := (dC, dI)) (ci := 8) (v := .long (cs_L zc 5 jt)) (C := RX8) (T := TX8) (N := 12) hx hb hts hiX8 hown hK hP 2 rfl rfl 8 (by decide) (hts (.fieldLink RX10 256 "TributePitches$Take" "ahead" "J") (by decide +kernel)) (fun _ h9 => h9) rfl dX10_money_63 ?_
      subst hQ
      exact W.lret (v := cs_L zc 5 jt) hx hb hr (fun t ht hW => ⟨⟨cs_L zc 5 jt, zc, rfl, ⟨hI, (Or.inr (Or.inr (Or.inr (Or.inl ⟨jt, rfl, hjt, rfl, rfl, rfl⟩))))⟩, (by rw [ht]; exact hPk), va_K.moved hW.alike hKk, hDk⟩, (kw_same hPk ht).2⟩) (fun q h => absurd h List.not_mem_nil) dX10_money_66
    by_cases hw6 : wh = 3
    · subst hw6
      refine lv_tableIn (off := 52) (tgt := 67) hx hb dX10_money_15 (by decide) (by decide) rfl (by decide) ?_
      refine lv_aload_n hx hb dX10_money_67 rfl (lv_at hl 0 rfl) ?_
      refine va_get (D := (dC, dI)) (ci := 8) (v := .long (cs_L zc 6 jt)) (C := RX8) (T := TX8) (N := 12) hx hb hts hiX8 hown hK hP 2 rfl rfl 9 (by decide) (hts (.fieldLink RX10 262 "TributePitches$Take" "pay" "J") (by decide +kernel)) (fun _ h9 => h9) rfl dX10_money_68 ?_
      subst hQ
      exact W.lret (v := cs_L zc 6 jt) hx hb hr (fun t ht hW => ⟨⟨cs_L zc 6 jt, zc, rfl, ⟨hI, (Or.inr (Or.inr (Or.inr (Or.inr (Or.inl ⟨jt, rfl, hjt, rfl, rfl, rfl⟩)))))⟩, (by rw [ht]; exact hPk), va_K.moved hW.alike hKk, hDk⟩, (kw_same hPk ht).2⟩) (fun q h => absurd h List.not_mem_nil) dX10_money_71
    by_cases hw7 : wh = 4
    · subst hw7
      refine lv_tableIn (off := 57) (tgt := 72) hx hb dX10_money_15 (by decide) (by decide) rfl (by decide) ?_
      refine lv_aload_n hx hb dX10_money_72 rfl (lv_at hl 0 rfl) ?_
      refine va_get (D := (dC, dI)) (ci := 8) (v := .long (cs_L zc 1 jt)) (C := RX8) (T := TX8) (N := 12) hx hb hts hiX8 hown hK hP 2 rfl rfl 4 (by decide) (hts (.fieldLink RX10 203 "TributePitches$Take" "least" "J") (by decide +kernel)) (fun _ h9 => h9) rfl dX10_money_73 ?_
      subst hQ
      exact W.lret (v := cs_L zc 1 jt) hx hb hr (fun t ht hW => ⟨⟨cs_L zc 1 jt, zc, rfl, ⟨hI, (Or.inr (Or.inr (Or.inr (Or.inr (Or.inr (Or.inl ⟨jt, rfl, hjt, rfl, rfl, rfl⟩))))))⟩, (by rw [ht]; exact hPk), va_K.moved hW.alike hKk, hDk⟩, (kw_same hPk ht).2⟩) (fun q h => absurd h List.not_mem_nil) dX10_money_76
    by_cases hw8 : wh = 5
    · subst hw8
      refine lv_tableIn (off := 62) (tgt := 77) hx hb dX10_money_15 (by decide) (by decide) rfl (by decide) ?_
      refine lv_aload_n hx hb dX10_money_77 rfl (lv_at hl 0 rfl) ?_
      refine va_get (D := (dC, dI)) (ci := 8) (v := .long (cs_L zc 2 jt)) (C := RX8) (T := TX8) (N := 12) hx hb hts hiX8 hown hK hP 2 rfl rfl 5 (by decide) (hts (.fieldLink RX10 207 "TributePitches$Take" "greatest" "J") (by decide +kernel)) (fun _ h9 => h9) rfl dX10_money_78 ?_
      subst hQ
      exact W.lret (v := cs_L zc 2 jt) hx hb hr (fun t ht hW => ⟨⟨cs_L zc 2 jt, zc, rfl, ⟨hI, (Or.inr (Or.inr (Or.inr (Or.inr (Or.inr (Or.inr (Or.inl ⟨jt, rfl, hjt, rfl, rfl, rfl⟩)))))))⟩, (by rw [ht]; exact hPk), va_K.moved hW.alike hKk, hDk⟩, (kw_same hPk ht).2⟩) (fun q h => absurd h List.not_mem_nil) dX10_money_81
    refine lv_tableOut (tgt := 82) hx hb dX10_money_15 (tb_out6 hw3 hw4 hw5 hw6 hw7 hw8) (by decide) ?_
    refine lv_ldc2 (v := (-9223372036854775808)) hx hb hown (hts (.constantLong RX10 137 (-9223372036854775808)) (by decide +kernel)) dX10_money_82 ?_
    subst hQ
    exact W.lret (v := (-9223372036854775808)) hx hb hr (fun t ht hW => ⟨⟨(-9223372036854775808), zc, rfl, ⟨hI, (Or.inr (Or.inr (Or.inr (Or.inr (Or.inr (Or.inr (Or.inr ⟨jt, rfl, hjt, hw3, hw4, hw5, hw6, hw7, hw8, rfl, rfl⟩)))))))⟩, (by rw [ht]; exact hPk), va_K.moved hW.alike hKk, hDk⟩, (kw_same hPk ht).2⟩) (fun q h => absurd h List.not_mem_nil) dX10_money_85
def pC_spend (zc : CS) (t : Int32) (wh : Int32) (pn : Int32) (r : Int64) (u : CS) : Prop :=
  ((∀ j, j < cs_n zc 2 → t ≠ nI j) ∧ r = (-9223372036854775808) ∧ u = zc) ∨
  (∃ jt : Nat, t = nI jt ∧ (jt < cs_n zc 2) ∧ (¬ (0 ≤ wh ∧ wh ≤ 1)) ∧ r = (-9223372036854775808) ∧ u = zc) ∨
  (∃ jt : Nat, t = nI jt ∧ (jt < cs_n zc 2) ∧ (0 ≤ wh ∧ wh ≤ 1) ∧ (0 ≤ pn ∧ pn ≤ 100000) ∧ ((cs_I zc 33 jt) = 0) ∧ (¬ wh = 0) ∧ r = (cs_L zc 5 jt) + pn.toInt64 ∧ u = (cs_i zc, cs_n zc, cs_I zc, va_up (cs_L zc) 5 (va_up (cs_L zc 5) jt ((cs_L zc 5 jt) + pn.toInt64)), cs_N zc, cs_S zc, cs_X zc)) ∨
  (∃ jt : Nat, t = nI jt ∧ (jt < cs_n zc 2) ∧ (0 ≤ wh ∧ wh ≤ 1) ∧ (0 ≤ pn ∧ pn ≤ 100000) ∧ ((cs_I zc 33 jt) = 0) ∧ (wh = 0) ∧ r = (cs_L zc 4 jt) + pn.toInt64 ∧ u = (cs_i zc, cs_n zc, cs_I zc, va_up (cs_L zc) 4 (va_up (cs_L zc 4) jt ((cs_L zc 4 jt) + pn.toInt64)), cs_N zc, cs_S zc, cs_X zc)) ∨
  (∃ jt : Nat, t = nI jt ∧ (jt < cs_n zc 2) ∧ (0 ≤ wh ∧ wh ≤ 1) ∧ (0 ≤ pn ∧ pn ≤ 100000) ∧ (¬ (cs_I zc 33 jt) = 0) ∧ r = (-9223372036854775808) ∧ u = zc) ∨
  (∃ jt : Nat, t = nI jt ∧ (jt < cs_n zc 2) ∧ (0 ≤ wh ∧ wh ≤ 1) ∧ (¬ (0 ≤ pn ∧ pn ≤ 100000)) ∧ r = (-9223372036854775808) ∧ u = zc)
set_option maxHeartbeats 4000000 in
set_option maxRecDepth 100000 in
theorem K_spend (l : Launch) (dC : Nat → ClassId) (dI : Nat → Nat → Nat) (cA : Nat → ClassId) (sz : Nat) (zc : CS) (t : Int32) (wh : Int32) (pn : Int32) (hI : invC zc) : Met l yX10_spend wsX10_spend ({ frames := 2, cells := 0, slots := 0, locals := 60 }) (kw (dC, dI) (ctys cA) (cF cA zc) sz [.ref (cs_X zc 0 0), .int t, .int wh, .int pn]) (kQl (dC, dI) (ctys cA) (cF cA zc) sz (cF cA) (fun r u => invC u ∧ pC_spend zc t wh pn r u)) 0 0 (kA (cF cA zc) sz) := by
  refine kw_met (cc := cX10_spend) (maxL := 5) (ret := (some .long)) (by decide) rfl (Nat.le_of_ble_eq_true rfl) ?_
  intro p e s m below meth c0 hx hb hr hml hown hlocks hnm hts hPk hKk hDk hN hsz ls hl
  subst hsz
  have hK : va_K (dC, dI) vwCl [(cA 0, .int), (cA 1, .object RX6), (cA 2, .object RX2), (cA 3, .object RX8), (cA 4, .object RX5), (cA 5, .object RX7)] s := hKk
  obtain ⟨⟨hn0, hn1, hn2, hn3, hn4, hn5⟩, hpi, hgk, htk, hpk, hsh⟩ := id hI
  have hl : lv_has ls 5 [(0, .ref (cs_X zc 0 0)), (1, .int t), (2, .int wh), (3, .int pn)] := hl
  have hiX8 : ∀ w ∈ wsX80, w ∈ wsX10_spend := by decide +kernel
  generalize hQ : MQ _ _ _ _ _ _ _ = Q
  rcases ixd t (cs_n zc 2) with hnojt | ⟨jt, hjt, rfl⟩
  · skip
    have hks : kAll (cF cA zc) [(0, 0), (0, 8)] [cTP zc, cR8 cA zc] := ⟨rfl, rfl, trivial⟩
    have hP : va_P (dC, dI) vwCl [cTP zc, cR8 cA zc] s.heap := kAll_P hPk hks
    have hD : va_D (va_A [cTP zc, cR8 cA zc] s.heap.size) [cTP zc, cR8 cA zc] := (kAll_D hDk hks (by simp)).self
    have hA : ∀ q : Nat, s.heap.size ≤ q → va_A [cTP zc, cR8 cA zc] s.heap.size q := fun q h => Or.inr h
    have hS : va_S (va_A [cTP zc, cR8 cA zc] s.heap.size) s.heap s.heap [] := va_S.rf
    refine lv_aload_n hx hb dX10_spend_0 rfl (lv_at hl 0 rfl) ?_
    refine lv_iload_n hx hb dX10_spend_1 rfl (lv_at hl 1 rfl) ?_
    have hPc := hP.sub (ws' := [cTP zc]) [0] rfl
    have hDc := hD.sub (ws' := [cTP zc]) [0] (by decide) rfl
    have hKc := hK.sub (tys' := []) [] rfl
    refine va_csq (va_Run.run (va_runV (As := [.int t]) (rest := []) ⟨hx, hb, hml, hown, hts⟩ (s_takeAt_no l dC dI  _ (cs_X zc 0 0) (.ref (cs_X zc 0 1)) (.ref (cs_X zc 0 6)) (.ref (cs_X zc 0 7)) (.ref (cs_X zc 0 8)) (.ref (cs_X zc 0 9)) (.ref (cs_X zc 0 10)) (.ref (cs_X zc 0 11)) (.int (nI (cs_n zc 0))) (.int (nI (cs_n zc 1))) (.int (nI (cs_n zc 3))) (va_rf (opN (cs_n zc 4) (fun _ => cs_X zc 5 0))) (.int (cs_i zc 2)) t (cs_n zc 2) (by omega) hnojt) (cwV 1 hts gX10_spend_X10_takeAt rfl rfl rfl (by decide +kernel) ⟨Nat.le_of_ble_eq_true rfl, Nat.le_of_ble_eq_true rfl⟩) (pw_preV (va_recv hKc hPc (ci := 10) (q0 := 0) rfl rfl) hPc hKc hDc hN) rfl rfl hl.1 rfl (lv_room (Nat.le_of_ble_eq_true rfl)) dX10_spend_2 ⟨Nat.le_of_ble_eq_true rfl, Nat.le_of_ble_eq_true rfl⟩)) (fun r1 hr1 => ?_)
    have hr1 : r1 = none := hr1
    subst hr1
    refine W.eq (g2 := F0 m 5 ls [.null]) rfl ?_
    refine lv_astoreN (lv' := [(4, .null), (0, .ref (cs_X zc 0 0)), (1, .int t), (2, .int wh), (3, .int pn)]) hx hb dX10_spend_5 hl (by decide) rfl (fun ls hl => ?_)
    refine lv_aloadN hx hb dX10_spend_7 (lv_at hl 0 rfl) ?_
    refine lv_ifnullN (tgt := 31) hx hb dX10_spend_9 (by decide) ?_
    refine lv_ldc2 (v := (-9223372036854775808)) hx hb hown (hts (.constantLong RX10 137 (-9223372036854775808)) (by decide +kernel)) dX10_spend_31 ?_
    subst hQ
    exact W.lret (v := (-9223372036854775808)) hx hb hr (fun t ht hW => ⟨⟨(-9223372036854775808), zc, rfl, ⟨hI, (Or.inl ⟨hnojt, rfl, rfl⟩)⟩, (by rw [ht]; exact hPk), va_K.moved hW.alike hKk, hDk⟩, (kw_same hPk ht).2⟩) (fun q h => absurd h List.not_mem_nil) dX10_spend_34
  · skip
    have hks : kAll (cF cA zc) [(0, 0), (0, 8), (3, jt)] [cTP zc, cR8 cA zc, cTa zc jt] := ⟨rfl, rfl, (kF_ta (z := zc) hjt), trivial⟩
    have hP : va_P (dC, dI) vwCl [cTP zc, cR8 cA zc, cTa zc jt] s.heap := kAll_P hPk hks
    have hD : va_D (va_A [cTP zc, cR8 cA zc, cTa zc jt] s.heap.size) [cTP zc, cR8 cA zc, cTa zc jt] := (kAll_D hDk hks (by simp)).self
    have hA : ∀ q : Nat, s.heap.size ≤ q → va_A [cTP zc, cR8 cA zc, cTa zc jt] s.heap.size q := fun q h => Or.inr h
    have hS : va_S (va_A [cTP zc, cR8 cA zc, cTa zc jt] s.heap.size) s.heap s.heap [] := va_S.rf
    refine lv_aload_n hx hb dX10_spend_0 rfl (lv_at hl 0 rfl) ?_
    refine lv_iload_n hx hb dX10_spend_1 rfl (lv_at hl 1 rfl) ?_
    have hPc := hP.sub (ws' := [cTP zc, cR8 cA zc]) [0, 1] rfl
    have hDc := hD.sub (ws' := [cTP zc, cR8 cA zc]) [0, 1] (by decide) rfl
    have hKc := hK.sub (tys' := [(cA 3, .object RX8)]) [3] rfl
    refine va_csq (va_Run.run (va_runV (As := [.int (nI jt)]) (rest := []) ⟨hx, hb, hml, hown, hts⟩ (s_takeAt_yes l dC dI (cA 3) _ (cs_X zc 0 0) (.ref (cs_X zc 0 1)) (.ref (cs_X zc 0 6)) (.ref (cs_X zc 0 7)) (.ref (cs_X zc 0 9)) (.ref (cs_X zc 0 10)) (.ref (cs_X zc 0 11)) (.int (nI (cs_n zc 0))) (.int (nI (cs_n zc 1))) (.int (nI (cs_n zc 3))) (va_rf (opN (cs_n zc 4) (fun _ => cs_X zc 5 0))) (.int (cs_i zc 2)) (cs_X zc 0 8) jt (cs_n zc 2) (cs_X zc 3 jt) (rfN (cs_n zc 2) (cs_X zc 3)) hjt (by omega) (rfN_at hjt)) (cwV 1 hts gX10_spend_X10_takeAt rfl rfl rfl (by decide +kernel) ⟨Nat.le_of_ble_eq_true rfl, Nat.le_of_ble_eq_true rfl⟩) (pw_preV (va_recv hKc hPc (ci := 10) (q0 := 0) rfl rfl) hPc hKc hDc hN) rfl rfl hl.1 rfl (lv_room (Nat.le_of_ble_eq_true rfl)) dX10_spend_2 ⟨Nat.le_of_ble_eq_true rfl, Nat.le_of_ble_eq_true rfl⟩)) (fun r2 hr2 => ?_)
    have hr2 : r2 = some cs_X zc 3 jt := hr2
    subst hr2
    refine W.eq (g2 := F0 m 5 ls [.ref (cs_X zc 3 jt)]) rfl ?_
    refine lv_astore (lv' := [(4, .ref (cs_X zc 3 jt)), (0, .ref (cs_X zc 0 0)), (1, .int (nI jt)), (2, .int wh), (3, .int pn)]) hx hb dX10_spend_5 hl (by decide) rfl (fun ls hl => ?_)
    refine lv_aload hx hb dX10_spend_7 (lv_at hl 0 rfl) ?_
    refine lv_ifnull hx hb dX10_spend_9 ?_
    refine lv_iload_n hx hb dX10_spend_12 rfl (lv_at hl 3 rfl) ?_
    refine lv_iconst (v := 0) hx hb dX10_spend_13 (by decide) ?_
    refine lv_iconst (v := 1) hx hb dX10_spend_14 (by decide) ?_
    refine vp_callSi (va_Run.run (va_runS (As := [.int wh, .int 0, .int 1]) (rest := []) ⟨hx, hb, hml, hown, hts⟩ (c_X10_isWithin l wh 0 1 ) (va_cwS 3 hts gX10_spend_X10_isWithin rfl rfl rfl (by decide +kernel) ⟨Nat.le_of_ble_eq_true rfl, Nat.le_of_ble_eq_true rfl⟩) (p0_preS hN) rfl rfl hl.1 rfl (lv_room (Nat.le_of_ble_eq_true rfl)) dX10_spend_15 ⟨Nat.le_of_ble_eq_true rfl, Nat.le_of_ble_eq_true rfl⟩)) (fun r3 hr3 => ?_)
    have hr3 : r3 = if 0 ≤ wh ∧ wh ≤ 1 then 1 else 0 := hr3
    refine lv_if_eq (tgt := 31) hx hb dX10_spend_18 (by decide) (fun c4 => ?_) (fun c4 => ?_)
    · skip
      have c4 := (fa_bool_prop hr3).1.mp c4
      refine lv_ldc2 (v := (-9223372036854775808)) hx hb hown (hts (.constantLong RX10 137 (-9223372036854775808)) (by decide +kernel)) dX10_spend_31 ?_
      subst hQ
      exact W.lret (v := (-9223372036854775808)) hx hb hr (fun t ht hW => ⟨⟨(-9223372036854775808), zc, rfl, ⟨hI, (Or.inr (Or.inl ⟨jt, rfl, hjt, c4, rfl, rfl⟩))⟩, (by rw [ht]; exact hPk), va_K.moved hW.alike hKk, hDk⟩, (kw_same hPk ht).2⟩) (fun q h => absurd h List.not_mem_nil) dX10_spend_34
    · skip
      have c4 := (fa_bool_prop hr3).2.mp c4
      refine lv_iload_n hx hb dX10_spend_21 rfl (lv_at hl 4 rfl) ?_
      refine lv_iconst (v := 0) hx hb dX10_spend_22 (by decide) ?_
      refine lv_ldc (v := 100000) hx hb hown (hts (.constant RX10 252 (100000)) (by decide +kernel)) dX10_spend_23 ?_
      refine vp_callSi (va_Run.run (va_runS (As := [.int pn, .int 0, .int 100000]) (rest := []) ⟨hx, hb, hml, hown, hts⟩ (c_X10_isWithin l pn 0 100000 ) (va_cwS 3 hts gX10_spend_X10_isWithin rfl rfl rfl (by decide +kernel) ⟨Nat.le_of_ble_eq_true rfl, Nat.le_of_ble_eq_true rfl⟩) (p0_preS hN) rfl rfl hl.1 rfl (lv_room (Nat.le_of_ble_eq_true rfl)) dX10_spend_25 ⟨Nat.le_of_ble_eq_true rfl, Nat.le_of_ble_eq_true rfl⟩)) (fun r5 hr5 => ?_)
      have hr5 : r5 = if 0 ≤ pn ∧ pn ≤ 100000 then 1 else 0 := hr5
      refine lv_if_ne (tgt := 35) hx hb dX10_spend_28 (by decide) (fun c6 => ?_) (fun c6 => ?_)
      · skip
        have c6 := (fa_bool_prop hr5).2.mp c6
        refine lv_aload hx hb dX10_spend_35 (lv_at hl 0 rfl) ?_
        refine va_get (D := (dC, dI)) (ci := 8) (v := .int (cs_I zc 33 jt)) (C := RX8) (T := TX8) (N := 12) hx hb hts hiX8 hown hK hP 2 rfl rfl 11 (by decide) (hts (.fieldLink RX10 238 "TributePitches$Take" "settled" "Z") (by decide +kernel)) (fun _ h9 => h9) rfl dX10_spend_37 ?_
        refine lv_if_eq (tgt := 47) hx hb dX10_spend_40 (by decide) (fun c7 => ?_) (fun c7 => ?_)
        · skip
          refine lv_iload_n hx hb dX10_spend_47 rfl (lv_at hl 3 rfl) ?_
          refine lv_if_ne (tgt := 69) hx hb dX10_spend_48 (by decide) (fun c8 => ?_) (fun c8 => ?_)
          · skip
            refine lv_aload hx hb dX10_spend_69 (lv_at hl 0 rfl) ?_
            refine lv_dup hx hb dX10_spend_71 rfl ?_
            refine va_get (D := (dC, dI)) (ci := 8) (v := .long (cs_L zc 5 jt)) (C := RX8) (T := TX8) (N := 12) hx hb hts hiX8 hown hK hP 2 rfl rfl 8 (by decide) (hts (.fieldLink RX10 256 "TributePitches$Take" "ahead" "J") (by decide +kernel)) (fun _ h9 => h9) rfl dX10_spend_72 ?_
            refine lv_iload_n hx hb dX10_spend_75 rfl (lv_at hl 4 rfl) ?_
            refine lv_i2l (v := pn.toInt64) hx hb dX10_spend_76 rfl ?_
            refine lv_ladd hx hb dX10_spend_77 ?_
            refine va_put (D := (dC, dI)) (ci := 8) (v := .long ((cs_L zc 5 jt) + pn.toInt64)) (ty := .long) (C := RX8) (T := TX8) (N := 12) hx hb hts hiX8 tyX8 tyX8_ok nmX8 hown hK hP hD hS 2 rfl rfl 8 (by decide) (hts (.fieldLink RX10 256 "TributePitches$Take" "ahead" "J") (by decide +kernel)) (fun _ h9 => h9) rfl (by decide +kernel) rfl rfl (Nat.le_of_ble_eq_true rfl) dX10_spend_78 (fun H locs hP hD hS => ?_)
            have hP : va_P (dC, dI) vwCl [cTP zc, cR8 cA zc, (cs_X zc 3 jt, .inr (8, [.int (nI jt), .int (cs_I zc 31 jt), .ref (cs_X zc 2 (cs_N zc 2 jt)), .ref (cs_X zc 1 (cs_N zc 3 jt)), .long (cs_L zc 1 jt), .long (cs_L zc 2 jt), .long (cs_L zc 3 jt), .long (cs_L zc 4 jt), .long ((cs_L zc 5 jt) + pn.toInt64), .long (cs_L zc 6 jt), .int (cs_I zc 32 jt), .int (cs_I zc 33 jt)]))] H := hP
            have hD : va_D _ [cTP zc, cR8 cA zc, (cs_X zc 3 jt, .inr (8, [.int (nI jt), .int (cs_I zc 31 jt), .ref (cs_X zc 2 (cs_N zc 2 jt)), .ref (cs_X zc 1 (cs_N zc 3 jt)), .long (cs_L zc 1 jt), .long (cs_L zc 2 jt), .long (cs_L zc 3 jt), .long (cs_L zc 4 jt), .long ((cs_L zc 5 jt) + pn.toInt64), .long (cs_L zc 6 jt), .int (cs_I zc 32 jt), .int (cs_I zc 33 jt)]))] := hD
            refine lv_aload hx hb dX10_spend_81 (lv_at hl 0 rfl) ?_
            refine va_get (D := (dC, dI)) (ci := 8) (v := .long ((cs_L zc 5 jt) + pn.toInt64)) (C := RX8) (T := TX8) (N := 12) hx hb hts hiX8 hown hK hP 2 rfl rfl 8 (by decide) (hts (.fieldLink RX10 256 "TributePitches$Take" "ahead" "J") (by decide +kernel)) (fun _ h9 => h9) rfl dX10_spend_83 ?_
            subst hQ
            have hP9 : va_P (dC, dI) vwCl [cTP zc, cR8 cA zc, (cs_X zc 3 jt, .inr (8, [.int (nI jt), .int (cs_I zc 31 jt), .ref (cs_X zc 2 (cs_N zc 2 jt)), .ref (cs_X zc 1 (cs_N zc 3 jt)), .long (cs_L zc 1 jt), .long (cs_L zc 2 jt), .long (cs_L zc 3 jt), .long (cs_L zc 4 jt), .long ((cs_L zc 5 jt) + pn.toInt64), .long (cs_L zc 6 jt), .int (cs_I zc 32 jt), .int (cs_I zc 33 jt)]))] H := hP.sub [0, 1, 2] rfl
            have hD9 : va_D (va_A [cTP zc, cR8 cA zc, cTa zc jt] s.heap.size) [cTP zc, cR8 cA zc, (cs_X zc 3 jt, .inr (8, [.int (nI jt), .int (cs_I zc 31 jt), .ref (cs_X zc 2 (cs_N zc 2 jt)), .ref (cs_X zc 1 (cs_N zc 3 jt)), .long (cs_L zc 1 jt), .long (cs_L zc 2 jt), .long (cs_L zc 3 jt), .long (cs_L zc 4 jt), .long ((cs_L zc 5 jt) + pn.toInt64), .long (cs_L zc 6 jt), .int (cs_I zc 32 jt), .int (cs_I zc 33 jt)]))] := hD.sub [0, 1, 2] (by decide) rfl
            have hks9 : kAll (cF cA (cs_i zc, cs_n zc, cs_I zc, va_up (cs_L zc) 5 (va_up (cs_L zc 5) jt ((cs_L zc 5 jt) + pn.toInt64)), cs_N zc, cs_S zc, cs_X zc)) [(0, 0), (0, 8), (3, jt)] [cTP zc, cR8 cA zc, (cs_X zc 3 jt, .inr (8, [.int (nI jt), .int (cs_I zc 31 jt), .ref (cs_X zc 2 (cs_N zc 2 jt)), .ref (cs_X zc 1 (cs_N zc 3 jt)), .long (cs_L zc 1 jt), .long (cs_L zc 2 jt), .long (cs_L zc 3 jt), .long (cs_L zc 4 jt), .long ((cs_L zc 5 jt) + pn.toInt64), .long (cs_L zc 6 jt), .int (cs_I zc 32 jt), .int (cs_I zc 33 jt)]))] := ⟨rfl, rfl, (by rw [(kF_ta (z := (cs_i zc, cs_n zc, cs_I zc, va_up (cs_L zc) 5 (va_up (cs_L zc 5) jt ((cs_L zc 5 jt) + pn.toInt64)), cs_N zc, cs_S zc, cs_X zc)) hjt)]; simp [cTa, va_up, upd, opN]), trivial⟩
            have hout : ∀ i j, (i, j) ∉ ([(0, 0), (0, 8), (3, jt)] : List (Nat × Nat)) → cF cA (cs_i zc, cs_n zc, cs_I zc, va_up (cs_L zc) 5 (va_up (cs_L zc 5) jt ((cs_L zc 5 jt) + pn.toInt64)), cs_N zc, cs_S zc, cs_X zc) i j = none ∨ ((i, j) ∉ ([(0, 0), (0, 8), (3, jt)] : List (Nat × Nat)) ∧ cF cA (cs_i zc, cs_n zc, cs_I zc, va_up (cs_L zc) 5 (va_up (cs_L zc 5) jt ((cs_L zc 5 jt) + pn.toInt64)), cs_N zc, cs_S zc, cs_X zc) i j = cF cA zc i j) := by
              intro i j hij
              refine Or.inr ⟨hij, ?_⟩
              rcases i with _ | _ | _ | _ | _ | _ | _ | _ | i
              · rcases j with _ | _ | _ | _ | _ | _ | _ | _ | _ | _ | _ | _ | j <;> first | rfl | exact absurd (by simp) hij
              · rfl
              · rfl
              · have hne0 : j ≠ jt := fun q => hij (by rw [q]; simp)
                have e9 : cTa (cs_i zc, cs_n zc, cs_I zc, va_up (cs_L zc) 5 (va_up (cs_L zc 5) jt ((cs_L zc 5 jt) + pn.toInt64)), cs_N zc, cs_S zc, cs_X zc) j = cTa zc j := by simp [cTa, va_up, hne0]
                show (if j < cs_n (cs_i zc, cs_n zc, cs_I zc, va_up (cs_L zc) 5 (va_up (cs_L zc 5) jt ((cs_L zc 5 jt) + pn.toInt64)), cs_N zc, cs_S zc, cs_X zc) 2 then some (cTa (cs_i zc, cs_n zc, cs_I zc, va_up (cs_L zc) 5 (va_up (cs_L zc 5) jt ((cs_L zc 5 jt) + pn.toInt64)), cs_N zc, cs_S zc, cs_X zc) j) else none) = _
                rw [e9]
                rfl
              · rfl
              · rfl
              · rfl
              · rfl
              · rfl
            exact W.lret (v := (cs_L zc 5 jt) + pn.toInt64) hx hb hr (fun t ht hW => have hJ := kjoin hPk hDk hks rfl (hS.F ht) (by rw [ht]; exact hP9) hD9 hks9 hout; ⟨⟨(cs_L zc 5 jt) + pn.toInt64, (cs_i zc, cs_n zc, cs_I zc, va_up (cs_L zc) 5 (va_up (cs_L zc 5) jt ((cs_L zc 5 jt) + pn.toInt64)), cs_N zc, cs_S zc, cs_X zc), rfl, ⟨hI, (Or.inr (Or.inr (Or.inl ⟨jt, rfl, hjt, c4, c6, c7, c8, rfl, rfl⟩)))⟩, hJ.1, va_K.moved hW.alike hKk, hJ.2.1⟩, hJ.2.2⟩) (fun q h => kAll_A hks _ (hS.2.2 q h)) dX10_spend_86
          · skip
            refine lv_aload hx hb dX10_spend_51 (lv_at hl 0 rfl) ?_
            refine lv_dup hx hb dX10_spend_53 rfl ?_
            refine va_get (D := (dC, dI)) (ci := 8) (v := .long (cs_L zc 4 jt)) (C := RX8) (T := TX8) (N := 12) hx hb hts hiX8 hown hK hP 2 rfl rfl 7 (by decide) (hts (.fieldLink RX10 253 "TributePitches$Take" "costs" "J") (by decide +kernel)) (fun _ h9 => h9) rfl dX10_spend_54 ?_
            refine lv_iload_n hx hb dX10_spend_57 rfl (lv_at hl 4 rfl) ?_
            refine lv_i2l (v := pn.toInt64) hx hb dX10_spend_58 rfl ?_
            refine lv_ladd hx hb dX10_spend_59 ?_
            refine va_put (D := (dC, dI)) (ci := 8) (v := .long ((cs_L zc 4 jt) + pn.toInt64)) (ty := .long) (C := RX8) (T := TX8) (N := 12) hx hb hts hiX8 tyX8 tyX8_ok nmX8 hown hK hP hD hS 2 rfl rfl 7 (by decide) (hts (.fieldLink RX10 253 "TributePitches$Take" "costs" "J") (by decide +kernel)) (fun _ h9 => h9) rfl (by decide +kernel) rfl rfl (Nat.le_of_ble_eq_true rfl) dX10_spend_60 (fun H locs hP hD hS => ?_)
            have hP : va_P (dC, dI) vwCl [cTP zc, cR8 cA zc, (cs_X zc 3 jt, .inr (8, [.int (nI jt), .int (cs_I zc 31 jt), .ref (cs_X zc 2 (cs_N zc 2 jt)), .ref (cs_X zc 1 (cs_N zc 3 jt)), .long (cs_L zc 1 jt), .long (cs_L zc 2 jt), .long (cs_L zc 3 jt), .long ((cs_L zc 4 jt) + pn.toInt64), .long (cs_L zc 5 jt), .long (cs_L zc 6 jt), .int (cs_I zc 32 jt), .int (cs_I zc 33 jt)]))] H := hP
            have hD : va_D _ [cTP zc, cR8 cA zc, (cs_X zc 3 jt, .inr (8, [.int (nI jt), .int (cs_I zc 31 jt), .ref (cs_X zc 2 (cs_N zc 2 jt)), .ref (cs_X zc 1 (cs_N zc 3 jt)), .long (cs_L zc 1 jt), .long (cs_L zc 2 jt), .long (cs_L zc 3 jt), .long ((cs_L zc 4 jt) + pn.toInt64), .long (cs_L zc 5 jt), .long (cs_L zc 6 jt), .int (cs_I zc 32 jt), .int (cs_I zc 33 jt)]))] := hD
            refine lv_aload hx hb dX10_spend_63 (lv_at hl 0 rfl) ?_
            refine va_get (D := (dC, dI)) (ci := 8) (v := .long ((cs_L zc 4 jt) + pn.toInt64)) (C := RX8) (T := TX8) (N := 12) hx hb hts hiX8 hown hK hP 2 rfl rfl 7 (by decide) (hts (.fieldLink RX10 253 "TributePitches$Take" "costs" "J") (by decide +kernel)) (fun _ h9 => h9) rfl dX10_spend_65 ?_
            subst hQ
            have hP9 : va_P (dC, dI) vwCl [cTP zc, cR8 cA zc, (cs_X zc 3 jt, .inr (8, [.int (nI jt), .int (cs_I zc 31 jt), .ref (cs_X zc 2 (cs_N zc 2 jt)), .ref (cs_X zc 1 (cs_N zc 3 jt)), .long (cs_L zc 1 jt), .long (cs_L zc 2 jt), .long (cs_L zc 3 jt), .long ((cs_L zc 4 jt) + pn.toInt64), .long (cs_L zc 5 jt), .long (cs_L zc 6 jt), .int (cs_I zc 32 jt), .int (cs_I zc 33 jt)]))] H := hP.sub [0, 1, 2] rfl
            have hD9 : va_D (va_A [cTP zc, cR8 cA zc, cTa zc jt] s.heap.size) [cTP zc, cR8 cA zc, (cs_X zc 3 jt, .inr (8, [.int (nI jt), .int (cs_I zc 31 jt), .ref (cs_X zc 2 (cs_N zc 2 jt)), .ref (cs_X zc 1 (cs_N zc 3 jt)), .long (cs_L zc 1 jt), .long (cs_L zc 2 jt), .long (cs_L zc 3 jt), .long ((cs_L zc 4 jt) + pn.toInt64), .long (cs_L zc 5 jt), .long (cs_L zc 6 jt), .int (cs_I zc 32 jt), .int (cs_I zc 33 jt)]))] := hD.sub [0, 1, 2] (by decide) rfl
            have hks9 : kAll (cF cA (cs_i zc, cs_n zc, cs_I zc, va_up (cs_L zc) 4 (va_up (cs_L zc 4) jt ((cs_L zc 4 jt) + pn.toInt64)), cs_N zc, cs_S zc, cs_X zc)) [(0, 0), (0, 8), (3, jt)] [cTP zc, cR8 cA zc, (cs_X zc 3 jt, .inr (8, [.int (nI jt), .int (cs_I zc 31 jt), .ref (cs_X zc 2 (cs_N zc 2 jt)), .ref (cs_X zc 1 (cs_N zc 3 jt)), .long (cs_L zc 1 jt), .long (cs_L zc 2 jt), .long (cs_L zc 3 jt), .long ((cs_L zc 4 jt) + pn.toInt64), .long (cs_L zc 5 jt), .long (cs_L zc 6 jt), .int (cs_I zc 32 jt), .int (cs_I zc 33 jt)]))] := ⟨rfl, rfl, (by rw [(kF_ta (z := (cs_i zc, cs_n zc, cs_I zc, va_up (cs_L zc) 4 (va_up (cs_L zc 4) jt ((cs_L zc 4 jt) + pn.toInt64)), cs_N zc, cs_S zc, cs_X zc)) hjt)]; simp [cTa, va_up, upd, opN]), trivial⟩
            have hout : ∀ i j, (i, j) ∉ ([(0, 0), (0, 8), (3, jt)] : List (Nat × Nat)) → cF cA (cs_i zc, cs_n zc, cs_I zc, va_up (cs_L zc) 4 (va_up (cs_L zc 4) jt ((cs_L zc 4 jt) + pn.toInt64)), cs_N zc, cs_S zc, cs_X zc) i j = none ∨ ((i, j) ∉ ([(0, 0), (0, 8), (3, jt)] : List (Nat × Nat)) ∧ cF cA (cs_i zc, cs_n zc, cs_I zc, va_up (cs_L zc) 4 (va_up (cs_L zc 4) jt ((cs_L zc 4 jt) + pn.toInt64)), cs_N zc, cs_S zc, cs_X zc) i j = cF cA zc i j) := by
              intro i j hij
              refine Or.inr ⟨hij, ?_⟩
              rcases i with _ | _ | _ | _ | _ | _ | _ | _ | i
              · rcases j with _ | _ | _ | _ | _ | _ | _ | _ | _ | _ | _ | _ | j <;> first | rfl | exact absurd (by simp) hij
              · rfl
              · rfl
              · have hne0 : j ≠ jt := fun q => hij (by rw [q]; simp)
                have e9 : cTa (cs_i zc, cs_n zc, cs_I zc, va_up (cs_L zc) 4 (va_up (cs_L zc 4) jt ((cs_L zc 4 jt) + pn.toInt64)), cs_N zc, cs_S zc, cs_X zc) j = cTa zc j := by simp [cTa, va_up, hne0]
                show (if j < cs_n (cs_i zc, cs_n zc, cs_I zc, va_up (cs_L zc) 4 (va_up (cs_L zc 4) jt ((cs_L zc 4 jt) + pn.toInt64)), cs_N zc, cs_S zc, cs_X zc) 2 then some (cTa (cs_i zc, cs_n zc, cs_I zc, va_up (cs_L zc) 4 (va_up (cs_L zc 4) jt ((cs_L zc 4 jt) + pn.toInt64)), cs_N zc, cs_S zc, cs_X zc) j) else none) = _
                rw [e9]
                rfl
              · rfl
              · rfl
              · rfl
              · rfl
              · rfl
            exact W.lret (v := (cs_L zc 4 jt) + pn.toInt64) hx hb hr (fun t ht hW => have hJ := kjoin hPk hDk hks rfl (hS.F ht) (by rw [ht]; exact hP9) hD9 hks9 hout; ⟨⟨(cs_L zc 4 jt) + pn.toInt64, (cs_i zc, cs_n zc, cs_I zc, va_up (cs_L zc) 4 (va_up (cs_L zc 4) jt ((cs_L zc 4 jt) + pn.toInt64)), cs_N zc, cs_S zc, cs_X zc), rfl, ⟨hI, (Or.inr (Or.inr (Or.inr (Or.inl ⟨jt, rfl, hjt, c4, c6, c7, c8, rfl, rfl⟩))))⟩, hJ.1, va_K.moved hW.alike hKk, hJ.2.1⟩, hJ.2.2⟩) (fun q h => kAll_A hks _ (hS.2.2 q h)) dX10_spend_68
        · skip
          refine lv_ldc2 (v := (-9223372036854775808)) hx hb hown (hts (.constantLong RX10 137 (-9223372036854775808)) (by decide +kernel)) dX10_spend_43 ?_
          subst hQ
          exact W.lret (v := (-9223372036854775808)) hx hb hr (fun t ht hW => ⟨⟨(-9223372036854775808), zc, rfl, ⟨hI, (Or.inr (Or.inr (Or.inr (Or.inr (Or.inl ⟨jt, rfl, hjt, c4, c6, c7, rfl, rfl⟩)))))⟩, (by rw [ht]; exact hPk), va_K.moved hW.alike hKk, hDk⟩, (kw_same hPk ht).2⟩) (fun q h => absurd h List.not_mem_nil) dX10_spend_46
      · skip
        have c6 := (fa_bool_prop hr5).1.mp c6
        refine lv_ldc2 (v := (-9223372036854775808)) hx hb hown (hts (.constantLong RX10 137 (-9223372036854775808)) (by decide +kernel)) dX10_spend_31 ?_
        subst hQ
        exact W.lret (v := (-9223372036854775808)) hx hb hr (fun t ht hW => ⟨⟨(-9223372036854775808), zc, rfl, ⟨hI, (Or.inr (Or.inr (Or.inr (Or.inr (Or.inr ⟨jt, rfl, hjt, c4, c6, rfl, rfl⟩)))))⟩, (by rw [ht]; exact hPk), va_K.moved hW.alike hKk, hDk⟩, (kw_same hPk ht).2⟩) (fun q h => absurd h List.not_mem_nil) dX10_spend_34
def pC_debt (zc : CS) (g : Int32) (r : Int64) (u : CS) : Prop :=
  ((∀ j, j < cs_n zc 1 → g ≠ nI j) ∧ r = (-9223372036854775808) ∧ u = zc) ∨
  (∃ jg : Nat, g = nI jg ∧ (jg < cs_n zc 1) ∧ (cs_N zc 1 jg = 1) ∧ r = cs_L zc 0 jg ∧ u = zc) ∨
  (∃ jg : Nat, g = nI jg ∧ (jg < cs_n zc 1) ∧ (cs_N zc 1 jg = 2) ∧ r = cs_L zc 0 jg ∧ u = zc) ∨
  (∃ jg : Nat, g = nI jg ∧ (jg < cs_n zc 1) ∧ (cs_N zc 1 jg = 4) ∧ r = cs_L zc 0 jg ∧ u = zc)
set_option maxHeartbeats 4000000 in
set_option maxRecDepth 100000 in
theorem K_debt (l : Launch) (dC : Nat → ClassId) (dI : Nat → Nat → Nat) (cA : Nat → ClassId) (sz : Nat) (zc : CS) (g : Int32) (hI : invC zc) : Met l yX10_debt wsX10_debt ({ frames := 2, cells := 0, slots := 0, locals := 60 }) (kw (dC, dI) (ctys cA) (cF cA zc) sz [.ref (cs_X zc 0 0), .int g]) (kQl (dC, dI) (ctys cA) (cF cA zc) sz (cF cA) (fun r u => invC u ∧ pC_debt zc g r u)) 0 0 (kA (cF cA zc) sz) := by
  refine kw_met (cc := cX10_debt) (maxL := 3) (ret := (some .long)) (by decide) rfl (Nat.le_of_ble_eq_true rfl) ?_
  intro p e s m below meth c0 hx hb hr hml hown hlocks hnm hts hPk hKk hDk hN hsz ls hl
  subst hsz
  have hK : va_K (dC, dI) vwCl [(cA 0, .int), (cA 1, .object RX6), (cA 2, .object RX2), (cA 3, .object RX8), (cA 4, .object RX5), (cA 5, .object RX7)] s := hKk
  obtain ⟨⟨hn0, hn1, hn2, hn3, hn4, hn5⟩, hpi, hgk, htk, hpk, hsh⟩ := id hI
  have hl : lv_has ls 3 [(0, .ref (cs_X zc 0 0)), (1, .int g)] := hl
  have hiX1 : ∀ w ∈ wsX10, w ∈ wsX10_debt := by decide +kernel
  have hiX2 : ∀ w ∈ wsX20, w ∈ wsX10_debt := by decide +kernel
  have hiX4 : ∀ w ∈ wsX40, w ∈ wsX10_debt := by decide +kernel
  generalize hQ : MQ _ _ _ _ _ _ _ = Q
  rcases ixd g (cs_n zc 1) with hnojg | ⟨jg, hjg, rfl⟩
  · skip
    have hks : kAll (cF cA zc) [(0, 0), (0, 7)] [cTP zc, cR7 cA zc] := ⟨rfl, rfl, trivial⟩
    have hP : va_P (dC, dI) vwCl [cTP zc, cR7 cA zc] s.heap := kAll_P hPk hks
    have hD : va_D (va_A [cTP zc, cR7 cA zc] s.heap.size) [cTP zc, cR7 cA zc] := (kAll_D hDk hks (by simp)).self
    have hA : ∀ q : Nat, s.heap.size ≤ q → va_A [cTP zc, cR7 cA zc] s.heap.size q := fun q h => Or.inr h
    have hS : va_S (va_A [cTP zc, cR7 cA zc] s.heap.size) s.heap s.heap [] := va_S.rf
    refine lv_aload_n hx hb dX10_debt_0 rfl (lv_at hl 0 rfl) ?_
    refine lv_iload_n hx hb dX10_debt_1 rfl (lv_at hl 1 rfl) ?_
    have hPc := hP.sub (ws' := [cTP zc]) [0] rfl
    have hDc := hD.sub (ws' := [cTP zc]) [0] (by decide) rfl
    have hKc := hK.sub (tys' := []) [] rfl
    refine va_csq (va_Run.run (va_runV (As := [.int g]) (rest := []) ⟨hx, hb, hml, hown, hts⟩ (s_gangAt_no l dC dI  _ (cs_X zc 0 0) (.ref (cs_X zc 0 1)) (.ref (cs_X zc 0 6)) (.ref (cs_X zc 0 7)) (.ref (cs_X zc 0 8)) (.ref (cs_X zc 0 9)) (.ref (cs_X zc 0 10)) (.ref (cs_X zc 0 11)) (.int (nI (cs_n zc 0))) (.int (nI (cs_n zc 2))) (.int (nI (cs_n zc 3))) (va_rf (opN (cs_n zc 4) (fun _ => cs_X zc 5 0))) (.int (cs_i zc 2)) g (cs_n zc 1) (by omega) hnojg) (cwV 1 hts gX10_debt_X10_gangAt rfl rfl rfl (by decide +kernel) ⟨Nat.le_of_ble_eq_true rfl, Nat.le_of_ble_eq_true rfl⟩) (pw_preV (va_recv hKc hPc (ci := 10) (q0 := 0) rfl rfl) hPc hKc hDc hN) rfl rfl hl.1 rfl (lv_room (Nat.le_of_ble_eq_true rfl)) dX10_debt_2 ⟨Nat.le_of_ble_eq_true rfl, Nat.le_of_ble_eq_true rfl⟩)) (fun r1 hr1 => ?_)
    have hr1 : r1 = none := hr1
    subst hr1
    refine W.eq (g2 := F0 m 5 ls [.null]) rfl ?_
    refine lv_astore_nN (lv' := [(2, .null), (0, .ref (cs_X zc 0 0)), (1, .int g)]) hx hb dX10_debt_5 rfl hl (by decide) rfl (fun ls hl => ?_)
    refine lv_aload_nN hx hb dX10_debt_6 rfl (lv_at hl 0 rfl) ?_
    refine lv_ifnonnullN hx hb dX10_debt_7 ?_
    refine lv_ldc2 (v := (-9223372036854775808)) hx hb hown (hts (.constantLong RX10 137 (-9223372036854775808)) (by decide +kernel)) dX10_debt_10 ?_
    refine lv_goto (tgt := 20) hx hb dX10_debt_13 (by decide) ?_
    subst hQ
    exact W.lret (v := (-9223372036854775808)) hx hb hr (fun t ht hW => ⟨⟨(-9223372036854775808), zc, rfl, ⟨hI, (Or.inl ⟨hnojg, rfl, rfl⟩)⟩, (by rw [ht]; exact hPk), va_K.moved hW.alike hKk, hDk⟩, (kw_same hPk ht).2⟩) (fun q h => absurd h List.not_mem_nil) dX10_debt_20
  · skip
    rcases (hgk jg hjg) with hk | hk | hk
    · skip
      have hks : kAll (cF cA zc) [(0, 0), (0, 7), (2, jg)] [cTP zc, cR7 cA zc, cGaK zc jg 1] := ⟨rfl, rfl, (kF_gaK (z := zc) hjg hk), trivial⟩
      have hP : va_P (dC, dI) vwCl [cTP zc, cR7 cA zc, cGaK zc jg 1] s.heap := kAll_P hPk hks
      have hD : va_D (va_A [cTP zc, cR7 cA zc, cGaK zc jg 1] s.heap.size) [cTP zc, cR7 cA zc, cGaK zc jg 1] := (kAll_D hDk hks (by simp)).self
      have hA : ∀ q : Nat, s.heap.size ≤ q → va_A [cTP zc, cR7 cA zc, cGaK zc jg 1] s.heap.size q := fun q h => Or.inr h
      have hS : va_S (va_A [cTP zc, cR7 cA zc, cGaK zc jg 1] s.heap.size) s.heap s.heap [] := va_S.rf
      refine lv_aload_n hx hb dX10_debt_0 rfl (lv_at hl 0 rfl) ?_
      refine lv_iload_n hx hb dX10_debt_1 rfl (lv_at hl 1 rfl) ?_
      have hPc := hP.sub (ws' := [cTP zc, cR7 cA zc]) [0, 1] rfl
      have hDc := hD.sub (ws' := [cTP zc, cR7 cA zc]) [0, 1] (by decide) rfl
      have hKc := hK.sub (tys' := [(cA 2, .object RX2)]) [2] rfl
      refine va_csq (va_Run.run (va_runV (As := [.int (nI jg)]) (rest := []) ⟨hx, hb, hml, hown, hts⟩ (s_gangAt_yes l dC dI (cA 2) _ (cs_X zc 0 0) (.ref (cs_X zc 0 1)) (.ref (cs_X zc 0 6)) (.ref (cs_X zc 0 8)) (.ref (cs_X zc 0 9)) (.ref (cs_X zc 0 10)) (.ref (cs_X zc 0 11)) (.int (nI (cs_n zc 0))) (.int (nI (cs_n zc 2))) (.int (nI (cs_n zc 3))) (va_rf (opN (cs_n zc 4) (fun _ => cs_X zc 5 0))) (.int (cs_i zc 2)) (cs_X zc 0 7) jg (cs_n zc 1) (cs_X zc 2 jg) (rfN (cs_n zc 1) (cs_X zc 2)) hjg (by omega) (rfN_at hjg)) (cwV 1 hts gX10_debt_X10_gangAt rfl rfl rfl (by decide +kernel) ⟨Nat.le_of_ble_eq_true rfl, Nat.le_of_ble_eq_true rfl⟩) (pw_preV (va_recv hKc hPc (ci := 10) (q0 := 0) rfl rfl) hPc hKc hDc hN) rfl rfl hl.1 rfl (lv_room (Nat.le_of_ble_eq_true rfl)) dX10_debt_2 ⟨Nat.le_of_ble_eq_true rfl, Nat.le_of_ble_eq_true rfl⟩)) (fun r2 hr2 => ?_)
      have hr2 : r2 = some cs_X zc 2 jg := hr2
      subst hr2
      refine W.eq (g2 := F0 m 5 ls [.ref (cs_X zc 2 jg)]) rfl ?_
      refine lv_astore_n (lv' := [(2, .ref (cs_X zc 2 jg)), (0, .ref (cs_X zc 0 0)), (1, .int (nI jg))]) hx hb dX10_debt_5 rfl hl (by decide) rfl (fun ls hl => ?_)
      refine lv_aload_n hx hb dX10_debt_6 rfl (lv_at hl 0 rfl) ?_
      refine lv_ifnonnull (tgt := 16) hx hb dX10_debt_7 (by decide) ?_
      refine lv_aload_n hx hb dX10_debt_16 rfl (lv_at hl 0 rfl) ?_
      refine va_get (D := (dC, dI)) (ci := 1) (v := .long (cs_L zc 0 jg)) (C := RX1) (T := TX1) (N := 4) hx hb hts hiX1 hown hK hP 2 rfl rfl 3 (by decide) (hts (.fieldLink RX10 271 "TributePitches$Gang" "owed" "J") (by decide +kernel)) (fun _ h9 => h9) rfl dX10_debt_17 ?_
      subst hQ
      exact W.lret (v := cs_L zc 0 jg) hx hb hr (fun t ht hW => ⟨⟨cs_L zc 0 jg, zc, rfl, ⟨hI, (Or.inr (Or.inl ⟨jg, rfl, hjg, hk, rfl, rfl⟩))⟩, (by rw [ht]; exact hPk), va_K.moved hW.alike hKk, hDk⟩, (kw_same hPk ht).2⟩) (fun q h => absurd h List.not_mem_nil) dX10_debt_20
    · skip
      have hks : kAll (cF cA zc) [(0, 0), (0, 7), (2, jg)] [cTP zc, cR7 cA zc, cGaK zc jg 2] := ⟨rfl, rfl, (kF_gaK (z := zc) hjg hk), trivial⟩
      have hP : va_P (dC, dI) vwCl [cTP zc, cR7 cA zc, cGaK zc jg 2] s.heap := kAll_P hPk hks
      have hD : va_D (va_A [cTP zc, cR7 cA zc, cGaK zc jg 2] s.heap.size) [cTP zc, cR7 cA zc, cGaK zc jg 2] := (kAll_D hDk hks (by simp)).self
      have hA : ∀ q : Nat, s.heap.size ≤ q → va_A [cTP zc, cR7 cA zc, cGaK zc jg 2] s.heap.size q := fun q h => Or.inr h
      have hS : va_S (va_A [cTP zc, cR7 cA zc, cGaK zc jg 2] s.heap.size) s.heap s.heap [] := va_S.rf
      refine lv_aload_n hx hb dX10_debt_0 rfl (lv_at hl 0 rfl) ?_
      refine lv_iload_n hx hb dX10_debt_1 rfl (lv_at hl 1 rfl) ?_
      have hPc := hP.sub (ws' := [cTP zc, cR7 cA zc]) [0, 1] rfl
      have hDc := hD.sub (ws' := [cTP zc, cR7 cA zc]) [0, 1] (by decide) rfl
      have hKc := hK.sub (tys' := [(cA 2, .object RX2)]) [2] rfl
      refine va_csq (va_Run.run (va_runV (As := [.int (nI jg)]) (rest := []) ⟨hx, hb, hml, hown, hts⟩ (s_gangAt_yes l dC dI (cA 2) _ (cs_X zc 0 0) (.ref (cs_X zc 0 1)) (.ref (cs_X zc 0 6)) (.ref (cs_X zc 0 8)) (.ref (cs_X zc 0 9)) (.ref (cs_X zc 0 10)) (.ref (cs_X zc 0 11)) (.int (nI (cs_n zc 0))) (.int (nI (cs_n zc 2))) (.int (nI (cs_n zc 3))) (va_rf (opN (cs_n zc 4) (fun _ => cs_X zc 5 0))) (.int (cs_i zc 2)) (cs_X zc 0 7) jg (cs_n zc 1) (cs_X zc 2 jg) (rfN (cs_n zc 1) (cs_X zc 2)) hjg (by omega) (rfN_at hjg)) (cwV 1 hts gX10_debt_X10_gangAt rfl rfl rfl (by decide +kernel) ⟨Nat.le_of_ble_eq_true rfl, Nat.le_of_ble_eq_true rfl⟩) (pw_preV (va_recv hKc hPc (ci := 10) (q0 := 0) rfl rfl) hPc hKc hDc hN) rfl rfl hl.1 rfl (lv_room (Nat.le_of_ble_eq_true rfl)) dX10_debt_2 ⟨Nat.le_of_ble_eq_true rfl, Nat.le_of_ble_eq_true rfl⟩)) (fun r3 hr3 => ?_)
      have hr3 : r3 = some cs_X zc 2 jg := hr3
      subst hr3
      refine W.eq (g2 := F0 m 5 ls [.ref (cs_X zc 2 jg)]) rfl ?_
      refine lv_astore_n (lv' := [(2, .ref (cs_X zc 2 jg)), (0, .ref (cs_X zc 0 0)), (1, .int (nI jg))]) hx hb dX10_debt_5 rfl hl (by decide) rfl (fun ls hl => ?_)
      refine lv_aload_n hx hb dX10_debt_6 rfl (lv_at hl 0 rfl) ?_
      refine lv_ifnonnull (tgt := 16) hx hb dX10_debt_7 (by decide) ?_
      refine lv_aload_n hx hb dX10_debt_16 rfl (lv_at hl 0 rfl) ?_
      refine va_get (D := (dC, dI)) (ci := 2) (v := .long (cs_L zc 0 jg)) (C := RX2) (T := TX2) (N := 4) hx hb hts hiX2 hown hK hP 2 rfl rfl 3 (by decide) (hts (.fieldLink RX10 271 "TributePitches$Gang" "owed" "J") (by decide +kernel)) (fun _ h9 => h9) rfl dX10_debt_17 ?_
      subst hQ
      exact W.lret (v := cs_L zc 0 jg) hx hb hr (fun t ht hW => ⟨⟨cs_L zc 0 jg, zc, rfl, ⟨hI, (Or.inr (Or.inr (Or.inl ⟨jg, rfl, hjg, hk, rfl, rfl⟩)))⟩, (by rw [ht]; exact hPk), va_K.moved hW.alike hKk, hDk⟩, (kw_same hPk ht).2⟩) (fun q h => absurd h List.not_mem_nil) dX10_debt_20
    · skip
      have hks : kAll (cF cA zc) [(0, 0), (0, 7), (2, jg)] [cTP zc, cR7 cA zc, cGaK zc jg 4] := ⟨rfl, rfl, (kF_gaK (z := zc) hjg hk), trivial⟩
      have hP : va_P (dC, dI) vwCl [cTP zc, cR7 cA zc, cGaK zc jg 4] s.heap := kAll_P hPk hks
      have hD : va_D (va_A [cTP zc, cR7 cA zc, cGaK zc jg 4] s.heap.size) [cTP zc, cR7 cA zc, cGaK zc jg 4] := (kAll_D hDk hks (by simp)).self
      have hA : ∀ q : Nat, s.heap.size ≤ q → va_A [cTP zc, cR7 cA zc, cGaK zc jg 4] s.heap.size q := fun q h => Or.inr h
      have hS : va_S (va_A [cTP zc, cR7 cA zc, cGaK zc jg 4] s.heap.size) s.heap s.heap [] := va_S.rf
      refine lv_aload_n hx hb dX10_debt_0 rfl (lv_at hl 0 rfl) ?_
      refine lv_iload_n hx hb dX10_debt_1 rfl (lv_at hl 1 rfl) ?_
      have hPc := hP.sub (ws' := [cTP zc, cR7 cA zc]) [0, 1] rfl
      have hDc := hD.sub (ws' := [cTP zc, cR7 cA zc]) [0, 1] (by decide) rfl
      have hKc := hK.sub (tys' := [(cA 2, .object RX2)]) [2] rfl
      refine va_csq (va_Run.run (va_runV (As := [.int (nI jg)]) (rest := []) ⟨hx, hb, hml, hown, hts⟩ (s_gangAt_yes l dC dI (cA 2) _ (cs_X zc 0 0) (.ref (cs_X zc 0 1)) (.ref (cs_X zc 0 6)) (.ref (cs_X zc 0 8)) (.ref (cs_X zc 0 9)) (.ref (cs_X zc 0 10)) (.ref (cs_X zc 0 11)) (.int (nI (cs_n zc 0))) (.int (nI (cs_n zc 2))) (.int (nI (cs_n zc 3))) (va_rf (opN (cs_n zc 4) (fun _ => cs_X zc 5 0))) (.int (cs_i zc 2)) (cs_X zc 0 7) jg (cs_n zc 1) (cs_X zc 2 jg) (rfN (cs_n zc 1) (cs_X zc 2)) hjg (by omega) (rfN_at hjg)) (cwV 1 hts gX10_debt_X10_gangAt rfl rfl rfl (by decide +kernel) ⟨Nat.le_of_ble_eq_true rfl, Nat.le_of_ble_eq_true rfl⟩) (pw_preV (va_recv hKc hPc (ci := 10) (q0 := 0) rfl rfl) hPc hKc hDc hN) rfl rfl hl.1 rfl (lv_room (Nat.le_of_ble_eq_true rfl)) dX10_debt_2 ⟨Nat.le_of_ble_eq_true rfl, Nat.le_of_ble_eq_true rfl⟩)) (fun r4 hr4 => ?_)
      have hr4 : r4 = some cs_X zc 2 jg := hr4
      subst hr4
      refine W.eq (g2 := F0 m 5 ls [.ref (cs_X zc 2 jg)]) rfl ?_
      refine lv_astore_n (lv' := [(2, .ref (cs_X zc 2 jg)), (0, .ref (cs_X zc 0 0)), (1, .int (nI jg))]) hx hb dX10_debt_5 rfl hl (by decide) rfl (fun ls hl => ?_)
      refine lv_aload_n hx hb dX10_debt_6 rfl (lv_at hl 0 rfl) ?_
      refine lv_ifnonnull (tgt := 16) hx hb dX10_debt_7 (by decide) ?_
      refine lv_aload_n hx hb dX10_debt_16 rfl (lv_at hl 0 rfl) ?_
      refine va_get (D := (dC, dI)) (ci := 4) (v := .long (cs_L zc 0 jg)) (C := RX4) (T := TX4) (N := 4) hx hb hts hiX4 hown hK hP 2 rfl rfl 3 (by decide) (hts (.fieldLink RX10 271 "TributePitches$Gang" "owed" "J") (by decide +kernel)) (fun _ h9 => h9) rfl dX10_debt_17 ?_
      subst hQ
      exact W.lret (v := cs_L zc 0 jg) hx hb hr (fun t ht hW => ⟨⟨cs_L zc 0 jg, zc, rfl, ⟨hI, (Or.inr (Or.inr (Or.inr ⟨jg, rfl, hjg, hk, rfl, rfl⟩)))⟩, (by rw [ht]; exact hPk), va_K.moved hW.alike hKk, hDk⟩, (kw_same hPk ht).2⟩) (fun q h => absurd h List.not_mem_nil) dX10_debt_20
def pC_tell (zc : CS) (g : Int32) (r : Int32) (u : CS) : Prop :=
  ((∀ j, j < cs_n zc 1 → g ≠ nI j) ∧ r = (-1) ∧ u = zc) ∨
  (∃ jg : Nat, g = nI jg ∧ (jg < cs_n zc 1) ∧ (cs_N zc 1 jg = 1) ∧ r = 10 + (cs_I zc 21 jg) ∧ u = (va_up (cs_i zc) 1 ((31 * ((31 * (cs_i zc 1)) + 2)) + 1), cs_n zc, cs_I zc, cs_L zc, cs_N zc, cs_S zc, cs_X zc)) ∨
  (∃ jg : Nat, g = nI jg ∧ (jg < cs_n zc 1) ∧ (cs_N zc 1 jg = 2) ∧ r = (cs_I zc 21 jg) ∧ u = (va_up (cs_i zc) 1 ((31 * (cs_i zc 1)) + 1), cs_n zc, cs_I zc, cs_L zc, cs_N zc, cs_S zc, cs_X zc)) ∨
  (∃ jg : Nat, g = nI jg ∧ (jg < cs_n zc 1) ∧ (cs_N zc 1 jg = 4) ∧ r = 3 * (cs_I zc 21 jg) ∧ u = (va_up (cs_i zc) 1 ((31 * ((31 * (cs_i zc 1)) + 3)) + 1), cs_n zc, cs_I zc, cs_L zc, cs_N zc, cs_S zc, cs_X zc))
set_option maxHeartbeats 4000000 in
set_option maxRecDepth 100000 in
theorem K_tell (l : Launch) (dC : Nat → ClassId) (dI : Nat → Nat → Nat) (cA : Nat → ClassId) (sz : Nat) (zc : CS) (g : Int32) (hI : invC zc) : Met l yX10_tell wsX10_tell ({ frames := 3, cells := 0, slots := 0, locals := 90 }) (kw (dC, dI) (ctys cA) (cF cA zc) sz [.ref (cs_X zc 0 0), .int g]) (kQi (dC, dI) (ctys cA) (cF cA zc) sz (cF cA) (fun r u => invC u ∧ pC_tell zc g r u)) 0 0 (kA (cF cA zc) sz) := by
  refine kw_met (cc := cX10_tell) (maxL := 3) (ret := (some .int)) (by decide) rfl (Nat.le_of_ble_eq_true rfl) ?_
  intro p e s m below meth c0 hx hb hr hml hown hlocks hnm hts hPk hKk hDk hN hsz ls hl
  subst hsz
  have hK : va_K (dC, dI) vwCl [(cA 0, .int), (cA 1, .object RX6), (cA 2, .object RX2), (cA 3, .object RX8), (cA 4, .object RX5), (cA 5, .object RX7)] s := hKk
  obtain ⟨⟨hn0, hn1, hn2, hn3, hn4, hn5⟩, hpi, hgk, htk, hpk, hsh⟩ := id hI
  have hl : lv_has ls 3 [(0, .ref (cs_X zc 0 0)), (1, .int g)] := hl
  have hiX10 : ∀ w ∈ wsX100, w ∈ wsX10_tell := by decide +kernel
  generalize hQ : MQ _ _ _ _ _ _ _ = Q
  rcases ixd g (cs_n zc 1) with hnojg | ⟨jg, hjg, rfl⟩
  · skip
    have hks : kAll (cF cA zc) [(0, 0), (0, 7)] [cTP zc, cR7 cA zc] := ⟨rfl, rfl, trivial⟩
    have hP : va_P (dC, dI) vwCl [cTP zc, cR7 cA zc] s.heap := kAll_P hPk hks
    have hD : va_D (va_A [cTP zc, cR7 cA zc] s.heap.size) [cTP zc, cR7 cA zc] := (kAll_D hDk hks (by simp)).self
    have hA : ∀ q : Nat, s.heap.size ≤ q → va_A [cTP zc, cR7 cA zc] s.heap.size q := fun q h => Or.inr h
    have hS : va_S (va_A [cTP zc, cR7 cA zc] s.heap.size) s.heap s.heap [] := va_S.rf
    refine lv_aload_n hx hb dX10_tell_0 rfl (lv_at hl 0 rfl) ?_
    refine lv_iload_n hx hb dX10_tell_1 rfl (lv_at hl 1 rfl) ?_
    have hPc := hP.sub (ws' := [cTP zc]) [0] rfl
    have hDc := hD.sub (ws' := [cTP zc]) [0] (by decide) rfl
    have hKc := hK.sub (tys' := []) [] rfl
    refine va_csq (va_Run.run (va_runV (As := [.int g]) (rest := []) ⟨hx, hb, hml, hown, hts⟩ (s_gangAt_no l dC dI  _ (cs_X zc 0 0) (.ref (cs_X zc 0 1)) (.ref (cs_X zc 0 6)) (.ref (cs_X zc 0 7)) (.ref (cs_X zc 0 8)) (.ref (cs_X zc 0 9)) (.ref (cs_X zc 0 10)) (.ref (cs_X zc 0 11)) (.int (nI (cs_n zc 0))) (.int (nI (cs_n zc 2))) (.int (nI (cs_n zc 3))) (va_rf (opN (cs_n zc 4) (fun _ => cs_X zc 5 0))) (.int (cs_i zc 2)) g (cs_n zc 1) (by omega) hnojg) (cwV 1 hts gX10_tell_X10_gangAt rfl rfl rfl (by decide +kernel) ⟨Nat.le_of_ble_eq_true rfl, Nat.le_of_ble_eq_true rfl⟩) (pw_preV (va_recv hKc hPc (ci := 10) (q0 := 0) rfl rfl) hPc hKc hDc hN) rfl rfl hl.1 rfl (lv_room (Nat.le_of_ble_eq_true rfl)) dX10_tell_2 ⟨Nat.le_of_ble_eq_true rfl, Nat.le_of_ble_eq_true rfl⟩)) (fun r1 hr1 => ?_)
    have hr1 : r1 = none := hr1
    subst hr1
    refine W.eq (g2 := F0 m 5 ls [.null]) rfl ?_
    refine lv_astore_nN (lv' := [(2, .null), (0, .ref (cs_X zc 0 0)), (1, .int g)]) hx hb dX10_tell_5 rfl hl (by decide) rfl (fun ls hl => ?_)
    refine lv_aload_nN hx hb dX10_tell_6 rfl (lv_at hl 0 rfl) ?_
    refine lv_ifnonnullN hx hb dX10_tell_7 ?_
    refine lv_iconst (v := (-1)) hx hb dX10_tell_10 (by decide) ?_
    refine lv_goto (tgt := 22) hx hb dX10_tell_11 (by decide) ?_
    subst hQ
    exact W.iret (v := (-1)) hx hb hr (fun t ht hW => ⟨⟨(-1), zc, rfl, ⟨hI, (Or.inl ⟨hnojg, rfl, rfl⟩)⟩, (by rw [ht]; exact hPk), va_K.moved hW.alike hKk, hDk⟩, (kw_same hPk ht).2⟩) (fun q h => absurd h List.not_mem_nil) dX10_tell_22
  · skip
    rcases (hgk jg hjg) with hk | hk | hk
    · skip
      have hks : kAll (cF cA zc) [(0, 0), (0, 7), (2, jg), (0, 11)] [cTP zc, cR7 cA zc, cGaK zc jg 1, cTr zc] := ⟨rfl, rfl, (kF_gaK (z := zc) hjg hk), rfl, trivial⟩
      have hP : va_P (dC, dI) vwCl [cTP zc, cR7 cA zc, cGaK zc jg 1, cTr zc] s.heap := kAll_P hPk hks
      have hD : va_D (va_A [cTP zc, cR7 cA zc, cGaK zc jg 1, cTr zc] s.heap.size) [cTP zc, cR7 cA zc, cGaK zc jg 1, cTr zc] := (kAll_D hDk hks (by simp)).self
      have hA : ∀ q : Nat, s.heap.size ≤ q → va_A [cTP zc, cR7 cA zc, cGaK zc jg 1, cTr zc] s.heap.size q := fun q h => Or.inr h
      have hS : va_S (va_A [cTP zc, cR7 cA zc, cGaK zc jg 1, cTr zc] s.heap.size) s.heap s.heap [] := va_S.rf
      refine lv_aload_n hx hb dX10_tell_0 rfl (lv_at hl 0 rfl) ?_
      refine lv_iload_n hx hb dX10_tell_1 rfl (lv_at hl 1 rfl) ?_
      have hPc := hP.sub (ws' := [cTP zc, cR7 cA zc]) [0, 1] rfl
      have hDc := hD.sub (ws' := [cTP zc, cR7 cA zc]) [0, 1] (by decide) rfl
      have hKc := hK.sub (tys' := [(cA 2, .object RX2)]) [2] rfl
      refine va_csq (va_Run.run (va_runV (As := [.int (nI jg)]) (rest := []) ⟨hx, hb, hml, hown, hts⟩ (s_gangAt_yes l dC dI (cA 2) _ (cs_X zc 0 0) (.ref (cs_X zc 0 1)) (.ref (cs_X zc 0 6)) (.ref (cs_X zc 0 8)) (.ref (cs_X zc 0 9)) (.ref (cs_X zc 0 10)) (.ref (cs_X zc 0 11)) (.int (nI (cs_n zc 0))) (.int (nI (cs_n zc 2))) (.int (nI (cs_n zc 3))) (va_rf (opN (cs_n zc 4) (fun _ => cs_X zc 5 0))) (.int (cs_i zc 2)) (cs_X zc 0 7) jg (cs_n zc 1) (cs_X zc 2 jg) (rfN (cs_n zc 1) (cs_X zc 2)) hjg (by omega) (rfN_at hjg)) (cwV 1 hts gX10_tell_X10_gangAt rfl rfl rfl (by decide +kernel) ⟨Nat.le_of_ble_eq_true rfl, Nat.le_of_ble_eq_true rfl⟩) (pw_preV (va_recv hKc hPc (ci := 10) (q0 := 0) rfl rfl) hPc hKc hDc hN) rfl rfl hl.1 rfl (lv_room (Nat.le_of_ble_eq_true rfl)) dX10_tell_2 ⟨Nat.le_of_ble_eq_true rfl, Nat.le_of_ble_eq_true rfl⟩)) (fun r2 hr2 => ?_)
      have hr2 : r2 = some cs_X zc 2 jg := hr2
      subst hr2
      refine W.eq (g2 := F0 m 5 ls [.ref (cs_X zc 2 jg)]) rfl ?_
      refine lv_astore_n (lv' := [(2, .ref (cs_X zc 2 jg)), (0, .ref (cs_X zc 0 0)), (1, .int (nI jg))]) hx hb dX10_tell_5 rfl hl (by decide) rfl (fun ls hl => ?_)
      refine lv_aload_n hx hb dX10_tell_6 rfl (lv_at hl 0 rfl) ?_
      refine lv_ifnonnull (tgt := 14) hx hb dX10_tell_7 (by decide) ?_
      refine lv_aload_n hx hb dX10_tell_14 rfl (lv_at hl 0 rfl) ?_
      refine lv_aload_n hx hb dX10_tell_15 rfl (lv_at hl 1 rfl) ?_
      refine va_get (D := (dC, dI)) (ci := 10) (v := .ref (cs_X zc 0 11)) (C := RX10) (T := TX10) (N := 13) hx hb hts hiX10 hown hK hP 0 rfl rfl 6 (by decide) (hts (.fieldLink RX10 52 "TributePitches" "steps" "LTributePitches$Trace;") (by decide +kernel)) (fun _ h9 => h9) rfl dX10_tell_16 ?_
      have hPc := hP.sub (ws' := [cGaK zc jg 1, cTr zc]) [2, 3] rfl
      have hDc := hD.sub (ws' := [cGaK zc jg 1, cTr zc]) [2, 3] (by decide) rfl
      have hKc := hK.sub (tys' := []) [] rfl
      have hFc := va_free (wc := [cGaK zc jg 1, cTr zc]) hD hS hA [2, 3] rfl
      refine va_calli (va_runU (As := [.ref (cs_X zc 0 11)]) (rest := []) ⟨hx, hb, hml, hown, hts⟩ (s_tell_1 l dC dI  _ (cs_X zc 2 jg) (nI jg) (cs_I zc 21 jg) (cs_I zc 22 jg) (cs_L zc 0 jg) (cs_X zc 0 11) (cs_i zc 1) ) (va_cwO 1 hts gX10_tell_X1_telling_u304X1 rfl rfl rfl (b0 := cX2_telling) (m0 := 2) (r0 := (some .int)) (by decide +kernel) (by decide +kernel) ⟨Nat.le_of_ble_eq_true rfl, Nat.le_of_ble_eq_true rfl⟩) (pw_preV (va_recv hKc hPc (ci := 1) (q0 := 0) rfl rfl) hPc hKc hDc hN) rfl rfl hl.1 rfl (lv_room (Nat.le_of_ble_eq_true rfl)) dX10_tell_19 ⟨Nat.le_of_ble_eq_true rfl, Nat.le_of_ble_eq_true rfl⟩) hS (fun q _ h => hFc q h) hFc (fun r3 u t H1 locs ht hvm hw hB hz1 hk1 hS => ?_)
      have hr3 : r3 = 10 + (cs_I zc 21 jg) := hw
      obtain ⟨hP1, hK1, hD1⟩ := hB
      rw [ht] at hP1
      obtain ⟨hP, hD⟩ := va_join (wr := [cTP zc, cR7 cA zc]) (w1 := [(cs_X zc 2 jg, .inr (1, [.int (nI jg), .int (cs_I zc 21 jg), .int (cs_I zc 22 jg), .long (cs_L zc 0 jg)])), (cs_X zc 0 11, .inr (9, [.int ((31 * ((31 * (cs_i zc 1)) + 2)) + 1)]))]) hP hD [2, 3] [0, 1] rfl rfl (by decide) (by decide) hk1 hFc hP1 hD1
      generalize H1 = H at hP hS ⊢
      have hP : va_P (dC, dI) vwCl [cTP zc, cR7 cA zc, (cs_X zc 2 jg, .inr (1, [.int (nI jg), .int (cs_I zc 21 jg), .int (cs_I zc 22 jg), .long (cs_L zc 0 jg)])), (cs_X zc 0 11, .inr (9, [.int ((31 * ((31 * (cs_i zc 1)) + 2)) + 1)]))] H := hP
      have hD : va_D _ [cTP zc, cR7 cA zc, (cs_X zc 2 jg, .inr (1, [.int (nI jg), .int (cs_I zc 21 jg), .int (cs_I zc 22 jg), .long (cs_L zc 0 jg)])), (cs_X zc 0 11, .inr (9, [.int ((31 * ((31 * (cs_i zc 1)) + 2)) + 1)]))] := hD
      have hr3 := hr3.symm
      subst hr3
      refine W.eq (g2 := F0 m 22 ls [.int (10 + (cs_I zc 21 jg))]) rfl ?_
      subst hQ
      have hP9 : va_P (dC, dI) vwCl [cTP zc, cR7 cA zc, (cs_X zc 2 jg, .inr (1, [.int (nI jg), .int (cs_I zc 21 jg), .int (cs_I zc 22 jg), .long (cs_L zc 0 jg)])), (cs_X zc 0 11, .inr (9, [.int ((31 * ((31 * (cs_i zc 1)) + 2)) + 1)]))] H := hP.sub [0, 1, 2, 3] rfl
      have hD9 : va_D (va_A [cTP zc, cR7 cA zc, cGaK zc jg 1, cTr zc] s.heap.size) [cTP zc, cR7 cA zc, (cs_X zc 2 jg, .inr (1, [.int (nI jg), .int (cs_I zc 21 jg), .int (cs_I zc 22 jg), .long (cs_L zc 0 jg)])), (cs_X zc 0 11, .inr (9, [.int ((31 * ((31 * (cs_i zc 1)) + 2)) + 1)]))] := hD.sub [0, 1, 2, 3] (by decide) rfl
      have hks9 : kAll (cF cA (va_up (cs_i zc) 1 ((31 * ((31 * (cs_i zc 1)) + 2)) + 1), cs_n zc, cs_I zc, cs_L zc, cs_N zc, cs_S zc, cs_X zc)) [(0, 0), (0, 7), (2, jg), (0, 11)] [cTP zc, cR7 cA zc, (cs_X zc 2 jg, .inr (1, [.int (nI jg), .int (cs_I zc 21 jg), .int (cs_I zc 22 jg), .long (cs_L zc 0 jg)])), (cs_X zc 0 11, .inr (9, [.int ((31 * ((31 * (cs_i zc 1)) + 2)) + 1)]))] := ⟨rfl, rfl, (by first | exact (kF_gaK (z := (va_up (cs_i zc) 1 ((31 * ((31 * (cs_i zc 1)) + 2)) + 1), cs_n zc, cs_I zc, cs_L zc, cs_N zc, cs_S zc, cs_X zc)) hjg hk) | (rw [(kF_gaK (z := (va_up (cs_i zc) 1 ((31 * ((31 * (cs_i zc 1)) + 2)) + 1), cs_n zc, cs_I zc, cs_L zc, cs_N zc, cs_S zc, cs_X zc)) hjg hk)]; simp [cGa, va_up, upd])), rfl, trivial⟩
      have hout : ∀ i j, (i, j) ∉ ([(0, 0), (0, 7), (2, jg), (0, 11)] : List (Nat × Nat)) → cF cA (va_up (cs_i zc) 1 ((31 * ((31 * (cs_i zc 1)) + 2)) + 1), cs_n zc, cs_I zc, cs_L zc, cs_N zc, cs_S zc, cs_X zc) i j = none ∨ ((i, j) ∉ ([(0, 0), (0, 7), (2, jg), (0, 11)] : List (Nat × Nat)) ∧ cF cA (va_up (cs_i zc) 1 ((31 * ((31 * (cs_i zc 1)) + 2)) + 1), cs_n zc, cs_I zc, cs_L zc, cs_N zc, cs_S zc, cs_X zc) i j = cF cA zc i j) := by
        intro i j hij
        refine Or.inr ⟨hij, ?_⟩
        rcases i with _ | _ | _ | _ | _ | _ | _ | _ | i
        · rcases j with _ | _ | _ | _ | _ | _ | _ | _ | _ | _ | _ | _ | j <;> first | rfl | exact absurd (by simp) hij
        · rfl
        · rfl
        · rfl
        · rfl
        · rfl
        · rfl
        · rfl
        · rfl
      exact W.iret (v := 10 + (cs_I zc 21 jg)) hx hb hr (fun t ht hW => have hJ := kjoin hPk hDk hks rfl (hS.F ht) (by rw [ht]; exact hP9) hD9 hks9 hout; ⟨⟨10 + (cs_I zc 21 jg), (va_up (cs_i zc) 1 ((31 * ((31 * (cs_i zc 1)) + 2)) + 1), cs_n zc, cs_I zc, cs_L zc, cs_N zc, cs_S zc, cs_X zc), rfl, ⟨hI, (Or.inr (Or.inl ⟨jg, rfl, hjg, hk, rfl, rfl⟩))⟩, hJ.1, va_K.moved hW.alike hKk, hJ.2.1⟩, hJ.2.2⟩) (fun q h => kAll_A hks _ (hS.2.2 q h)) dX10_tell_22
    · skip
      have hks : kAll (cF cA zc) [(0, 0), (0, 7), (2, jg), (0, 11)] [cTP zc, cR7 cA zc, cGaK zc jg 2, cTr zc] := ⟨rfl, rfl, (kF_gaK (z := zc) hjg hk), rfl, trivial⟩
      have hP : va_P (dC, dI) vwCl [cTP zc, cR7 cA zc, cGaK zc jg 2, cTr zc] s.heap := kAll_P hPk hks
      have hD : va_D (va_A [cTP zc, cR7 cA zc, cGaK zc jg 2, cTr zc] s.heap.size) [cTP zc, cR7 cA zc, cGaK zc jg 2, cTr zc] := (kAll_D hDk hks (by simp)).self
      have hA : ∀ q : Nat, s.heap.size ≤ q → va_A [cTP zc, cR7 cA zc, cGaK zc jg 2, cTr zc] s.heap.size q := fun q h => Or.inr h
      have hS : va_S (va_A [cTP zc, cR7 cA zc, cGaK zc jg 2, cTr zc] s.heap.size) s.heap s.heap [] := va_S.rf
      refine lv_aload_n hx hb dX10_tell_0 rfl (lv_at hl 0 rfl) ?_
      refine lv_iload_n hx hb dX10_tell_1 rfl (lv_at hl 1 rfl) ?_
      have hPc := hP.sub (ws' := [cTP zc, cR7 cA zc]) [0, 1] rfl
      have hDc := hD.sub (ws' := [cTP zc, cR7 cA zc]) [0, 1] (by decide) rfl
      have hKc := hK.sub (tys' := [(cA 2, .object RX2)]) [2] rfl
      refine va_csq (va_Run.run (va_runV (As := [.int (nI jg)]) (rest := []) ⟨hx, hb, hml, hown, hts⟩ (s_gangAt_yes l dC dI (cA 2) _ (cs_X zc 0 0) (.ref (cs_X zc 0 1)) (.ref (cs_X zc 0 6)) (.ref (cs_X zc 0 8)) (.ref (cs_X zc 0 9)) (.ref (cs_X zc 0 10)) (.ref (cs_X zc 0 11)) (.int (nI (cs_n zc 0))) (.int (nI (cs_n zc 2))) (.int (nI (cs_n zc 3))) (va_rf (opN (cs_n zc 4) (fun _ => cs_X zc 5 0))) (.int (cs_i zc 2)) (cs_X zc 0 7) jg (cs_n zc 1) (cs_X zc 2 jg) (rfN (cs_n zc 1) (cs_X zc 2)) hjg (by omega) (rfN_at hjg)) (cwV 1 hts gX10_tell_X10_gangAt rfl rfl rfl (by decide +kernel) ⟨Nat.le_of_ble_eq_true rfl, Nat.le_of_ble_eq_true rfl⟩) (pw_preV (va_recv hKc hPc (ci := 10) (q0 := 0) rfl rfl) hPc hKc hDc hN) rfl rfl hl.1 rfl (lv_room (Nat.le_of_ble_eq_true rfl)) dX10_tell_2 ⟨Nat.le_of_ble_eq_true rfl, Nat.le_of_ble_eq_true rfl⟩)) (fun r4 hr4 => ?_)
      have hr4 : r4 = some cs_X zc 2 jg := hr4
      subst hr4
      refine W.eq (g2 := F0 m 5 ls [.ref (cs_X zc 2 jg)]) rfl ?_
      refine lv_astore_n (lv' := [(2, .ref (cs_X zc 2 jg)), (0, .ref (cs_X zc 0 0)), (1, .int (nI jg))]) hx hb dX10_tell_5 rfl hl (by decide) rfl (fun ls hl => ?_)
      refine lv_aload_n hx hb dX10_tell_6 rfl (lv_at hl 0 rfl) ?_
      refine lv_ifnonnull (tgt := 14) hx hb dX10_tell_7 (by decide) ?_
      refine lv_aload_n hx hb dX10_tell_14 rfl (lv_at hl 0 rfl) ?_
      refine lv_aload_n hx hb dX10_tell_15 rfl (lv_at hl 1 rfl) ?_
      refine va_get (D := (dC, dI)) (ci := 10) (v := .ref (cs_X zc 0 11)) (C := RX10) (T := TX10) (N := 13) hx hb hts hiX10 hown hK hP 0 rfl rfl 6 (by decide) (hts (.fieldLink RX10 52 "TributePitches" "steps" "LTributePitches$Trace;") (by decide +kernel)) (fun _ h9 => h9) rfl dX10_tell_16 ?_
      have hPc := hP.sub (ws' := [cGaK zc jg 2, cTr zc]) [2, 3] rfl
      have hDc := hD.sub (ws' := [cGaK zc jg 2, cTr zc]) [2, 3] (by decide) rfl
      have hKc := hK.sub (tys' := []) [] rfl
      have hFc := va_free (wc := [cGaK zc jg 2, cTr zc]) hD hS hA [2, 3] rfl
      refine va_calli (va_runV (As := [.ref (cs_X zc 0 11)]) (rest := []) ⟨hx, hb, hml, hown, hts⟩ (s_tell_2 l dC dI  _ (cs_X zc 2 jg) (nI jg) (cs_I zc 21 jg) (cs_I zc 22 jg) (cs_L zc 0 jg) (cs_X zc 0 11) (cs_i zc 1) ) (cwV 1 hts gX10_tell_X2_telling rfl rfl rfl (by decide +kernel) ⟨Nat.le_of_ble_eq_true rfl, Nat.le_of_ble_eq_true rfl⟩) (pw_preV (va_recv hKc hPc (ci := 2) (q0 := 0) rfl rfl) hPc hKc hDc hN) rfl rfl hl.1 rfl (lv_room (Nat.le_of_ble_eq_true rfl)) dX10_tell_19 ⟨Nat.le_of_ble_eq_true rfl, Nat.le_of_ble_eq_true rfl⟩) hS (fun q _ h => hFc q h) hFc (fun r5 u t H1 locs ht hvm hw hB hz1 hk1 hS => ?_)
      have hr5 : r5 = (cs_I zc 21 jg) := hw
      obtain ⟨hP1, hK1, hD1⟩ := hB
      rw [ht] at hP1
      obtain ⟨hP, hD⟩ := va_join (wr := [cTP zc, cR7 cA zc]) (w1 := [(cs_X zc 2 jg, .inr (2, [.int (nI jg), .int (cs_I zc 21 jg), .int (cs_I zc 22 jg), .long (cs_L zc 0 jg)])), (cs_X zc 0 11, .inr (9, [.int ((31 * (cs_i zc 1)) + 1)]))]) hP hD [2, 3] [0, 1] rfl rfl (by decide) (by decide) hk1 hFc hP1 hD1
      generalize H1 = H at hP hS ⊢
      have hP : va_P (dC, dI) vwCl [cTP zc, cR7 cA zc, (cs_X zc 2 jg, .inr (2, [.int (nI jg), .int (cs_I zc 21 jg), .int (cs_I zc 22 jg), .long (cs_L zc 0 jg)])), (cs_X zc 0 11, .inr (9, [.int ((31 * (cs_i zc 1)) + 1)]))] H := hP
      have hD : va_D _ [cTP zc, cR7 cA zc, (cs_X zc 2 jg, .inr (2, [.int (nI jg), .int (cs_I zc 21 jg), .int (cs_I zc 22 jg), .long (cs_L zc 0 jg)])), (cs_X zc 0 11, .inr (9, [.int ((31 * (cs_i zc 1)) + 1)]))] := hD
      have hr5 := hr5.symm
      subst hr5
      refine W.eq (g2 := F0 m 22 ls [.int (cs_I zc 21 jg)]) rfl ?_
      subst hQ
      have hP9 : va_P (dC, dI) vwCl [cTP zc, cR7 cA zc, (cs_X zc 2 jg, .inr (2, [.int (nI jg), .int (cs_I zc 21 jg), .int (cs_I zc 22 jg), .long (cs_L zc 0 jg)])), (cs_X zc 0 11, .inr (9, [.int ((31 * (cs_i zc 1)) + 1)]))] H := hP.sub [0, 1, 2, 3] rfl
      have hD9 : va_D (va_A [cTP zc, cR7 cA zc, cGaK zc jg 2, cTr zc] s.heap.size) [cTP zc, cR7 cA zc, (cs_X zc 2 jg, .inr (2, [.int (nI jg), .int (cs_I zc 21 jg), .int (cs_I zc 22 jg), .long (cs_L zc 0 jg)])), (cs_X zc 0 11, .inr (9, [.int ((31 * (cs_i zc 1)) + 1)]))] := hD.sub [0, 1, 2, 3] (by decide) rfl
      have hks9 : kAll (cF cA (va_up (cs_i zc) 1 ((31 * (cs_i zc 1)) + 1), cs_n zc, cs_I zc, cs_L zc, cs_N zc, cs_S zc, cs_X zc)) [(0, 0), (0, 7), (2, jg), (0, 11)] [cTP zc, cR7 cA zc, (cs_X zc 2 jg, .inr (2, [.int (nI jg), .int (cs_I zc 21 jg), .int (cs_I zc 22 jg), .long (cs_L zc 0 jg)])), (cs_X zc 0 11, .inr (9, [.int ((31 * (cs_i zc 1)) + 1)]))] := ⟨rfl, rfl, (by first | exact (kF_gaK (z := (va_up (cs_i zc) 1 ((31 * (cs_i zc 1)) + 1), cs_n zc, cs_I zc, cs_L zc, cs_N zc, cs_S zc, cs_X zc)) hjg hk) | (rw [(kF_gaK (z := (va_up (cs_i zc) 1 ((31 * (cs_i zc 1)) + 1), cs_n zc, cs_I zc, cs_L zc, cs_N zc, cs_S zc, cs_X zc)) hjg hk)]; simp [cGa, va_up, upd])), rfl, trivial⟩
      have hout : ∀ i j, (i, j) ∉ ([(0, 0), (0, 7), (2, jg), (0, 11)] : List (Nat × Nat)) → cF cA (va_up (cs_i zc) 1 ((31 * (cs_i zc 1)) + 1), cs_n zc, cs_I zc, cs_L zc, cs_N zc, cs_S zc, cs_X zc) i j = none ∨ ((i, j) ∉ ([(0, 0), (0, 7), (2, jg), (0, 11)] : List (Nat × Nat)) ∧ cF cA (va_up (cs_i zc) 1 ((31 * (cs_i zc 1)) + 1), cs_n zc, cs_I zc, cs_L zc, cs_N zc, cs_S zc, cs_X zc) i j = cF cA zc i j) := by
        intro i j hij
        refine Or.inr ⟨hij, ?_⟩
        rcases i with _ | _ | _ | _ | _ | _ | _ | _ | i
        · rcases j with _ | _ | _ | _ | _ | _ | _ | _ | _ | _ | _ | _ | j <;> first | rfl | exact absurd (by simp) hij
        · rfl
        · rfl
        · rfl
        · rfl
        · rfl
        · rfl
        · rfl
        · rfl
      exact W.iret (v := (cs_I zc 21 jg)) hx hb hr (fun t ht hW => have hJ := kjoin hPk hDk hks rfl (hS.F ht) (by rw [ht]; exact hP9) hD9 hks9 hout; ⟨⟨(cs_I zc 21 jg), (va_up (cs_i zc) 1 ((31 * (cs_i zc 1)) + 1), cs_n zc, cs_I zc, cs_L zc, cs_N zc, cs_S zc, cs_X zc), rfl, ⟨hI, (Or.inr (Or.inr (Or.inl ⟨jg, rfl, hjg, hk, rfl, rfl⟩)))⟩, hJ.1, va_K.moved hW.alike hKk, hJ.2.1⟩, hJ.2.2⟩) (fun q h => kAll_A hks _ (hS.2.2 q h)) dX10_tell_22
    · skip
      have hks : kAll (cF cA zc) [(0, 0), (0, 7), (2, jg), (0, 11)] [cTP zc, cR7 cA zc, cGaK zc jg 4, cTr zc] := ⟨rfl, rfl, (kF_gaK (z := zc) hjg hk), rfl, trivial⟩
      have hP : va_P (dC, dI) vwCl [cTP zc, cR7 cA zc, cGaK zc jg 4, cTr zc] s.heap := kAll_P hPk hks
      have hD : va_D (va_A [cTP zc, cR7 cA zc, cGaK zc jg 4, cTr zc] s.heap.size) [cTP zc, cR7 cA zc, cGaK zc jg 4, cTr zc] := (kAll_D hDk hks (by simp)).self
      have hA : ∀ q : Nat, s.heap.size ≤ q → va_A [cTP zc, cR7 cA zc, cGaK zc jg 4, cTr zc] s.heap.size q := fun q h => Or.inr h
      have hS : va_S (va_A [cTP zc, cR7 cA zc, cGaK zc jg 4, cTr zc] s.heap.size) s.heap s.heap [] := va_S.rf
      refine lv_aload_n hx hb dX10_tell_0 rfl (lv_at hl 0 rfl) ?_
      refine lv_iload_n hx hb dX10_tell_1 rfl (lv_at hl 1 rfl) ?_
      have hPc := hP.sub (ws' := [cTP zc, cR7 cA zc]) [0, 1] rfl
      have hDc := hD.sub (ws' := [cTP zc, cR7 cA zc]) [0, 1] (by decide) rfl
      have hKc := hK.sub (tys' := [(cA 2, .object RX2)]) [2] rfl
      refine va_csq (va_Run.run (va_runV (As := [.int (nI jg)]) (rest := []) ⟨hx, hb, hml, hown, hts⟩ (s_gangAt_yes l dC dI (cA 2) _ (cs_X zc 0 0) (.ref (cs_X zc 0 1)) (.ref (cs_X zc 0 6)) (.ref (cs_X zc 0 8)) (.ref (cs_X zc 0 9)) (.ref (cs_X zc 0 10)) (.ref (cs_X zc 0 11)) (.int (nI (cs_n zc 0))) (.int (nI (cs_n zc 2))) (.int (nI (cs_n zc 3))) (va_rf (opN (cs_n zc 4) (fun _ => cs_X zc 5 0))) (.int (cs_i zc 2)) (cs_X zc 0 7) jg (cs_n zc 1) (cs_X zc 2 jg) (rfN (cs_n zc 1) (cs_X zc 2)) hjg (by omega) (rfN_at hjg)) (cwV 1 hts gX10_tell_X10_gangAt rfl rfl rfl (by decide +kernel) ⟨Nat.le_of_ble_eq_true rfl, Nat.le_of_ble_eq_true rfl⟩) (pw_preV (va_recv hKc hPc (ci := 10) (q0 := 0) rfl rfl) hPc hKc hDc hN) rfl rfl hl.1 rfl (lv_room (Nat.le_of_ble_eq_true rfl)) dX10_tell_2 ⟨Nat.le_of_ble_eq_true rfl, Nat.le_of_ble_eq_true rfl⟩)) (fun r6 hr6 => ?_)
      have hr6 : r6 = some cs_X zc 2 jg := hr6
      subst hr6
      refine W.eq (g2 := F0 m 5 ls [.ref (cs_X zc 2 jg)]) rfl ?_
      refine lv_astore_n (lv' := [(2, .ref (cs_X zc 2 jg)), (0, .ref (cs_X zc 0 0)), (1, .int (nI jg))]) hx hb dX10_tell_5 rfl hl (by decide) rfl (fun ls hl => ?_)
      refine lv_aload_n hx hb dX10_tell_6 rfl (lv_at hl 0 rfl) ?_
      refine lv_ifnonnull (tgt := 14) hx hb dX10_tell_7 (by decide) ?_
      refine lv_aload_n hx hb dX10_tell_14 rfl (lv_at hl 0 rfl) ?_
      refine lv_aload_n hx hb dX10_tell_15 rfl (lv_at hl 1 rfl) ?_
      refine va_get (D := (dC, dI)) (ci := 10) (v := .ref (cs_X zc 0 11)) (C := RX10) (T := TX10) (N := 13) hx hb hts hiX10 hown hK hP 0 rfl rfl 6 (by decide) (hts (.fieldLink RX10 52 "TributePitches" "steps" "LTributePitches$Trace;") (by decide +kernel)) (fun _ h9 => h9) rfl dX10_tell_16 ?_
      have hPc := hP.sub (ws' := [cGaK zc jg 4, cTr zc]) [2, 3] rfl
      have hDc := hD.sub (ws' := [cGaK zc jg 4, cTr zc]) [2, 3] (by decide) rfl
      have hKc := hK.sub (tys' := []) [] rfl
      have hFc := va_free (wc := [cGaK zc jg 4, cTr zc]) hD hS hA [2, 3] rfl
      refine va_calli (va_runU (As := [.ref (cs_X zc 0 11)]) (rest := []) ⟨hx, hb, hml, hown, hts⟩ (s_tell_4 l dC dI  _ (cs_X zc 2 jg) (nI jg) (cs_I zc 21 jg) (cs_I zc 22 jg) (cs_L zc 0 jg) (cs_X zc 0 11) (cs_i zc 1) ) (va_cwO 1 hts gX10_tell_X4_telling_u304X4 rfl rfl rfl (b0 := cX2_telling) (m0 := 2) (r0 := (some .int)) (by decide +kernel) (by decide +kernel) ⟨Nat.le_of_ble_eq_true rfl, Nat.le_of_ble_eq_true rfl⟩) (pw_preV (va_recv hKc hPc (ci := 4) (q0 := 0) rfl rfl) hPc hKc hDc hN) rfl rfl hl.1 rfl (lv_room (Nat.le_of_ble_eq_true rfl)) dX10_tell_19 ⟨Nat.le_of_ble_eq_true rfl, Nat.le_of_ble_eq_true rfl⟩) hS (fun q _ h => hFc q h) hFc (fun r7 u t H1 locs ht hvm hw hB hz1 hk1 hS => ?_)
      have hr7 : r7 = 3 * (cs_I zc 21 jg) := hw
      obtain ⟨hP1, hK1, hD1⟩ := hB
      rw [ht] at hP1
      obtain ⟨hP, hD⟩ := va_join (wr := [cTP zc, cR7 cA zc]) (w1 := [(cs_X zc 2 jg, .inr (4, [.int (nI jg), .int (cs_I zc 21 jg), .int (cs_I zc 22 jg), .long (cs_L zc 0 jg)])), (cs_X zc 0 11, .inr (9, [.int ((31 * ((31 * (cs_i zc 1)) + 3)) + 1)]))]) hP hD [2, 3] [0, 1] rfl rfl (by decide) (by decide) hk1 hFc hP1 hD1
      generalize H1 = H at hP hS ⊢
      have hP : va_P (dC, dI) vwCl [cTP zc, cR7 cA zc, (cs_X zc 2 jg, .inr (4, [.int (nI jg), .int (cs_I zc 21 jg), .int (cs_I zc 22 jg), .long (cs_L zc 0 jg)])), (cs_X zc 0 11, .inr (9, [.int ((31 * ((31 * (cs_i zc 1)) + 3)) + 1)]))] H := hP
      have hD : va_D _ [cTP zc, cR7 cA zc, (cs_X zc 2 jg, .inr (4, [.int (nI jg), .int (cs_I zc 21 jg), .int (cs_I zc 22 jg), .long (cs_L zc 0 jg)])), (cs_X zc 0 11, .inr (9, [.int ((31 * ((31 * (cs_i zc 1)) + 3)) + 1)]))] := hD
      have hr7 := hr7.symm
      subst hr7
      refine W.eq (g2 := F0 m 22 ls [.int (3 * (cs_I zc 21 jg))]) rfl ?_
      subst hQ
      have hP9 : va_P (dC, dI) vwCl [cTP zc, cR7 cA zc, (cs_X zc 2 jg, .inr (4, [.int (nI jg), .int (cs_I zc 21 jg), .int (cs_I zc 22 jg), .long (cs_L zc 0 jg)])), (cs_X zc 0 11, .inr (9, [.int ((31 * ((31 * (cs_i zc 1)) + 3)) + 1)]))] H := hP.sub [0, 1, 2, 3] rfl
      have hD9 : va_D (va_A [cTP zc, cR7 cA zc, cGaK zc jg 4, cTr zc] s.heap.size) [cTP zc, cR7 cA zc, (cs_X zc 2 jg, .inr (4, [.int (nI jg), .int (cs_I zc 21 jg), .int (cs_I zc 22 jg), .long (cs_L zc 0 jg)])), (cs_X zc 0 11, .inr (9, [.int ((31 * ((31 * (cs_i zc 1)) + 3)) + 1)]))] := hD.sub [0, 1, 2, 3] (by decide) rfl
      have hks9 : kAll (cF cA (va_up (cs_i zc) 1 ((31 * ((31 * (cs_i zc 1)) + 3)) + 1), cs_n zc, cs_I zc, cs_L zc, cs_N zc, cs_S zc, cs_X zc)) [(0, 0), (0, 7), (2, jg), (0, 11)] [cTP zc, cR7 cA zc, (cs_X zc 2 jg, .inr (4, [.int (nI jg), .int (cs_I zc 21 jg), .int (cs_I zc 22 jg), .long (cs_L zc 0 jg)])), (cs_X zc 0 11, .inr (9, [.int ((31 * ((31 * (cs_i zc 1)) + 3)) + 1)]))] := ⟨rfl, rfl, (by first | exact (kF_gaK (z := (va_up (cs_i zc) 1 ((31 * ((31 * (cs_i zc 1)) + 3)) + 1), cs_n zc, cs_I zc, cs_L zc, cs_N zc, cs_S zc, cs_X zc)) hjg hk) | (rw [(kF_gaK (z := (va_up (cs_i zc) 1 ((31 * ((31 * (cs_i zc 1)) + 3)) + 1), cs_n zc, cs_I zc, cs_L zc, cs_N zc, cs_S zc, cs_X zc)) hjg hk)]; simp [cGa, va_up, upd])), rfl, trivial⟩
      have hout : ∀ i j, (i, j) ∉ ([(0, 0), (0, 7), (2, jg), (0, 11)] : List (Nat × Nat)) → cF cA (va_up (cs_i zc) 1 ((31 * ((31 * (cs_i zc 1)) + 3)) + 1), cs_n zc, cs_I zc, cs_L zc, cs_N zc, cs_S zc, cs_X zc) i j = none ∨ ((i, j) ∉ ([(0, 0), (0, 7), (2, jg), (0, 11)] : List (Nat × Nat)) ∧ cF cA (va_up (cs_i zc) 1 ((31 * ((31 * (cs_i zc 1)) + 3)) + 1), cs_n zc, cs_I zc, cs_L zc, cs_N zc, cs_S zc, cs_X zc) i j = cF cA zc i j) := by
        intro i j hij
        refine Or.inr ⟨hij, ?_⟩
        rcases i with _ | _ | _ | _ | _ | _ | _ | _ | i
        · rcases j with _ | _ | _ | _ | _ | _ | _ | _ | _ | _ | _ | _ | j <;> first | rfl | exact absurd (by simp) hij
        · rfl
        · rfl
        · rfl
        · rfl
        · rfl
        · rfl
        · rfl
        · rfl
      exact W.iret (v := 3 * (cs_I zc 21 jg)) hx hb hr (fun t ht hW => have hJ := kjoin hPk hDk hks rfl (hS.F ht) (by rw [ht]; exact hP9) hD9 hks9 hout; ⟨⟨3 * (cs_I zc 21 jg), (va_up (cs_i zc) 1 ((31 * ((31 * (cs_i zc 1)) + 3)) + 1), cs_n zc, cs_I zc, cs_L zc, cs_N zc, cs_S zc, cs_X zc), rfl, ⟨hI, (Or.inr (Or.inr (Or.inr ⟨jg, rfl, hjg, hk, rfl, rfl⟩)))⟩, hJ.1, va_K.moved hW.alike hKk, hJ.2.1⟩, hJ.2.2⟩) (fun q h => kAll_A hks _ (hS.2.2 q h)) dX10_tell_22
def pC_greet (zc : CS) (g : Int32) (r : Int32) (u : CS) : Prop :=
  ((∀ j, j < cs_n zc 1 → g ≠ nI j) ∧ r = (-1) ∧ u = zc) ∨
  (∃ jg : Nat, g = nI jg ∧ (jg < cs_n zc 1) ∧ (cs_N zc 1 jg = 1) ∧ r = 6 ∧ u = (va_up (cs_i zc) 1 ((31 * (cs_i zc 1)) + 5), cs_n zc, cs_I zc, cs_L zc, cs_N zc, cs_S zc, cs_X zc)) ∨
  (∃ jg : Nat, g = nI jg ∧ (jg < cs_n zc 1) ∧ (cs_N zc 1 jg = 2) ∧ r = 10 * (nI jg) ∧ u = (va_up (cs_i zc) 1 ((31 * (cs_i zc 1)) + 4), cs_n zc, cs_I zc, cs_L zc, cs_N zc, cs_S zc, cs_X zc)) ∨
  (∃ jg : Nat, g = nI jg ∧ (jg < cs_n zc 1) ∧ (cs_N zc 1 jg = 4) ∧ r = 7 ∧ u = (va_up (cs_i zc) 1 ((31 * ((31 * (cs_i zc 1)) + 6)) + 5), cs_n zc, cs_I zc, cs_L zc, cs_N zc, cs_S zc, cs_X zc))
set_option maxHeartbeats 4000000 in
set_option maxRecDepth 100000 in
theorem K_greet (l : Launch) (dC : Nat → ClassId) (dI : Nat → Nat → Nat) (cA : Nat → ClassId) (sz : Nat) (zc : CS) (g : Int32) (hI : invC zc) : Met l yX10_greet wsX10_greet ({ frames := 3, cells := 0, slots := 0, locals := 90 }) (kw (dC, dI) (ctys cA) (cF cA zc) sz [.ref (cs_X zc 0 0), .int g]) (kQi (dC, dI) (ctys cA) (cF cA zc) sz (cF cA) (fun r u => invC u ∧ pC_greet zc g r u)) 0 0 (kA (cF cA zc) sz) := by
  refine kw_met (cc := cX10_greet) (maxL := 3) (ret := (some .int)) (by decide) rfl (Nat.le_of_ble_eq_true rfl) ?_
  intro p e s m below meth c0 hx hb hr hml hown hlocks hnm hts hPk hKk hDk hN hsz ls hl
  subst hsz
  have hK : va_K (dC, dI) vwCl [(cA 0, .int), (cA 1, .object RX6), (cA 2, .object RX2), (cA 3, .object RX8), (cA 4, .object RX5), (cA 5, .object RX7)] s := hKk
  obtain ⟨⟨hn0, hn1, hn2, hn3, hn4, hn5⟩, hpi, hgk, htk, hpk, hsh⟩ := id hI
  have hl : lv_has ls 3 [(0, .ref (cs_X zc 0 0)), (1, .int g)] := hl
  have hiX10 : ∀ w ∈ wsX100, w ∈ wsX10_greet := by decide +kernel
  generalize hQ : MQ _ _ _ _ _ _ _ = Q
  rcases ixd g (cs_n zc 1) with hnojg | ⟨jg, hjg, rfl⟩
  · skip
    have hks : kAll (cF cA zc) [(0, 0), (0, 7)] [cTP zc, cR7 cA zc] := ⟨rfl, rfl, trivial⟩
    have hP : va_P (dC, dI) vwCl [cTP zc, cR7 cA zc] s.heap := kAll_P hPk hks
    have hD : va_D (va_A [cTP zc, cR7 cA zc] s.heap.size) [cTP zc, cR7 cA zc] := (kAll_D hDk hks (by simp)).self
    have hA : ∀ q : Nat, s.heap.size ≤ q → va_A [cTP zc, cR7 cA zc] s.heap.size q := fun q h => Or.inr h
    have hS : va_S (va_A [cTP zc, cR7 cA zc] s.heap.size) s.heap s.heap [] := va_S.rf
    refine lv_aload_n hx hb dX10_greet_0 rfl (lv_at hl 0 rfl) ?_
    refine lv_iload_n hx hb dX10_greet_1 rfl (lv_at hl 1 rfl) ?_
    have hPc := hP.sub (ws' := [cTP zc]) [0] rfl
    have hDc := hD.sub (ws' := [cTP zc]) [0] (by decide) rfl
    have hKc := hK.sub (tys' := []) [] rfl
    refine va_csq (va_Run.run (va_runV (As := [.int g]) (rest := []) ⟨hx, hb, hml, hown, hts⟩ (s_gangAt_no l dC dI  _ (cs_X zc 0 0) (.ref (cs_X zc 0 1)) (.ref (cs_X zc 0 6)) (.ref (cs_X zc 0 7)) (.ref (cs_X zc 0 8)) (.ref (cs_X zc 0 9)) (.ref (cs_X zc 0 10)) (.ref (cs_X zc 0 11)) (.int (nI (cs_n zc 0))) (.int (nI (cs_n zc 2))) (.int (nI (cs_n zc 3))) (va_rf (opN (cs_n zc 4) (fun _ => cs_X zc 5 0))) (.int (cs_i zc 2)) g (cs_n zc 1) (by omega) hnojg) (cwV 1 hts gX10_greet_X10_gangAt rfl rfl rfl (by decide +kernel) ⟨Nat.le_of_ble_eq_true rfl, Nat.le_of_ble_eq_true rfl⟩) (pw_preV (va_recv hKc hPc (ci := 10) (q0 := 0) rfl rfl) hPc hKc hDc hN) rfl rfl hl.1 rfl (lv_room (Nat.le_of_ble_eq_true rfl)) dX10_greet_2 ⟨Nat.le_of_ble_eq_true rfl, Nat.le_of_ble_eq_true rfl⟩)) (fun r1 hr1 => ?_)
    have hr1 : r1 = none := hr1
    subst hr1
    refine W.eq (g2 := F0 m 5 ls [.null]) rfl ?_
    refine lv_astore_nN (lv' := [(2, .null), (0, .ref (cs_X zc 0 0)), (1, .int g)]) hx hb dX10_greet_5 rfl hl (by decide) rfl (fun ls hl => ?_)
    refine lv_aload_nN hx hb dX10_greet_6 rfl (lv_at hl 0 rfl) ?_
    refine lv_ifnonnullN hx hb dX10_greet_7 ?_
    refine lv_iconst (v := (-1)) hx hb dX10_greet_10 (by decide) ?_
    refine lv_goto (tgt := 22) hx hb dX10_greet_11 (by decide) ?_
    subst hQ
    exact W.iret (v := (-1)) hx hb hr (fun t ht hW => ⟨⟨(-1), zc, rfl, ⟨hI, (Or.inl ⟨hnojg, rfl, rfl⟩)⟩, (by rw [ht]; exact hPk), va_K.moved hW.alike hKk, hDk⟩, (kw_same hPk ht).2⟩) (fun q h => absurd h List.not_mem_nil) dX10_greet_22
  · skip
    rcases (hgk jg hjg) with hk | hk | hk
    · skip
      have hks : kAll (cF cA zc) [(0, 0), (0, 7), (2, jg), (0, 11)] [cTP zc, cR7 cA zc, cGaK zc jg 1, cTr zc] := ⟨rfl, rfl, (kF_gaK (z := zc) hjg hk), rfl, trivial⟩
      have hP : va_P (dC, dI) vwCl [cTP zc, cR7 cA zc, cGaK zc jg 1, cTr zc] s.heap := kAll_P hPk hks
      have hD : va_D (va_A [cTP zc, cR7 cA zc, cGaK zc jg 1, cTr zc] s.heap.size) [cTP zc, cR7 cA zc, cGaK zc jg 1, cTr zc] := (kAll_D hDk hks (by simp)).self
      have hA : ∀ q : Nat, s.heap.size ≤ q → va_A [cTP zc, cR7 cA zc, cGaK zc jg 1, cTr zc] s.heap.size q := fun q h => Or.inr h
      have hS : va_S (va_A [cTP zc, cR7 cA zc, cGaK zc jg 1, cTr zc] s.heap.size) s.heap s.heap [] := va_S.rf
      refine lv_aload_n hx hb dX10_greet_0 rfl (lv_at hl 0 rfl) ?_
      refine lv_iload_n hx hb dX10_greet_1 rfl (lv_at hl 1 rfl) ?_
      have hPc := hP.sub (ws' := [cTP zc, cR7 cA zc]) [0, 1] rfl
      have hDc := hD.sub (ws' := [cTP zc, cR7 cA zc]) [0, 1] (by decide) rfl
      have hKc := hK.sub (tys' := [(cA 2, .object RX2)]) [2] rfl
      refine va_csq (va_Run.run (va_runV (As := [.int (nI jg)]) (rest := []) ⟨hx, hb, hml, hown, hts⟩ (s_gangAt_yes l dC dI (cA 2) _ (cs_X zc 0 0) (.ref (cs_X zc 0 1)) (.ref (cs_X zc 0 6)) (.ref (cs_X zc 0 8)) (.ref (cs_X zc 0 9)) (.ref (cs_X zc 0 10)) (.ref (cs_X zc 0 11)) (.int (nI (cs_n zc 0))) (.int (nI (cs_n zc 2))) (.int (nI (cs_n zc 3))) (va_rf (opN (cs_n zc 4) (fun _ => cs_X zc 5 0))) (.int (cs_i zc 2)) (cs_X zc 0 7) jg (cs_n zc 1) (cs_X zc 2 jg) (rfN (cs_n zc 1) (cs_X zc 2)) hjg (by omega) (rfN_at hjg)) (cwV 1 hts gX10_greet_X10_gangAt rfl rfl rfl (by decide +kernel) ⟨Nat.le_of_ble_eq_true rfl, Nat.le_of_ble_eq_true rfl⟩) (pw_preV (va_recv hKc hPc (ci := 10) (q0 := 0) rfl rfl) hPc hKc hDc hN) rfl rfl hl.1 rfl (lv_room (Nat.le_of_ble_eq_true rfl)) dX10_greet_2 ⟨Nat.le_of_ble_eq_true rfl, Nat.le_of_ble_eq_true rfl⟩)) (fun r2 hr2 => ?_)
      have hr2 : r2 = some cs_X zc 2 jg := hr2
      subst hr2
      refine W.eq (g2 := F0 m 5 ls [.ref (cs_X zc 2 jg)]) rfl ?_
      refine lv_astore_n (lv' := [(2, .ref (cs_X zc 2 jg)), (0, .ref (cs_X zc 0 0)), (1, .int (nI jg))]) hx hb dX10_greet_5 rfl hl (by decide) rfl (fun ls hl => ?_)
      refine lv_aload_n hx hb dX10_greet_6 rfl (lv_at hl 0 rfl) ?_
      refine lv_ifnonnull (tgt := 14) hx hb dX10_greet_7 (by decide) ?_
      refine lv_aload_n hx hb dX10_greet_14 rfl (lv_at hl 0 rfl) ?_
      refine lv_aload_n hx hb dX10_greet_15 rfl (lv_at hl 1 rfl) ?_
      refine va_get (D := (dC, dI)) (ci := 10) (v := .ref (cs_X zc 0 11)) (C := RX10) (T := TX10) (N := 13) hx hb hts hiX10 hown hK hP 0 rfl rfl 6 (by decide) (hts (.fieldLink RX10 52 "TributePitches" "steps" "LTributePitches$Trace;") (by decide +kernel)) (fun _ h9 => h9) rfl dX10_greet_16 ?_
      have hPc := hP.sub (ws' := [cGaK zc jg 1, cTr zc]) [2, 3] rfl
      have hDc := hD.sub (ws' := [cGaK zc jg 1, cTr zc]) [2, 3] (by decide) rfl
      have hKc := hK.sub (tys' := []) [] rfl
      have hFc := va_free (wc := [cGaK zc jg 1, cTr zc]) hD hS hA [2, 3] rfl
      refine va_calli (va_runU (As := [.ref (cs_X zc 0 11)]) (rest := []) ⟨hx, hb, hml, hown, hts⟩ (s_greet_1_1 l dC dI  _ (cs_X zc 2 jg) (nI jg) (cs_I zc 21 jg) (cs_I zc 22 jg) (cs_L zc 0 jg) (cs_X zc 0 11) (cs_i zc 1) ) (va_cwO 1 hts gX10_greet_X1_greeting_u308X1 rfl rfl rfl (b0 := cX2_greeting) (m0 := 2) (r0 := (some .int)) (by decide +kernel) (by decide +kernel) ⟨Nat.le_of_ble_eq_true rfl, Nat.le_of_ble_eq_true rfl⟩) (pw_preV (va_recv hKc hPc (ci := 1) (q0 := 0) rfl rfl) hPc hKc hDc hN) rfl rfl hl.1 rfl (lv_room (Nat.le_of_ble_eq_true rfl)) dX10_greet_19 ⟨Nat.le_of_ble_eq_true rfl, Nat.le_of_ble_eq_true rfl⟩) hS (fun q _ h => hFc q h) hFc (fun r3 u t H1 locs ht hvm hw hB hz1 hk1 hS => ?_)
      have hr3 : r3 = 6 := hw
      obtain ⟨hP1, hK1, hD1⟩ := hB
      rw [ht] at hP1
      obtain ⟨hP, hD⟩ := va_join (wr := [cTP zc, cR7 cA zc]) (w1 := [(cs_X zc 2 jg, .inr (1, [.int (nI jg), .int (cs_I zc 21 jg), .int (cs_I zc 22 jg), .long (cs_L zc 0 jg)])), (cs_X zc 0 11, .inr (9, [.int ((31 * (cs_i zc 1)) + 5)]))]) hP hD [2, 3] [0, 1] rfl rfl (by decide) (by decide) hk1 hFc hP1 hD1
      generalize H1 = H at hP hS ⊢
      have hP : va_P (dC, dI) vwCl [cTP zc, cR7 cA zc, (cs_X zc 2 jg, .inr (1, [.int (nI jg), .int (cs_I zc 21 jg), .int (cs_I zc 22 jg), .long (cs_L zc 0 jg)])), (cs_X zc 0 11, .inr (9, [.int ((31 * (cs_i zc 1)) + 5)]))] H := hP
      have hD : va_D _ [cTP zc, cR7 cA zc, (cs_X zc 2 jg, .inr (1, [.int (nI jg), .int (cs_I zc 21 jg), .int (cs_I zc 22 jg), .long (cs_L zc 0 jg)])), (cs_X zc 0 11, .inr (9, [.int ((31 * (cs_i zc 1)) + 5)]))] := hD
      have hr3 := hr3.symm
      subst hr3
      refine W.eq (g2 := F0 m 22 ls [.int 6]) rfl ?_
      subst hQ
      have hP9 : va_P (dC, dI) vwCl [cTP zc, cR7 cA zc, (cs_X zc 2 jg, .inr (1, [.int (nI jg), .int (cs_I zc 21 jg), .int (cs_I zc 22 jg), .long (cs_L zc 0 jg)])), (cs_X zc 0 11, .inr (9, [.int ((31 * (cs_i zc 1)) + 5)]))] H := hP.sub [0, 1, 2, 3] rfl
      have hD9 : va_D (va_A [cTP zc, cR7 cA zc, cGaK zc jg 1, cTr zc] s.heap.size) [cTP zc, cR7 cA zc, (cs_X zc 2 jg, .inr (1, [.int (nI jg), .int (cs_I zc 21 jg), .int (cs_I zc 22 jg), .long (cs_L zc 0 jg)])), (cs_X zc 0 11, .inr (9, [.int ((31 * (cs_i zc 1)) + 5)]))] := hD.sub [0, 1, 2, 3] (by decide) rfl
      have hks9 : kAll (cF cA (va_up (cs_i zc) 1 ((31 * (cs_i zc 1)) + 5), cs_n zc, cs_I zc, cs_L zc, cs_N zc, cs_S zc, cs_X zc)) [(0, 0), (0, 7), (2, jg), (0, 11)] [cTP zc, cR7 cA zc, (cs_X zc 2 jg, .inr (1, [.int (nI jg), .int (cs_I zc 21 jg), .int (cs_I zc 22 jg), .long (cs_L zc 0 jg)])), (cs_X zc 0 11, .inr (9, [.int ((31 * (cs_i zc 1)) + 5)]))] := ⟨rfl, rfl, (by first | exact (kF_gaK (z := (va_up (cs_i zc) 1 ((31 * (cs_i zc 1)) + 5), cs_n zc, cs_I zc, cs_L zc, cs_N zc, cs_S zc, cs_X zc)) hjg hk) | (rw [(kF_gaK (z := (va_up (cs_i zc) 1 ((31 * (cs_i zc 1)) + 5), cs_n zc, cs_I zc, cs_L zc, cs_N zc, cs_S zc, cs_X zc)) hjg hk)]; simp [cGa, va_up, upd])), rfl, trivial⟩
      have hout : ∀ i j, (i, j) ∉ ([(0, 0), (0, 7), (2, jg), (0, 11)] : List (Nat × Nat)) → cF cA (va_up (cs_i zc) 1 ((31 * (cs_i zc 1)) + 5), cs_n zc, cs_I zc, cs_L zc, cs_N zc, cs_S zc, cs_X zc) i j = none ∨ ((i, j) ∉ ([(0, 0), (0, 7), (2, jg), (0, 11)] : List (Nat × Nat)) ∧ cF cA (va_up (cs_i zc) 1 ((31 * (cs_i zc 1)) + 5), cs_n zc, cs_I zc, cs_L zc, cs_N zc, cs_S zc, cs_X zc) i j = cF cA zc i j) := by
        intro i j hij
        refine Or.inr ⟨hij, ?_⟩
        rcases i with _ | _ | _ | _ | _ | _ | _ | _ | i
        · rcases j with _ | _ | _ | _ | _ | _ | _ | _ | _ | _ | _ | _ | j <;> first | rfl | exact absurd (by simp) hij
        · rfl
        · rfl
        · rfl
        · rfl
        · rfl
        · rfl
        · rfl
        · rfl
      exact W.iret (v := 6) hx hb hr (fun t ht hW => have hJ := kjoin hPk hDk hks rfl (hS.F ht) (by rw [ht]; exact hP9) hD9 hks9 hout; ⟨⟨6, (va_up (cs_i zc) 1 ((31 * (cs_i zc 1)) + 5), cs_n zc, cs_I zc, cs_L zc, cs_N zc, cs_S zc, cs_X zc), rfl, ⟨hI, (Or.inr (Or.inl ⟨jg, rfl, hjg, hk, rfl, rfl⟩))⟩, hJ.1, va_K.moved hW.alike hKk, hJ.2.1⟩, hJ.2.2⟩) (fun q h => kAll_A hks _ (hS.2.2 q h)) dX10_greet_22
    · skip
      have hks : kAll (cF cA zc) [(0, 0), (0, 7), (2, jg), (0, 11)] [cTP zc, cR7 cA zc, cGaK zc jg 2, cTr zc] := ⟨rfl, rfl, (kF_gaK (z := zc) hjg hk), rfl, trivial⟩
      have hP : va_P (dC, dI) vwCl [cTP zc, cR7 cA zc, cGaK zc jg 2, cTr zc] s.heap := kAll_P hPk hks
      have hD : va_D (va_A [cTP zc, cR7 cA zc, cGaK zc jg 2, cTr zc] s.heap.size) [cTP zc, cR7 cA zc, cGaK zc jg 2, cTr zc] := (kAll_D hDk hks (by simp)).self
      have hA : ∀ q : Nat, s.heap.size ≤ q → va_A [cTP zc, cR7 cA zc, cGaK zc jg 2, cTr zc] s.heap.size q := fun q h => Or.inr h
      have hS : va_S (va_A [cTP zc, cR7 cA zc, cGaK zc jg 2, cTr zc] s.heap.size) s.heap s.heap [] := va_S.rf
      refine lv_aload_n hx hb dX10_greet_0 rfl (lv_at hl 0 rfl) ?_
      refine lv_iload_n hx hb dX10_greet_1 rfl (lv_at hl 1 rfl) ?_
      have hPc := hP.sub (ws' := [cTP zc, cR7 cA zc]) [0, 1] rfl
      have hDc := hD.sub (ws' := [cTP zc, cR7 cA zc]) [0, 1] (by decide) rfl
      have hKc := hK.sub (tys' := [(cA 2, .object RX2)]) [2] rfl
      refine va_csq (va_Run.run (va_runV (As := [.int (nI jg)]) (rest := []) ⟨hx, hb, hml, hown, hts⟩ (s_gangAt_yes l dC dI (cA 2) _ (cs_X zc 0 0) (.ref (cs_X zc 0 1)) (.ref (cs_X zc 0 6)) (.ref (cs_X zc 0 8)) (.ref (cs_X zc 0 9)) (.ref (cs_X zc 0 10)) (.ref (cs_X zc 0 11)) (.int (nI (cs_n zc 0))) (.int (nI (cs_n zc 2))) (.int (nI (cs_n zc 3))) (va_rf (opN (cs_n zc 4) (fun _ => cs_X zc 5 0))) (.int (cs_i zc 2)) (cs_X zc 0 7) jg (cs_n zc 1) (cs_X zc 2 jg) (rfN (cs_n zc 1) (cs_X zc 2)) hjg (by omega) (rfN_at hjg)) (cwV 1 hts gX10_greet_X10_gangAt rfl rfl rfl (by decide +kernel) ⟨Nat.le_of_ble_eq_true rfl, Nat.le_of_ble_eq_true rfl⟩) (pw_preV (va_recv hKc hPc (ci := 10) (q0 := 0) rfl rfl) hPc hKc hDc hN) rfl rfl hl.1 rfl (lv_room (Nat.le_of_ble_eq_true rfl)) dX10_greet_2 ⟨Nat.le_of_ble_eq_true rfl, Nat.le_of_ble_eq_true rfl⟩)) (fun r4 hr4 => ?_)
      have hr4 : r4 = some cs_X zc 2 jg := hr4
      subst hr4
      refine W.eq (g2 := F0 m 5 ls [.ref (cs_X zc 2 jg)]) rfl ?_
      refine lv_astore_n (lv' := [(2, .ref (cs_X zc 2 jg)), (0, .ref (cs_X zc 0 0)), (1, .int (nI jg))]) hx hb dX10_greet_5 rfl hl (by decide) rfl (fun ls hl => ?_)
      refine lv_aload_n hx hb dX10_greet_6 rfl (lv_at hl 0 rfl) ?_
      refine lv_ifnonnull (tgt := 14) hx hb dX10_greet_7 (by decide) ?_
      refine lv_aload_n hx hb dX10_greet_14 rfl (lv_at hl 0 rfl) ?_
      refine lv_aload_n hx hb dX10_greet_15 rfl (lv_at hl 1 rfl) ?_
      refine va_get (D := (dC, dI)) (ci := 10) (v := .ref (cs_X zc 0 11)) (C := RX10) (T := TX10) (N := 13) hx hb hts hiX10 hown hK hP 0 rfl rfl 6 (by decide) (hts (.fieldLink RX10 52 "TributePitches" "steps" "LTributePitches$Trace;") (by decide +kernel)) (fun _ h9 => h9) rfl dX10_greet_16 ?_
      have hPc := hP.sub (ws' := [cGaK zc jg 2, cTr zc]) [2, 3] rfl
      have hDc := hD.sub (ws' := [cGaK zc jg 2, cTr zc]) [2, 3] (by decide) rfl
      have hKc := hK.sub (tys' := []) [] rfl
      have hFc := va_free (wc := [cGaK zc jg 2, cTr zc]) hD hS hA [2, 3] rfl
      refine va_calli (va_runV (As := [.ref (cs_X zc 0 11)]) (rest := []) ⟨hx, hb, hml, hown, hts⟩ (s_greet_2 l dC dI  _ (cs_X zc 2 jg) (nI jg) (cs_I zc 21 jg) (cs_I zc 22 jg) (cs_L zc 0 jg) (cs_X zc 0 11) (cs_i zc 1) ) (cwV 1 hts gX10_greet_X2_greeting rfl rfl rfl (by decide +kernel) ⟨Nat.le_of_ble_eq_true rfl, Nat.le_of_ble_eq_true rfl⟩) (pw_preV (va_recv hKc hPc (ci := 2) (q0 := 0) rfl rfl) hPc hKc hDc hN) rfl rfl hl.1 rfl (lv_room (Nat.le_of_ble_eq_true rfl)) dX10_greet_19 ⟨Nat.le_of_ble_eq_true rfl, Nat.le_of_ble_eq_true rfl⟩) hS (fun q _ h => hFc q h) hFc (fun r5 u t H1 locs ht hvm hw hB hz1 hk1 hS => ?_)
      have hr5 : r5 = 10 * (nI jg) := hw
      obtain ⟨hP1, hK1, hD1⟩ := hB
      rw [ht] at hP1
      obtain ⟨hP, hD⟩ := va_join (wr := [cTP zc, cR7 cA zc]) (w1 := [(cs_X zc 2 jg, .inr (2, [.int (nI jg), .int (cs_I zc 21 jg), .int (cs_I zc 22 jg), .long (cs_L zc 0 jg)])), (cs_X zc 0 11, .inr (9, [.int ((31 * (cs_i zc 1)) + 4)]))]) hP hD [2, 3] [0, 1] rfl rfl (by decide) (by decide) hk1 hFc hP1 hD1
      generalize H1 = H at hP hS ⊢
      have hP : va_P (dC, dI) vwCl [cTP zc, cR7 cA zc, (cs_X zc 2 jg, .inr (2, [.int (nI jg), .int (cs_I zc 21 jg), .int (cs_I zc 22 jg), .long (cs_L zc 0 jg)])), (cs_X zc 0 11, .inr (9, [.int ((31 * (cs_i zc 1)) + 4)]))] H := hP
      have hD : va_D _ [cTP zc, cR7 cA zc, (cs_X zc 2 jg, .inr (2, [.int (nI jg), .int (cs_I zc 21 jg), .int (cs_I zc 22 jg), .long (cs_L zc 0 jg)])), (cs_X zc 0 11, .inr (9, [.int ((31 * (cs_i zc 1)) + 4)]))] := hD
      have hr5 := hr5.symm
      subst hr5
      refine W.eq (g2 := F0 m 22 ls [.int (10 * (nI jg))]) rfl ?_
      subst hQ
      have hP9 : va_P (dC, dI) vwCl [cTP zc, cR7 cA zc, (cs_X zc 2 jg, .inr (2, [.int (nI jg), .int (cs_I zc 21 jg), .int (cs_I zc 22 jg), .long (cs_L zc 0 jg)])), (cs_X zc 0 11, .inr (9, [.int ((31 * (cs_i zc 1)) + 4)]))] H := hP.sub [0, 1, 2, 3] rfl
      have hD9 : va_D (va_A [cTP zc, cR7 cA zc, cGaK zc jg 2, cTr zc] s.heap.size) [cTP zc, cR7 cA zc, (cs_X zc 2 jg, .inr (2, [.int (nI jg), .int (cs_I zc 21 jg), .int (cs_I zc 22 jg), .long (cs_L zc 0 jg)])), (cs_X zc 0 11, .inr (9, [.int ((31 * (cs_i zc 1)) + 4)]))] := hD.sub [0, 1, 2, 3] (by decide) rfl
      have hks9 : kAll (cF cA (va_up (cs_i zc) 1 ((31 * (cs_i zc 1)) + 4), cs_n zc, cs_I zc, cs_L zc, cs_N zc, cs_S zc, cs_X zc)) [(0, 0), (0, 7), (2, jg), (0, 11)] [cTP zc, cR7 cA zc, (cs_X zc 2 jg, .inr (2, [.int (nI jg), .int (cs_I zc 21 jg), .int (cs_I zc 22 jg), .long (cs_L zc 0 jg)])), (cs_X zc 0 11, .inr (9, [.int ((31 * (cs_i zc 1)) + 4)]))] := ⟨rfl, rfl, (by first | exact (kF_gaK (z := (va_up (cs_i zc) 1 ((31 * (cs_i zc 1)) + 4), cs_n zc, cs_I zc, cs_L zc, cs_N zc, cs_S zc, cs_X zc)) hjg hk) | (rw [(kF_gaK (z := (va_up (cs_i zc) 1 ((31 * (cs_i zc 1)) + 4), cs_n zc, cs_I zc, cs_L zc, cs_N zc, cs_S zc, cs_X zc)) hjg hk)]; simp [cGa, va_up, upd])), rfl, trivial⟩
      have hout : ∀ i j, (i, j) ∉ ([(0, 0), (0, 7), (2, jg), (0, 11)] : List (Nat × Nat)) → cF cA (va_up (cs_i zc) 1 ((31 * (cs_i zc 1)) + 4), cs_n zc, cs_I zc, cs_L zc, cs_N zc, cs_S zc, cs_X zc) i j = none ∨ ((i, j) ∉ ([(0, 0), (0, 7), (2, jg), (0, 11)] : List (Nat × Nat)) ∧ cF cA (va_up (cs_i zc) 1 ((31 * (cs_i zc 1)) + 4), cs_n zc, cs_I zc, cs_L zc, cs_N zc, cs_S zc, cs_X zc) i j = cF cA zc i j) := by
        intro i j hij
        refine Or.inr ⟨hij, ?_⟩
        rcases i with _ | _ | _ | _ | _ | _ | _ | _ | i
        · rcases j with _ | _ | _ | _ | _ | _ | _ | _ | _ | _ | _ | _ | j <;> first | rfl | exact absurd (by simp) hij
        · rfl
        · rfl
        · rfl
        · rfl
        · rfl
        · rfl
        · rfl
        · rfl
      exact W.iret (v := 10 * (nI jg)) hx hb hr (fun t ht hW => have hJ := kjoin hPk hDk hks rfl (hS.F ht) (by rw [ht]; exact hP9) hD9 hks9 hout; ⟨⟨10 * (nI jg), (va_up (cs_i zc) 1 ((31 * (cs_i zc 1)) + 4), cs_n zc, cs_I zc, cs_L zc, cs_N zc, cs_S zc, cs_X zc), rfl, ⟨hI, (Or.inr (Or.inr (Or.inl ⟨jg, rfl, hjg, hk, rfl, rfl⟩)))⟩, hJ.1, va_K.moved hW.alike hKk, hJ.2.1⟩, hJ.2.2⟩) (fun q h => kAll_A hks _ (hS.2.2 q h)) dX10_greet_22
    · skip
      have hks : kAll (cF cA zc) [(0, 0), (0, 7), (2, jg), (0, 11)] [cTP zc, cR7 cA zc, cGaK zc jg 4, cTr zc] := ⟨rfl, rfl, (kF_gaK (z := zc) hjg hk), rfl, trivial⟩
      have hP : va_P (dC, dI) vwCl [cTP zc, cR7 cA zc, cGaK zc jg 4, cTr zc] s.heap := kAll_P hPk hks
      have hD : va_D (va_A [cTP zc, cR7 cA zc, cGaK zc jg 4, cTr zc] s.heap.size) [cTP zc, cR7 cA zc, cGaK zc jg 4, cTr zc] := (kAll_D hDk hks (by simp)).self
      have hA : ∀ q : Nat, s.heap.size ≤ q → va_A [cTP zc, cR7 cA zc, cGaK zc jg 4, cTr zc] s.heap.size q := fun q h => Or.inr h
      have hS : va_S (va_A [cTP zc, cR7 cA zc, cGaK zc jg 4, cTr zc] s.heap.size) s.heap s.heap [] := va_S.rf
      refine lv_aload_n hx hb dX10_greet_0 rfl (lv_at hl 0 rfl) ?_
      refine lv_iload_n hx hb dX10_greet_1 rfl (lv_at hl 1 rfl) ?_
      have hPc := hP.sub (ws' := [cTP zc, cR7 cA zc]) [0, 1] rfl
      have hDc := hD.sub (ws' := [cTP zc, cR7 cA zc]) [0, 1] (by decide) rfl
      have hKc := hK.sub (tys' := [(cA 2, .object RX2)]) [2] rfl
      refine va_csq (va_Run.run (va_runV (As := [.int (nI jg)]) (rest := []) ⟨hx, hb, hml, hown, hts⟩ (s_gangAt_yes l dC dI (cA 2) _ (cs_X zc 0 0) (.ref (cs_X zc 0 1)) (.ref (cs_X zc 0 6)) (.ref (cs_X zc 0 8)) (.ref (cs_X zc 0 9)) (.ref (cs_X zc 0 10)) (.ref (cs_X zc 0 11)) (.int (nI (cs_n zc 0))) (.int (nI (cs_n zc 2))) (.int (nI (cs_n zc 3))) (va_rf (opN (cs_n zc 4) (fun _ => cs_X zc 5 0))) (.int (cs_i zc 2)) (cs_X zc 0 7) jg (cs_n zc 1) (cs_X zc 2 jg) (rfN (cs_n zc 1) (cs_X zc 2)) hjg (by omega) (rfN_at hjg)) (cwV 1 hts gX10_greet_X10_gangAt rfl rfl rfl (by decide +kernel) ⟨Nat.le_of_ble_eq_true rfl, Nat.le_of_ble_eq_true rfl⟩) (pw_preV (va_recv hKc hPc (ci := 10) (q0 := 0) rfl rfl) hPc hKc hDc hN) rfl rfl hl.1 rfl (lv_room (Nat.le_of_ble_eq_true rfl)) dX10_greet_2 ⟨Nat.le_of_ble_eq_true rfl, Nat.le_of_ble_eq_true rfl⟩)) (fun r6 hr6 => ?_)
      have hr6 : r6 = some cs_X zc 2 jg := hr6
      subst hr6
      refine W.eq (g2 := F0 m 5 ls [.ref (cs_X zc 2 jg)]) rfl ?_
      refine lv_astore_n (lv' := [(2, .ref (cs_X zc 2 jg)), (0, .ref (cs_X zc 0 0)), (1, .int (nI jg))]) hx hb dX10_greet_5 rfl hl (by decide) rfl (fun ls hl => ?_)
      refine lv_aload_n hx hb dX10_greet_6 rfl (lv_at hl 0 rfl) ?_
      refine lv_ifnonnull (tgt := 14) hx hb dX10_greet_7 (by decide) ?_
      refine lv_aload_n hx hb dX10_greet_14 rfl (lv_at hl 0 rfl) ?_
      refine lv_aload_n hx hb dX10_greet_15 rfl (lv_at hl 1 rfl) ?_
      refine va_get (D := (dC, dI)) (ci := 10) (v := .ref (cs_X zc 0 11)) (C := RX10) (T := TX10) (N := 13) hx hb hts hiX10 hown hK hP 0 rfl rfl 6 (by decide) (hts (.fieldLink RX10 52 "TributePitches" "steps" "LTributePitches$Trace;") (by decide +kernel)) (fun _ h9 => h9) rfl dX10_greet_16 ?_
      have hPc := hP.sub (ws' := [cGaK zc jg 4, cTr zc]) [2, 3] rfl
      have hDc := hD.sub (ws' := [cGaK zc jg 4, cTr zc]) [2, 3] (by decide) rfl
      have hKc := hK.sub (tys' := []) [] rfl
      have hFc := va_free (wc := [cGaK zc jg 4, cTr zc]) hD hS hA [2, 3] rfl
      refine va_calli (va_runU (As := [.ref (cs_X zc 0 11)]) (rest := []) ⟨hx, hb, hml, hown, hts⟩ (s_greet_4 l dC dI  _ (cs_X zc 2 jg) (nI jg) (cs_I zc 21 jg) (cs_I zc 22 jg) (cs_L zc 0 jg) (cs_X zc 0 11) (cs_i zc 1) ) (va_cwO 1 hts gX10_greet_X4_greeting_u308X4 rfl rfl rfl (b0 := cX2_greeting) (m0 := 2) (r0 := (some .int)) (by decide +kernel) (by decide +kernel) ⟨Nat.le_of_ble_eq_true rfl, Nat.le_of_ble_eq_true rfl⟩) (pw_preV (va_recv hKc hPc (ci := 4) (q0 := 0) rfl rfl) hPc hKc hDc hN) rfl rfl hl.1 rfl (lv_room (Nat.le_of_ble_eq_true rfl)) dX10_greet_19 ⟨Nat.le_of_ble_eq_true rfl, Nat.le_of_ble_eq_true rfl⟩) hS (fun q _ h => hFc q h) hFc (fun r7 u t H1 locs ht hvm hw hB hz1 hk1 hS => ?_)
      have hr7 : r7 = 7 := hw
      obtain ⟨hP1, hK1, hD1⟩ := hB
      rw [ht] at hP1
      obtain ⟨hP, hD⟩ := va_join (wr := [cTP zc, cR7 cA zc]) (w1 := [(cs_X zc 2 jg, .inr (4, [.int (nI jg), .int (cs_I zc 21 jg), .int (cs_I zc 22 jg), .long (cs_L zc 0 jg)])), (cs_X zc 0 11, .inr (9, [.int ((31 * ((31 * (cs_i zc 1)) + 6)) + 5)]))]) hP hD [2, 3] [0, 1] rfl rfl (by decide) (by decide) hk1 hFc hP1 hD1
      generalize H1 = H at hP hS ⊢
      have hP : va_P (dC, dI) vwCl [cTP zc, cR7 cA zc, (cs_X zc 2 jg, .inr (4, [.int (nI jg), .int (cs_I zc 21 jg), .int (cs_I zc 22 jg), .long (cs_L zc 0 jg)])), (cs_X zc 0 11, .inr (9, [.int ((31 * ((31 * (cs_i zc 1)) + 6)) + 5)]))] H := hP
      have hD : va_D _ [cTP zc, cR7 cA zc, (cs_X zc 2 jg, .inr (4, [.int (nI jg), .int (cs_I zc 21 jg), .int (cs_I zc 22 jg), .long (cs_L zc 0 jg)])), (cs_X zc 0 11, .inr (9, [.int ((31 * ((31 * (cs_i zc 1)) + 6)) + 5)]))] := hD
      have hr7 := hr7.symm
      subst hr7
      refine W.eq (g2 := F0 m 22 ls [.int 7]) rfl ?_
      subst hQ
      have hP9 : va_P (dC, dI) vwCl [cTP zc, cR7 cA zc, (cs_X zc 2 jg, .inr (4, [.int (nI jg), .int (cs_I zc 21 jg), .int (cs_I zc 22 jg), .long (cs_L zc 0 jg)])), (cs_X zc 0 11, .inr (9, [.int ((31 * ((31 * (cs_i zc 1)) + 6)) + 5)]))] H := hP.sub [0, 1, 2, 3] rfl
      have hD9 : va_D (va_A [cTP zc, cR7 cA zc, cGaK zc jg 4, cTr zc] s.heap.size) [cTP zc, cR7 cA zc, (cs_X zc 2 jg, .inr (4, [.int (nI jg), .int (cs_I zc 21 jg), .int (cs_I zc 22 jg), .long (cs_L zc 0 jg)])), (cs_X zc 0 11, .inr (9, [.int ((31 * ((31 * (cs_i zc 1)) + 6)) + 5)]))] := hD.sub [0, 1, 2, 3] (by decide) rfl
      have hks9 : kAll (cF cA (va_up (cs_i zc) 1 ((31 * ((31 * (cs_i zc 1)) + 6)) + 5), cs_n zc, cs_I zc, cs_L zc, cs_N zc, cs_S zc, cs_X zc)) [(0, 0), (0, 7), (2, jg), (0, 11)] [cTP zc, cR7 cA zc, (cs_X zc 2 jg, .inr (4, [.int (nI jg), .int (cs_I zc 21 jg), .int (cs_I zc 22 jg), .long (cs_L zc 0 jg)])), (cs_X zc 0 11, .inr (9, [.int ((31 * ((31 * (cs_i zc 1)) + 6)) + 5)]))] := ⟨rfl, rfl, (by first | exact (kF_gaK (z := (va_up (cs_i zc) 1 ((31 * ((31 * (cs_i zc 1)) + 6)) + 5), cs_n zc, cs_I zc, cs_L zc, cs_N zc, cs_S zc, cs_X zc)) hjg hk) | (rw [(kF_gaK (z := (va_up (cs_i zc) 1 ((31 * ((31 * (cs_i zc 1)) + 6)) + 5), cs_n zc, cs_I zc, cs_L zc, cs_N zc, cs_S zc, cs_X zc)) hjg hk)]; simp [cGa, va_up, upd])), rfl, trivial⟩
      have hout : ∀ i j, (i, j) ∉ ([(0, 0), (0, 7), (2, jg), (0, 11)] : List (Nat × Nat)) → cF cA (va_up (cs_i zc) 1 ((31 * ((31 * (cs_i zc 1)) + 6)) + 5), cs_n zc, cs_I zc, cs_L zc, cs_N zc, cs_S zc, cs_X zc) i j = none ∨ ((i, j) ∉ ([(0, 0), (0, 7), (2, jg), (0, 11)] : List (Nat × Nat)) ∧ cF cA (va_up (cs_i zc) 1 ((31 * ((31 * (cs_i zc 1)) + 6)) + 5), cs_n zc, cs_I zc, cs_L zc, cs_N zc, cs_S zc, cs_X zc) i j = cF cA zc i j) := by
        intro i j hij
        refine Or.inr ⟨hij, ?_⟩
        rcases i with _ | _ | _ | _ | _ | _ | _ | _ | i
        · rcases j with _ | _ | _ | _ | _ | _ | _ | _ | _ | _ | _ | _ | j <;> first | rfl | exact absurd (by simp) hij
        · rfl
        · rfl
        · rfl
        · rfl
        · rfl
        · rfl
        · rfl
        · rfl
      exact W.iret (v := 7) hx hb hr (fun t ht hW => have hJ := kjoin hPk hDk hks rfl (hS.F ht) (by rw [ht]; exact hP9) hD9 hks9 hout; ⟨⟨7, (va_up (cs_i zc) 1 ((31 * ((31 * (cs_i zc 1)) + 6)) + 5), cs_n zc, cs_I zc, cs_L zc, cs_N zc, cs_S zc, cs_X zc), rfl, ⟨hI, (Or.inr (Or.inr (Or.inr ⟨jg, rfl, hjg, hk, rfl, rfl⟩)))⟩, hJ.1, va_K.moved hW.alike hKk, hJ.2.1⟩, hJ.2.2⟩) (fun q h => kAll_A hks _ (hS.2.2 q h)) dX10_greet_22
def pC_as (zc : CS) (g : Int32) (k : Int32) (r : Int32) (u : CS) : Prop :=
  ((∀ j, j < cs_n zc 1 → g ≠ nI j) ∧ r = (-1) ∧ u = (va_up (cs_i zc) 2 0, cs_n zc, cs_I zc, cs_L zc, cs_N zc, cs_S zc, cs_X zc)) ∨
  (∃ jg : Nat, g = nI jg ∧ (jg < cs_n zc 1) ∧ (cs_N zc 1 jg = 1) ∧ (0 ≤ k ∧ k ≤ 2) ∧ (k = 2) ∧ r = -10 - 2 ∧ u = (va_up (cs_i zc) 2 2, cs_n zc, cs_I zc, cs_L zc, cs_N zc, cs_S zc, cs_X zc)) ∨
  (∃ jg : Nat, g = nI jg ∧ (jg < cs_n zc 1) ∧ (cs_N zc 1 jg = 1) ∧ (0 ≤ k ∧ k ≤ 2) ∧ (¬ (k = 2)) ∧ r = 1 ∧ u = (va_up (cs_i zc) 2 0, cs_n zc, cs_I zc, cs_L zc, cs_N zc, cs_S zc, cs_X zc)) ∨
  (∃ jg : Nat, g = nI jg ∧ (jg < cs_n zc 1) ∧ (cs_N zc 1 jg = 1) ∧ (¬ (0 ≤ k ∧ k ≤ 2)) ∧ r = (-2) ∧ u = (va_up (cs_i zc) 2 0, cs_n zc, cs_I zc, cs_L zc, cs_N zc, cs_S zc, cs_X zc)) ∨
  (∃ jg : Nat, g = nI jg ∧ (jg < cs_n zc 1) ∧ (cs_N zc 1 jg = 2) ∧ (0 ≤ k ∧ k ≤ 2) ∧ (k = 2 ∨ k = 1) ∧ r = -10 - 2 ∧ u = (va_up (cs_i zc) 2 2, cs_n zc, cs_I zc, cs_L zc, cs_N zc, cs_S zc, cs_X zc)) ∨
  (∃ jg : Nat, g = nI jg ∧ (jg < cs_n zc 1) ∧ (cs_N zc 1 jg = 2) ∧ (0 ≤ k ∧ k ≤ 2) ∧ (¬ (k = 2 ∨ k = 1)) ∧ r = 1 ∧ u = (va_up (cs_i zc) 2 0, cs_n zc, cs_I zc, cs_L zc, cs_N zc, cs_S zc, cs_X zc)) ∨
  (∃ jg : Nat, g = nI jg ∧ (jg < cs_n zc 1) ∧ (cs_N zc 1 jg = 2) ∧ (¬ (0 ≤ k ∧ k ≤ 2)) ∧ r = (-2) ∧ u = (va_up (cs_i zc) 2 0, cs_n zc, cs_I zc, cs_L zc, cs_N zc, cs_S zc, cs_X zc)) ∨
  (∃ jg : Nat, g = nI jg ∧ (jg < cs_n zc 1) ∧ (cs_N zc 1 jg = 4) ∧ (0 ≤ k ∧ k ≤ 2) ∧ (¬ (k = k)) ∧ r = -10 - 2 ∧ u = (va_up (cs_i zc) 2 2, cs_n zc, cs_I zc, cs_L zc, cs_N zc, cs_S zc, cs_X zc)) ∨
  (∃ jg : Nat, g = nI jg ∧ (jg < cs_n zc 1) ∧ (cs_N zc 1 jg = 4) ∧ (0 ≤ k ∧ k ≤ 2) ∧ (k = k) ∧ r = 1 ∧ u = (va_up (cs_i zc) 2 0, cs_n zc, cs_I zc, cs_L zc, cs_N zc, cs_S zc, cs_X zc)) ∨
  (∃ jg : Nat, g = nI jg ∧ (jg < cs_n zc 1) ∧ (cs_N zc 1 jg = 4) ∧ (¬ (0 ≤ k ∧ k ≤ 2)) ∧ r = (-2) ∧ u = (va_up (cs_i zc) 2 0, cs_n zc, cs_I zc, cs_L zc, cs_N zc, cs_S zc, cs_X zc))
set_option maxHeartbeats 4000000 in
set_option maxRecDepth 100000 in
theorem K_as (l : Launch) (dC : Nat → ClassId) (dI : Nat → Nat → Nat) (cA : Nat → ClassId) (sz : Nat) (zc : CS) (g : Int32) (k : Int32) (hI : invC zc) : Met l yX10_as wsX10_as ({ frames := 2, cells := 0, slots := 0, locals := 60 }) (kw (dC, dI) (ctys cA) (cF cA zc) sz [.ref (cs_X zc 0 0), .int g, .int k]) (kQi (dC, dI) (ctys cA) (cF cA zc) sz (cF cA) (fun r u => invC u ∧ pC_as zc g k r u)) 0 0 (kA (cF cA zc) sz) := by
  refine kw_met (cc := cX10_as) (maxL := 4) (ret := (some .int)) (by decide) rfl (Nat.le_of_ble_eq_true rfl) ?_
  intro p e s m below meth c0 hx hb hr hml hown hlocks hnm hts hPk hKk hDk hN hsz ls hl
  subst hsz
  have hK : va_K (dC, dI) vwCl [(cA 0, .int), (cA 1, .object RX6), (cA 2, .object RX2), (cA 3, .object RX8), (cA 4, .object RX5), (cA 5, .object RX7)] s := hKk
  obtain ⟨⟨hn0, hn1, hn2, hn3, hn4, hn5⟩, hpi, hgk, htk, hpk, hsh⟩ := id hI
  have hl : lv_has ls 4 [(0, .ref (cs_X zc 0 0)), (1, .int g), (2, .int k)] := hl
  have hiX10 : ∀ w ∈ wsX100, w ∈ wsX10_as := by decide +kernel
  generalize hQ : MQ _ _ _ _ _ _ _ = Q
  rcases ixd g (cs_n zc 1) with hnojg | ⟨jg, hjg, rfl⟩
  · skip
    have hks : kAll (cF cA zc) [(0, 0), (0, 7)] [cTP zc, cR7 cA zc] := ⟨rfl, rfl, trivial⟩
    have hP : va_P (dC, dI) vwCl [cTP zc, cR7 cA zc] s.heap := kAll_P hPk hks
    have hD : va_D (va_A [cTP zc, cR7 cA zc] s.heap.size) [cTP zc, cR7 cA zc] := (kAll_D hDk hks (by simp)).self
    have hA : ∀ q : Nat, s.heap.size ≤ q → va_A [cTP zc, cR7 cA zc] s.heap.size q := fun q h => Or.inr h
    have hS : va_S (va_A [cTP zc, cR7 cA zc] s.heap.size) s.heap s.heap [] := va_S.rf
    refine lv_aload_n hx hb dX10_as_0 rfl (lv_at hl 0 rfl) ?_
    refine lv_iconst (v := 0) hx hb dX10_as_1 (by decide) ?_
    refine va_put (D := (dC, dI)) (ci := 10) (v := .int 0) (ty := .int) (C := RX10) (T := TX10) (N := 13) hx hb hts hiX10 tyX10 tyX10_ok nmX10 hown hK hP hD hS 0 rfl rfl 12 (by decide) (hts (.fieldLink RX10 56 "TributePitches" "latestFault" "I") (by decide +kernel)) (fun _ h9 => h9) rfl (by decide +kernel) rfl rfl (Nat.le_of_ble_eq_true rfl) dX10_as_2 (fun H locs hP hD hS => ?_)
    have hP : va_P (dC, dI) vwCl [(cs_X zc 0 0, .inr (10, [.ref (cs_X zc 0 1), .ref (cs_X zc 0 6), .ref (cs_X zc 0 7), .ref (cs_X zc 0 8), .ref (cs_X zc 0 9), .ref (cs_X zc 0 10), .ref (cs_X zc 0 11), .int (nI (cs_n zc 0)), .int (nI (cs_n zc 1)), .int (nI (cs_n zc 2)), .int (nI (cs_n zc 3)), va_rf (opN (cs_n zc 4) (fun _ => cs_X zc 5 0)), .int 0])), cR7 cA zc] H := hP
    have hD : va_D _ [(cs_X zc 0 0, .inr (10, [.ref (cs_X zc 0 1), .ref (cs_X zc 0 6), .ref (cs_X zc 0 7), .ref (cs_X zc 0 8), .ref (cs_X zc 0 9), .ref (cs_X zc 0 10), .ref (cs_X zc 0 11), .int (nI (cs_n zc 0)), .int (nI (cs_n zc 1)), .int (nI (cs_n zc 2)), .int (nI (cs_n zc 3)), va_rf (opN (cs_n zc 4) (fun _ => cs_X zc 5 0)), .int 0])), cR7 cA zc] := hD
    refine lv_aload_n hx hb dX10_as_5 rfl (lv_at hl 0 rfl) ?_
    refine lv_iload_n hx hb dX10_as_6 rfl (lv_at hl 1 rfl) ?_
    have hPc := hP.sub (ws' := [(cs_X zc 0 0, .inr (10, [.ref (cs_X zc 0 1), .ref (cs_X zc 0 6), .ref (cs_X zc 0 7), .ref (cs_X zc 0 8), .ref (cs_X zc 0 9), .ref (cs_X zc 0 10), .ref (cs_X zc 0 11), .int (nI (cs_n zc 0)), .int (nI (cs_n zc 1)), .int (nI (cs_n zc 2)), .int (nI (cs_n zc 3)), va_rf (opN (cs_n zc 4) (fun _ => cs_X zc 5 0)), .int 0]))]) [0] rfl
    have hDc := hD.sub (ws' := [(cs_X zc 0 0, .inr (10, [.ref (cs_X zc 0 1), .ref (cs_X zc 0 6), .ref (cs_X zc 0 7), .ref (cs_X zc 0 8), .ref (cs_X zc 0 9), .ref (cs_X zc 0 10), .ref (cs_X zc 0 11), .int (nI (cs_n zc 0)), .int (nI (cs_n zc 1)), .int (nI (cs_n zc 2)), .int (nI (cs_n zc 3)), va_rf (opN (cs_n zc 4) (fun _ => cs_X zc 5 0)), .int 0]))]) [0] (by decide) rfl
    have hKc := hK.sub (tys' := []) [] rfl
    refine va_csq (va_Run.run (va_runV (As := [.int g]) (rest := []) ⟨hx, hb, hml, hown, hts⟩ (s_gangAt_no l dC dI  _ (cs_X zc 0 0) (.ref (cs_X zc 0 1)) (.ref (cs_X zc 0 6)) (.ref (cs_X zc 0 7)) (.ref (cs_X zc 0 8)) (.ref (cs_X zc 0 9)) (.ref (cs_X zc 0 10)) (.ref (cs_X zc 0 11)) (.int (nI (cs_n zc 0))) (.int (nI (cs_n zc 2))) (.int (nI (cs_n zc 3))) (va_rf (opN (cs_n zc 4) (fun _ => cs_X zc 5 0))) (.int 0) g (cs_n zc 1) (by omega) hnojg) (cwV 1 hts gX10_as_X10_gangAt rfl rfl rfl (by decide +kernel) ⟨Nat.le_of_ble_eq_true rfl, Nat.le_of_ble_eq_true rfl⟩) (pw_preV (va_recv hKc hPc (ci := 10) (q0 := 0) rfl rfl) hPc hKc hDc hN) rfl rfl hl.1 rfl (lv_room (Nat.le_of_ble_eq_true rfl)) dX10_as_7 ⟨Nat.le_of_ble_eq_true rfl, Nat.le_of_ble_eq_true rfl⟩)) (fun r1 hr1 => ?_)
    have hr1 : r1 = none := hr1
    subst hr1
    refine W.eq (g2 := F0 m 10 ls [.null]) rfl ?_
    refine lv_astore_nN (lv' := [(3, .null), (0, .ref (cs_X zc 0 0)), (1, .int g), (2, .int k)]) hx hb dX10_as_10 rfl hl (by decide) rfl (fun ls hl => ?_)
    refine lv_aload_nN hx hb dX10_as_11 rfl (lv_at hl 0 rfl) ?_
    refine lv_ifnonnullN hx hb dX10_as_12 ?_
    refine lv_iconst (v := (-1)) hx hb dX10_as_15 (by decide) ?_
    subst hQ
    have hP9 : va_P (dC, dI) vwCl [(cs_X zc 0 0, .inr (10, [.ref (cs_X zc 0 1), .ref (cs_X zc 0 6), .ref (cs_X zc 0 7), .ref (cs_X zc 0 8), .ref (cs_X zc 0 9), .ref (cs_X zc 0 10), .ref (cs_X zc 0 11), .int (nI (cs_n zc 0)), .int (nI (cs_n zc 1)), .int (nI (cs_n zc 2)), .int (nI (cs_n zc 3)), va_rf (opN (cs_n zc 4) (fun _ => cs_X zc 5 0)), .int 0])), cR7 cA zc] H := hP.sub [0, 1] rfl
    have hD9 : va_D (va_A [cTP zc, cR7 cA zc] s.heap.size) [(cs_X zc 0 0, .inr (10, [.ref (cs_X zc 0 1), .ref (cs_X zc 0 6), .ref (cs_X zc 0 7), .ref (cs_X zc 0 8), .ref (cs_X zc 0 9), .ref (cs_X zc 0 10), .ref (cs_X zc 0 11), .int (nI (cs_n zc 0)), .int (nI (cs_n zc 1)), .int (nI (cs_n zc 2)), .int (nI (cs_n zc 3)), va_rf (opN (cs_n zc 4) (fun _ => cs_X zc 5 0)), .int 0])), cR7 cA zc] := hD.sub [0, 1] (by decide) rfl
    have hks9 : kAll (cF cA (va_up (cs_i zc) 2 0, cs_n zc, cs_I zc, cs_L zc, cs_N zc, cs_S zc, cs_X zc)) [(0, 0), (0, 7)] [(cs_X zc 0 0, .inr (10, [.ref (cs_X zc 0 1), .ref (cs_X zc 0 6), .ref (cs_X zc 0 7), .ref (cs_X zc 0 8), .ref (cs_X zc 0 9), .ref (cs_X zc 0 10), .ref (cs_X zc 0 11), .int (nI (cs_n zc 0)), .int (nI (cs_n zc 1)), .int (nI (cs_n zc 2)), .int (nI (cs_n zc 3)), va_rf (opN (cs_n zc 4) (fun _ => cs_X zc 5 0)), .int 0])), cR7 cA zc] := ⟨rfl, rfl, trivial⟩
    have hout : ∀ i j, (i, j) ∉ ([(0, 0), (0, 7)] : List (Nat × Nat)) → cF cA (va_up (cs_i zc) 2 0, cs_n zc, cs_I zc, cs_L zc, cs_N zc, cs_S zc, cs_X zc) i j = none ∨ ((i, j) ∉ ([(0, 0), (0, 7)] : List (Nat × Nat)) ∧ cF cA (va_up (cs_i zc) 2 0, cs_n zc, cs_I zc, cs_L zc, cs_N zc, cs_S zc, cs_X zc) i j = cF cA zc i j) := by
      intro i j hij
      refine Or.inr ⟨hij, ?_⟩
      rcases i with _ | _ | _ | _ | _ | _ | _ | _ | i
      · rcases j with _ | _ | _ | _ | _ | _ | _ | _ | _ | _ | _ | _ | j <;> first | rfl | exact absurd (by simp) hij
      · rfl
      · rfl
      · rfl
      · rfl
      · rfl
      · rfl
      · rfl
      · rfl
    exact W.iret (v := (-1)) hx hb hr (fun t ht hW => have hJ := kjoin hPk hDk hks rfl (hS.F ht) (by rw [ht]; exact hP9) hD9 hks9 hout; ⟨⟨(-1), (va_up (cs_i zc) 2 0, cs_n zc, cs_I zc, cs_L zc, cs_N zc, cs_S zc, cs_X zc), rfl, ⟨hI, (Or.inl ⟨hnojg, rfl, rfl⟩)⟩, hJ.1, va_K.moved hW.alike hKk, hJ.2.1⟩, hJ.2.2⟩) (fun q h => kAll_A hks _ (hS.2.2 q h)) dX10_as_16
  · skip
    rcases (hgk jg hjg) with hk | hk | hk
    · skip
      have hks : kAll (cF cA zc) [(0, 0), (0, 7), (2, jg)] [cTP zc, cR7 cA zc, cGaK zc jg 1] := ⟨rfl, rfl, (kF_gaK (z := zc) hjg hk), trivial⟩
      have hP : va_P (dC, dI) vwCl [cTP zc, cR7 cA zc, cGaK zc jg 1] s.heap := kAll_P hPk hks
      have hD : va_D (va_A [cTP zc, cR7 cA zc, cGaK zc jg 1] s.heap.size) [cTP zc, cR7 cA zc, cGaK zc jg 1] := (kAll_D hDk hks (by simp)).self
      have hA : ∀ q : Nat, s.heap.size ≤ q → va_A [cTP zc, cR7 cA zc, cGaK zc jg 1] s.heap.size q := fun q h => Or.inr h
      have hS : va_S (va_A [cTP zc, cR7 cA zc, cGaK zc jg 1] s.heap.size) s.heap s.heap [] := va_S.rf
      refine lv_aload_n hx hb dX10_as_0 rfl (lv_at hl 0 rfl) ?_
      refine lv_iconst (v := 0) hx hb dX10_as_1 (by decide) ?_
      refine va_put (D := (dC, dI)) (ci := 10) (v := .int 0) (ty := .int) (C := RX10) (T := TX10) (N := 13) hx hb hts hiX10 tyX10 tyX10_ok nmX10 hown hK hP hD hS 0 rfl rfl 12 (by decide) (hts (.fieldLink RX10 56 "TributePitches" "latestFault" "I") (by decide +kernel)) (fun _ h9 => h9) rfl (by decide +kernel) rfl rfl (Nat.le_of_ble_eq_true rfl) dX10_as_2 (fun H locs hP hD hS => ?_)
      have hP : va_P (dC, dI) vwCl [(cs_X zc 0 0, .inr (10, [.ref (cs_X zc 0 1), .ref (cs_X zc 0 6), .ref (cs_X zc 0 7), .ref (cs_X zc 0 8), .ref (cs_X zc 0 9), .ref (cs_X zc 0 10), .ref (cs_X zc 0 11), .int (nI (cs_n zc 0)), .int (nI (cs_n zc 1)), .int (nI (cs_n zc 2)), .int (nI (cs_n zc 3)), va_rf (opN (cs_n zc 4) (fun _ => cs_X zc 5 0)), .int 0])), cR7 cA zc, cGaK zc jg 1] H := hP
      have hD : va_D _ [(cs_X zc 0 0, .inr (10, [.ref (cs_X zc 0 1), .ref (cs_X zc 0 6), .ref (cs_X zc 0 7), .ref (cs_X zc 0 8), .ref (cs_X zc 0 9), .ref (cs_X zc 0 10), .ref (cs_X zc 0 11), .int (nI (cs_n zc 0)), .int (nI (cs_n zc 1)), .int (nI (cs_n zc 2)), .int (nI (cs_n zc 3)), va_rf (opN (cs_n zc 4) (fun _ => cs_X zc 5 0)), .int 0])), cR7 cA zc, cGaK zc jg 1] := hD
      refine lv_aload_n hx hb dX10_as_5 rfl (lv_at hl 0 rfl) ?_
      refine lv_iload_n hx hb dX10_as_6 rfl (lv_at hl 1 rfl) ?_
      have hPc := hP.sub (ws' := [(cs_X zc 0 0, .inr (10, [.ref (cs_X zc 0 1), .ref (cs_X zc 0 6), .ref (cs_X zc 0 7), .ref (cs_X zc 0 8), .ref (cs_X zc 0 9), .ref (cs_X zc 0 10), .ref (cs_X zc 0 11), .int (nI (cs_n zc 0)), .int (nI (cs_n zc 1)), .int (nI (cs_n zc 2)), .int (nI (cs_n zc 3)), va_rf (opN (cs_n zc 4) (fun _ => cs_X zc 5 0)), .int 0])), cR7 cA zc]) [0, 1] rfl
      have hDc := hD.sub (ws' := [(cs_X zc 0 0, .inr (10, [.ref (cs_X zc 0 1), .ref (cs_X zc 0 6), .ref (cs_X zc 0 7), .ref (cs_X zc 0 8), .ref (cs_X zc 0 9), .ref (cs_X zc 0 10), .ref (cs_X zc 0 11), .int (nI (cs_n zc 0)), .int (nI (cs_n zc 1)), .int (nI (cs_n zc 2)), .int (nI (cs_n zc 3)), va_rf (opN (cs_n zc 4) (fun _ => cs_X zc 5 0)), .int 0])), cR7 cA zc]) [0, 1] (by decide) rfl
      have hKc := hK.sub (tys' := [(cA 2, .object RX2)]) [2] rfl
      refine va_csq (va_Run.run (va_runV (As := [.int (nI jg)]) (rest := []) ⟨hx, hb, hml, hown, hts⟩ (s_gangAt_yes l dC dI (cA 2) _ (cs_X zc 0 0) (.ref (cs_X zc 0 1)) (.ref (cs_X zc 0 6)) (.ref (cs_X zc 0 8)) (.ref (cs_X zc 0 9)) (.ref (cs_X zc 0 10)) (.ref (cs_X zc 0 11)) (.int (nI (cs_n zc 0))) (.int (nI (cs_n zc 2))) (.int (nI (cs_n zc 3))) (va_rf (opN (cs_n zc 4) (fun _ => cs_X zc 5 0))) (.int 0) (cs_X zc 0 7) jg (cs_n zc 1) (cs_X zc 2 jg) (rfN (cs_n zc 1) (cs_X zc 2)) hjg (by omega) (rfN_at hjg)) (cwV 1 hts gX10_as_X10_gangAt rfl rfl rfl (by decide +kernel) ⟨Nat.le_of_ble_eq_true rfl, Nat.le_of_ble_eq_true rfl⟩) (pw_preV (va_recv hKc hPc (ci := 10) (q0 := 0) rfl rfl) hPc hKc hDc hN) rfl rfl hl.1 rfl (lv_room (Nat.le_of_ble_eq_true rfl)) dX10_as_7 ⟨Nat.le_of_ble_eq_true rfl, Nat.le_of_ble_eq_true rfl⟩)) (fun r2 hr2 => ?_)
      have hr2 : r2 = some cs_X zc 2 jg := hr2
      subst hr2
      refine W.eq (g2 := F0 m 10 ls [.ref (cs_X zc 2 jg)]) rfl ?_
      refine lv_astore_n (lv' := [(3, .ref (cs_X zc 2 jg)), (0, .ref (cs_X zc 0 0)), (1, .int (nI jg)), (2, .int k)]) hx hb dX10_as_10 rfl hl (by decide) rfl (fun ls hl => ?_)
      refine lv_aload_n hx hb dX10_as_11 rfl (lv_at hl 0 rfl) ?_
      refine lv_ifnonnull (tgt := 17) hx hb dX10_as_12 (by decide) ?_
      refine lv_iload_n hx hb dX10_as_17 rfl (lv_at hl 3 rfl) ?_
      refine lv_iconst (v := 0) hx hb dX10_as_18 (by decide) ?_
      refine lv_iconst (v := 2) hx hb dX10_as_19 (by decide) ?_
      refine vp_callSi (va_Run.run (va_runS (As := [.int k, .int 0, .int 2]) (rest := []) ⟨hx, hb, hml, hown, hts⟩ (c_X10_isWithin l k 0 2 ) (va_cwS 3 hts gX10_as_X10_isWithin rfl rfl rfl (by decide +kernel) ⟨Nat.le_of_ble_eq_true rfl, Nat.le_of_ble_eq_true rfl⟩) (p0_preS hN) rfl rfl hl.1 rfl (lv_room (Nat.le_of_ble_eq_true rfl)) dX10_as_20 ⟨Nat.le_of_ble_eq_true rfl, Nat.le_of_ble_eq_true rfl⟩)) (fun r3 hr3 => ?_)
      have hr3 : r3 = if 0 ≤ k ∧ k ≤ 2 then 1 else 0 := hr3
      refine lv_if_ne (tgt := 29) hx hb dX10_as_23 (by decide) (fun c4 => ?_) (fun c4 => ?_)
      · skip
        have c4 := (fa_bool_prop hr3).2.mp c4
        refine lv_aload_n hx hb dX10_as_29 rfl (lv_at hl 0 rfl) ?_
        refine lv_iload_n hx hb dX10_as_30 rfl (lv_at hl 3 rfl) ?_
        have hPc := hP.sub (ws' := [cGaK zc jg 1]) [2] rfl
        have hDc := hD.sub (ws' := [cGaK zc jg 1]) [2] (by decide) rfl
        have hKc := hK.sub (tys' := []) [] rfl
        refine vp_callSi (va_Run.run (va_runS (As := [.ref (cs_X zc 2 jg), .int k]) (rest := []) ⟨hx, hb, hml, hown, hts⟩ (s_isOfKind_1 l dC dI  _ (cs_X zc 2 jg) (nI jg) (cs_I zc 21 jg) (cs_I zc 22 jg) (cs_L zc 0 jg) k ) (va_cwS 2 hts gX10_as_X10_isOfKind rfl rfl rfl (by decide +kernel) ⟨Nat.le_of_ble_eq_true rfl, Nat.le_of_ble_eq_true rfl⟩) (pw_preS hPc hKc hDc hN) rfl rfl hl.1 rfl (lv_room (Nat.le_of_ble_eq_true rfl)) dX10_as_31 ⟨Nat.le_of_ble_eq_true rfl, Nat.le_of_ble_eq_true rfl⟩)) (fun r5 hr5 => ?_)
        have hr5 : r5 = if ¬ (k = 2) then 1 else 0 := hr5
        refine lv_if_eq (tgt := 41) hx hb dX10_as_34 (by decide) (fun c6 => ?_) (fun c6 => ?_)
        · skip
          have c6 := (fa_bool_prop hr5).1.mp c6
          have c6 := Decidable.not_not.mp c6
          refine lv_aload_n hx hb dX10_as_41 rfl (lv_at hl 1 rfl) ?_
          refine lv_iconst (v := 2) hx hb dX10_as_42 (by decide) ?_
          have hPc := hP.sub (ws' := [(cs_X zc 0 0, .inr (10, [.ref (cs_X zc 0 1), .ref (cs_X zc 0 6), .ref (cs_X zc 0 7), .ref (cs_X zc 0 8), .ref (cs_X zc 0 9), .ref (cs_X zc 0 10), .ref (cs_X zc 0 11), .int (nI (cs_n zc 0)), .int (nI (cs_n zc 1)), .int (nI (cs_n zc 2)), .int (nI (cs_n zc 3)), va_rf (opN (cs_n zc 4) (fun _ => cs_X zc 5 0)), .int 0]))]) [0] rfl
          have hDc := hD.sub (ws' := [(cs_X zc 0 0, .inr (10, [.ref (cs_X zc 0 1), .ref (cs_X zc 0 6), .ref (cs_X zc 0 7), .ref (cs_X zc 0 8), .ref (cs_X zc 0 9), .ref (cs_X zc 0 10), .ref (cs_X zc 0 11), .int (nI (cs_n zc 0)), .int (nI (cs_n zc 1)), .int (nI (cs_n zc 2)), .int (nI (cs_n zc 3)), va_rf (opN (cs_n zc 4) (fun _ => cs_X zc 5 0)), .int 0]))]) [0] (by decide) rfl
          have hKc := hK.sub (tys' := []) [] rfl
          have hFc := va_free (wc := [(cs_X zc 0 0, .inr (10, [.ref (cs_X zc 0 1), .ref (cs_X zc 0 6), .ref (cs_X zc 0 7), .ref (cs_X zc 0 8), .ref (cs_X zc 0 9), .ref (cs_X zc 0 10), .ref (cs_X zc 0 11), .int (nI (cs_n zc 0)), .int (nI (cs_n zc 1)), .int (nI (cs_n zc 2)), .int (nI (cs_n zc 3)), va_rf (opN (cs_n zc 4) (fun _ => cs_X zc 5 0)), .int 0]))]) hD hS hA [0] rfl
          refine va_calli (va_runV (As := [.int 2]) (rest := []) ⟨hx, hb, hml, hown, hts⟩ (c_X10_faulted l dC dI  _ (cs_X zc 0 0) (.ref (cs_X zc 0 1)) (.ref (cs_X zc 0 6)) (.ref (cs_X zc 0 7)) (.ref (cs_X zc 0 8)) (.ref (cs_X zc 0 9)) (.ref (cs_X zc 0 10)) (.ref (cs_X zc 0 11)) (.int (nI (cs_n zc 0))) (.int (nI (cs_n zc 1))) (.int (nI (cs_n zc 2))) (.int (nI (cs_n zc 3))) (va_rf (opN (cs_n zc 4) (fun _ => cs_X zc 5 0))) (.int 0) 2 ) (cwV 1 hts gX10_as_X10_faulted rfl rfl rfl (by decide +kernel) ⟨Nat.le_of_ble_eq_true rfl, Nat.le_of_ble_eq_true rfl⟩) (pw_preV (va_recv hKc hPc (ci := 10) (q0 := 0) rfl rfl) hPc hKc hDc hN) rfl rfl hl.1 rfl (lv_room (Nat.le_of_ble_eq_true rfl)) dX10_as_43 ⟨Nat.le_of_ble_eq_true rfl, Nat.le_of_ble_eq_true rfl⟩) hS (fun q _ h => hFc q h) hFc (fun r7 u t H1 locs ht hvm hw hB hz1 hk1 hS => ?_)
          have hr7 : r7 = -10 - 2 := hw
          obtain ⟨hP1, hK1, hD1⟩ := hB
          rw [ht] at hP1
          obtain ⟨hP, hD⟩ := va_join (wr := [cR7 cA zc, cGaK zc jg 1]) (w1 := [(cs_X zc 0 0, .inr (10, [.ref (cs_X zc 0 1), .ref (cs_X zc 0 6), .ref (cs_X zc 0 7), .ref (cs_X zc 0 8), .ref (cs_X zc 0 9), .ref (cs_X zc 0 10), .ref (cs_X zc 0 11), .int (nI (cs_n zc 0)), .int (nI (cs_n zc 1)), .int (nI (cs_n zc 2)), .int (nI (cs_n zc 3)), va_rf (opN (cs_n zc 4) (fun _ => cs_X zc 5 0)), .int 2]))]) hP hD [0] [1, 2] rfl rfl (by decide) (by decide) hk1 hFc hP1 hD1
          generalize H1 = H at hP hS ⊢
          have hP : va_P (dC, dI) vwCl [cR7 cA zc, cGaK zc jg 1, (cs_X zc 0 0, .inr (10, [.ref (cs_X zc 0 1), .ref (cs_X zc 0 6), .ref (cs_X zc 0 7), .ref (cs_X zc 0 8), .ref (cs_X zc 0 9), .ref (cs_X zc 0 10), .ref (cs_X zc 0 11), .int (nI (cs_n zc 0)), .int (nI (cs_n zc 1)), .int (nI (cs_n zc 2)), .int (nI (cs_n zc 3)), va_rf (opN (cs_n zc 4) (fun _ => cs_X zc 5 0)), .int 2]))] H := hP
          have hD : va_D _ [cR7 cA zc, cGaK zc jg 1, (cs_X zc 0 0, .inr (10, [.ref (cs_X zc 0 1), .ref (cs_X zc 0 6), .ref (cs_X zc 0 7), .ref (cs_X zc 0 8), .ref (cs_X zc 0 9), .ref (cs_X zc 0 10), .ref (cs_X zc 0 11), .int (nI (cs_n zc 0)), .int (nI (cs_n zc 1)), .int (nI (cs_n zc 2)), .int (nI (cs_n zc 3)), va_rf (opN (cs_n zc 4) (fun _ => cs_X zc 5 0)), .int 2]))] := hD
          have hr7 := hr7.symm
          subst hr7
          refine W.eq (g2 := F0 m 46 ls [.int (-10 - 2)]) rfl ?_
          subst hQ
          have hP9 : va_P (dC, dI) vwCl [(cs_X zc 0 0, .inr (10, [.ref (cs_X zc 0 1), .ref (cs_X zc 0 6), .ref (cs_X zc 0 7), .ref (cs_X zc 0 8), .ref (cs_X zc 0 9), .ref (cs_X zc 0 10), .ref (cs_X zc 0 11), .int (nI (cs_n zc 0)), .int (nI (cs_n zc 1)), .int (nI (cs_n zc 2)), .int (nI (cs_n zc 3)), va_rf (opN (cs_n zc 4) (fun _ => cs_X zc 5 0)), .int 2])), cR7 cA zc, cGaK zc jg 1] H := hP.sub [2, 0, 1] rfl
          have hD9 : va_D (va_A [cTP zc, cR7 cA zc, cGaK zc jg 1] s.heap.size) [(cs_X zc 0 0, .inr (10, [.ref (cs_X zc 0 1), .ref (cs_X zc 0 6), .ref (cs_X zc 0 7), .ref (cs_X zc 0 8), .ref (cs_X zc 0 9), .ref (cs_X zc 0 10), .ref (cs_X zc 0 11), .int (nI (cs_n zc 0)), .int (nI (cs_n zc 1)), .int (nI (cs_n zc 2)), .int (nI (cs_n zc 3)), va_rf (opN (cs_n zc 4) (fun _ => cs_X zc 5 0)), .int 2])), cR7 cA zc, cGaK zc jg 1] := hD.sub [2, 0, 1] (by decide) rfl
          have hks9 : kAll (cF cA (va_up (cs_i zc) 2 2, cs_n zc, cs_I zc, cs_L zc, cs_N zc, cs_S zc, cs_X zc)) [(0, 0), (0, 7), (2, jg)] [(cs_X zc 0 0, .inr (10, [.ref (cs_X zc 0 1), .ref (cs_X zc 0 6), .ref (cs_X zc 0 7), .ref (cs_X zc 0 8), .ref (cs_X zc 0 9), .ref (cs_X zc 0 10), .ref (cs_X zc 0 11), .int (nI (cs_n zc 0)), .int (nI (cs_n zc 1)), .int (nI (cs_n zc 2)), .int (nI (cs_n zc 3)), va_rf (opN (cs_n zc 4) (fun _ => cs_X zc 5 0)), .int 2])), cR7 cA zc, cGaK zc jg 1] := ⟨rfl, rfl, (by first | exact (kF_gaK (z := (va_up (cs_i zc) 2 2, cs_n zc, cs_I zc, cs_L zc, cs_N zc, cs_S zc, cs_X zc)) hjg hk) | (rw [(kF_gaK (z := (va_up (cs_i zc) 2 2, cs_n zc, cs_I zc, cs_L zc, cs_N zc, cs_S zc, cs_X zc)) hjg hk)]; simp [cGa, va_up, upd])), trivial⟩
          have hout : ∀ i j, (i, j) ∉ ([(0, 0), (0, 7), (2, jg)] : List (Nat × Nat)) → cF cA (va_up (cs_i zc) 2 2, cs_n zc, cs_I zc, cs_L zc, cs_N zc, cs_S zc, cs_X zc) i j = none ∨ ((i, j) ∉ ([(0, 0), (0, 7), (2, jg)] : List (Nat × Nat)) ∧ cF cA (va_up (cs_i zc) 2 2, cs_n zc, cs_I zc, cs_L zc, cs_N zc, cs_S zc, cs_X zc) i j = cF cA zc i j) := by
            intro i j hij
            refine Or.inr ⟨hij, ?_⟩
            rcases i with _ | _ | _ | _ | _ | _ | _ | _ | i
            · rcases j with _ | _ | _ | _ | _ | _ | _ | _ | _ | _ | _ | _ | j <;> first | rfl | exact absurd (by simp) hij
            · rfl
            · rfl
            · rfl
            · rfl
            · rfl
            · rfl
            · rfl
            · rfl
          exact W.iret (v := -10 - 2) hx hb hr (fun t ht hW => have hJ := kjoin hPk hDk hks rfl (hS.F ht) (by rw [ht]; exact hP9) hD9 hks9 hout; ⟨⟨-10 - 2, (va_up (cs_i zc) 2 2, cs_n zc, cs_I zc, cs_L zc, cs_N zc, cs_S zc, cs_X zc), rfl, ⟨hI, (Or.inr (Or.inl ⟨jg, rfl, hjg, hk, c4, c6, rfl, rfl⟩))⟩, hJ.1, va_K.moved hW.alike hKk, hJ.2.1⟩, hJ.2.2⟩) (fun q h => kAll_A hks _ (hS.2.2 q h)) dX10_as_46
        · skip
          have c6 := (fa_bool_prop hr5).2.mp c6
          refine lv_iconst (v := 1) hx hb dX10_as_37 (by decide) ?_
          refine lv_goto (tgt := 46) hx hb dX10_as_38 (by decide) ?_
          subst hQ
          have hP9 : va_P (dC, dI) vwCl [(cs_X zc 0 0, .inr (10, [.ref (cs_X zc 0 1), .ref (cs_X zc 0 6), .ref (cs_X zc 0 7), .ref (cs_X zc 0 8), .ref (cs_X zc 0 9), .ref (cs_X zc 0 10), .ref (cs_X zc 0 11), .int (nI (cs_n zc 0)), .int (nI (cs_n zc 1)), .int (nI (cs_n zc 2)), .int (nI (cs_n zc 3)), va_rf (opN (cs_n zc 4) (fun _ => cs_X zc 5 0)), .int 0])), cR7 cA zc, cGaK zc jg 1] H := hP.sub [0, 1, 2] rfl
          have hD9 : va_D (va_A [cTP zc, cR7 cA zc, cGaK zc jg 1] s.heap.size) [(cs_X zc 0 0, .inr (10, [.ref (cs_X zc 0 1), .ref (cs_X zc 0 6), .ref (cs_X zc 0 7), .ref (cs_X zc 0 8), .ref (cs_X zc 0 9), .ref (cs_X zc 0 10), .ref (cs_X zc 0 11), .int (nI (cs_n zc 0)), .int (nI (cs_n zc 1)), .int (nI (cs_n zc 2)), .int (nI (cs_n zc 3)), va_rf (opN (cs_n zc 4) (fun _ => cs_X zc 5 0)), .int 0])), cR7 cA zc, cGaK zc jg 1] := hD.sub [0, 1, 2] (by decide) rfl
          have hks9 : kAll (cF cA (va_up (cs_i zc) 2 0, cs_n zc, cs_I zc, cs_L zc, cs_N zc, cs_S zc, cs_X zc)) [(0, 0), (0, 7), (2, jg)] [(cs_X zc 0 0, .inr (10, [.ref (cs_X zc 0 1), .ref (cs_X zc 0 6), .ref (cs_X zc 0 7), .ref (cs_X zc 0 8), .ref (cs_X zc 0 9), .ref (cs_X zc 0 10), .ref (cs_X zc 0 11), .int (nI (cs_n zc 0)), .int (nI (cs_n zc 1)), .int (nI (cs_n zc 2)), .int (nI (cs_n zc 3)), va_rf (opN (cs_n zc 4) (fun _ => cs_X zc 5 0)), .int 0])), cR7 cA zc, cGaK zc jg 1] := ⟨rfl, rfl, (by first | exact (kF_gaK (z := (va_up (cs_i zc) 2 0, cs_n zc, cs_I zc, cs_L zc, cs_N zc, cs_S zc, cs_X zc)) hjg hk) | (rw [(kF_gaK (z := (va_up (cs_i zc) 2 0, cs_n zc, cs_I zc, cs_L zc, cs_N zc, cs_S zc, cs_X zc)) hjg hk)]; simp [cGa, va_up, upd])), trivial⟩
          have hout : ∀ i j, (i, j) ∉ ([(0, 0), (0, 7), (2, jg)] : List (Nat × Nat)) → cF cA (va_up (cs_i zc) 2 0, cs_n zc, cs_I zc, cs_L zc, cs_N zc, cs_S zc, cs_X zc) i j = none ∨ ((i, j) ∉ ([(0, 0), (0, 7), (2, jg)] : List (Nat × Nat)) ∧ cF cA (va_up (cs_i zc) 2 0, cs_n zc, cs_I zc, cs_L zc, cs_N zc, cs_S zc, cs_X zc) i j = cF cA zc i j) := by
            intro i j hij
            refine Or.inr ⟨hij, ?_⟩
            rcases i with _ | _ | _ | _ | _ | _ | _ | _ | i
            · rcases j with _ | _ | _ | _ | _ | _ | _ | _ | _ | _ | _ | _ | j <;> first | rfl | exact absurd (by simp) hij
            · rfl
            · rfl
            · rfl
            · rfl
            · rfl
            · rfl
            · rfl
            · rfl
          exact W.iret (v := 1) hx hb hr (fun t ht hW => have hJ := kjoin hPk hDk hks rfl (hS.F ht) (by rw [ht]; exact hP9) hD9 hks9 hout; ⟨⟨1, (va_up (cs_i zc) 2 0, cs_n zc, cs_I zc, cs_L zc, cs_N zc, cs_S zc, cs_X zc), rfl, ⟨hI, (Or.inr (Or.inr (Or.inl ⟨jg, rfl, hjg, hk, c4, c6, rfl, rfl⟩)))⟩, hJ.1, va_K.moved hW.alike hKk, hJ.2.1⟩, hJ.2.2⟩) (fun q h => kAll_A hks _ (hS.2.2 q h)) dX10_as_46
      · skip
        have c4 := (fa_bool_prop hr3).1.mp c4
        refine lv_bipush (v := (-2)) hx hb dX10_as_26 (by decide) ?_
        subst hQ
        have hP9 : va_P (dC, dI) vwCl [(cs_X zc 0 0, .inr (10, [.ref (cs_X zc 0 1), .ref (cs_X zc 0 6), .ref (cs_X zc 0 7), .ref (cs_X zc 0 8), .ref (cs_X zc 0 9), .ref (cs_X zc 0 10), .ref (cs_X zc 0 11), .int (nI (cs_n zc 0)), .int (nI (cs_n zc 1)), .int (nI (cs_n zc 2)), .int (nI (cs_n zc 3)), va_rf (opN (cs_n zc 4) (fun _ => cs_X zc 5 0)), .int 0])), cR7 cA zc, cGaK zc jg 1] H := hP.sub [0, 1, 2] rfl
        have hD9 : va_D (va_A [cTP zc, cR7 cA zc, cGaK zc jg 1] s.heap.size) [(cs_X zc 0 0, .inr (10, [.ref (cs_X zc 0 1), .ref (cs_X zc 0 6), .ref (cs_X zc 0 7), .ref (cs_X zc 0 8), .ref (cs_X zc 0 9), .ref (cs_X zc 0 10), .ref (cs_X zc 0 11), .int (nI (cs_n zc 0)), .int (nI (cs_n zc 1)), .int (nI (cs_n zc 2)), .int (nI (cs_n zc 3)), va_rf (opN (cs_n zc 4) (fun _ => cs_X zc 5 0)), .int 0])), cR7 cA zc, cGaK zc jg 1] := hD.sub [0, 1, 2] (by decide) rfl
        have hks9 : kAll (cF cA (va_up (cs_i zc) 2 0, cs_n zc, cs_I zc, cs_L zc, cs_N zc, cs_S zc, cs_X zc)) [(0, 0), (0, 7), (2, jg)] [(cs_X zc 0 0, .inr (10, [.ref (cs_X zc 0 1), .ref (cs_X zc 0 6), .ref (cs_X zc 0 7), .ref (cs_X zc 0 8), .ref (cs_X zc 0 9), .ref (cs_X zc 0 10), .ref (cs_X zc 0 11), .int (nI (cs_n zc 0)), .int (nI (cs_n zc 1)), .int (nI (cs_n zc 2)), .int (nI (cs_n zc 3)), va_rf (opN (cs_n zc 4) (fun _ => cs_X zc 5 0)), .int 0])), cR7 cA zc, cGaK zc jg 1] := ⟨rfl, rfl, (by first | exact (kF_gaK (z := (va_up (cs_i zc) 2 0, cs_n zc, cs_I zc, cs_L zc, cs_N zc, cs_S zc, cs_X zc)) hjg hk) | (rw [(kF_gaK (z := (va_up (cs_i zc) 2 0, cs_n zc, cs_I zc, cs_L zc, cs_N zc, cs_S zc, cs_X zc)) hjg hk)]; simp [cGa, va_up, upd])), trivial⟩
        have hout : ∀ i j, (i, j) ∉ ([(0, 0), (0, 7), (2, jg)] : List (Nat × Nat)) → cF cA (va_up (cs_i zc) 2 0, cs_n zc, cs_I zc, cs_L zc, cs_N zc, cs_S zc, cs_X zc) i j = none ∨ ((i, j) ∉ ([(0, 0), (0, 7), (2, jg)] : List (Nat × Nat)) ∧ cF cA (va_up (cs_i zc) 2 0, cs_n zc, cs_I zc, cs_L zc, cs_N zc, cs_S zc, cs_X zc) i j = cF cA zc i j) := by
          intro i j hij
          refine Or.inr ⟨hij, ?_⟩
          rcases i with _ | _ | _ | _ | _ | _ | _ | _ | i
          · rcases j with _ | _ | _ | _ | _ | _ | _ | _ | _ | _ | _ | _ | j <;> first | rfl | exact absurd (by simp) hij
          · rfl
          · rfl
          · rfl
          · rfl
          · rfl
          · rfl
          · rfl
          · rfl
        exact W.iret (v := (-2)) hx hb hr (fun t ht hW => have hJ := kjoin hPk hDk hks rfl (hS.F ht) (by rw [ht]; exact hP9) hD9 hks9 hout; ⟨⟨(-2), (va_up (cs_i zc) 2 0, cs_n zc, cs_I zc, cs_L zc, cs_N zc, cs_S zc, cs_X zc), rfl, ⟨hI, (Or.inr (Or.inr (Or.inr (Or.inl ⟨jg, rfl, hjg, hk, c4, rfl, rfl⟩))))⟩, hJ.1, va_K.moved hW.alike hKk, hJ.2.1⟩, hJ.2.2⟩) (fun q h => kAll_A hks _ (hS.2.2 q h)) dX10_as_28
    · skip
      have hks : kAll (cF cA zc) [(0, 0), (0, 7), (2, jg)] [cTP zc, cR7 cA zc, cGaK zc jg 2] := ⟨rfl, rfl, (kF_gaK (z := zc) hjg hk), trivial⟩
      have hP : va_P (dC, dI) vwCl [cTP zc, cR7 cA zc, cGaK zc jg 2] s.heap := kAll_P hPk hks
      have hD : va_D (va_A [cTP zc, cR7 cA zc, cGaK zc jg 2] s.heap.size) [cTP zc, cR7 cA zc, cGaK zc jg 2] := (kAll_D hDk hks (by simp)).self
      have hA : ∀ q : Nat, s.heap.size ≤ q → va_A [cTP zc, cR7 cA zc, cGaK zc jg 2] s.heap.size q := fun q h => Or.inr h
      have hS : va_S (va_A [cTP zc, cR7 cA zc, cGaK zc jg 2] s.heap.size) s.heap s.heap [] := va_S.rf
      refine lv_aload_n hx hb dX10_as_0 rfl (lv_at hl 0 rfl) ?_
      refine lv_iconst (v := 0) hx hb dX10_as_1 (by decide) ?_
      refine va_put (D := (dC, dI)) (ci := 10) (v := .int 0) (ty := .int) (C := RX10) (T := TX10) (N := 13) hx hb hts hiX10 tyX10 tyX10_ok nmX10 hown hK hP hD hS 0 rfl rfl 12 (by decide) (hts (.fieldLink RX10 56 "TributePitches" "latestFault" "I") (by decide +kernel)) (fun _ h9 => h9) rfl (by decide +kernel) rfl rfl (Nat.le_of_ble_eq_true rfl) dX10_as_2 (fun H locs hP hD hS => ?_)
      have hP : va_P (dC, dI) vwCl [(cs_X zc 0 0, .inr (10, [.ref (cs_X zc 0 1), .ref (cs_X zc 0 6), .ref (cs_X zc 0 7), .ref (cs_X zc 0 8), .ref (cs_X zc 0 9), .ref (cs_X zc 0 10), .ref (cs_X zc 0 11), .int (nI (cs_n zc 0)), .int (nI (cs_n zc 1)), .int (nI (cs_n zc 2)), .int (nI (cs_n zc 3)), va_rf (opN (cs_n zc 4) (fun _ => cs_X zc 5 0)), .int 0])), cR7 cA zc, cGaK zc jg 2] H := hP
      have hD : va_D _ [(cs_X zc 0 0, .inr (10, [.ref (cs_X zc 0 1), .ref (cs_X zc 0 6), .ref (cs_X zc 0 7), .ref (cs_X zc 0 8), .ref (cs_X zc 0 9), .ref (cs_X zc 0 10), .ref (cs_X zc 0 11), .int (nI (cs_n zc 0)), .int (nI (cs_n zc 1)), .int (nI (cs_n zc 2)), .int (nI (cs_n zc 3)), va_rf (opN (cs_n zc 4) (fun _ => cs_X zc 5 0)), .int 0])), cR7 cA zc, cGaK zc jg 2] := hD
      refine lv_aload_n hx hb dX10_as_5 rfl (lv_at hl 0 rfl) ?_
      refine lv_iload_n hx hb dX10_as_6 rfl (lv_at hl 1 rfl) ?_
      have hPc := hP.sub (ws' := [(cs_X zc 0 0, .inr (10, [.ref (cs_X zc 0 1), .ref (cs_X zc 0 6), .ref (cs_X zc 0 7), .ref (cs_X zc 0 8), .ref (cs_X zc 0 9), .ref (cs_X zc 0 10), .ref (cs_X zc 0 11), .int (nI (cs_n zc 0)), .int (nI (cs_n zc 1)), .int (nI (cs_n zc 2)), .int (nI (cs_n zc 3)), va_rf (opN (cs_n zc 4) (fun _ => cs_X zc 5 0)), .int 0])), cR7 cA zc]) [0, 1] rfl
      have hDc := hD.sub (ws' := [(cs_X zc 0 0, .inr (10, [.ref (cs_X zc 0 1), .ref (cs_X zc 0 6), .ref (cs_X zc 0 7), .ref (cs_X zc 0 8), .ref (cs_X zc 0 9), .ref (cs_X zc 0 10), .ref (cs_X zc 0 11), .int (nI (cs_n zc 0)), .int (nI (cs_n zc 1)), .int (nI (cs_n zc 2)), .int (nI (cs_n zc 3)), va_rf (opN (cs_n zc 4) (fun _ => cs_X zc 5 0)), .int 0])), cR7 cA zc]) [0, 1] (by decide) rfl
      have hKc := hK.sub (tys' := [(cA 2, .object RX2)]) [2] rfl
      refine va_csq (va_Run.run (va_runV (As := [.int (nI jg)]) (rest := []) ⟨hx, hb, hml, hown, hts⟩ (s_gangAt_yes l dC dI (cA 2) _ (cs_X zc 0 0) (.ref (cs_X zc 0 1)) (.ref (cs_X zc 0 6)) (.ref (cs_X zc 0 8)) (.ref (cs_X zc 0 9)) (.ref (cs_X zc 0 10)) (.ref (cs_X zc 0 11)) (.int (nI (cs_n zc 0))) (.int (nI (cs_n zc 2))) (.int (nI (cs_n zc 3))) (va_rf (opN (cs_n zc 4) (fun _ => cs_X zc 5 0))) (.int 0) (cs_X zc 0 7) jg (cs_n zc 1) (cs_X zc 2 jg) (rfN (cs_n zc 1) (cs_X zc 2)) hjg (by omega) (rfN_at hjg)) (cwV 1 hts gX10_as_X10_gangAt rfl rfl rfl (by decide +kernel) ⟨Nat.le_of_ble_eq_true rfl, Nat.le_of_ble_eq_true rfl⟩) (pw_preV (va_recv hKc hPc (ci := 10) (q0 := 0) rfl rfl) hPc hKc hDc hN) rfl rfl hl.1 rfl (lv_room (Nat.le_of_ble_eq_true rfl)) dX10_as_7 ⟨Nat.le_of_ble_eq_true rfl, Nat.le_of_ble_eq_true rfl⟩)) (fun r8 hr8 => ?_)
      have hr8 : r8 = some cs_X zc 2 jg := hr8
      subst hr8
      refine W.eq (g2 := F0 m 10 ls [.ref (cs_X zc 2 jg)]) rfl ?_
      refine lv_astore_n (lv' := [(3, .ref (cs_X zc 2 jg)), (0, .ref (cs_X zc 0 0)), (1, .int (nI jg)), (2, .int k)]) hx hb dX10_as_10 rfl hl (by decide) rfl (fun ls hl => ?_)
      refine lv_aload_n hx hb dX10_as_11 rfl (lv_at hl 0 rfl) ?_
      refine lv_ifnonnull (tgt := 17) hx hb dX10_as_12 (by decide) ?_
      refine lv_iload_n hx hb dX10_as_17 rfl (lv_at hl 3 rfl) ?_
      refine lv_iconst (v := 0) hx hb dX10_as_18 (by decide) ?_
      refine lv_iconst (v := 2) hx hb dX10_as_19 (by decide) ?_
      refine vp_callSi (va_Run.run (va_runS (As := [.int k, .int 0, .int 2]) (rest := []) ⟨hx, hb, hml, hown, hts⟩ (c_X10_isWithin l k 0 2 ) (va_cwS 3 hts gX10_as_X10_isWithin rfl rfl rfl (by decide +kernel) ⟨Nat.le_of_ble_eq_true rfl, Nat.le_of_ble_eq_true rfl⟩) (p0_preS hN) rfl rfl hl.1 rfl (lv_room (Nat.le_of_ble_eq_true rfl)) dX10_as_20 ⟨Nat.le_of_ble_eq_true rfl, Nat.le_of_ble_eq_true rfl⟩)) (fun r9 hr9 => ?_)
      have hr9 : r9 = if 0 ≤ k ∧ k ≤ 2 then 1 else 0 := hr9
      refine lv_if_ne (tgt := 29) hx hb dX10_as_23 (by decide) (fun c10 => ?_) (fun c10 => ?_)
      · skip
        have c10 := (fa_bool_prop hr9).2.mp c10
        refine lv_aload_n hx hb dX10_as_29 rfl (lv_at hl 0 rfl) ?_
        refine lv_iload_n hx hb dX10_as_30 rfl (lv_at hl 3 rfl) ?_
        have hPc := hP.sub (ws' := [cGaK zc jg 2]) [2] rfl
        have hDc := hD.sub (ws' := [cGaK zc jg 2]) [2] (by decide) rfl
        have hKc := hK.sub (tys' := []) [] rfl
        refine vp_callSi (va_Run.run (va_runS (As := [.ref (cs_X zc 2 jg), .int k]) (rest := []) ⟨hx, hb, hml, hown, hts⟩ (s_isOfKind_2 l dC dI  _ (cs_X zc 2 jg) (nI jg) (cs_I zc 21 jg) (cs_I zc 22 jg) (cs_L zc 0 jg) k ) (va_cwS 2 hts gX10_as_X10_isOfKind rfl rfl rfl (by decide +kernel) ⟨Nat.le_of_ble_eq_true rfl, Nat.le_of_ble_eq_true rfl⟩) (pw_preS hPc hKc hDc hN) rfl rfl hl.1 rfl (lv_room (Nat.le_of_ble_eq_true rfl)) dX10_as_31 ⟨Nat.le_of_ble_eq_true rfl, Nat.le_of_ble_eq_true rfl⟩)) (fun r11 hr11 => ?_)
        have hr11 : r11 = if ¬ (k = 2 ∨ k = 1) then 1 else 0 := hr11
        refine lv_if_eq (tgt := 41) hx hb dX10_as_34 (by decide) (fun c12 => ?_) (fun c12 => ?_)
        · skip
          have c12 := (fa_bool_prop hr11).1.mp c12
          have c12 := Decidable.not_not.mp c12
          refine lv_aload_n hx hb dX10_as_41 rfl (lv_at hl 1 rfl) ?_
          refine lv_iconst (v := 2) hx hb dX10_as_42 (by decide) ?_
          have hPc := hP.sub (ws' := [(cs_X zc 0 0, .inr (10, [.ref (cs_X zc 0 1), .ref (cs_X zc 0 6), .ref (cs_X zc 0 7), .ref (cs_X zc 0 8), .ref (cs_X zc 0 9), .ref (cs_X zc 0 10), .ref (cs_X zc 0 11), .int (nI (cs_n zc 0)), .int (nI (cs_n zc 1)), .int (nI (cs_n zc 2)), .int (nI (cs_n zc 3)), va_rf (opN (cs_n zc 4) (fun _ => cs_X zc 5 0)), .int 0]))]) [0] rfl
          have hDc := hD.sub (ws' := [(cs_X zc 0 0, .inr (10, [.ref (cs_X zc 0 1), .ref (cs_X zc 0 6), .ref (cs_X zc 0 7), .ref (cs_X zc 0 8), .ref (cs_X zc 0 9), .ref (cs_X zc 0 10), .ref (cs_X zc 0 11), .int (nI (cs_n zc 0)), .int (nI (cs_n zc 1)), .int (nI (cs_n zc 2)), .int (nI (cs_n zc 3)), va_rf (opN (cs_n zc 4) (fun _ => cs_X zc 5 0)), .int 0]))]) [0] (by decide) rfl
          have hKc := hK.sub (tys' := []) [] rfl
          have hFc := va_free (wc := [(cs_X zc 0 0, .inr (10, [.ref (cs_X zc 0 1), .ref (cs_X zc 0 6), .ref (cs_X zc 0 7), .ref (cs_X zc 0 8), .ref (cs_X zc 0 9), .ref (cs_X zc 0 10), .ref (cs_X zc 0 11), .int (nI (cs_n zc 0)), .int (nI (cs_n zc 1)), .int (nI (cs_n zc 2)), .int (nI (cs_n zc 3)), va_rf (opN (cs_n zc 4) (fun _ => cs_X zc 5 0)), .int 0]))]) hD hS hA [0] rfl
          refine va_calli (va_runV (As := [.int 2]) (rest := []) ⟨hx, hb, hml, hown, hts⟩ (c_X10_faulted l dC dI  _ (cs_X zc 0 0) (.ref (cs_X zc 0 1)) (.ref (cs_X zc 0 6)) (.ref (cs_X zc 0 7)) (.ref (cs_X zc 0 8)) (.ref (cs_X zc 0 9)) (.ref (cs_X zc 0 10)) (.ref (cs_X zc 0 11)) (.int (nI (cs_n zc 0))) (.int (nI (cs_n zc 1))) (.int (nI (cs_n zc 2))) (.int (nI (cs_n zc 3))) (va_rf (opN (cs_n zc 4) (fun _ => cs_X zc 5 0))) (.int 0) 2 ) (cwV 1 hts gX10_as_X10_faulted rfl rfl rfl (by decide +kernel) ⟨Nat.le_of_ble_eq_true rfl, Nat.le_of_ble_eq_true rfl⟩) (pw_preV (va_recv hKc hPc (ci := 10) (q0 := 0) rfl rfl) hPc hKc hDc hN) rfl rfl hl.1 rfl (lv_room (Nat.le_of_ble_eq_true rfl)) dX10_as_43 ⟨Nat.le_of_ble_eq_true rfl, Nat.le_of_ble_eq_true rfl⟩) hS (fun q _ h => hFc q h) hFc (fun r13 u t H1 locs ht hvm hw hB hz1 hk1 hS => ?_)
          have hr13 : r13 = -10 - 2 := hw
          obtain ⟨hP1, hK1, hD1⟩ := hB
          rw [ht] at hP1
          obtain ⟨hP, hD⟩ := va_join (wr := [cR7 cA zc, cGaK zc jg 2]) (w1 := [(cs_X zc 0 0, .inr (10, [.ref (cs_X zc 0 1), .ref (cs_X zc 0 6), .ref (cs_X zc 0 7), .ref (cs_X zc 0 8), .ref (cs_X zc 0 9), .ref (cs_X zc 0 10), .ref (cs_X zc 0 11), .int (nI (cs_n zc 0)), .int (nI (cs_n zc 1)), .int (nI (cs_n zc 2)), .int (nI (cs_n zc 3)), va_rf (opN (cs_n zc 4) (fun _ => cs_X zc 5 0)), .int 2]))]) hP hD [0] [1, 2] rfl rfl (by decide) (by decide) hk1 hFc hP1 hD1
          generalize H1 = H at hP hS ⊢
          have hP : va_P (dC, dI) vwCl [cR7 cA zc, cGaK zc jg 2, (cs_X zc 0 0, .inr (10, [.ref (cs_X zc 0 1), .ref (cs_X zc 0 6), .ref (cs_X zc 0 7), .ref (cs_X zc 0 8), .ref (cs_X zc 0 9), .ref (cs_X zc 0 10), .ref (cs_X zc 0 11), .int (nI (cs_n zc 0)), .int (nI (cs_n zc 1)), .int (nI (cs_n zc 2)), .int (nI (cs_n zc 3)), va_rf (opN (cs_n zc 4) (fun _ => cs_X zc 5 0)), .int 2]))] H := hP
          have hD : va_D _ [cR7 cA zc, cGaK zc jg 2, (cs_X zc 0 0, .inr (10, [.ref (cs_X zc 0 1), .ref (cs_X zc 0 6), .ref (cs_X zc 0 7), .ref (cs_X zc 0 8), .ref (cs_X zc 0 9), .ref (cs_X zc 0 10), .ref (cs_X zc 0 11), .int (nI (cs_n zc 0)), .int (nI (cs_n zc 1)), .int (nI (cs_n zc 2)), .int (nI (cs_n zc 3)), va_rf (opN (cs_n zc 4) (fun _ => cs_X zc 5 0)), .int 2]))] := hD
          have hr13 := hr13.symm
          subst hr13
          refine W.eq (g2 := F0 m 46 ls [.int (-10 - 2)]) rfl ?_
          subst hQ
          have hP9 : va_P (dC, dI) vwCl [(cs_X zc 0 0, .inr (10, [.ref (cs_X zc 0 1), .ref (cs_X zc 0 6), .ref (cs_X zc 0 7), .ref (cs_X zc 0 8), .ref (cs_X zc 0 9), .ref (cs_X zc 0 10), .ref (cs_X zc 0 11), .int (nI (cs_n zc 0)), .int (nI (cs_n zc 1)), .int (nI (cs_n zc 2)), .int (nI (cs_n zc 3)), va_rf (opN (cs_n zc 4) (fun _ => cs_X zc 5 0)), .int 2])), cR7 cA zc, cGaK zc jg 2] H := hP.sub [2, 0, 1] rfl
          have hD9 : va_D (va_A [cTP zc, cR7 cA zc, cGaK zc jg 2] s.heap.size) [(cs_X zc 0 0, .inr (10, [.ref (cs_X zc 0 1), .ref (cs_X zc 0 6), .ref (cs_X zc 0 7), .ref (cs_X zc 0 8), .ref (cs_X zc 0 9), .ref (cs_X zc 0 10), .ref (cs_X zc 0 11), .int (nI (cs_n zc 0)), .int (nI (cs_n zc 1)), .int (nI (cs_n zc 2)), .int (nI (cs_n zc 3)), va_rf (opN (cs_n zc 4) (fun _ => cs_X zc 5 0)), .int 2])), cR7 cA zc, cGaK zc jg 2] := hD.sub [2, 0, 1] (by decide) rfl
          have hks9 : kAll (cF cA (va_up (cs_i zc) 2 2, cs_n zc, cs_I zc, cs_L zc, cs_N zc, cs_S zc, cs_X zc)) [(0, 0), (0, 7), (2, jg)] [(cs_X zc 0 0, .inr (10, [.ref (cs_X zc 0 1), .ref (cs_X zc 0 6), .ref (cs_X zc 0 7), .ref (cs_X zc 0 8), .ref (cs_X zc 0 9), .ref (cs_X zc 0 10), .ref (cs_X zc 0 11), .int (nI (cs_n zc 0)), .int (nI (cs_n zc 1)), .int (nI (cs_n zc 2)), .int (nI (cs_n zc 3)), va_rf (opN (cs_n zc 4) (fun _ => cs_X zc 5 0)), .int 2])), cR7 cA zc, cGaK zc jg 2] := ⟨rfl, rfl, (by first | exact (kF_gaK (z := (va_up (cs_i zc) 2 2, cs_n zc, cs_I zc, cs_L zc, cs_N zc, cs_S zc, cs_X zc)) hjg hk) | (rw [(kF_gaK (z := (va_up (cs_i zc) 2 2, cs_n zc, cs_I zc, cs_L zc, cs_N zc, cs_S zc, cs_X zc)) hjg hk)]; simp [cGa, va_up, upd])), trivial⟩
          have hout : ∀ i j, (i, j) ∉ ([(0, 0), (0, 7), (2, jg)] : List (Nat × Nat)) → cF cA (va_up (cs_i zc) 2 2, cs_n zc, cs_I zc, cs_L zc, cs_N zc, cs_S zc, cs_X zc) i j = none ∨ ((i, j) ∉ ([(0, 0), (0, 7), (2, jg)] : List (Nat × Nat)) ∧ cF cA (va_up (cs_i zc) 2 2, cs_n zc, cs_I zc, cs_L zc, cs_N zc, cs_S zc, cs_X zc) i j = cF cA zc i j) := by
            intro i j hij
            refine Or.inr ⟨hij, ?_⟩
            rcases i with _ | _ | _ | _ | _ | _ | _ | _ | i
            · rcases j with _ | _ | _ | _ | _ | _ | _ | _ | _ | _ | _ | _ | j <;> first | rfl | exact absurd (by simp) hij
            · rfl
            · rfl
            · rfl
            · rfl
            · rfl
            · rfl
            · rfl
            · rfl
          exact W.iret (v := -10 - 2) hx hb hr (fun t ht hW => have hJ := kjoin hPk hDk hks rfl (hS.F ht) (by rw [ht]; exact hP9) hD9 hks9 hout; ⟨⟨-10 - 2, (va_up (cs_i zc) 2 2, cs_n zc, cs_I zc, cs_L zc, cs_N zc, cs_S zc, cs_X zc), rfl, ⟨hI, (Or.inr (Or.inr (Or.inr (Or.inr (Or.inl ⟨jg, rfl, hjg, hk, c10, c12, rfl, rfl⟩)))))⟩, hJ.1, va_K.moved hW.alike hKk, hJ.2.1⟩, hJ.2.2⟩) (fun q h => kAll_A hks _ (hS.2.2 q h)) dX10_as_46
        · skip
          have c12 := (fa_bool_prop hr11).2.mp c12
          refine lv_iconst (v := 1) hx hb dX10_as_37 (by decide) ?_
          refine lv_goto (tgt := 46) hx hb dX10_as_38 (by decide) ?_
          subst hQ
          have hP9 : va_P (dC, dI) vwCl [(cs_X zc 0 0, .inr (10, [.ref (cs_X zc 0 1), .ref (cs_X zc 0 6), .ref (cs_X zc 0 7), .ref (cs_X zc 0 8), .ref (cs_X zc 0 9), .ref (cs_X zc 0 10), .ref (cs_X zc 0 11), .int (nI (cs_n zc 0)), .int (nI (cs_n zc 1)), .int (nI (cs_n zc 2)), .int (nI (cs_n zc 3)), va_rf (opN (cs_n zc 4) (fun _ => cs_X zc 5 0)), .int 0])), cR7 cA zc, cGaK zc jg 2] H := hP.sub [0, 1, 2] rfl
          have hD9 : va_D (va_A [cTP zc, cR7 cA zc, cGaK zc jg 2] s.heap.size) [(cs_X zc 0 0, .inr (10, [.ref (cs_X zc 0 1), .ref (cs_X zc 0 6), .ref (cs_X zc 0 7), .ref (cs_X zc 0 8), .ref (cs_X zc 0 9), .ref (cs_X zc 0 10), .ref (cs_X zc 0 11), .int (nI (cs_n zc 0)), .int (nI (cs_n zc 1)), .int (nI (cs_n zc 2)), .int (nI (cs_n zc 3)), va_rf (opN (cs_n zc 4) (fun _ => cs_X zc 5 0)), .int 0])), cR7 cA zc, cGaK zc jg 2] := hD.sub [0, 1, 2] (by decide) rfl
          have hks9 : kAll (cF cA (va_up (cs_i zc) 2 0, cs_n zc, cs_I zc, cs_L zc, cs_N zc, cs_S zc, cs_X zc)) [(0, 0), (0, 7), (2, jg)] [(cs_X zc 0 0, .inr (10, [.ref (cs_X zc 0 1), .ref (cs_X zc 0 6), .ref (cs_X zc 0 7), .ref (cs_X zc 0 8), .ref (cs_X zc 0 9), .ref (cs_X zc 0 10), .ref (cs_X zc 0 11), .int (nI (cs_n zc 0)), .int (nI (cs_n zc 1)), .int (nI (cs_n zc 2)), .int (nI (cs_n zc 3)), va_rf (opN (cs_n zc 4) (fun _ => cs_X zc 5 0)), .int 0])), cR7 cA zc, cGaK zc jg 2] := ⟨rfl, rfl, (by first | exact (kF_gaK (z := (va_up (cs_i zc) 2 0, cs_n zc, cs_I zc, cs_L zc, cs_N zc, cs_S zc, cs_X zc)) hjg hk) | (rw [(kF_gaK (z := (va_up (cs_i zc) 2 0, cs_n zc, cs_I zc, cs_L zc, cs_N zc, cs_S zc, cs_X zc)) hjg hk)]; simp [cGa, va_up, upd])), trivial⟩
          have hout : ∀ i j, (i, j) ∉ ([(0, 0), (0, 7), (2, jg)] : List (Nat × Nat)) → cF cA (va_up (cs_i zc) 2 0, cs_n zc, cs_I zc, cs_L zc, cs_N zc, cs_S zc, cs_X zc) i j = none ∨ ((i, j) ∉ ([(0, 0), (0, 7), (2, jg)] : List (Nat × Nat)) ∧ cF cA (va_up (cs_i zc) 2 0, cs_n zc, cs_I zc, cs_L zc, cs_N zc, cs_S zc, cs_X zc) i j = cF cA zc i j) := by
            intro i j hij
            refine Or.inr ⟨hij, ?_⟩
            rcases i with _ | _ | _ | _ | _ | _ | _ | _ | i
            · rcases j with _ | _ | _ | _ | _ | _ | _ | _ | _ | _ | _ | _ | j <;> first | rfl | exact absurd (by simp) hij
            · rfl
            · rfl
            · rfl
            · rfl
            · rfl
            · rfl
            · rfl
            · rfl
          exact W.iret (v := 1) hx hb hr (fun t ht hW => have hJ := kjoin hPk hDk hks rfl (hS.F ht) (by rw [ht]; exact hP9) hD9 hks9 hout; ⟨⟨1, (va_up (cs_i zc) 2 0, cs_n zc, cs_I zc, cs_L zc, cs_N zc, cs_S zc, cs_X zc), rfl, ⟨hI, (Or.inr (Or.inr (Or.inr (Or.inr (Or.inr (Or.inl ⟨jg, rfl, hjg, hk, c10, c12, rfl, rfl⟩))))))⟩, hJ.1, va_K.moved hW.alike hKk, hJ.2.1⟩, hJ.2.2⟩) (fun q h => kAll_A hks _ (hS.2.2 q h)) dX10_as_46
      · skip
        have c10 := (fa_bool_prop hr9).1.mp c10
        refine lv_bipush (v := (-2)) hx hb dX10_as_26 (by decide) ?_
        subst hQ
        have hP9 : va_P (dC, dI) vwCl [(cs_X zc 0 0, .inr (10, [.ref (cs_X zc 0 1), .ref (cs_X zc 0 6), .ref (cs_X zc 0 7), .ref (cs_X zc 0 8), .ref (cs_X zc 0 9), .ref (cs_X zc 0 10), .ref (cs_X zc 0 11), .int (nI (cs_n zc 0)), .int (nI (cs_n zc 1)), .int (nI (cs_n zc 2)), .int (nI (cs_n zc 3)), va_rf (opN (cs_n zc 4) (fun _ => cs_X zc 5 0)), .int 0])), cR7 cA zc, cGaK zc jg 2] H := hP.sub [0, 1, 2] rfl
        have hD9 : va_D (va_A [cTP zc, cR7 cA zc, cGaK zc jg 2] s.heap.size) [(cs_X zc 0 0, .inr (10, [.ref (cs_X zc 0 1), .ref (cs_X zc 0 6), .ref (cs_X zc 0 7), .ref (cs_X zc 0 8), .ref (cs_X zc 0 9), .ref (cs_X zc 0 10), .ref (cs_X zc 0 11), .int (nI (cs_n zc 0)), .int (nI (cs_n zc 1)), .int (nI (cs_n zc 2)), .int (nI (cs_n zc 3)), va_rf (opN (cs_n zc 4) (fun _ => cs_X zc 5 0)), .int 0])), cR7 cA zc, cGaK zc jg 2] := hD.sub [0, 1, 2] (by decide) rfl
        have hks9 : kAll (cF cA (va_up (cs_i zc) 2 0, cs_n zc, cs_I zc, cs_L zc, cs_N zc, cs_S zc, cs_X zc)) [(0, 0), (0, 7), (2, jg)] [(cs_X zc 0 0, .inr (10, [.ref (cs_X zc 0 1), .ref (cs_X zc 0 6), .ref (cs_X zc 0 7), .ref (cs_X zc 0 8), .ref (cs_X zc 0 9), .ref (cs_X zc 0 10), .ref (cs_X zc 0 11), .int (nI (cs_n zc 0)), .int (nI (cs_n zc 1)), .int (nI (cs_n zc 2)), .int (nI (cs_n zc 3)), va_rf (opN (cs_n zc 4) (fun _ => cs_X zc 5 0)), .int 0])), cR7 cA zc, cGaK zc jg 2] := ⟨rfl, rfl, (by first | exact (kF_gaK (z := (va_up (cs_i zc) 2 0, cs_n zc, cs_I zc, cs_L zc, cs_N zc, cs_S zc, cs_X zc)) hjg hk) | (rw [(kF_gaK (z := (va_up (cs_i zc) 2 0, cs_n zc, cs_I zc, cs_L zc, cs_N zc, cs_S zc, cs_X zc)) hjg hk)]; simp [cGa, va_up, upd])), trivial⟩
        have hout : ∀ i j, (i, j) ∉ ([(0, 0), (0, 7), (2, jg)] : List (Nat × Nat)) → cF cA (va_up (cs_i zc) 2 0, cs_n zc, cs_I zc, cs_L zc, cs_N zc, cs_S zc, cs_X zc) i j = none ∨ ((i, j) ∉ ([(0, 0), (0, 7), (2, jg)] : List (Nat × Nat)) ∧ cF cA (va_up (cs_i zc) 2 0, cs_n zc, cs_I zc, cs_L zc, cs_N zc, cs_S zc, cs_X zc) i j = cF cA zc i j) := by
          intro i j hij
          refine Or.inr ⟨hij, ?_⟩
          rcases i with _ | _ | _ | _ | _ | _ | _ | _ | i
          · rcases j with _ | _ | _ | _ | _ | _ | _ | _ | _ | _ | _ | _ | j <;> first | rfl | exact absurd (by simp) hij
          · rfl
          · rfl
          · rfl
          · rfl
          · rfl
          · rfl
          · rfl
          · rfl
        exact W.iret (v := (-2)) hx hb hr (fun t ht hW => have hJ := kjoin hPk hDk hks rfl (hS.F ht) (by rw [ht]; exact hP9) hD9 hks9 hout; ⟨⟨(-2), (va_up (cs_i zc) 2 0, cs_n zc, cs_I zc, cs_L zc, cs_N zc, cs_S zc, cs_X zc), rfl, ⟨hI, (Or.inr (Or.inr (Or.inr (Or.inr (Or.inr (Or.inr (Or.inl ⟨jg, rfl, hjg, hk, c10, rfl, rfl⟩)))))))⟩, hJ.1, va_K.moved hW.alike hKk, hJ.2.1⟩, hJ.2.2⟩) (fun q h => kAll_A hks _ (hS.2.2 q h)) dX10_as_28
    · skip
      have hks : kAll (cF cA zc) [(0, 0), (0, 7), (2, jg)] [cTP zc, cR7 cA zc, cGaK zc jg 4] := ⟨rfl, rfl, (kF_gaK (z := zc) hjg hk), trivial⟩
      have hP : va_P (dC, dI) vwCl [cTP zc, cR7 cA zc, cGaK zc jg 4] s.heap := kAll_P hPk hks
      have hD : va_D (va_A [cTP zc, cR7 cA zc, cGaK zc jg 4] s.heap.size) [cTP zc, cR7 cA zc, cGaK zc jg 4] := (kAll_D hDk hks (by simp)).self
      have hA : ∀ q : Nat, s.heap.size ≤ q → va_A [cTP zc, cR7 cA zc, cGaK zc jg 4] s.heap.size q := fun q h => Or.inr h
      have hS : va_S (va_A [cTP zc, cR7 cA zc, cGaK zc jg 4] s.heap.size) s.heap s.heap [] := va_S.rf
      refine lv_aload_n hx hb dX10_as_0 rfl (lv_at hl 0 rfl) ?_
      refine lv_iconst (v := 0) hx hb dX10_as_1 (by decide) ?_
      refine va_put (D := (dC, dI)) (ci := 10) (v := .int 0) (ty := .int) (C := RX10) (T := TX10) (N := 13) hx hb hts hiX10 tyX10 tyX10_ok nmX10 hown hK hP hD hS 0 rfl rfl 12 (by decide) (hts (.fieldLink RX10 56 "TributePitches" "latestFault" "I") (by decide +kernel)) (fun _ h9 => h9) rfl (by decide +kernel) rfl rfl (Nat.le_of_ble_eq_true rfl) dX10_as_2 (fun H locs hP hD hS => ?_)
      have hP : va_P (dC, dI) vwCl [(cs_X zc 0 0, .inr (10, [.ref (cs_X zc 0 1), .ref (cs_X zc 0 6), .ref (cs_X zc 0 7), .ref (cs_X zc 0 8), .ref (cs_X zc 0 9), .ref (cs_X zc 0 10), .ref (cs_X zc 0 11), .int (nI (cs_n zc 0)), .int (nI (cs_n zc 1)), .int (nI (cs_n zc 2)), .int (nI (cs_n zc 3)), va_rf (opN (cs_n zc 4) (fun _ => cs_X zc 5 0)), .int 0])), cR7 cA zc, cGaK zc jg 4] H := hP
      have hD : va_D _ [(cs_X zc 0 0, .inr (10, [.ref (cs_X zc 0 1), .ref (cs_X zc 0 6), .ref (cs_X zc 0 7), .ref (cs_X zc 0 8), .ref (cs_X zc 0 9), .ref (cs_X zc 0 10), .ref (cs_X zc 0 11), .int (nI (cs_n zc 0)), .int (nI (cs_n zc 1)), .int (nI (cs_n zc 2)), .int (nI (cs_n zc 3)), va_rf (opN (cs_n zc 4) (fun _ => cs_X zc 5 0)), .int 0])), cR7 cA zc, cGaK zc jg 4] := hD
      refine lv_aload_n hx hb dX10_as_5 rfl (lv_at hl 0 rfl) ?_
      refine lv_iload_n hx hb dX10_as_6 rfl (lv_at hl 1 rfl) ?_
      have hPc := hP.sub (ws' := [(cs_X zc 0 0, .inr (10, [.ref (cs_X zc 0 1), .ref (cs_X zc 0 6), .ref (cs_X zc 0 7), .ref (cs_X zc 0 8), .ref (cs_X zc 0 9), .ref (cs_X zc 0 10), .ref (cs_X zc 0 11), .int (nI (cs_n zc 0)), .int (nI (cs_n zc 1)), .int (nI (cs_n zc 2)), .int (nI (cs_n zc 3)), va_rf (opN (cs_n zc 4) (fun _ => cs_X zc 5 0)), .int 0])), cR7 cA zc]) [0, 1] rfl
      have hDc := hD.sub (ws' := [(cs_X zc 0 0, .inr (10, [.ref (cs_X zc 0 1), .ref (cs_X zc 0 6), .ref (cs_X zc 0 7), .ref (cs_X zc 0 8), .ref (cs_X zc 0 9), .ref (cs_X zc 0 10), .ref (cs_X zc 0 11), .int (nI (cs_n zc 0)), .int (nI (cs_n zc 1)), .int (nI (cs_n zc 2)), .int (nI (cs_n zc 3)), va_rf (opN (cs_n zc 4) (fun _ => cs_X zc 5 0)), .int 0])), cR7 cA zc]) [0, 1] (by decide) rfl
      have hKc := hK.sub (tys' := [(cA 2, .object RX2)]) [2] rfl
      refine va_csq (va_Run.run (va_runV (As := [.int (nI jg)]) (rest := []) ⟨hx, hb, hml, hown, hts⟩ (s_gangAt_yes l dC dI (cA 2) _ (cs_X zc 0 0) (.ref (cs_X zc 0 1)) (.ref (cs_X zc 0 6)) (.ref (cs_X zc 0 8)) (.ref (cs_X zc 0 9)) (.ref (cs_X zc 0 10)) (.ref (cs_X zc 0 11)) (.int (nI (cs_n zc 0))) (.int (nI (cs_n zc 2))) (.int (nI (cs_n zc 3))) (va_rf (opN (cs_n zc 4) (fun _ => cs_X zc 5 0))) (.int 0) (cs_X zc 0 7) jg (cs_n zc 1) (cs_X zc 2 jg) (rfN (cs_n zc 1) (cs_X zc 2)) hjg (by omega) (rfN_at hjg)) (cwV 1 hts gX10_as_X10_gangAt rfl rfl rfl (by decide +kernel) ⟨Nat.le_of_ble_eq_true rfl, Nat.le_of_ble_eq_true rfl⟩) (pw_preV (va_recv hKc hPc (ci := 10) (q0 := 0) rfl rfl) hPc hKc hDc hN) rfl rfl hl.1 rfl (lv_room (Nat.le_of_ble_eq_true rfl)) dX10_as_7 ⟨Nat.le_of_ble_eq_true rfl, Nat.le_of_ble_eq_true rfl⟩)) (fun r14 hr14 => ?_)
      have hr14 : r14 = some cs_X zc 2 jg := hr14
      subst hr14
      refine W.eq (g2 := F0 m 10 ls [.ref (cs_X zc 2 jg)]) rfl ?_
      refine lv_astore_n (lv' := [(3, .ref (cs_X zc 2 jg)), (0, .ref (cs_X zc 0 0)), (1, .int (nI jg)), (2, .int k)]) hx hb dX10_as_10 rfl hl (by decide) rfl (fun ls hl => ?_)
      refine lv_aload_n hx hb dX10_as_11 rfl (lv_at hl 0 rfl) ?_
      refine lv_ifnonnull (tgt := 17) hx hb dX10_as_12 (by decide) ?_
      refine lv_iload_n hx hb dX10_as_17 rfl (lv_at hl 3 rfl) ?_
      refine lv_iconst (v := 0) hx hb dX10_as_18 (by decide) ?_
      refine lv_iconst (v := 2) hx hb dX10_as_19 (by decide) ?_
      refine vp_callSi (va_Run.run (va_runS (As := [.int k, .int 0, .int 2]) (rest := []) ⟨hx, hb, hml, hown, hts⟩ (c_X10_isWithin l k 0 2 ) (va_cwS 3 hts gX10_as_X10_isWithin rfl rfl rfl (by decide +kernel) ⟨Nat.le_of_ble_eq_true rfl, Nat.le_of_ble_eq_true rfl⟩) (p0_preS hN) rfl rfl hl.1 rfl (lv_room (Nat.le_of_ble_eq_true rfl)) dX10_as_20 ⟨Nat.le_of_ble_eq_true rfl, Nat.le_of_ble_eq_true rfl⟩)) (fun r15 hr15 => ?_)
      have hr15 : r15 = if 0 ≤ k ∧ k ≤ 2 then 1 else 0 := hr15
      refine lv_if_ne (tgt := 29) hx hb dX10_as_23 (by decide) (fun c16 => ?_) (fun c16 => ?_)
      · skip
        have c16 := (fa_bool_prop hr15).2.mp c16
        refine lv_aload_n hx hb dX10_as_29 rfl (lv_at hl 0 rfl) ?_
        refine lv_iload_n hx hb dX10_as_30 rfl (lv_at hl 3 rfl) ?_
        have hPc := hP.sub (ws' := [cGaK zc jg 4]) [2] rfl
        have hDc := hD.sub (ws' := [cGaK zc jg 4]) [2] (by decide) rfl
        have hKc := hK.sub (tys' := []) [] rfl
        refine vp_callSi (va_Run.run (va_runS (As := [.ref (cs_X zc 2 jg), .int k]) (rest := []) ⟨hx, hb, hml, hown, hts⟩ (s_isOfKind_4 l dC dI  _ (cs_X zc 2 jg) (nI jg) (cs_I zc 21 jg) (cs_I zc 22 jg) (cs_L zc 0 jg) k ) (va_cwS 2 hts gX10_as_X10_isOfKind rfl rfl rfl (by decide +kernel) ⟨Nat.le_of_ble_eq_true rfl, Nat.le_of_ble_eq_true rfl⟩) (pw_preS hPc hKc hDc hN) rfl rfl hl.1 rfl (lv_room (Nat.le_of_ble_eq_true rfl)) dX10_as_31 ⟨Nat.le_of_ble_eq_true rfl, Nat.le_of_ble_eq_true rfl⟩)) (fun r17 hr17 => ?_)
        have hr17 : r17 = if k = k then 1 else 0 := hr17
        refine lv_if_eq (tgt := 41) hx hb dX10_as_34 (by decide) (fun c18 => ?_) (fun c18 => ?_)
        · skip
          have c18 := (fa_bool_prop hr17).1.mp c18
          refine lv_aload_n hx hb dX10_as_41 rfl (lv_at hl 1 rfl) ?_
          refine lv_iconst (v := 2) hx hb dX10_as_42 (by decide) ?_
          have hPc := hP.sub (ws' := [(cs_X zc 0 0, .inr (10, [.ref (cs_X zc 0 1), .ref (cs_X zc 0 6), .ref (cs_X zc 0 7), .ref (cs_X zc 0 8), .ref (cs_X zc 0 9), .ref (cs_X zc 0 10), .ref (cs_X zc 0 11), .int (nI (cs_n zc 0)), .int (nI (cs_n zc 1)), .int (nI (cs_n zc 2)), .int (nI (cs_n zc 3)), va_rf (opN (cs_n zc 4) (fun _ => cs_X zc 5 0)), .int 0]))]) [0] rfl
          have hDc := hD.sub (ws' := [(cs_X zc 0 0, .inr (10, [.ref (cs_X zc 0 1), .ref (cs_X zc 0 6), .ref (cs_X zc 0 7), .ref (cs_X zc 0 8), .ref (cs_X zc 0 9), .ref (cs_X zc 0 10), .ref (cs_X zc 0 11), .int (nI (cs_n zc 0)), .int (nI (cs_n zc 1)), .int (nI (cs_n zc 2)), .int (nI (cs_n zc 3)), va_rf (opN (cs_n zc 4) (fun _ => cs_X zc 5 0)), .int 0]))]) [0] (by decide) rfl
          have hKc := hK.sub (tys' := []) [] rfl
          have hFc := va_free (wc := [(cs_X zc 0 0, .inr (10, [.ref (cs_X zc 0 1), .ref (cs_X zc 0 6), .ref (cs_X zc 0 7), .ref (cs_X zc 0 8), .ref (cs_X zc 0 9), .ref (cs_X zc 0 10), .ref (cs_X zc 0 11), .int (nI (cs_n zc 0)), .int (nI (cs_n zc 1)), .int (nI (cs_n zc 2)), .int (nI (cs_n zc 3)), va_rf (opN (cs_n zc 4) (fun _ => cs_X zc 5 0)), .int 0]))]) hD hS hA [0] rfl
          refine va_calli (va_runV (As := [.int 2]) (rest := []) ⟨hx, hb, hml, hown, hts⟩ (c_X10_faulted l dC dI  _ (cs_X zc 0 0) (.ref (cs_X zc 0 1)) (.ref (cs_X zc 0 6)) (.ref (cs_X zc 0 7)) (.ref (cs_X zc 0 8)) (.ref (cs_X zc 0 9)) (.ref (cs_X zc 0 10)) (.ref (cs_X zc 0 11)) (.int (nI (cs_n zc 0))) (.int (nI (cs_n zc 1))) (.int (nI (cs_n zc 2))) (.int (nI (cs_n zc 3))) (va_rf (opN (cs_n zc 4) (fun _ => cs_X zc 5 0))) (.int 0) 2 ) (cwV 1 hts gX10_as_X10_faulted rfl rfl rfl (by decide +kernel) ⟨Nat.le_of_ble_eq_true rfl, Nat.le_of_ble_eq_true rfl⟩) (pw_preV (va_recv hKc hPc (ci := 10) (q0 := 0) rfl rfl) hPc hKc hDc hN) rfl rfl hl.1 rfl (lv_room (Nat.le_of_ble_eq_true rfl)) dX10_as_43 ⟨Nat.le_of_ble_eq_true rfl, Nat.le_of_ble_eq_true rfl⟩) hS (fun q _ h => hFc q h) hFc (fun r19 u t H1 locs ht hvm hw hB hz1 hk1 hS => ?_)
          have hr19 : r19 = -10 - 2 := hw
          obtain ⟨hP1, hK1, hD1⟩ := hB
          rw [ht] at hP1
          obtain ⟨hP, hD⟩ := va_join (wr := [cR7 cA zc, cGaK zc jg 4]) (w1 := [(cs_X zc 0 0, .inr (10, [.ref (cs_X zc 0 1), .ref (cs_X zc 0 6), .ref (cs_X zc 0 7), .ref (cs_X zc 0 8), .ref (cs_X zc 0 9), .ref (cs_X zc 0 10), .ref (cs_X zc 0 11), .int (nI (cs_n zc 0)), .int (nI (cs_n zc 1)), .int (nI (cs_n zc 2)), .int (nI (cs_n zc 3)), va_rf (opN (cs_n zc 4) (fun _ => cs_X zc 5 0)), .int 2]))]) hP hD [0] [1, 2] rfl rfl (by decide) (by decide) hk1 hFc hP1 hD1
          generalize H1 = H at hP hS ⊢
          have hP : va_P (dC, dI) vwCl [cR7 cA zc, cGaK zc jg 4, (cs_X zc 0 0, .inr (10, [.ref (cs_X zc 0 1), .ref (cs_X zc 0 6), .ref (cs_X zc 0 7), .ref (cs_X zc 0 8), .ref (cs_X zc 0 9), .ref (cs_X zc 0 10), .ref (cs_X zc 0 11), .int (nI (cs_n zc 0)), .int (nI (cs_n zc 1)), .int (nI (cs_n zc 2)), .int (nI (cs_n zc 3)), va_rf (opN (cs_n zc 4) (fun _ => cs_X zc 5 0)), .int 2]))] H := hP
          have hD : va_D _ [cR7 cA zc, cGaK zc jg 4, (cs_X zc 0 0, .inr (10, [.ref (cs_X zc 0 1), .ref (cs_X zc 0 6), .ref (cs_X zc 0 7), .ref (cs_X zc 0 8), .ref (cs_X zc 0 9), .ref (cs_X zc 0 10), .ref (cs_X zc 0 11), .int (nI (cs_n zc 0)), .int (nI (cs_n zc 1)), .int (nI (cs_n zc 2)), .int (nI (cs_n zc 3)), va_rf (opN (cs_n zc 4) (fun _ => cs_X zc 5 0)), .int 2]))] := hD
          have hr19 := hr19.symm
          subst hr19
          refine W.eq (g2 := F0 m 46 ls [.int (-10 - 2)]) rfl ?_
          subst hQ
          have hP9 : va_P (dC, dI) vwCl [(cs_X zc 0 0, .inr (10, [.ref (cs_X zc 0 1), .ref (cs_X zc 0 6), .ref (cs_X zc 0 7), .ref (cs_X zc 0 8), .ref (cs_X zc 0 9), .ref (cs_X zc 0 10), .ref (cs_X zc 0 11), .int (nI (cs_n zc 0)), .int (nI (cs_n zc 1)), .int (nI (cs_n zc 2)), .int (nI (cs_n zc 3)), va_rf (opN (cs_n zc 4) (fun _ => cs_X zc 5 0)), .int 2])), cR7 cA zc, cGaK zc jg 4] H := hP.sub [2, 0, 1] rfl
          have hD9 : va_D (va_A [cTP zc, cR7 cA zc, cGaK zc jg 4] s.heap.size) [(cs_X zc 0 0, .inr (10, [.ref (cs_X zc 0 1), .ref (cs_X zc 0 6), .ref (cs_X zc 0 7), .ref (cs_X zc 0 8), .ref (cs_X zc 0 9), .ref (cs_X zc 0 10), .ref (cs_X zc 0 11), .int (nI (cs_n zc 0)), .int (nI (cs_n zc 1)), .int (nI (cs_n zc 2)), .int (nI (cs_n zc 3)), va_rf (opN (cs_n zc 4) (fun _ => cs_X zc 5 0)), .int 2])), cR7 cA zc, cGaK zc jg 4] := hD.sub [2, 0, 1] (by decide) rfl
          have hks9 : kAll (cF cA (va_up (cs_i zc) 2 2, cs_n zc, cs_I zc, cs_L zc, cs_N zc, cs_S zc, cs_X zc)) [(0, 0), (0, 7), (2, jg)] [(cs_X zc 0 0, .inr (10, [.ref (cs_X zc 0 1), .ref (cs_X zc 0 6), .ref (cs_X zc 0 7), .ref (cs_X zc 0 8), .ref (cs_X zc 0 9), .ref (cs_X zc 0 10), .ref (cs_X zc 0 11), .int (nI (cs_n zc 0)), .int (nI (cs_n zc 1)), .int (nI (cs_n zc 2)), .int (nI (cs_n zc 3)), va_rf (opN (cs_n zc 4) (fun _ => cs_X zc 5 0)), .int 2])), cR7 cA zc, cGaK zc jg 4] := ⟨rfl, rfl, (by first | exact (kF_gaK (z := (va_up (cs_i zc) 2 2, cs_n zc, cs_I zc, cs_L zc, cs_N zc, cs_S zc, cs_X zc)) hjg hk) | (rw [(kF_gaK (z := (va_up (cs_i zc) 2 2, cs_n zc, cs_I zc, cs_L zc, cs_N zc, cs_S zc, cs_X zc)) hjg hk)]; simp [cGa, va_up, upd])), trivial⟩
          have hout : ∀ i j, (i, j) ∉ ([(0, 0), (0, 7), (2, jg)] : List (Nat × Nat)) → cF cA (va_up (cs_i zc) 2 2, cs_n zc, cs_I zc, cs_L zc, cs_N zc, cs_S zc, cs_X zc) i j = none ∨ ((i, j) ∉ ([(0, 0), (0, 7), (2, jg)] : List (Nat × Nat)) ∧ cF cA (va_up (cs_i zc) 2 2, cs_n zc, cs_I zc, cs_L zc, cs_N zc, cs_S zc, cs_X zc) i j = cF cA zc i j) := by
            intro i j hij
            refine Or.inr ⟨hij, ?_⟩
            rcases i with _ | _ | _ | _ | _ | _ | _ | _ | i
            · rcases j with _ | _ | _ | _ | _ | _ | _ | _ | _ | _ | _ | _ | j <;> first | rfl | exact absurd (by simp) hij
            · rfl
            · rfl
            · rfl
            · rfl
            · rfl
            · rfl
            · rfl
            · rfl
          exact W.iret (v := -10 - 2) hx hb hr (fun t ht hW => have hJ := kjoin hPk hDk hks rfl (hS.F ht) (by rw [ht]; exact hP9) hD9 hks9 hout; ⟨⟨-10 - 2, (va_up (cs_i zc) 2 2, cs_n zc, cs_I zc, cs_L zc, cs_N zc, cs_S zc, cs_X zc), rfl, ⟨hI, (Or.inr (Or.inr (Or.inr (Or.inr (Or.inr (Or.inr (Or.inr (Or.inl ⟨jg, rfl, hjg, hk, c16, c18, rfl, rfl⟩))))))))⟩, hJ.1, va_K.moved hW.alike hKk, hJ.2.1⟩, hJ.2.2⟩) (fun q h => kAll_A hks _ (hS.2.2 q h)) dX10_as_46
        · skip
          have c18 := (fa_bool_prop hr17).2.mp c18
          refine lv_iconst (v := 1) hx hb dX10_as_37 (by decide) ?_
          refine lv_goto (tgt := 46) hx hb dX10_as_38 (by decide) ?_
          subst hQ
          have hP9 : va_P (dC, dI) vwCl [(cs_X zc 0 0, .inr (10, [.ref (cs_X zc 0 1), .ref (cs_X zc 0 6), .ref (cs_X zc 0 7), .ref (cs_X zc 0 8), .ref (cs_X zc 0 9), .ref (cs_X zc 0 10), .ref (cs_X zc 0 11), .int (nI (cs_n zc 0)), .int (nI (cs_n zc 1)), .int (nI (cs_n zc 2)), .int (nI (cs_n zc 3)), va_rf (opN (cs_n zc 4) (fun _ => cs_X zc 5 0)), .int 0])), cR7 cA zc, cGaK zc jg 4] H := hP.sub [0, 1, 2] rfl
          have hD9 : va_D (va_A [cTP zc, cR7 cA zc, cGaK zc jg 4] s.heap.size) [(cs_X zc 0 0, .inr (10, [.ref (cs_X zc 0 1), .ref (cs_X zc 0 6), .ref (cs_X zc 0 7), .ref (cs_X zc 0 8), .ref (cs_X zc 0 9), .ref (cs_X zc 0 10), .ref (cs_X zc 0 11), .int (nI (cs_n zc 0)), .int (nI (cs_n zc 1)), .int (nI (cs_n zc 2)), .int (nI (cs_n zc 3)), va_rf (opN (cs_n zc 4) (fun _ => cs_X zc 5 0)), .int 0])), cR7 cA zc, cGaK zc jg 4] := hD.sub [0, 1, 2] (by decide) rfl
          have hks9 : kAll (cF cA (va_up (cs_i zc) 2 0, cs_n zc, cs_I zc, cs_L zc, cs_N zc, cs_S zc, cs_X zc)) [(0, 0), (0, 7), (2, jg)] [(cs_X zc 0 0, .inr (10, [.ref (cs_X zc 0 1), .ref (cs_X zc 0 6), .ref (cs_X zc 0 7), .ref (cs_X zc 0 8), .ref (cs_X zc 0 9), .ref (cs_X zc 0 10), .ref (cs_X zc 0 11), .int (nI (cs_n zc 0)), .int (nI (cs_n zc 1)), .int (nI (cs_n zc 2)), .int (nI (cs_n zc 3)), va_rf (opN (cs_n zc 4) (fun _ => cs_X zc 5 0)), .int 0])), cR7 cA zc, cGaK zc jg 4] := ⟨rfl, rfl, (by first | exact (kF_gaK (z := (va_up (cs_i zc) 2 0, cs_n zc, cs_I zc, cs_L zc, cs_N zc, cs_S zc, cs_X zc)) hjg hk) | (rw [(kF_gaK (z := (va_up (cs_i zc) 2 0, cs_n zc, cs_I zc, cs_L zc, cs_N zc, cs_S zc, cs_X zc)) hjg hk)]; simp [cGa, va_up, upd])), trivial⟩
          have hout : ∀ i j, (i, j) ∉ ([(0, 0), (0, 7), (2, jg)] : List (Nat × Nat)) → cF cA (va_up (cs_i zc) 2 0, cs_n zc, cs_I zc, cs_L zc, cs_N zc, cs_S zc, cs_X zc) i j = none ∨ ((i, j) ∉ ([(0, 0), (0, 7), (2, jg)] : List (Nat × Nat)) ∧ cF cA (va_up (cs_i zc) 2 0, cs_n zc, cs_I zc, cs_L zc, cs_N zc, cs_S zc, cs_X zc) i j = cF cA zc i j) := by
            intro i j hij
            refine Or.inr ⟨hij, ?_⟩
            rcases i with _ | _ | _ | _ | _ | _ | _ | _ | i
            · rcases j with _ | _ | _ | _ | _ | _ | _ | _ | _ | _ | _ | _ | j <;> first | rfl | exact absurd (by simp) hij
            · rfl
            · rfl
            · rfl
            · rfl
            · rfl
            · rfl
            · rfl
            · rfl
          exact W.iret (v := 1) hx hb hr (fun t ht hW => have hJ := kjoin hPk hDk hks rfl (hS.F ht) (by rw [ht]; exact hP9) hD9 hks9 hout; ⟨⟨1, (va_up (cs_i zc) 2 0, cs_n zc, cs_I zc, cs_L zc, cs_N zc, cs_S zc, cs_X zc), rfl, ⟨hI, (Or.inr (Or.inr (Or.inr (Or.inr (Or.inr (Or.inr (Or.inr (Or.inr (Or.inl ⟨jg, rfl, hjg, hk, c16, c18, rfl, rfl⟩)))))))))⟩, hJ.1, va_K.moved hW.alike hKk, hJ.2.1⟩, hJ.2.2⟩) (fun q h => kAll_A hks _ (hS.2.2 q h)) dX10_as_46
      · skip
        have c16 := (fa_bool_prop hr15).1.mp c16
        refine lv_bipush (v := (-2)) hx hb dX10_as_26 (by decide) ?_
        subst hQ
        have hP9 : va_P (dC, dI) vwCl [(cs_X zc 0 0, .inr (10, [.ref (cs_X zc 0 1), .ref (cs_X zc 0 6), .ref (cs_X zc 0 7), .ref (cs_X zc 0 8), .ref (cs_X zc 0 9), .ref (cs_X zc 0 10), .ref (cs_X zc 0 11), .int (nI (cs_n zc 0)), .int (nI (cs_n zc 1)), .int (nI (cs_n zc 2)), .int (nI (cs_n zc 3)), va_rf (opN (cs_n zc 4) (fun _ => cs_X zc 5 0)), .int 0])), cR7 cA zc, cGaK zc jg 4] H := hP.sub [0, 1, 2] rfl
        have hD9 : va_D (va_A [cTP zc, cR7 cA zc, cGaK zc jg 4] s.heap.size) [(cs_X zc 0 0, .inr (10, [.ref (cs_X zc 0 1), .ref (cs_X zc 0 6), .ref (cs_X zc 0 7), .ref (cs_X zc 0 8), .ref (cs_X zc 0 9), .ref (cs_X zc 0 10), .ref (cs_X zc 0 11), .int (nI (cs_n zc 0)), .int (nI (cs_n zc 1)), .int (nI (cs_n zc 2)), .int (nI (cs_n zc 3)), va_rf (opN (cs_n zc 4) (fun _ => cs_X zc 5 0)), .int 0])), cR7 cA zc, cGaK zc jg 4] := hD.sub [0, 1, 2] (by decide) rfl
        have hks9 : kAll (cF cA (va_up (cs_i zc) 2 0, cs_n zc, cs_I zc, cs_L zc, cs_N zc, cs_S zc, cs_X zc)) [(0, 0), (0, 7), (2, jg)] [(cs_X zc 0 0, .inr (10, [.ref (cs_X zc 0 1), .ref (cs_X zc 0 6), .ref (cs_X zc 0 7), .ref (cs_X zc 0 8), .ref (cs_X zc 0 9), .ref (cs_X zc 0 10), .ref (cs_X zc 0 11), .int (nI (cs_n zc 0)), .int (nI (cs_n zc 1)), .int (nI (cs_n zc 2)), .int (nI (cs_n zc 3)), va_rf (opN (cs_n zc 4) (fun _ => cs_X zc 5 0)), .int 0])), cR7 cA zc, cGaK zc jg 4] := ⟨rfl, rfl, (by first | exact (kF_gaK (z := (va_up (cs_i zc) 2 0, cs_n zc, cs_I zc, cs_L zc, cs_N zc, cs_S zc, cs_X zc)) hjg hk) | (rw [(kF_gaK (z := (va_up (cs_i zc) 2 0, cs_n zc, cs_I zc, cs_L zc, cs_N zc, cs_S zc, cs_X zc)) hjg hk)]; simp [cGa, va_up, upd])), trivial⟩
        have hout : ∀ i j, (i, j) ∉ ([(0, 0), (0, 7), (2, jg)] : List (Nat × Nat)) → cF cA (va_up (cs_i zc) 2 0, cs_n zc, cs_I zc, cs_L zc, cs_N zc, cs_S zc, cs_X zc) i j = none ∨ ((i, j) ∉ ([(0, 0), (0, 7), (2, jg)] : List (Nat × Nat)) ∧ cF cA (va_up (cs_i zc) 2 0, cs_n zc, cs_I zc, cs_L zc, cs_N zc, cs_S zc, cs_X zc) i j = cF cA zc i j) := by
          intro i j hij
          refine Or.inr ⟨hij, ?_⟩
          rcases i with _ | _ | _ | _ | _ | _ | _ | _ | i
          · rcases j with _ | _ | _ | _ | _ | _ | _ | _ | _ | _ | _ | _ | j <;> first | rfl | exact absurd (by simp) hij
          · rfl
          · rfl
          · rfl
          · rfl
          · rfl
          · rfl
          · rfl
          · rfl
        exact W.iret (v := (-2)) hx hb hr (fun t ht hW => have hJ := kjoin hPk hDk hks rfl (hS.F ht) (by rw [ht]; exact hP9) hD9 hks9 hout; ⟨⟨(-2), (va_up (cs_i zc) 2 0, cs_n zc, cs_I zc, cs_L zc, cs_N zc, cs_S zc, cs_X zc), rfl, ⟨hI, (Or.inr (Or.inr (Or.inr (Or.inr (Or.inr (Or.inr (Or.inr (Or.inr (Or.inr ⟨jg, rfl, hjg, hk, c16, rfl, rfl⟩)))))))))⟩, hJ.1, va_K.moved hW.alike hKk, hJ.2.1⟩, hJ.2.2⟩) (fun q h => kAll_A hks _ (hS.2.2 q h)) dX10_as_28
def pC_taken (zc : CS) (t : Int32) (wh : Int32) (r : Int32) (u : CS) : Prop :=
  ((∀ j, j < cs_n zc 2 → t ≠ nI j) ∧ r = (-1) ∧ u = zc) ∨
  (∃ jt : Nat, t = nI jt ∧ (jt < cs_n zc 2) ∧ (cs_N zc 1 (cs_N zc 2 jt) = 1) ∧ wh = 0 ∧ r = nI (cs_N zc 2 jt) ∧ u = zc) ∨
  (∃ jt : Nat, t = nI jt ∧ (jt < cs_n zc 2) ∧ (cs_N zc 1 (cs_N zc 2 jt) = 1) ∧ wh = 1 ∧ r = nI (cs_N zc 3 jt) ∧ u = zc) ∨
  (∃ jt : Nat, t = nI jt ∧ (jt < cs_n zc 2) ∧ (cs_N zc 1 (cs_N zc 2 jt) = 1) ∧ wh = 2 ∧ r = cs_I zc 31 jt ∧ u = zc) ∨
  (∃ jt : Nat, t = nI jt ∧ (jt < cs_n zc 2) ∧ (cs_N zc 1 (cs_N zc 2 jt) = 1) ∧ wh = 3 ∧ ((cs_I zc 33 jt) = 0) ∧ r = 0 ∧ u = zc) ∨
  (∃ jt : Nat, t = nI jt ∧ (jt < cs_n zc 2) ∧ (cs_N zc 1 (cs_N zc 2 jt) = 1) ∧ wh = 3 ∧ (¬ (cs_I zc 33 jt) = 0) ∧ r = 1 ∧ u = zc) ∨
  (∃ jt : Nat, t = nI jt ∧ (jt < cs_n zc 2) ∧ (cs_N zc 1 (cs_N zc 2 jt) = 1) ∧ wh = 4 ∧ r = cs_I zc 32 jt ∧ u = zc) ∨
  (∃ jt : Nat, t = nI jt ∧ (jt < cs_n zc 2) ∧ (cs_N zc 1 (cs_N zc 2 jt) = 1) ∧ (¬ wh = 0) ∧ (¬ wh = 1) ∧ (¬ wh = 2) ∧ (¬ wh = 3) ∧ (¬ wh = 4) ∧ r = (-2) ∧ u = zc) ∨
  (∃ jt : Nat, t = nI jt ∧ (jt < cs_n zc 2) ∧ (cs_N zc 1 (cs_N zc 2 jt) = 2) ∧ wh = 0 ∧ r = nI (cs_N zc 2 jt) ∧ u = zc) ∨
  (∃ jt : Nat, t = nI jt ∧ (jt < cs_n zc 2) ∧ (cs_N zc 1 (cs_N zc 2 jt) = 2) ∧ wh = 1 ∧ r = nI (cs_N zc 3 jt) ∧ u = zc) ∨
  (∃ jt : Nat, t = nI jt ∧ (jt < cs_n zc 2) ∧ (cs_N zc 1 (cs_N zc 2 jt) = 2) ∧ wh = 2 ∧ r = cs_I zc 31 jt ∧ u = zc) ∨
  (∃ jt : Nat, t = nI jt ∧ (jt < cs_n zc 2) ∧ (cs_N zc 1 (cs_N zc 2 jt) = 2) ∧ wh = 3 ∧ ((cs_I zc 33 jt) = 0) ∧ r = 0 ∧ u = zc) ∨
  (∃ jt : Nat, t = nI jt ∧ (jt < cs_n zc 2) ∧ (cs_N zc 1 (cs_N zc 2 jt) = 2) ∧ wh = 3 ∧ (¬ (cs_I zc 33 jt) = 0) ∧ r = 1 ∧ u = zc) ∨
  (∃ jt : Nat, t = nI jt ∧ (jt < cs_n zc 2) ∧ (cs_N zc 1 (cs_N zc 2 jt) = 2) ∧ wh = 4 ∧ r = cs_I zc 32 jt ∧ u = zc) ∨
  (∃ jt : Nat, t = nI jt ∧ (jt < cs_n zc 2) ∧ (cs_N zc 1 (cs_N zc 2 jt) = 2) ∧ (¬ wh = 0) ∧ (¬ wh = 1) ∧ (¬ wh = 2) ∧ (¬ wh = 3) ∧ (¬ wh = 4) ∧ r = (-2) ∧ u = zc) ∨
  (∃ jt : Nat, t = nI jt ∧ (jt < cs_n zc 2) ∧ (cs_N zc 1 (cs_N zc 2 jt) = 4) ∧ wh = 0 ∧ r = nI (cs_N zc 2 jt) ∧ u = zc) ∨
  (∃ jt : Nat, t = nI jt ∧ (jt < cs_n zc 2) ∧ (cs_N zc 1 (cs_N zc 2 jt) = 4) ∧ wh = 1 ∧ r = nI (cs_N zc 3 jt) ∧ u = zc) ∨
  (∃ jt : Nat, t = nI jt ∧ (jt < cs_n zc 2) ∧ (cs_N zc 1 (cs_N zc 2 jt) = 4) ∧ wh = 2 ∧ r = cs_I zc 31 jt ∧ u = zc) ∨
  (∃ jt : Nat, t = nI jt ∧ (jt < cs_n zc 2) ∧ (cs_N zc 1 (cs_N zc 2 jt) = 4) ∧ wh = 3 ∧ ((cs_I zc 33 jt) = 0) ∧ r = 0 ∧ u = zc) ∨
  (∃ jt : Nat, t = nI jt ∧ (jt < cs_n zc 2) ∧ (cs_N zc 1 (cs_N zc 2 jt) = 4) ∧ wh = 3 ∧ (¬ (cs_I zc 33 jt) = 0) ∧ r = 1 ∧ u = zc) ∨
  (∃ jt : Nat, t = nI jt ∧ (jt < cs_n zc 2) ∧ (cs_N zc 1 (cs_N zc 2 jt) = 4) ∧ wh = 4 ∧ r = cs_I zc 32 jt ∧ u = zc) ∨
  (∃ jt : Nat, t = nI jt ∧ (jt < cs_n zc 2) ∧ (cs_N zc 1 (cs_N zc 2 jt) = 4) ∧ (¬ wh = 0) ∧ (¬ wh = 1) ∧ (¬ wh = 2) ∧ (¬ wh = 3) ∧ (¬ wh = 4) ∧ r = (-2) ∧ u = zc)
set_option maxHeartbeats 4000000 in
set_option maxRecDepth 100000 in
theorem K_taken (l : Launch) (dC : Nat → ClassId) (dI : Nat → Nat → Nat) (cA : Nat → ClassId) (sz : Nat) (zc : CS) (t : Int32) (wh : Int32) (hI : invC zc) : Met l yX10_taken wsX10_taken ({ frames := 2, cells := 0, slots := 0, locals := 60 }) (kw (dC, dI) (ctys cA) (cF cA zc) sz [.ref (cs_X zc 0 0), .int t, .int wh]) (kQi (dC, dI) (ctys cA) (cF cA zc) sz (cF cA) (fun r u => invC u ∧ pC_taken zc t wh r u)) 0 0 (kA (cF cA zc) sz) := by
  refine kw_met (cc := cX10_taken) (maxL := 4) (ret := (some .int)) (by decide) rfl (Nat.le_of_ble_eq_true rfl) ?_
  intro p e s m below meth c0 hx hb hr hml hown hlocks hnm hts hPk hKk hDk hN hsz ls hl
  subst hsz
  have hK : va_K (dC, dI) vwCl [(cA 0, .int), (cA 1, .object RX6), (cA 2, .object RX2), (cA 3, .object RX8), (cA 4, .object RX5), (cA 5, .object RX7)] s := hKk
  obtain ⟨⟨hn0, hn1, hn2, hn3, hn4, hn5⟩, hpi, hgk, htk, hpk, hsh⟩ := id hI
  have hl : lv_has ls 4 [(0, .ref (cs_X zc 0 0)), (1, .int t), (2, .int wh)] := hl
  have hiX1 : ∀ w ∈ wsX10, w ∈ wsX10_taken := by decide +kernel
  have hiX2 : ∀ w ∈ wsX20, w ∈ wsX10_taken := by decide +kernel
  have hiX4 : ∀ w ∈ wsX40, w ∈ wsX10_taken := by decide +kernel
  have hiX6 : ∀ w ∈ wsX60, w ∈ wsX10_taken := by decide +kernel
  have hiX8 : ∀ w ∈ wsX80, w ∈ wsX10_taken := by decide +kernel
  generalize hQ : MQ _ _ _ _ _ _ _ = Q
  rcases ixd t (cs_n zc 2) with hnojt | ⟨jt, hjt, rfl⟩
  · skip
    have hks : kAll (cF cA zc) [(0, 0), (0, 8)] [cTP zc, cR8 cA zc] := ⟨rfl, rfl, trivial⟩
    have hP : va_P (dC, dI) vwCl [cTP zc, cR8 cA zc] s.heap := kAll_P hPk hks
    have hD : va_D (va_A [cTP zc, cR8 cA zc] s.heap.size) [cTP zc, cR8 cA zc] := (kAll_D hDk hks (by simp)).self
    have hA : ∀ q : Nat, s.heap.size ≤ q → va_A [cTP zc, cR8 cA zc] s.heap.size q := fun q h => Or.inr h
    have hS : va_S (va_A [cTP zc, cR8 cA zc] s.heap.size) s.heap s.heap [] := va_S.rf
    refine lv_aload_n hx hb dX10_taken_0 rfl (lv_at hl 0 rfl) ?_
    refine lv_iload_n hx hb dX10_taken_1 rfl (lv_at hl 1 rfl) ?_
    have hPc := hP.sub (ws' := [cTP zc]) [0] rfl
    have hDc := hD.sub (ws' := [cTP zc]) [0] (by decide) rfl
    have hKc := hK.sub (tys' := []) [] rfl
    refine va_csq (va_Run.run (va_runV (As := [.int t]) (rest := []) ⟨hx, hb, hml, hown, hts⟩ (s_takeAt_no l dC dI  _ (cs_X zc 0 0) (.ref (cs_X zc 0 1)) (.ref (cs_X zc 0 6)) (.ref (cs_X zc 0 7)) (.ref (cs_X zc 0 8)) (.ref (cs_X zc 0 9)) (.ref (cs_X zc 0 10)) (.ref (cs_X zc 0 11)) (.int (nI (cs_n zc 0))) (.int (nI (cs_n zc 1))) (.int (nI (cs_n zc 3))) (va_rf (opN (cs_n zc 4) (fun _ => cs_X zc 5 0))) (.int (cs_i zc 2)) t (cs_n zc 2) (by omega) hnojt) (cwV 1 hts gX10_taken_X10_takeAt rfl rfl rfl (by decide +kernel) ⟨Nat.le_of_ble_eq_true rfl, Nat.le_of_ble_eq_true rfl⟩) (pw_preV (va_recv hKc hPc (ci := 10) (q0 := 0) rfl rfl) hPc hKc hDc hN) rfl rfl hl.1 rfl (lv_room (Nat.le_of_ble_eq_true rfl)) dX10_taken_2 ⟨Nat.le_of_ble_eq_true rfl, Nat.le_of_ble_eq_true rfl⟩)) (fun r1 hr1 => ?_)
    have hr1 : r1 = none := hr1
    subst hr1
    refine W.eq (g2 := F0 m 5 ls [.null]) rfl ?_
    refine lv_astore_nN (lv' := [(3, .null), (0, .ref (cs_X zc 0 0)), (1, .int t), (2, .int wh)]) hx hb dX10_taken_5 rfl hl (by decide) rfl (fun ls hl => ?_)
    refine lv_aload_nN hx hb dX10_taken_6 rfl (lv_at hl 0 rfl) ?_
    refine lv_ifnonnullN hx hb dX10_taken_7 ?_
    refine lv_iconst (v := (-1)) hx hb dX10_taken_10 (by decide) ?_
    subst hQ
    exact W.iret (v := (-1)) hx hb hr (fun t ht hW => ⟨⟨(-1), zc, rfl, ⟨hI, (Or.inl ⟨hnojt, rfl, rfl⟩)⟩, (by rw [ht]; exact hPk), va_K.moved hW.alike hKk, hDk⟩, (kw_same hPk ht).2⟩) (fun q h => absurd h List.not_mem_nil) dX10_taken_11
  · skip
    rcases (hgk (cs_N zc 2 jt) (htk jt hjt).1) with hk | hk | hk
    · skip
      have hks : kAll (cF cA zc) [(0, 0), (0, 8), (3, jt), (2, cs_N zc 2 jt), (1, cs_N zc 3 jt)] [cTP zc, cR8 cA zc, cTa zc jt, cGaK zc (cs_N zc 2 jt) 1, cPi zc (cs_N zc 3 jt)] := ⟨rfl, rfl, (kF_ta (z := zc) hjt), (kF_gaK (z := zc) (htk jt hjt).1 hk), (kF_pi (z := zc) (htk jt hjt).2), trivial⟩
      have hP : va_P (dC, dI) vwCl [cTP zc, cR8 cA zc, cTa zc jt, cGaK zc (cs_N zc 2 jt) 1, cPi zc (cs_N zc 3 jt)] s.heap := kAll_P hPk hks
      have hD : va_D (va_A [cTP zc, cR8 cA zc, cTa zc jt, cGaK zc (cs_N zc 2 jt) 1, cPi zc (cs_N zc 3 jt)] s.heap.size) [cTP zc, cR8 cA zc, cTa zc jt, cGaK zc (cs_N zc 2 jt) 1, cPi zc (cs_N zc 3 jt)] := (kAll_D hDk hks (by simp)).self
      have hA : ∀ q : Nat, s.heap.size ≤ q → va_A [cTP zc, cR8 cA zc, cTa zc jt, cGaK zc (cs_N zc 2 jt) 1, cPi zc (cs_N zc 3 jt)] s.heap.size q := fun q h => Or.inr h
      have hS : va_S (va_A [cTP zc, cR8 cA zc, cTa zc jt, cGaK zc (cs_N zc 2 jt) 1, cPi zc (cs_N zc 3 jt)] s.heap.size) s.heap s.heap [] := va_S.rf
      refine lv_aload_n hx hb dX10_taken_0 rfl (lv_at hl 0 rfl) ?_
      refine lv_iload_n hx hb dX10_taken_1 rfl (lv_at hl 1 rfl) ?_
      have hPc := hP.sub (ws' := [cTP zc, cR8 cA zc]) [0, 1] rfl
      have hDc := hD.sub (ws' := [cTP zc, cR8 cA zc]) [0, 1] (by decide) rfl
      have hKc := hK.sub (tys' := [(cA 3, .object RX8)]) [3] rfl
      refine va_csq (va_Run.run (va_runV (As := [.int (nI jt)]) (rest := []) ⟨hx, hb, hml, hown, hts⟩ (s_takeAt_yes l dC dI (cA 3) _ (cs_X zc 0 0) (.ref (cs_X zc 0 1)) (.ref (cs_X zc 0 6)) (.ref (cs_X zc 0 7)) (.ref (cs_X zc 0 9)) (.ref (cs_X zc 0 10)) (.ref (cs_X zc 0 11)) (.int (nI (cs_n zc 0))) (.int (nI (cs_n zc 1))) (.int (nI (cs_n zc 3))) (va_rf (opN (cs_n zc 4) (fun _ => cs_X zc 5 0))) (.int (cs_i zc 2)) (cs_X zc 0 8) jt (cs_n zc 2) (cs_X zc 3 jt) (rfN (cs_n zc 2) (cs_X zc 3)) hjt (by omega) (rfN_at hjt)) (cwV 1 hts gX10_taken_X10_takeAt rfl rfl rfl (by decide +kernel) ⟨Nat.le_of_ble_eq_true rfl, Nat.le_of_ble_eq_true rfl⟩) (pw_preV (va_recv hKc hPc (ci := 10) (q0 := 0) rfl rfl) hPc hKc hDc hN) rfl rfl hl.1 rfl (lv_room (Nat.le_of_ble_eq_true rfl)) dX10_taken_2 ⟨Nat.le_of_ble_eq_true rfl, Nat.le_of_ble_eq_true rfl⟩)) (fun r2 hr2 => ?_)
      have hr2 : r2 = some cs_X zc 3 jt := hr2
      subst hr2
      refine W.eq (g2 := F0 m 5 ls [.ref (cs_X zc 3 jt)]) rfl ?_
      refine lv_astore_n (lv' := [(3, .ref (cs_X zc 3 jt)), (0, .ref (cs_X zc 0 0)), (1, .int (nI jt)), (2, .int wh)]) hx hb dX10_taken_5 rfl hl (by decide) rfl (fun ls hl => ?_)
      refine lv_aload_n hx hb dX10_taken_6 rfl (lv_at hl 0 rfl) ?_
      refine lv_ifnonnull (tgt := 12) hx hb dX10_taken_7 (by decide) ?_
      refine lv_iload_n hx hb dX10_taken_12 rfl (lv_at hl 3 rfl) ?_
      by_cases hw3 : wh = 0
      · subst hw3
        refine lv_tableIn (off := 35) (tgt := 48) hx hb dX10_taken_13 (by decide) (by decide) rfl (by decide) ?_
        refine lv_aload_n hx hb dX10_taken_48 rfl (lv_at hl 0 rfl) ?_
        refine va_get (D := (dC, dI)) (ci := 8) (v := .ref (cs_X zc 2 (cs_N zc 2 jt))) (C := RX8) (T := TX8) (N := 12) hx hb hts hiX8 hown hK hP 2 rfl rfl 2 (by decide) (hts (.fieldLink RX10 265 "TributePitches$Take" "gang" "LTributePitches$Gang;") (by decide +kernel)) (fun _ h9 => h9) rfl dX10_taken_49 ?_
        refine va_get (D := (dC, dI)) (ci := 1) (v := .int (nI (cs_N zc 2 jt))) (C := RX1) (T := TX1) (N := 4) hx hb hts hiX1 hown hK hP 3 rfl rfl 0 (by decide) (hts (.fieldLink RX10 268 "TributePitches$Gang" "number" "I") (by decide +kernel)) (fun _ h9 => h9) rfl dX10_taken_52 ?_
        subst hQ
        exact W.iret (v := nI (cs_N zc 2 jt)) hx hb hr (fun t ht hW => ⟨⟨nI (cs_N zc 2 jt), zc, rfl, ⟨hI, (Or.inr (Or.inl ⟨jt, rfl, hjt, hk, rfl, rfl, rfl⟩))⟩, (by rw [ht]; exact hPk), va_K.moved hW.alike hKk, hDk⟩, (kw_same hPk ht).2⟩) (fun q h => absurd h List.not_mem_nil) dX10_taken_55
      by_cases hw4 : wh = 1
      · subst hw4
        refine lv_tableIn (off := 43) (tgt := 56) hx hb dX10_taken_13 (by decide) (by decide) rfl (by decide) ?_
        refine lv_aload_n hx hb dX10_taken_56 rfl (lv_at hl 0 rfl) ?_
        refine va_get (D := (dC, dI)) (ci := 8) (v := .ref (cs_X zc 1 (cs_N zc 3 jt))) (C := RX8) (T := TX8) (N := 12) hx hb hts hiX8 hown hK hP 2 rfl rfl 3 (by decide) (hts (.fieldLink RX10 245 "TributePitches$Take" "pitch" "LTributePitches$Pitch;") (by decide +kernel)) (fun _ h9 => h9) rfl dX10_taken_57 ?_
        refine va_get (D := (dC, dI)) (ci := 6) (v := .int (nI (cs_N zc 3 jt))) (C := RX6) (T := TX6) (N := 8) hx hb hts hiX6 hown hK hP 4 rfl rfl 0 (by decide) (hts (.fieldLink RX10 269 "TributePitches$Pitch" "number" "I") (by decide +kernel)) (fun _ h9 => h9) rfl dX10_taken_60 ?_
        subst hQ
        exact W.iret (v := nI (cs_N zc 3 jt)) hx hb hr (fun t ht hW => ⟨⟨nI (cs_N zc 3 jt), zc, rfl, ⟨hI, (Or.inr (Or.inr (Or.inl ⟨jt, rfl, hjt, hk, rfl, rfl, rfl⟩)))⟩, (by rw [ht]; exact hPk), va_K.moved hW.alike hKk, hDk⟩, (kw_same hPk ht).2⟩) (fun q h => absurd h List.not_mem_nil) dX10_taken_63
      by_cases hw5 : wh = 2
      · subst hw5
        refine lv_tableIn (off := 51) (tgt := 64) hx hb dX10_taken_13 (by decide) (by decide) rfl (by decide) ?_
        refine lv_aload_n hx hb dX10_taken_64 rfl (lv_at hl 0 rfl) ?_
        refine va_get (D := (dC, dI)) (ci := 8) (v := .int (cs_I zc 31 jt)) (C := RX8) (T := TX8) (N := 12) hx hb hts hiX8 hown hK hP 2 rfl rfl 1 (by decide) (hts (.fieldLink RX10 270 "TributePitches$Take" "share" "I") (by decide +kernel)) (fun _ h9 => h9) rfl dX10_taken_65 ?_
        subst hQ
        exact W.iret (v := cs_I zc 31 jt) hx hb hr (fun t ht hW => ⟨⟨cs_I zc 31 jt, zc, rfl, ⟨hI, (Or.inr (Or.inr (Or.inr (Or.inl ⟨jt, rfl, hjt, hk, rfl, rfl, rfl⟩))))⟩, (by rw [ht]; exact hPk), va_K.moved hW.alike hKk, hDk⟩, (kw_same hPk ht).2⟩) (fun q h => absurd h List.not_mem_nil) dX10_taken_68
      by_cases hw6 : wh = 3
      · subst hw6
        refine lv_tableIn (off := 56) (tgt := 69) hx hb dX10_taken_13 (by decide) (by decide) rfl (by decide) ?_
        refine lv_aload_n hx hb dX10_taken_69 rfl (lv_at hl 0 rfl) ?_
        refine va_get (D := (dC, dI)) (ci := 8) (v := .int (cs_I zc 33 jt)) (C := RX8) (T := TX8) (N := 12) hx hb hts hiX8 hown hK hP 2 rfl rfl 11 (by decide) (hts (.fieldLink RX10 238 "TributePitches$Take" "settled" "Z") (by decide +kernel)) (fun _ h9 => h9) rfl dX10_taken_70 ?_
        refine lv_if_eq (tgt := 80) hx hb dX10_taken_73 (by decide) (fun c7 => ?_) (fun c7 => ?_)
        · skip
          refine lv_iconst (v := 0) hx hb dX10_taken_80 (by decide) ?_
          subst hQ
          exact W.iret (v := 0) hx hb hr (fun t ht hW => ⟨⟨0, zc, rfl, ⟨hI, (Or.inr (Or.inr (Or.inr (Or.inr (Or.inl ⟨jt, rfl, hjt, hk, rfl, c7, rfl, rfl⟩)))))⟩, (by rw [ht]; exact hPk), va_K.moved hW.alike hKk, hDk⟩, (kw_same hPk ht).2⟩) (fun q h => absurd h List.not_mem_nil) dX10_taken_81
        · skip
          refine lv_iconst (v := 1) hx hb dX10_taken_76 (by decide) ?_
          refine lv_goto (tgt := 81) hx hb dX10_taken_77 (by decide) ?_
          subst hQ
          exact W.iret (v := 1) hx hb hr (fun t ht hW => ⟨⟨1, zc, rfl, ⟨hI, (Or.inr (Or.inr (Or.inr (Or.inr (Or.inr (Or.inl ⟨jt, rfl, hjt, hk, rfl, c7, rfl, rfl⟩))))))⟩, (by rw [ht]; exact hPk), va_K.moved hW.alike hKk, hDk⟩, (kw_same hPk ht).2⟩) (fun q h => absurd h List.not_mem_nil) dX10_taken_81
      by_cases hw8 : wh = 4
      · subst hw8
        refine lv_tableIn (off := 69) (tgt := 82) hx hb dX10_taken_13 (by decide) (by decide) rfl (by decide) ?_
        refine lv_aload_n hx hb dX10_taken_82 rfl (lv_at hl 0 rfl) ?_
        refine va_get (D := (dC, dI)) (ci := 8) (v := .int (cs_I zc 32 jt)) (C := RX8) (T := TX8) (N := 12) hx hb hts hiX8 hown hK hP 2 rfl rfl 10 (by decide) (hts (.fieldLink RX10 247 "TributePitches$Take" "parcels" "I") (by decide +kernel)) (fun _ h9 => h9) rfl dX10_taken_83 ?_
        subst hQ
        exact W.iret (v := cs_I zc 32 jt) hx hb hr (fun t ht hW => ⟨⟨cs_I zc 32 jt, zc, rfl, ⟨hI, (Or.inr (Or.inr (Or.inr (Or.inr (Or.inr (Or.inr (Or.inl ⟨jt, rfl, hjt, hk, rfl, rfl, rfl⟩)))))))⟩, (by rw [ht]; exact hPk), va_K.moved hW.alike hKk, hDk⟩, (kw_same hPk ht).2⟩) (fun q h => absurd h List.not_mem_nil) dX10_taken_86
      refine lv_tableOut (tgt := 87) hx hb dX10_taken_13 (tb_out5 hw3 hw4 hw5 hw6 hw8) (by decide) ?_
      refine lv_bipush (v := (-2)) hx hb dX10_taken_87 (by decide) ?_
      subst hQ
      exact W.iret (v := (-2)) hx hb hr (fun t ht hW => ⟨⟨(-2), zc, rfl, ⟨hI, (Or.inr (Or.inr (Or.inr (Or.inr (Or.inr (Or.inr (Or.inr (Or.inl ⟨jt, rfl, hjt, hk, hw3, hw4, hw5, hw6, hw8, rfl, rfl⟩))))))))⟩, (by rw [ht]; exact hPk), va_K.moved hW.alike hKk, hDk⟩, (kw_same hPk ht).2⟩) (fun q h => absurd h List.not_mem_nil) dX10_taken_89
    · skip
      have hks : kAll (cF cA zc) [(0, 0), (0, 8), (3, jt), (2, cs_N zc 2 jt), (1, cs_N zc 3 jt)] [cTP zc, cR8 cA zc, cTa zc jt, cGaK zc (cs_N zc 2 jt) 2, cPi zc (cs_N zc 3 jt)] := ⟨rfl, rfl, (kF_ta (z := zc) hjt), (kF_gaK (z := zc) (htk jt hjt).1 hk), (kF_pi (z := zc) (htk jt hjt).2), trivial⟩
      have hP : va_P (dC, dI) vwCl [cTP zc, cR8 cA zc, cTa zc jt, cGaK zc (cs_N zc 2 jt) 2, cPi zc (cs_N zc 3 jt)] s.heap := kAll_P hPk hks
      have hD : va_D (va_A [cTP zc, cR8 cA zc, cTa zc jt, cGaK zc (cs_N zc 2 jt) 2, cPi zc (cs_N zc 3 jt)] s.heap.size) [cTP zc, cR8 cA zc, cTa zc jt, cGaK zc (cs_N zc 2 jt) 2, cPi zc (cs_N zc 3 jt)] := (kAll_D hDk hks (by simp)).self
      have hA : ∀ q : Nat, s.heap.size ≤ q → va_A [cTP zc, cR8 cA zc, cTa zc jt, cGaK zc (cs_N zc 2 jt) 2, cPi zc (cs_N zc 3 jt)] s.heap.size q := fun q h => Or.inr h
      have hS : va_S (va_A [cTP zc, cR8 cA zc, cTa zc jt, cGaK zc (cs_N zc 2 jt) 2, cPi zc (cs_N zc 3 jt)] s.heap.size) s.heap s.heap [] := va_S.rf
      refine lv_aload_n hx hb dX10_taken_0 rfl (lv_at hl 0 rfl) ?_
      refine lv_iload_n hx hb dX10_taken_1 rfl (lv_at hl 1 rfl) ?_
      have hPc := hP.sub (ws' := [cTP zc, cR8 cA zc]) [0, 1] rfl
      have hDc := hD.sub (ws' := [cTP zc, cR8 cA zc]) [0, 1] (by decide) rfl
      have hKc := hK.sub (tys' := [(cA 3, .object RX8)]) [3] rfl
      refine va_csq (va_Run.run (va_runV (As := [.int (nI jt)]) (rest := []) ⟨hx, hb, hml, hown, hts⟩ (s_takeAt_yes l dC dI (cA 3) _ (cs_X zc 0 0) (.ref (cs_X zc 0 1)) (.ref (cs_X zc 0 6)) (.ref (cs_X zc 0 7)) (.ref (cs_X zc 0 9)) (.ref (cs_X zc 0 10)) (.ref (cs_X zc 0 11)) (.int (nI (cs_n zc 0))) (.int (nI (cs_n zc 1))) (.int (nI (cs_n zc 3))) (va_rf (opN (cs_n zc 4) (fun _ => cs_X zc 5 0))) (.int (cs_i zc 2)) (cs_X zc 0 8) jt (cs_n zc 2) (cs_X zc 3 jt) (rfN (cs_n zc 2) (cs_X zc 3)) hjt (by omega) (rfN_at hjt)) (cwV 1 hts gX10_taken_X10_takeAt rfl rfl rfl (by decide +kernel) ⟨Nat.le_of_ble_eq_true rfl, Nat.le_of_ble_eq_true rfl⟩) (pw_preV (va_recv hKc hPc (ci := 10) (q0 := 0) rfl rfl) hPc hKc hDc hN) rfl rfl hl.1 rfl (lv_room (Nat.le_of_ble_eq_true rfl)) dX10_taken_2 ⟨Nat.le_of_ble_eq_true rfl, Nat.le_of_ble_eq_true rfl⟩)) (fun r9 hr9 => ?_)
      have hr9 : r9 = some cs_X zc 3 jt := hr9
      subst hr9
      refine W.eq (g2 := F0 m 5 ls [.ref (cs_X zc 3 jt)]) rfl ?_
      refine lv_astore_n (lv' := [(3, .ref (cs_X zc 3 jt)), (0, .ref (cs_X zc 0 0)), (1, .int (nI jt)), (2, .int wh)]) hx hb dX10_taken_5 rfl hl (by decide) rfl (fun ls hl => ?_)
      refine lv_aload_n hx hb dX10_taken_6 rfl (lv_at hl 0 rfl) ?_
      refine lv_ifnonnull (tgt := 12) hx hb dX10_taken_7 (by decide) ?_
      refine lv_iload_n hx hb dX10_taken_12 rfl (lv_at hl 3 rfl) ?_
      by_cases hw10 : wh = 0
      · subst hw10
        refine lv_tableIn (off := 35) (tgt := 48) hx hb dX10_taken_13 (by decide) (by decide) rfl (by decide) ?_
        refine lv_aload_n hx hb dX10_taken_48 rfl (lv_at hl 0 rfl) ?_
        refine va_get (D := (dC, dI)) (ci := 8) (v := .ref (cs_X zc 2 (cs_N zc 2 jt))) (C := RX8) (T := TX8) (N := 12) hx hb hts hiX8 hown hK hP 2 rfl rfl 2 (by decide) (hts (.fieldLink RX10 265 "TributePitches$Take" "gang" "LTributePitches$Gang;") (by decide +kernel)) (fun _ h9 => h9) rfl dX10_taken_49 ?_
        refine va_get (D := (dC, dI)) (ci := 2) (v := .int (nI (cs_N zc 2 jt))) (C := RX2) (T := TX2) (N := 4) hx hb hts hiX2 hown hK hP 3 rfl rfl 0 (by decide) (hts (.fieldLink RX10 268 "TributePitches$Gang" "number" "I") (by decide +kernel)) (fun _ h9 => h9) rfl dX10_taken_52 ?_
        subst hQ
        exact W.iret (v := nI (cs_N zc 2 jt)) hx hb hr (fun t ht hW => ⟨⟨nI (cs_N zc 2 jt), zc, rfl, ⟨hI, (Or.inr (Or.inr (Or.inr (Or.inr (Or.inr (Or.inr (Or.inr (Or.inr (Or.inl ⟨jt, rfl, hjt, hk, rfl, rfl, rfl⟩)))))))))⟩, (by rw [ht]; exact hPk), va_K.moved hW.alike hKk, hDk⟩, (kw_same hPk ht).2⟩) (fun q h => absurd h List.not_mem_nil) dX10_taken_55
      by_cases hw11 : wh = 1
      · subst hw11
        refine lv_tableIn (off := 43) (tgt := 56) hx hb dX10_taken_13 (by decide) (by decide) rfl (by decide) ?_
        refine lv_aload_n hx hb dX10_taken_56 rfl (lv_at hl 0 rfl) ?_
        refine va_get (D := (dC, dI)) (ci := 8) (v := .ref (cs_X zc 1 (cs_N zc 3 jt))) (C := RX8) (T := TX8) (N := 12) hx hb hts hiX8 hown hK hP 2 rfl rfl 3 (by decide) (hts (.fieldLink RX10 245 "TributePitches$Take" "pitch" "LTributePitches$Pitch;") (by decide +kernel)) (fun _ h9 => h9) rfl dX10_taken_57 ?_
        refine va_get (D := (dC, dI)) (ci := 6) (v := .int (nI (cs_N zc 3 jt))) (C := RX6) (T := TX6) (N := 8) hx hb hts hiX6 hown hK hP 4 rfl rfl 0 (by decide) (hts (.fieldLink RX10 269 "TributePitches$Pitch" "number" "I") (by decide +kernel)) (fun _ h9 => h9) rfl dX10_taken_60 ?_
        subst hQ
        exact W.iret (v := nI (cs_N zc 3 jt)) hx hb hr (fun t ht hW => ⟨⟨nI (cs_N zc 3 jt), zc, rfl, ⟨hI, (Or.inr (Or.inr (Or.inr (Or.inr (Or.inr (Or.inr (Or.inr (Or.inr (Or.inr (Or.inl ⟨jt, rfl, hjt, hk, rfl, rfl, rfl⟩))))))))))⟩, (by rw [ht]; exact hPk), va_K.moved hW.alike hKk, hDk⟩, (kw_same hPk ht).2⟩) (fun q h => absurd h List.not_mem_nil) dX10_taken_63
      by_cases hw12 : wh = 2
      · subst hw12
        refine lv_tableIn (off := 51) (tgt := 64) hx hb dX10_taken_13 (by decide) (by decide) rfl (by decide) ?_
        refine lv_aload_n hx hb dX10_taken_64 rfl (lv_at hl 0 rfl) ?_
        refine va_get (D := (dC, dI)) (ci := 8) (v := .int (cs_I zc 31 jt)) (C := RX8) (T := TX8) (N := 12) hx hb hts hiX8 hown hK hP 2 rfl rfl 1 (by decide) (hts (.fieldLink RX10 270 "TributePitches$Take" "share" "I") (by decide +kernel)) (fun _ h9 => h9) rfl dX10_taken_65 ?_
        subst hQ
        exact W.iret (v := cs_I zc 31 jt) hx hb hr (fun t ht hW => ⟨⟨cs_I zc 31 jt, zc, rfl, ⟨hI, (Or.inr (Or.inr (Or.inr (Or.inr (Or.inr (Or.inr (Or.inr (Or.inr (Or.inr (Or.inr (Or.inl ⟨jt, rfl, hjt, hk, rfl, rfl, rfl⟩)))))))))))⟩, (by rw [ht]; exact hPk), va_K.moved hW.alike hKk, hDk⟩, (kw_same hPk ht).2⟩) (fun q h => absurd h List.not_mem_nil) dX10_taken_68
      by_cases hw13 : wh = 3
      · subst hw13
        refine lv_tableIn (off := 56) (tgt := 69) hx hb dX10_taken_13 (by decide) (by decide) rfl (by decide) ?_
        refine lv_aload_n hx hb dX10_taken_69 rfl (lv_at hl 0 rfl) ?_
        refine va_get (D := (dC, dI)) (ci := 8) (v := .int (cs_I zc 33 jt)) (C := RX8) (T := TX8) (N := 12) hx hb hts hiX8 hown hK hP 2 rfl rfl 11 (by decide) (hts (.fieldLink RX10 238 "TributePitches$Take" "settled" "Z") (by decide +kernel)) (fun _ h9 => h9) rfl dX10_taken_70 ?_
        refine lv_if_eq (tgt := 80) hx hb dX10_taken_73 (by decide) (fun c14 => ?_) (fun c14 => ?_)
        · skip
          refine lv_iconst (v := 0) hx hb dX10_taken_80 (by decide) ?_
          subst hQ
          exact W.iret (v := 0) hx hb hr (fun t ht hW => ⟨⟨0, zc, rfl, ⟨hI, (Or.inr (Or.inr (Or.inr (Or.inr (Or.inr (Or.inr (Or.inr (Or.inr (Or.inr (Or.inr (Or.inr (Or.inl ⟨jt, rfl, hjt, hk, rfl, c14, rfl, rfl⟩))))))))))))⟩, (by rw [ht]; exact hPk), va_K.moved hW.alike hKk, hDk⟩, (kw_same hPk ht).2⟩) (fun q h => absurd h List.not_mem_nil) dX10_taken_81
        · skip
          refine lv_iconst (v := 1) hx hb dX10_taken_76 (by decide) ?_
          refine lv_goto (tgt := 81) hx hb dX10_taken_77 (by decide) ?_
          subst hQ
          exact W.iret (v := 1) hx hb hr (fun t ht hW => ⟨⟨1, zc, rfl, ⟨hI, (Or.inr (Or.inr (Or.inr (Or.inr (Or.inr (Or.inr (Or.inr (Or.inr (Or.inr (Or.inr (Or.inr (Or.inr (Or.inl ⟨jt, rfl, hjt, hk, rfl, c14, rfl, rfl⟩)))))))))))))⟩, (by rw [ht]; exact hPk), va_K.moved hW.alike hKk, hDk⟩, (kw_same hPk ht).2⟩) (fun q h => absurd h List.not_mem_nil) dX10_taken_81
      by_cases hw15 : wh = 4
      · subst hw15
        refine lv_tableIn (off := 69) (tgt := 82) hx hb dX10_taken_13 (by decide) (by decide) rfl (by decide) ?_
        refine lv_aload_n hx hb dX10_taken_82 rfl (lv_at hl 0 rfl) ?_
        refine va_get (D := (dC, dI)) (ci := 8) (v := .int (cs_I zc 32 jt)) (C := RX8) (T := TX8) (N := 12) hx hb hts hiX8 hown hK hP 2 rfl rfl 10 (by decide) (hts (.fieldLink RX10 247 "TributePitches$Take" "parcels" "I") (by decide +kernel)) (fun _ h9 => h9) rfl dX10_taken_83 ?_
        subst hQ
        exact W.iret (v := cs_I zc 32 jt) hx hb hr (fun t ht hW => ⟨⟨cs_I zc 32 jt, zc, rfl, ⟨hI, (Or.inr (Or.inr (Or.inr (Or.inr (Or.inr (Or.inr (Or.inr (Or.inr (Or.inr (Or.inr (Or.inr (Or.inr (Or.inr (Or.inl ⟨jt, rfl, hjt, hk, rfl, rfl, rfl⟩))))))))))))))⟩, (by rw [ht]; exact hPk), va_K.moved hW.alike hKk, hDk⟩, (kw_same hPk ht).2⟩) (fun q h => absurd h List.not_mem_nil) dX10_taken_86
      refine lv_tableOut (tgt := 87) hx hb dX10_taken_13 (tb_out5 hw10 hw11 hw12 hw13 hw15) (by decide) ?_
      refine lv_bipush (v := (-2)) hx hb dX10_taken_87 (by decide) ?_
      subst hQ
      exact W.iret (v := (-2)) hx hb hr (fun t ht hW => ⟨⟨(-2), zc, rfl, ⟨hI, (Or.inr (Or.inr (Or.inr (Or.inr (Or.inr (Or.inr (Or.inr (Or.inr (Or.inr (Or.inr (Or.inr (Or.inr (Or.inr (Or.inr (Or.inl ⟨jt, rfl, hjt, hk, hw10, hw11, hw12, hw13, hw15, rfl, rfl⟩)))))))))))))))⟩, (by rw [ht]; exact hPk), va_K.moved hW.alike hKk, hDk⟩, (kw_same hPk ht).2⟩) (fun q h => absurd h List.not_mem_nil) dX10_taken_89
    · skip
      have hks : kAll (cF cA zc) [(0, 0), (0, 8), (3, jt), (2, cs_N zc 2 jt), (1, cs_N zc 3 jt)] [cTP zc, cR8 cA zc, cTa zc jt, cGaK zc (cs_N zc 2 jt) 4, cPi zc (cs_N zc 3 jt)] := ⟨rfl, rfl, (kF_ta (z := zc) hjt), (kF_gaK (z := zc) (htk jt hjt).1 hk), (kF_pi (z := zc) (htk jt hjt).2), trivial⟩
      have hP : va_P (dC, dI) vwCl [cTP zc, cR8 cA zc, cTa zc jt, cGaK zc (cs_N zc 2 jt) 4, cPi zc (cs_N zc 3 jt)] s.heap := kAll_P hPk hks
      have hD : va_D (va_A [cTP zc, cR8 cA zc, cTa zc jt, cGaK zc (cs_N zc 2 jt) 4, cPi zc (cs_N zc 3 jt)] s.heap.size) [cTP zc, cR8 cA zc, cTa zc jt, cGaK zc (cs_N zc 2 jt) 4, cPi zc (cs_N zc 3 jt)] := (kAll_D hDk hks (by simp)).self
      have hA : ∀ q : Nat, s.heap.size ≤ q → va_A [cTP zc, cR8 cA zc, cTa zc jt, cGaK zc (cs_N zc 2 jt) 4, cPi zc (cs_N zc 3 jt)] s.heap.size q := fun q h => Or.inr h
      have hS : va_S (va_A [cTP zc, cR8 cA zc, cTa zc jt, cGaK zc (cs_N zc 2 jt) 4, cPi zc (cs_N zc 3 jt)] s.heap.size) s.heap s.heap [] := va_S.rf
      refine lv_aload_n hx hb dX10_taken_0 rfl (lv_at hl 0 rfl) ?_
      refine lv_iload_n hx hb dX10_taken_1 rfl (lv_at hl 1 rfl) ?_
      have hPc := hP.sub (ws' := [cTP zc, cR8 cA zc]) [0, 1] rfl
      have hDc := hD.sub (ws' := [cTP zc, cR8 cA zc]) [0, 1] (by decide) rfl
      have hKc := hK.sub (tys' := [(cA 3, .object RX8)]) [3] rfl
      refine va_csq (va_Run.run (va_runV (As := [.int (nI jt)]) (rest := []) ⟨hx, hb, hml, hown, hts⟩ (s_takeAt_yes l dC dI (cA 3) _ (cs_X zc 0 0) (.ref (cs_X zc 0 1)) (.ref (cs_X zc 0 6)) (.ref (cs_X zc 0 7)) (.ref (cs_X zc 0 9)) (.ref (cs_X zc 0 10)) (.ref (cs_X zc 0 11)) (.int (nI (cs_n zc 0))) (.int (nI (cs_n zc 1))) (.int (nI (cs_n zc 3))) (va_rf (opN (cs_n zc 4) (fun _ => cs_X zc 5 0))) (.int (cs_i zc 2)) (cs_X zc 0 8) jt (cs_n zc 2) (cs_X zc 3 jt) (rfN (cs_n zc 2) (cs_X zc 3)) hjt (by omega) (rfN_at hjt)) (cwV 1 hts gX10_taken_X10_takeAt rfl rfl rfl (by decide +kernel) ⟨Nat.le_of_ble_eq_true rfl, Nat.le_of_ble_eq_true rfl⟩) (pw_preV (va_recv hKc hPc (ci := 10) (q0 := 0) rfl rfl) hPc hKc hDc hN) rfl rfl hl.1 rfl (lv_room (Nat.le_of_ble_eq_true rfl)) dX10_taken_2 ⟨Nat.le_of_ble_eq_true rfl, Nat.le_of_ble_eq_true rfl⟩)) (fun r16 hr16 => ?_)
      have hr16 : r16 = some cs_X zc 3 jt := hr16
      subst hr16
      refine W.eq (g2 := F0 m 5 ls [.ref (cs_X zc 3 jt)]) rfl ?_
      refine lv_astore_n (lv' := [(3, .ref (cs_X zc 3 jt)), (0, .ref (cs_X zc 0 0)), (1, .int (nI jt)), (2, .int wh)]) hx hb dX10_taken_5 rfl hl (by decide) rfl (fun ls hl => ?_)
      refine lv_aload_n hx hb dX10_taken_6 rfl (lv_at hl 0 rfl) ?_
      refine lv_ifnonnull (tgt := 12) hx hb dX10_taken_7 (by decide) ?_
      refine lv_iload_n hx hb dX10_taken_12 rfl (lv_at hl 3 rfl) ?_
      by_cases hw17 : wh = 0
      · subst hw17
        refine lv_tableIn (off := 35) (tgt := 48) hx hb dX10_taken_13 (by decide) (by decide) rfl (by decide) ?_
        refine lv_aload_n hx hb dX10_taken_48 rfl (lv_at hl 0 rfl) ?_
        refine va_get (D := (dC, dI)) (ci := 8) (v := .ref (cs_X zc 2 (cs_N zc 2 jt))) (C := RX8) (T := TX8) (N := 12) hx hb hts hiX8 hown hK hP 2 rfl rfl 2 (by decide) (hts (.fieldLink RX10 265 "TributePitches$Take" "gang" "LTributePitches$Gang;") (by decide +kernel)) (fun _ h9 => h9) rfl dX10_taken_49 ?_
        refine va_get (D := (dC, dI)) (ci := 4) (v := .int (nI (cs_N zc 2 jt))) (C := RX4) (T := TX4) (N := 4) hx hb hts hiX4 hown hK hP 3 rfl rfl 0 (by decide) (hts (.fieldLink RX10 268 "TributePitches$Gang" "number" "I") (by decide +kernel)) (fun _ h9 => h9) rfl dX10_taken_52 ?_
        subst hQ
        exact W.iret (v := nI (cs_N zc 2 jt)) hx hb hr (fun t ht hW => ⟨⟨nI (cs_N zc 2 jt), zc, rfl, ⟨hI, (Or.inr (Or.inr (Or.inr (Or.inr (Or.inr (Or.inr (Or.inr (Or.inr (Or.inr (Or.inr (Or.inr (Or.inr (Or.inr (Or.inr (Or.inr (Or.inl ⟨jt, rfl, hjt, hk, rfl, rfl, rfl⟩))))))))))))))))⟩, (by rw [ht]; exact hPk), va_K.moved hW.alike hKk, hDk⟩, (kw_same hPk ht).2⟩) (fun q h => absurd h List.not_mem_nil) dX10_taken_55
      by_cases hw18 : wh = 1
      · subst hw18
        refine lv_tableIn (off := 43) (tgt := 56) hx hb dX10_taken_13 (by decide) (by decide) rfl (by decide) ?_
        refine lv_aload_n hx hb dX10_taken_56 rfl (lv_at hl 0 rfl) ?_
        refine va_get (D := (dC, dI)) (ci := 8) (v := .ref (cs_X zc 1 (cs_N zc 3 jt))) (C := RX8) (T := TX8) (N := 12) hx hb hts hiX8 hown hK hP 2 rfl rfl 3 (by decide) (hts (.fieldLink RX10 245 "TributePitches$Take" "pitch" "LTributePitches$Pitch;") (by decide +kernel)) (fun _ h9 => h9) rfl dX10_taken_57 ?_
        refine va_get (D := (dC, dI)) (ci := 6) (v := .int (nI (cs_N zc 3 jt))) (C := RX6) (T := TX6) (N := 8) hx hb hts hiX6 hown hK hP 4 rfl rfl 0 (by decide) (hts (.fieldLink RX10 269 "TributePitches$Pitch" "number" "I") (by decide +kernel)) (fun _ h9 => h9) rfl dX10_taken_60 ?_
        subst hQ
        exact W.iret (v := nI (cs_N zc 3 jt)) hx hb hr (fun t ht hW => ⟨⟨nI (cs_N zc 3 jt), zc, rfl, ⟨hI, (Or.inr (Or.inr (Or.inr (Or.inr (Or.inr (Or.inr (Or.inr (Or.inr (Or.inr (Or.inr (Or.inr (Or.inr (Or.inr (Or.inr (Or.inr (Or.inr (Or.inl ⟨jt, rfl, hjt, hk, rfl, rfl, rfl⟩)))))))))))))))))⟩, (by rw [ht]; exact hPk), va_K.moved hW.alike hKk, hDk⟩, (kw_same hPk ht).2⟩) (fun q h => absurd h List.not_mem_nil) dX10_taken_63
      by_cases hw19 : wh = 2
      · subst hw19
        refine lv_tableIn (off := 51) (tgt := 64) hx hb dX10_taken_13 (by decide) (by decide) rfl (by decide) ?_
        refine lv_aload_n hx hb dX10_taken_64 rfl (lv_at hl 0 rfl) ?_
        refine va_get (D := (dC, dI)) (ci := 8) (v := .int (cs_I zc 31 jt)) (C := RX8) (T := TX8) (N := 12) hx hb hts hiX8 hown hK hP 2 rfl rfl 1 (by decide) (hts (.fieldLink RX10 270 "TributePitches$Take" "share" "I") (by decide +kernel)) (fun _ h9 => h9) rfl dX10_taken_65 ?_
        subst hQ
        exact W.iret (v := cs_I zc 31 jt) hx hb hr (fun t ht hW => ⟨⟨cs_I zc 31 jt, zc, rfl, ⟨hI, (Or.inr (Or.inr (Or.inr (Or.inr (Or.inr (Or.inr (Or.inr (Or.inr (Or.inr (Or.inr (Or.inr (Or.inr (Or.inr (Or.inr (Or.inr (Or.inr (Or.inr (Or.inl ⟨jt, rfl, hjt, hk, rfl, rfl, rfl⟩))))))))))))))))))⟩, (by rw [ht]; exact hPk), va_K.moved hW.alike hKk, hDk⟩, (kw_same hPk ht).2⟩) (fun q h => absurd h List.not_mem_nil) dX10_taken_68
      by_cases hw20 : wh = 3
      · subst hw20
        refine lv_tableIn (off := 56) (tgt := 69) hx hb dX10_taken_13 (by decide) (by decide) rfl (by decide) ?_
        refine lv_aload_n hx hb dX10_taken_69 rfl (lv_at hl 0 rfl) ?_
        refine va_get (D := (dC, dI)) (ci := 8) (v := .int (cs_I zc 33 jt)) (C := RX8) (T := TX8) (N := 12) hx hb hts hiX8 hown hK hP 2 rfl rfl 11 (by decide) (hts (.fieldLink RX10 238 "TributePitches$Take" "settled" "Z") (by decide +kernel)) (fun _ h9 => h9) rfl dX10_taken_70 ?_
        refine lv_if_eq (tgt := 80) hx hb dX10_taken_73 (by decide) (fun c21 => ?_) (fun c21 => ?_)
        · skip
          refine lv_iconst (v := 0) hx hb dX10_taken_80 (by decide) ?_
          subst hQ
          exact W.iret (v := 0) hx hb hr (fun t ht hW => ⟨⟨0, zc, rfl, ⟨hI, (Or.inr (Or.inr (Or.inr (Or.inr (Or.inr (Or.inr (Or.inr (Or.inr (Or.inr (Or.inr (Or.inr (Or.inr (Or.inr (Or.inr (Or.inr (Or.inr (Or.inr (Or.inr (Or.inl ⟨jt, rfl, hjt, hk, rfl, c21, rfl, rfl⟩)))))))))))))))))))⟩, (by rw [ht]; exact hPk), va_K.moved hW.alike hKk, hDk⟩, (kw_same hPk ht).2⟩) (fun q h => absurd h List.not_mem_nil) dX10_taken_81
        · skip
          refine lv_iconst (v := 1) hx hb dX10_taken_76 (by decide) ?_
          refine lv_goto (tgt := 81) hx hb dX10_taken_77 (by decide) ?_
          subst hQ
          exact W.iret (v := 1) hx hb hr (fun t ht hW => ⟨⟨1, zc, rfl, ⟨hI, (Or.inr (Or.inr (Or.inr (Or.inr (Or.inr (Or.inr (Or.inr (Or.inr (Or.inr (Or.inr (Or.inr (Or.inr (Or.inr (Or.inr (Or.inr (Or.inr (Or.inr (Or.inr (Or.inr (Or.inl ⟨jt, rfl, hjt, hk, rfl, c21, rfl, rfl⟩))))))))))))))))))))⟩, (by rw [ht]; exact hPk), va_K.moved hW.alike hKk, hDk⟩, (kw_same hPk ht).2⟩) (fun q h => absurd h List.not_mem_nil) dX10_taken_81
      by_cases hw22 : wh = 4
      · subst hw22
        refine lv_tableIn (off := 69) (tgt := 82) hx hb dX10_taken_13 (by decide) (by decide) rfl (by decide) ?_
        refine lv_aload_n hx hb dX10_taken_82 rfl (lv_at hl 0 rfl) ?_
        refine va_get (D := (dC, dI)) (ci := 8) (v := .int (cs_I zc 32 jt)) (C := RX8) (T := TX8) (N := 12) hx hb hts hiX8 hown hK hP 2 rfl rfl 10 (by decide) (hts (.fieldLink RX10 247 "TributePitches$Take" "parcels" "I") (by decide +kernel)) (fun _ h9 => h9) rfl dX10_taken_83 ?_
        subst hQ
        exact W.iret (v := cs_I zc 32 jt) hx hb hr (fun t ht hW => ⟨⟨cs_I zc 32 jt, zc, rfl, ⟨hI, (Or.inr (Or.inr (Or.inr (Or.inr (Or.inr (Or.inr (Or.inr (Or.inr (Or.inr (Or.inr (Or.inr (Or.inr (Or.inr (Or.inr (Or.inr (Or.inr (Or.inr (Or.inr (Or.inr (Or.inr (Or.inl ⟨jt, rfl, hjt, hk, rfl, rfl, rfl⟩)))))))))))))))))))))⟩, (by rw [ht]; exact hPk), va_K.moved hW.alike hKk, hDk⟩, (kw_same hPk ht).2⟩) (fun q h => absurd h List.not_mem_nil) dX10_taken_86
      refine lv_tableOut (tgt := 87) hx hb dX10_taken_13 (tb_out5 hw17 hw18 hw19 hw20 hw22) (by decide) ?_
      refine lv_bipush (v := (-2)) hx hb dX10_taken_87 (by decide) ?_
      subst hQ
      exact W.iret (v := (-2)) hx hb hr (fun t ht hW => ⟨⟨(-2), zc, rfl, ⟨hI, (Or.inr (Or.inr (Or.inr (Or.inr (Or.inr (Or.inr (Or.inr (Or.inr (Or.inr (Or.inr (Or.inr (Or.inr (Or.inr (Or.inr (Or.inr (Or.inr (Or.inr (Or.inr (Or.inr (Or.inr (Or.inr ⟨jt, rfl, hjt, hk, hw17, hw18, hw19, hw20, hw22, rfl, rfl⟩)))))))))))))))))))))⟩, (by rw [ht]; exact hPk), va_K.moved hW.alike hKk, hDk⟩, (kw_same hPk ht).2⟩) (fun q h => absurd h List.not_mem_nil) dX10_taken_89
def pC_settle (zc : CS) (t : Int32) (r : Int64) (u : CS) : Prop :=
  ((∀ j, j < cs_n zc 2 → t ≠ nI j) ∧ r = (-9223372036854775808) ∧ u = zc) ∨
  (∃ jt : Nat, t = nI jt ∧ (jt < cs_n zc 2) ∧ (cs_N zc 1 (cs_N zc 2 jt) = 1) ∧ ((cs_I zc 33 jt) = 0) ∧ r = if 0 < ((((((cs_I zc 31 jt).toInt64 * (cs_L zc 3 jt)) / 240) - ((cs_L zc 4 jt) / 2)) - (cs_L zc 5 jt)) - (cs_L zc 0 (cs_N zc 2 jt))) then ((((((cs_I zc 31 jt).toInt64 * (cs_L zc 3 jt)) / 240) - ((cs_L zc 4 jt) / 2)) - (cs_L zc 5 jt)) - (cs_L zc 0 (cs_N zc 2 jt))) else 0 ∧ u = (cs_i zc, cs_n zc, va_up (va_up (cs_I zc) 33 (va_up (cs_I zc 33) jt 1)) 22 (va_up (cs_I zc 22) (cs_N zc 2 jt) ((cs_I zc 22 (cs_N zc 2 jt)) - 1)), va_up (va_up (cs_L zc) 6 (va_up (cs_L zc 6) jt (if 0 < ((((((cs_I zc 31 jt).toInt64 * (cs_L zc 3 jt)) / 240) - ((cs_L zc 4 jt) / 2)) - (cs_L zc 5 jt)) - (cs_L zc 0 (cs_N zc 2 jt))) then ((((((cs_I zc 31 jt).toInt64 * (cs_L zc 3 jt)) / 240) - ((cs_L zc 4 jt) / 2)) - (cs_L zc 5 jt)) - (cs_L zc 0 (cs_N zc 2 jt))) else 0))) 0 (va_up (cs_L zc 0) (cs_N zc 2 jt) ((cs_L zc 0 (cs_N zc 2 jt)) + (((if 0 < ((((((cs_I zc 31 jt).toInt64 * (cs_L zc 3 jt)) / 240) - ((cs_L zc 4 jt) / 2)) - (cs_L zc 5 jt)) - (cs_L zc 0 (cs_N zc 2 jt))) then ((((((cs_I zc 31 jt).toInt64 * (cs_L zc 3 jt)) / 240) - ((cs_L zc 4 jt) / 2)) - (cs_L zc 5 jt)) - (cs_L zc 0 (cs_N zc 2 jt))) else 0) - ((((((cs_I zc 31 jt).toInt64 * (cs_L zc 3 jt)) / 240) - ((cs_L zc 4 jt) / 2)) - (cs_L zc 5 jt)) - (cs_L zc 0 (cs_N zc 2 jt)))) - (cs_L zc 0 (cs_N zc 2 jt))))), va_up (cs_N zc) 0 (va_up (cs_N zc 0) (cs_N zc 3 jt) 0), cs_S zc, cs_X zc)) ∨
  (∃ jt : Nat, t = nI jt ∧ (jt < cs_n zc 2) ∧ (cs_N zc 1 (cs_N zc 2 jt) = 1) ∧ (¬ (cs_I zc 33 jt) = 0) ∧ r = (-9223372036854775808) ∧ u = zc) ∨
  (∃ jt : Nat, t = nI jt ∧ (jt < cs_n zc 2) ∧ (cs_N zc 1 (cs_N zc 2 jt) = 2) ∧ ((cs_I zc 33 jt) = 0) ∧ r = if 0 < ((((((cs_I zc 31 jt).toInt64 * (cs_L zc 3 jt)) / 240) - (cs_L zc 4 jt)) - (cs_L zc 5 jt)) - (cs_L zc 0 (cs_N zc 2 jt))) then ((((((cs_I zc 31 jt).toInt64 * (cs_L zc 3 jt)) / 240) - (cs_L zc 4 jt)) - (cs_L zc 5 jt)) - (cs_L zc 0 (cs_N zc 2 jt))) else 0 ∧ u = (cs_i zc, cs_n zc, va_up (va_up (cs_I zc) 33 (va_up (cs_I zc 33) jt 1)) 22 (va_up (cs_I zc 22) (cs_N zc 2 jt) ((cs_I zc 22 (cs_N zc 2 jt)) - 1)), va_up (va_up (cs_L zc) 6 (va_up (cs_L zc 6) jt (if 0 < ((((((cs_I zc 31 jt).toInt64 * (cs_L zc 3 jt)) / 240) - (cs_L zc 4 jt)) - (cs_L zc 5 jt)) - (cs_L zc 0 (cs_N zc 2 jt))) then ((((((cs_I zc 31 jt).toInt64 * (cs_L zc 3 jt)) / 240) - (cs_L zc 4 jt)) - (cs_L zc 5 jt)) - (cs_L zc 0 (cs_N zc 2 jt))) else 0))) 0 (va_up (cs_L zc 0) (cs_N zc 2 jt) ((cs_L zc 0 (cs_N zc 2 jt)) + (((if 0 < ((((((cs_I zc 31 jt).toInt64 * (cs_L zc 3 jt)) / 240) - (cs_L zc 4 jt)) - (cs_L zc 5 jt)) - (cs_L zc 0 (cs_N zc 2 jt))) then ((((((cs_I zc 31 jt).toInt64 * (cs_L zc 3 jt)) / 240) - (cs_L zc 4 jt)) - (cs_L zc 5 jt)) - (cs_L zc 0 (cs_N zc 2 jt))) else 0) - ((((((cs_I zc 31 jt).toInt64 * (cs_L zc 3 jt)) / 240) - (cs_L zc 4 jt)) - (cs_L zc 5 jt)) - (cs_L zc 0 (cs_N zc 2 jt)))) - (cs_L zc 0 (cs_N zc 2 jt))))), va_up (cs_N zc) 0 (va_up (cs_N zc 0) (cs_N zc 3 jt) 0), cs_S zc, cs_X zc)) ∨
  (∃ jt : Nat, t = nI jt ∧ (jt < cs_n zc 2) ∧ (cs_N zc 1 (cs_N zc 2 jt) = 2) ∧ (¬ (cs_I zc 33 jt) = 0) ∧ r = (-9223372036854775808) ∧ u = zc) ∨
  (∃ jt : Nat, t = nI jt ∧ (jt < cs_n zc 2) ∧ (cs_N zc 1 (cs_N zc 2 jt) = 4) ∧ ((cs_I zc 33 jt) = 0) ∧ r = if 0 < ((((((cs_I zc 31 jt).toInt64 * (cs_L zc 3 jt)) / 240) - ((cs_L zc 4 jt) / 2)) - (cs_L zc 5 jt)) - ((cs_L zc 0 (cs_N zc 2 jt)) / 2)) then ((((((cs_I zc 31 jt).toInt64 * (cs_L zc 3 jt)) / 240) - ((cs_L zc 4 jt) / 2)) - (cs_L zc 5 jt)) - ((cs_L zc 0 (cs_N zc 2 jt)) / 2)) else 0 ∧ u = (cs_i zc, cs_n zc, va_up (va_up (cs_I zc) 33 (va_up (cs_I zc 33) jt 1)) 22 (va_up (cs_I zc 22) (cs_N zc 2 jt) ((cs_I zc 22 (cs_N zc 2 jt)) - 1)), va_up (va_up (cs_L zc) 6 (va_up (cs_L zc 6) jt (if 0 < ((((((cs_I zc 31 jt).toInt64 * (cs_L zc 3 jt)) / 240) - ((cs_L zc 4 jt) / 2)) - (cs_L zc 5 jt)) - ((cs_L zc 0 (cs_N zc 2 jt)) / 2)) then ((((((cs_I zc 31 jt).toInt64 * (cs_L zc 3 jt)) / 240) - ((cs_L zc 4 jt) / 2)) - (cs_L zc 5 jt)) - ((cs_L zc 0 (cs_N zc 2 jt)) / 2)) else 0))) 0 (va_up (cs_L zc 0) (cs_N zc 2 jt) ((cs_L zc 0 (cs_N zc 2 jt)) + (((if 0 < ((((((cs_I zc 31 jt).toInt64 * (cs_L zc 3 jt)) / 240) - ((cs_L zc 4 jt) / 2)) - (cs_L zc 5 jt)) - ((cs_L zc 0 (cs_N zc 2 jt)) / 2)) then ((((((cs_I zc 31 jt).toInt64 * (cs_L zc 3 jt)) / 240) - ((cs_L zc 4 jt) / 2)) - (cs_L zc 5 jt)) - ((cs_L zc 0 (cs_N zc 2 jt)) / 2)) else 0) - ((((((cs_I zc 31 jt).toInt64 * (cs_L zc 3 jt)) / 240) - ((cs_L zc 4 jt) / 2)) - (cs_L zc 5 jt)) - ((cs_L zc 0 (cs_N zc 2 jt)) / 2))) - ((cs_L zc 0 (cs_N zc 2 jt)) / 2)))), va_up (cs_N zc) 0 (va_up (cs_N zc 0) (cs_N zc 3 jt) 0), cs_S zc, cs_X zc)) ∨
  (∃ jt : Nat, t = nI jt ∧ (jt < cs_n zc 2) ∧ (cs_N zc 1 (cs_N zc 2 jt) = 4) ∧ (¬ (cs_I zc 33 jt) = 0) ∧ r = (-9223372036854775808) ∧ u = zc)
set_option maxHeartbeats 4000000 in
set_option maxRecDepth 100000 in
theorem K_settle (l : Launch) (dC : Nat → ClassId) (dI : Nat → Nat → Nat) (cA : Nat → ClassId) (sz : Nat) (zc : CS) (t : Int32) (hI : invC zc) : Met l yX10_settle wsX10_settle ({ frames := 3, cells := 0, slots := 0, locals := 90 }) (kw (dC, dI) (ctys cA) (cF cA zc) sz [.ref (cs_X zc 0 0), .int t]) (kQl (dC, dI) (ctys cA) (cF cA zc) sz (cF cA) (fun r u => invC u ∧ pC_settle zc t r u)) 0 0 (kA (cF cA zc) sz) := by
  refine kw_met (cc := cX10_settle) (maxL := 3) (ret := (some .long)) (by decide) rfl (Nat.le_of_ble_eq_true rfl) ?_
  intro p e s m below meth c0 hx hb hr hml hown hlocks hnm hts hPk hKk hDk hN hsz ls hl
  subst hsz
  have hK : va_K (dC, dI) vwCl [(cA 0, .int), (cA 1, .object RX6), (cA 2, .object RX2), (cA 3, .object RX8), (cA 4, .object RX5), (cA 5, .object RX7)] s := hKk
  obtain ⟨⟨hn0, hn1, hn2, hn3, hn4, hn5⟩, hpi, hgk, htk, hpk, hsh⟩ := id hI
  have hl : lv_has ls 3 [(0, .ref (cs_X zc 0 0)), (1, .int t)] := hl
  have hiX8 : ∀ w ∈ wsX80, w ∈ wsX10_settle := by decide +kernel
  generalize hQ : MQ _ _ _ _ _ _ _ = Q
  rcases ixd t (cs_n zc 2) with hnojt | ⟨jt, hjt, rfl⟩
  · skip
    have hks : kAll (cF cA zc) [(0, 0), (0, 8)] [cTP zc, cR8 cA zc] := ⟨rfl, rfl, trivial⟩
    have hP : va_P (dC, dI) vwCl [cTP zc, cR8 cA zc] s.heap := kAll_P hPk hks
    have hD : va_D (va_A [cTP zc, cR8 cA zc] s.heap.size) [cTP zc, cR8 cA zc] := (kAll_D hDk hks (by simp)).self
    have hA : ∀ q : Nat, s.heap.size ≤ q → va_A [cTP zc, cR8 cA zc] s.heap.size q := fun q h => Or.inr h
    have hS : va_S (va_A [cTP zc, cR8 cA zc] s.heap.size) s.heap s.heap [] := va_S.rf
    refine lv_aload_n hx hb dX10_settle_0 rfl (lv_at hl 0 rfl) ?_
    refine lv_iload_n hx hb dX10_settle_1 rfl (lv_at hl 1 rfl) ?_
    have hPc := hP.sub (ws' := [cTP zc]) [0] rfl
    have hDc := hD.sub (ws' := [cTP zc]) [0] (by decide) rfl
    have hKc := hK.sub (tys' := []) [] rfl
    refine va_csq (va_Run.run (va_runV (As := [.int t]) (rest := []) ⟨hx, hb, hml, hown, hts⟩ (s_takeAt_no l dC dI  _ (cs_X zc 0 0) (.ref (cs_X zc 0 1)) (.ref (cs_X zc 0 6)) (.ref (cs_X zc 0 7)) (.ref (cs_X zc 0 8)) (.ref (cs_X zc 0 9)) (.ref (cs_X zc 0 10)) (.ref (cs_X zc 0 11)) (.int (nI (cs_n zc 0))) (.int (nI (cs_n zc 1))) (.int (nI (cs_n zc 3))) (va_rf (opN (cs_n zc 4) (fun _ => cs_X zc 5 0))) (.int (cs_i zc 2)) t (cs_n zc 2) (by omega) hnojt) (cwV 1 hts gX10_settle_X10_takeAt rfl rfl rfl (by decide +kernel) ⟨Nat.le_of_ble_eq_true rfl, Nat.le_of_ble_eq_true rfl⟩) (pw_preV (va_recv hKc hPc (ci := 10) (q0 := 0) rfl rfl) hPc hKc hDc hN) rfl rfl hl.1 rfl (lv_room (Nat.le_of_ble_eq_true rfl)) dX10_settle_2 ⟨Nat.le_of_ble_eq_true rfl, Nat.le_of_ble_eq_true rfl⟩)) (fun r1 hr1 => ?_)
    have hr1 : r1 = none := hr1
    subst hr1
    refine W.eq (g2 := F0 m 5 ls [.null]) rfl ?_
    refine lv_astore_nN (lv' := [(2, .null), (0, .ref (cs_X zc 0 0)), (1, .int t)]) hx hb dX10_settle_5 rfl hl (by decide) rfl (fun ls hl => ?_)
    refine lv_aload_nN hx hb dX10_settle_6 rfl (lv_at hl 0 rfl) ?_
    refine lv_ifnullN (tgt := 17) hx hb dX10_settle_7 (by decide) ?_
    refine lv_ldc2 (v := (-9223372036854775808)) hx hb hown (hts (.constantLong RX10 137 (-9223372036854775808)) (by decide +kernel)) dX10_settle_17 ?_
    subst hQ
    exact W.lret (v := (-9223372036854775808)) hx hb hr (fun t ht hW => ⟨⟨(-9223372036854775808), zc, rfl, ⟨hI, (Or.inl ⟨hnojt, rfl, rfl⟩)⟩, (by rw [ht]; exact hPk), va_K.moved hW.alike hKk, hDk⟩, (kw_same hPk ht).2⟩) (fun q h => absurd h List.not_mem_nil) dX10_settle_20
  · skip
    rcases (hgk (cs_N zc 2 jt) (htk jt hjt).1) with hk | hk | hk
    · skip
      have hks : kAll (cF cA zc) [(0, 0), (0, 8), (3, jt), (2, cs_N zc 2 jt), (1, cs_N zc 3 jt)] [cTP zc, cR8 cA zc, cTa zc jt, cGaK zc (cs_N zc 2 jt) 1, cPi zc (cs_N zc 3 jt)] := ⟨rfl, rfl, (kF_ta (z := zc) hjt), (kF_gaK (z := zc) (htk jt hjt).1 hk), (kF_pi (z := zc) (htk jt hjt).2), trivial⟩
      have hP : va_P (dC, dI) vwCl [cTP zc, cR8 cA zc, cTa zc jt, cGaK zc (cs_N zc 2 jt) 1, cPi zc (cs_N zc 3 jt)] s.heap := kAll_P hPk hks
      have hD : va_D (va_A [cTP zc, cR8 cA zc, cTa zc jt, cGaK zc (cs_N zc 2 jt) 1, cPi zc (cs_N zc 3 jt)] s.heap.size) [cTP zc, cR8 cA zc, cTa zc jt, cGaK zc (cs_N zc 2 jt) 1, cPi zc (cs_N zc 3 jt)] := (kAll_D hDk hks (by simp)).self
      have hA : ∀ q : Nat, s.heap.size ≤ q → va_A [cTP zc, cR8 cA zc, cTa zc jt, cGaK zc (cs_N zc 2 jt) 1, cPi zc (cs_N zc 3 jt)] s.heap.size q := fun q h => Or.inr h
      have hS : va_S (va_A [cTP zc, cR8 cA zc, cTa zc jt, cGaK zc (cs_N zc 2 jt) 1, cPi zc (cs_N zc 3 jt)] s.heap.size) s.heap s.heap [] := va_S.rf
      refine lv_aload_n hx hb dX10_settle_0 rfl (lv_at hl 0 rfl) ?_
      refine lv_iload_n hx hb dX10_settle_1 rfl (lv_at hl 1 rfl) ?_
      have hPc := hP.sub (ws' := [cTP zc, cR8 cA zc]) [0, 1] rfl
      have hDc := hD.sub (ws' := [cTP zc, cR8 cA zc]) [0, 1] (by decide) rfl
      have hKc := hK.sub (tys' := [(cA 3, .object RX8)]) [3] rfl
      refine va_csq (va_Run.run (va_runV (As := [.int (nI jt)]) (rest := []) ⟨hx, hb, hml, hown, hts⟩ (s_takeAt_yes l dC dI (cA 3) _ (cs_X zc 0 0) (.ref (cs_X zc 0 1)) (.ref (cs_X zc 0 6)) (.ref (cs_X zc 0 7)) (.ref (cs_X zc 0 9)) (.ref (cs_X zc 0 10)) (.ref (cs_X zc 0 11)) (.int (nI (cs_n zc 0))) (.int (nI (cs_n zc 1))) (.int (nI (cs_n zc 3))) (va_rf (opN (cs_n zc 4) (fun _ => cs_X zc 5 0))) (.int (cs_i zc 2)) (cs_X zc 0 8) jt (cs_n zc 2) (cs_X zc 3 jt) (rfN (cs_n zc 2) (cs_X zc 3)) hjt (by omega) (rfN_at hjt)) (cwV 1 hts gX10_settle_X10_takeAt rfl rfl rfl (by decide +kernel) ⟨Nat.le_of_ble_eq_true rfl, Nat.le_of_ble_eq_true rfl⟩) (pw_preV (va_recv hKc hPc (ci := 10) (q0 := 0) rfl rfl) hPc hKc hDc hN) rfl rfl hl.1 rfl (lv_room (Nat.le_of_ble_eq_true rfl)) dX10_settle_2 ⟨Nat.le_of_ble_eq_true rfl, Nat.le_of_ble_eq_true rfl⟩)) (fun r2 hr2 => ?_)
      have hr2 : r2 = some cs_X zc 3 jt := hr2
      subst hr2
      refine W.eq (g2 := F0 m 5 ls [.ref (cs_X zc 3 jt)]) rfl ?_
      refine lv_astore_n (lv' := [(2, .ref (cs_X zc 3 jt)), (0, .ref (cs_X zc 0 0)), (1, .int (nI jt))]) hx hb dX10_settle_5 rfl hl (by decide) rfl (fun ls hl => ?_)
      refine lv_aload_n hx hb dX10_settle_6 rfl (lv_at hl 0 rfl) ?_
      refine lv_ifnull hx hb dX10_settle_7 ?_
      refine lv_aload_n hx hb dX10_settle_10 rfl (lv_at hl 0 rfl) ?_
      refine va_get (D := (dC, dI)) (ci := 8) (v := .int (cs_I zc 33 jt)) (C := RX8) (T := TX8) (N := 12) hx hb hts hiX8 hown hK hP 2 rfl rfl 11 (by decide) (hts (.fieldLink RX10 238 "TributePitches$Take" "settled" "Z") (by decide +kernel)) (fun _ h9 => h9) rfl dX10_settle_11 ?_
      refine lv_if_eq (tgt := 21) hx hb dX10_settle_14 (by decide) (fun c3 => ?_) (fun c3 => ?_)
      · skip
        refine lv_aload_n hx hb dX10_settle_21 rfl (lv_at hl 0 rfl) ?_
        have hPc := hP.sub (ws' := [cTa zc jt, cGaK zc (cs_N zc 2 jt) 1, cPi zc (cs_N zc 3 jt)]) [2, 3, 4] rfl
        have hDc := hD.sub (ws' := [cTa zc jt, cGaK zc (cs_N zc 2 jt) 1, cPi zc (cs_N zc 3 jt)]) [2, 3, 4] (by decide) rfl
        have hKc := hK.sub (tys' := []) [] rfl
        have hFc := va_free (wc := [cTa zc jt, cGaK zc (cs_N zc 2 jt) 1, cPi zc (cs_N zc 3 jt)]) hD hS hA [2, 3, 4] rfl
        refine va_callv (va_runV (As := []) (rest := []) ⟨hx, hb, hml, hown, hts⟩ (s_end_1 l dC dI  _ (cs_X zc 3 jt) (cs_X zc 1 (cs_N zc 3 jt)) (cs_X zc 2 (cs_N zc 2 jt)) (nI (cs_N zc 2 jt)) (cs_I zc 21 (cs_N zc 2 jt)) (cs_I zc 22 (cs_N zc 2 jt)) (cs_L zc 0 (cs_N zc 2 jt)) (.int (nI jt)) (.long (cs_L zc 1 jt)) (.long (cs_L zc 2 jt)) (.long (cs_L zc 6 jt)) (.int (cs_I zc 32 jt)) (.int (cs_I zc 33 jt)) (.int (nI (cs_N zc 3 jt))) (.int (cs_I zc 11 (cs_N zc 3 jt))) (.int (cs_I zc 12 (cs_N zc 3 jt))) (.int (cs_I zc 13 (cs_N zc 3 jt))) (.int (cs_I zc 14 (cs_N zc 3 jt))) (.int (cs_I zc 15 (cs_N zc 3 jt))) (.int (cs_I zc 16 (cs_N zc 3 jt))) (va_rf (opN (cs_N zc 0 (cs_N zc 3 jt)) (cs_X zc 3))) (cs_I zc 31 jt) (cs_L zc 3 jt) (cs_L zc 4 jt) (cs_L zc 5 jt) ) (cwV 0 hts gX10_settle_X8_end rfl rfl rfl (by decide +kernel) ⟨Nat.le_of_ble_eq_true rfl, Nat.le_of_ble_eq_true rfl⟩) (pw_preV (va_recv hKc hPc (ci := 8) (q0 := 0) rfl rfl) hPc hKc hDc hN) rfl rfl hl.1 rfl (lv_room (Nat.le_of_ble_eq_true rfl)) dX10_settle_22 ⟨Nat.le_of_ble_eq_true rfl, Nat.le_of_ble_eq_true rfl⟩) hS (fun q _ h => hFc q h) hFc (fun u t H1 locs ht hvm hw hB hz1 hk1 hS => ?_)
        obtain ⟨hP1, hK1, hD1⟩ := hB
        rw [ht] at hP1
        obtain ⟨hP, hD⟩ := va_join (wr := [cTP zc, cR8 cA zc]) (w1 := [(cs_X zc 3 jt, .inr (8, [.int (nI jt), .int (cs_I zc 31 jt), .ref (cs_X zc 2 (cs_N zc 2 jt)), .ref (cs_X zc 1 (cs_N zc 3 jt)), .long (cs_L zc 1 jt), .long (cs_L zc 2 jt), .long (cs_L zc 3 jt), .long (cs_L zc 4 jt), .long (cs_L zc 5 jt), .long (if 0 < ((((((cs_I zc 31 jt).toInt64 * (cs_L zc 3 jt)) / 240) - ((cs_L zc 4 jt) / 2)) - (cs_L zc 5 jt)) - (cs_L zc 0 (cs_N zc 2 jt))) then ((((((cs_I zc 31 jt).toInt64 * (cs_L zc 3 jt)) / 240) - ((cs_L zc 4 jt) / 2)) - (cs_L zc 5 jt)) - (cs_L zc 0 (cs_N zc 2 jt))) else 0), .int (cs_I zc 32 jt), .int 1])), (cs_X zc 2 (cs_N zc 2 jt), .inr (1, [.int (nI (cs_N zc 2 jt)), .int (cs_I zc 21 (cs_N zc 2 jt)), .int ((cs_I zc 22 (cs_N zc 2 jt)) - 1), .long ((cs_L zc 0 (cs_N zc 2 jt)) + (((if 0 < ((((((cs_I zc 31 jt).toInt64 * (cs_L zc 3 jt)) / 240) - ((cs_L zc 4 jt) / 2)) - (cs_L zc 5 jt)) - (cs_L zc 0 (cs_N zc 2 jt))) then ((((((cs_I zc 31 jt).toInt64 * (cs_L zc 3 jt)) / 240) - ((cs_L zc 4 jt) / 2)) - (cs_L zc 5 jt)) - (cs_L zc 0 (cs_N zc 2 jt))) else 0) - ((((((cs_I zc 31 jt).toInt64 * (cs_L zc 3 jt)) / 240) - ((cs_L zc 4 jt) / 2)) - (cs_L zc 5 jt)) - (cs_L zc 0 (cs_N zc 2 jt)))) - (cs_L zc 0 (cs_N zc 2 jt))))])), (cs_X zc 1 (cs_N zc 3 jt), .inr (6, [.int (nI (cs_N zc 3 jt)), .int (cs_I zc 11 (cs_N zc 3 jt)), .int (cs_I zc 12 (cs_N zc 3 jt)), .int (cs_I zc 13 (cs_N zc 3 jt)), .int (cs_I zc 14 (cs_N zc 3 jt)), .int (cs_I zc 15 (cs_N zc 3 jt)), .int (cs_I zc 16 (cs_N zc 3 jt)), .null]))]) hP hD [2, 3, 4] [0, 1] rfl rfl (by decide) (by decide) hk1 hFc hP1 hD1
        generalize H1 = H at hP hS ⊢
        have hP : va_P (dC, dI) vwCl [cTP zc, cR8 cA zc, (cs_X zc 3 jt, .inr (8, [.int (nI jt), .int (cs_I zc 31 jt), .ref (cs_X zc 2 (cs_N zc 2 jt)), .ref (cs_X zc 1 (cs_N zc 3 jt)), .long (cs_L zc 1 jt), .long (cs_L zc 2 jt), .long (cs_L zc 3 jt), .long (cs_L zc 4 jt), .long (cs_L zc 5 jt), .long (if 0 < ((((((cs_I zc 31 jt).toInt64 * (cs_L zc 3 jt)) / 240) - ((cs_L zc 4 jt) / 2)) - (cs_L zc 5 jt)) - (cs_L zc 0 (cs_N zc 2 jt))) then ((((((cs_I zc 31 jt).toInt64 * (cs_L zc 3 jt)) / 240) - ((cs_L zc 4 jt) / 2)) - (cs_L zc 5 jt)) - (cs_L zc 0 (cs_N zc 2 jt))) else 0), .int (cs_I zc 32 jt), .int 1])), (cs_X zc 2 (cs_N zc 2 jt), .inr (1, [.int (nI (cs_N zc 2 jt)), .int (cs_I zc 21 (cs_N zc 2 jt)), .int ((cs_I zc 22 (cs_N zc 2 jt)) - 1), .long ((cs_L zc 0 (cs_N zc 2 jt)) + (((if 0 < ((((((cs_I zc 31 jt).toInt64 * (cs_L zc 3 jt)) / 240) - ((cs_L zc 4 jt) / 2)) - (cs_L zc 5 jt)) - (cs_L zc 0 (cs_N zc 2 jt))) then ((((((cs_I zc 31 jt).toInt64 * (cs_L zc 3 jt)) / 240) - ((cs_L zc 4 jt) / 2)) - (cs_L zc 5 jt)) - (cs_L zc 0 (cs_N zc 2 jt))) else 0) - ((((((cs_I zc 31 jt).toInt64 * (cs_L zc 3 jt)) / 240) - ((cs_L zc 4 jt) / 2)) - (cs_L zc 5 jt)) - (cs_L zc 0 (cs_N zc 2 jt)))) - (cs_L zc 0 (cs_N zc 2 jt))))])), (cs_X zc 1 (cs_N zc 3 jt), .inr (6, [.int (nI (cs_N zc 3 jt)), .int (cs_I zc 11 (cs_N zc 3 jt)), .int (cs_I zc 12 (cs_N zc 3 jt)), .int (cs_I zc 13 (cs_N zc 3 jt)), .int (cs_I zc 14 (cs_N zc 3 jt)), .int (cs_I zc 15 (cs_N zc 3 jt)), .int (cs_I zc 16 (cs_N zc 3 jt)), .null]))] H := hP
        have hD : va_D _ [cTP zc, cR8 cA zc, (cs_X zc 3 jt, .inr (8, [.int (nI jt), .int (cs_I zc 31 jt), .ref (cs_X zc 2 (cs_N zc 2 jt)), .ref (cs_X zc 1 (cs_N zc 3 jt)), .long (cs_L zc 1 jt), .long (cs_L zc 2 jt), .long (cs_L zc 3 jt), .long (cs_L zc 4 jt), .long (cs_L zc 5 jt), .long (if 0 < ((((((cs_I zc 31 jt).toInt64 * (cs_L zc 3 jt)) / 240) - ((cs_L zc 4 jt) / 2)) - (cs_L zc 5 jt)) - (cs_L zc 0 (cs_N zc 2 jt))) then ((((((cs_I zc 31 jt).toInt64 * (cs_L zc 3 jt)) / 240) - ((cs_L zc 4 jt) / 2)) - (cs_L zc 5 jt)) - (cs_L zc 0 (cs_N zc 2 jt))) else 0), .int (cs_I zc 32 jt), .int 1])), (cs_X zc 2 (cs_N zc 2 jt), .inr (1, [.int (nI (cs_N zc 2 jt)), .int (cs_I zc 21 (cs_N zc 2 jt)), .int ((cs_I zc 22 (cs_N zc 2 jt)) - 1), .long ((cs_L zc 0 (cs_N zc 2 jt)) + (((if 0 < ((((((cs_I zc 31 jt).toInt64 * (cs_L zc 3 jt)) / 240) - ((cs_L zc 4 jt) / 2)) - (cs_L zc 5 jt)) - (cs_L zc 0 (cs_N zc 2 jt))) then ((((((cs_I zc 31 jt).toInt64 * (cs_L zc 3 jt)) / 240) - ((cs_L zc 4 jt) / 2)) - (cs_L zc 5 jt)) - (cs_L zc 0 (cs_N zc 2 jt))) else 0) - ((((((cs_I zc 31 jt).toInt64 * (cs_L zc 3 jt)) / 240) - ((cs_L zc 4 jt) / 2)) - (cs_L zc 5 jt)) - (cs_L zc 0 (cs_N zc 2 jt)))) - (cs_L zc 0 (cs_N zc 2 jt))))])), (cs_X zc 1 (cs_N zc 3 jt), .inr (6, [.int (nI (cs_N zc 3 jt)), .int (cs_I zc 11 (cs_N zc 3 jt)), .int (cs_I zc 12 (cs_N zc 3 jt)), .int (cs_I zc 13 (cs_N zc 3 jt)), .int (cs_I zc 14 (cs_N zc 3 jt)), .int (cs_I zc 15 (cs_N zc 3 jt)), .int (cs_I zc 16 (cs_N zc 3 jt)), .null]))] := hD
        refine lv_aload_n hx hb dX10_settle_25 rfl (lv_at hl 0 rfl) ?_
        refine va_get (D := (dC, dI)) (ci := 8) (v := .long (if 0 < ((((((cs_I zc 31 jt).toInt64 * (cs_L zc 3 jt)) / 240) - ((cs_L zc 4 jt) / 2)) - (cs_L zc 5 jt)) - (cs_L zc 0 (cs_N zc 2 jt))) then ((((((cs_I zc 31 jt).toInt64 * (cs_L zc 3 jt)) / 240) - ((cs_L zc 4 jt) / 2)) - (cs_L zc 5 jt)) - (cs_L zc 0 (cs_N zc 2 jt))) else 0)) (C := RX8) (T := TX8) (N := 12) hx hb hts hiX8 hown hK hP 2 rfl rfl 9 (by decide) (hts (.fieldLink RX10 262 "TributePitches$Take" "pay" "J") (by decide +kernel)) (fun _ h9 => h9) rfl dX10_settle_26 ?_
        subst hQ
        have hP9 : va_P (dC, dI) vwCl [cTP zc, cR8 cA zc, (cs_X zc 3 jt, .inr (8, [.int (nI jt), .int (cs_I zc 31 jt), .ref (cs_X zc 2 (cs_N zc 2 jt)), .ref (cs_X zc 1 (cs_N zc 3 jt)), .long (cs_L zc 1 jt), .long (cs_L zc 2 jt), .long (cs_L zc 3 jt), .long (cs_L zc 4 jt), .long (cs_L zc 5 jt), .long (if 0 < ((((((cs_I zc 31 jt).toInt64 * (cs_L zc 3 jt)) / 240) - ((cs_L zc 4 jt) / 2)) - (cs_L zc 5 jt)) - (cs_L zc 0 (cs_N zc 2 jt))) then ((((((cs_I zc 31 jt).toInt64 * (cs_L zc 3 jt)) / 240) - ((cs_L zc 4 jt) / 2)) - (cs_L zc 5 jt)) - (cs_L zc 0 (cs_N zc 2 jt))) else 0), .int (cs_I zc 32 jt), .int 1])), (cs_X zc 2 (cs_N zc 2 jt), .inr (1, [.int (nI (cs_N zc 2 jt)), .int (cs_I zc 21 (cs_N zc 2 jt)), .int ((cs_I zc 22 (cs_N zc 2 jt)) - 1), .long ((cs_L zc 0 (cs_N zc 2 jt)) + (((if 0 < ((((((cs_I zc 31 jt).toInt64 * (cs_L zc 3 jt)) / 240) - ((cs_L zc 4 jt) / 2)) - (cs_L zc 5 jt)) - (cs_L zc 0 (cs_N zc 2 jt))) then ((((((cs_I zc 31 jt).toInt64 * (cs_L zc 3 jt)) / 240) - ((cs_L zc 4 jt) / 2)) - (cs_L zc 5 jt)) - (cs_L zc 0 (cs_N zc 2 jt))) else 0) - ((((((cs_I zc 31 jt).toInt64 * (cs_L zc 3 jt)) / 240) - ((cs_L zc 4 jt) / 2)) - (cs_L zc 5 jt)) - (cs_L zc 0 (cs_N zc 2 jt)))) - (cs_L zc 0 (cs_N zc 2 jt))))])), (cs_X zc 1 (cs_N zc 3 jt), .inr (6, [.int (nI (cs_N zc 3 jt)), .int (cs_I zc 11 (cs_N zc 3 jt)), .int (cs_I zc 12 (cs_N zc 3 jt)), .int (cs_I zc 13 (cs_N zc 3 jt)), .int (cs_I zc 14 (cs_N zc 3 jt)), .int (cs_I zc 15 (cs_N zc 3 jt)), .int (cs_I zc 16 (cs_N zc 3 jt)), .null]))] H := hP.sub [0, 1, 2, 3, 4] rfl
        have hD9 : va_D (va_A [cTP zc, cR8 cA zc, cTa zc jt, cGaK zc (cs_N zc 2 jt) 1, cPi zc (cs_N zc 3 jt)] s.heap.size) [cTP zc, cR8 cA zc, (cs_X zc 3 jt, .inr (8, [.int (nI jt), .int (cs_I zc 31 jt), .ref (cs_X zc 2 (cs_N zc 2 jt)), .ref (cs_X zc 1 (cs_N zc 3 jt)), .long (cs_L zc 1 jt), .long (cs_L zc 2 jt), .long (cs_L zc 3 jt), .long (cs_L zc 4 jt), .long (cs_L zc 5 jt), .long (if 0 < ((((((cs_I zc 31 jt).toInt64 * (cs_L zc 3 jt)) / 240) - ((cs_L zc 4 jt) / 2)) - (cs_L zc 5 jt)) - (cs_L zc 0 (cs_N zc 2 jt))) then ((((((cs_I zc 31 jt).toInt64 * (cs_L zc 3 jt)) / 240) - ((cs_L zc 4 jt) / 2)) - (cs_L zc 5 jt)) - (cs_L zc 0 (cs_N zc 2 jt))) else 0), .int (cs_I zc 32 jt), .int 1])), (cs_X zc 2 (cs_N zc 2 jt), .inr (1, [.int (nI (cs_N zc 2 jt)), .int (cs_I zc 21 (cs_N zc 2 jt)), .int ((cs_I zc 22 (cs_N zc 2 jt)) - 1), .long ((cs_L zc 0 (cs_N zc 2 jt)) + (((if 0 < ((((((cs_I zc 31 jt).toInt64 * (cs_L zc 3 jt)) / 240) - ((cs_L zc 4 jt) / 2)) - (cs_L zc 5 jt)) - (cs_L zc 0 (cs_N zc 2 jt))) then ((((((cs_I zc 31 jt).toInt64 * (cs_L zc 3 jt)) / 240) - ((cs_L zc 4 jt) / 2)) - (cs_L zc 5 jt)) - (cs_L zc 0 (cs_N zc 2 jt))) else 0) - ((((((cs_I zc 31 jt).toInt64 * (cs_L zc 3 jt)) / 240) - ((cs_L zc 4 jt) / 2)) - (cs_L zc 5 jt)) - (cs_L zc 0 (cs_N zc 2 jt)))) - (cs_L zc 0 (cs_N zc 2 jt))))])), (cs_X zc 1 (cs_N zc 3 jt), .inr (6, [.int (nI (cs_N zc 3 jt)), .int (cs_I zc 11 (cs_N zc 3 jt)), .int (cs_I zc 12 (cs_N zc 3 jt)), .int (cs_I zc 13 (cs_N zc 3 jt)), .int (cs_I zc 14 (cs_N zc 3 jt)), .int (cs_I zc 15 (cs_N zc 3 jt)), .int (cs_I zc 16 (cs_N zc 3 jt)), .null]))] := hD.sub [0, 1, 2, 3, 4] (by decide) rfl
        have hks9 : kAll (cF cA (cs_i zc, cs_n zc, va_up (va_up (cs_I zc) 33 (va_up (cs_I zc 33) jt 1)) 22 (va_up (cs_I zc 22) (cs_N zc 2 jt) ((cs_I zc 22 (cs_N zc 2 jt)) - 1)), va_up (va_up (cs_L zc) 6 (va_up (cs_L zc 6) jt (if 0 < ((((((cs_I zc 31 jt).toInt64 * (cs_L zc 3 jt)) / 240) - ((cs_L zc 4 jt) / 2)) - (cs_L zc 5 jt)) - (cs_L zc 0 (cs_N zc 2 jt))) then ((((((cs_I zc 31 jt).toInt64 * (cs_L zc 3 jt)) / 240) - ((cs_L zc 4 jt) / 2)) - (cs_L zc 5 jt)) - (cs_L zc 0 (cs_N zc 2 jt))) else 0))) 0 (va_up (cs_L zc 0) (cs_N zc 2 jt) ((cs_L zc 0 (cs_N zc 2 jt)) + (((if 0 < ((((((cs_I zc 31 jt).toInt64 * (cs_L zc 3 jt)) / 240) - ((cs_L zc 4 jt) / 2)) - (cs_L zc 5 jt)) - (cs_L zc 0 (cs_N zc 2 jt))) then ((((((cs_I zc 31 jt).toInt64 * (cs_L zc 3 jt)) / 240) - ((cs_L zc 4 jt) / 2)) - (cs_L zc 5 jt)) - (cs_L zc 0 (cs_N zc 2 jt))) else 0) - ((((((cs_I zc 31 jt).toInt64 * (cs_L zc 3 jt)) / 240) - ((cs_L zc 4 jt) / 2)) - (cs_L zc 5 jt)) - (cs_L zc 0 (cs_N zc 2 jt)))) - (cs_L zc 0 (cs_N zc 2 jt))))), va_up (cs_N zc) 0 (va_up (cs_N zc 0) (cs_N zc 3 jt) 0), cs_S zc, cs_X zc)) [(0, 0), (0, 8), (3, jt), (2, cs_N zc 2 jt), (1, cs_N zc 3 jt)] [cTP zc, cR8 cA zc, (cs_X zc 3 jt, .inr (8, [.int (nI jt), .int (cs_I zc 31 jt), .ref (cs_X zc 2 (cs_N zc 2 jt)), .ref (cs_X zc 1 (cs_N zc 3 jt)), .long (cs_L zc 1 jt), .long (cs_L zc 2 jt), .long (cs_L zc 3 jt), .long (cs_L zc 4 jt), .long (cs_L zc 5 jt), .long (if 0 < ((((((cs_I zc 31 jt).toInt64 * (cs_L zc 3 jt)) / 240) - ((cs_L zc 4 jt) / 2)) - (cs_L zc 5 jt)) - (cs_L zc 0 (cs_N zc 2 jt))) then ((((((cs_I zc 31 jt).toInt64 * (cs_L zc 3 jt)) / 240) - ((cs_L zc 4 jt) / 2)) - (cs_L zc 5 jt)) - (cs_L zc 0 (cs_N zc 2 jt))) else 0), .int (cs_I zc 32 jt), .int 1])), (cs_X zc 2 (cs_N zc 2 jt), .inr (1, [.int (nI (cs_N zc 2 jt)), .int (cs_I zc 21 (cs_N zc 2 jt)), .int ((cs_I zc 22 (cs_N zc 2 jt)) - 1), .long ((cs_L zc 0 (cs_N zc 2 jt)) + (((if 0 < ((((((cs_I zc 31 jt).toInt64 * (cs_L zc 3 jt)) / 240) - ((cs_L zc 4 jt) / 2)) - (cs_L zc 5 jt)) - (cs_L zc 0 (cs_N zc 2 jt))) then ((((((cs_I zc 31 jt).toInt64 * (cs_L zc 3 jt)) / 240) - ((cs_L zc 4 jt) / 2)) - (cs_L zc 5 jt)) - (cs_L zc 0 (cs_N zc 2 jt))) else 0) - ((((((cs_I zc 31 jt).toInt64 * (cs_L zc 3 jt)) / 240) - ((cs_L zc 4 jt) / 2)) - (cs_L zc 5 jt)) - (cs_L zc 0 (cs_N zc 2 jt)))) - (cs_L zc 0 (cs_N zc 2 jt))))])), (cs_X zc 1 (cs_N zc 3 jt), .inr (6, [.int (nI (cs_N zc 3 jt)), .int (cs_I zc 11 (cs_N zc 3 jt)), .int (cs_I zc 12 (cs_N zc 3 jt)), .int (cs_I zc 13 (cs_N zc 3 jt)), .int (cs_I zc 14 (cs_N zc 3 jt)), .int (cs_I zc 15 (cs_N zc 3 jt)), .int (cs_I zc 16 (cs_N zc 3 jt)), .null]))] := ⟨rfl, rfl, (by rw [(kF_ta (z := (cs_i zc, cs_n zc, va_up (va_up (cs_I zc) 33 (va_up (cs_I zc 33) jt 1)) 22 (va_up (cs_I zc 22) (cs_N zc 2 jt) ((cs_I zc 22 (cs_N zc 2 jt)) - 1)), va_up (va_up (cs_L zc) 6 (va_up (cs_L zc 6) jt (if 0 < ((((((cs_I zc 31 jt).toInt64 * (cs_L zc 3 jt)) / 240) - ((cs_L zc 4 jt) / 2)) - (cs_L zc 5 jt)) - (cs_L zc 0 (cs_N zc 2 jt))) then ((((((cs_I zc 31 jt).toInt64 * (cs_L zc 3 jt)) / 240) - ((cs_L zc 4 jt) / 2)) - (cs_L zc 5 jt)) - (cs_L zc 0 (cs_N zc 2 jt))) else 0))) 0 (va_up (cs_L zc 0) (cs_N zc 2 jt) ((cs_L zc 0 (cs_N zc 2 jt)) + (((if 0 < ((((((cs_I zc 31 jt).toInt64 * (cs_L zc 3 jt)) / 240) - ((cs_L zc 4 jt) / 2)) - (cs_L zc 5 jt)) - (cs_L zc 0 (cs_N zc 2 jt))) then ((((((cs_I zc 31 jt).toInt64 * (cs_L zc 3 jt)) / 240) - ((cs_L zc 4 jt) / 2)) - (cs_L zc 5 jt)) - (cs_L zc 0 (cs_N zc 2 jt))) else 0) - ((((((cs_I zc 31 jt).toInt64 * (cs_L zc 3 jt)) / 240) - ((cs_L zc 4 jt) / 2)) - (cs_L zc 5 jt)) - (cs_L zc 0 (cs_N zc 2 jt)))) - (cs_L zc 0 (cs_N zc 2 jt))))), va_up (cs_N zc) 0 (va_up (cs_N zc 0) (cs_N zc 3 jt) 0), cs_S zc, cs_X zc)) hjt)]; simp [cTa, va_up, upd, opN]), (by rw [(kF_gaK (z := (cs_i zc, cs_n zc, va_up (va_up (cs_I zc) 33 (va_up (cs_I zc 33) jt 1)) 22 (va_up (cs_I zc 22) (cs_N zc 2 jt) ((cs_I zc 22 (cs_N zc 2 jt)) - 1)), va_up (va_up (cs_L zc) 6 (va_up (cs_L zc 6) jt (if 0 < ((((((cs_I zc 31 jt).toInt64 * (cs_L zc 3 jt)) / 240) - ((cs_L zc 4 jt) / 2)) - (cs_L zc 5 jt)) - (cs_L zc 0 (cs_N zc 2 jt))) then ((((((cs_I zc 31 jt).toInt64 * (cs_L zc 3 jt)) / 240) - ((cs_L zc 4 jt) / 2)) - (cs_L zc 5 jt)) - (cs_L zc 0 (cs_N zc 2 jt))) else 0))) 0 (va_up (cs_L zc 0) (cs_N zc 2 jt) ((cs_L zc 0 (cs_N zc 2 jt)) + (((if 0 < ((((((cs_I zc 31 jt).toInt64 * (cs_L zc 3 jt)) / 240) - ((cs_L zc 4 jt) / 2)) - (cs_L zc 5 jt)) - (cs_L zc 0 (cs_N zc 2 jt))) then ((((((cs_I zc 31 jt).toInt64 * (cs_L zc 3 jt)) / 240) - ((cs_L zc 4 jt) / 2)) - (cs_L zc 5 jt)) - (cs_L zc 0 (cs_N zc 2 jt))) else 0) - ((((((cs_I zc 31 jt).toInt64 * (cs_L zc 3 jt)) / 240) - ((cs_L zc 4 jt) / 2)) - (cs_L zc 5 jt)) - (cs_L zc 0 (cs_N zc 2 jt)))) - (cs_L zc 0 (cs_N zc 2 jt))))), va_up (cs_N zc) 0 (va_up (cs_N zc 0) (cs_N zc 3 jt) 0), cs_S zc, cs_X zc)) (htk jt hjt).1 hk)]; simp [cGa, va_up, upd, opN]), (by rw [(kF_piN (z := (cs_i zc, cs_n zc, va_up (va_up (cs_I zc) 33 (va_up (cs_I zc 33) jt 1)) 22 (va_up (cs_I zc 22) (cs_N zc 2 jt) ((cs_I zc 22 (cs_N zc 2 jt)) - 1)), va_up (va_up (cs_L zc) 6 (va_up (cs_L zc 6) jt (if 0 < ((((((cs_I zc 31 jt).toInt64 * (cs_L zc 3 jt)) / 240) - ((cs_L zc 4 jt) / 2)) - (cs_L zc 5 jt)) - (cs_L zc 0 (cs_N zc 2 jt))) then ((((((cs_I zc 31 jt).toInt64 * (cs_L zc 3 jt)) / 240) - ((cs_L zc 4 jt) / 2)) - (cs_L zc 5 jt)) - (cs_L zc 0 (cs_N zc 2 jt))) else 0))) 0 (va_up (cs_L zc 0) (cs_N zc 2 jt) ((cs_L zc 0 (cs_N zc 2 jt)) + (((if 0 < ((((((cs_I zc 31 jt).toInt64 * (cs_L zc 3 jt)) / 240) - ((cs_L zc 4 jt) / 2)) - (cs_L zc 5 jt)) - (cs_L zc 0 (cs_N zc 2 jt))) then ((((((cs_I zc 31 jt).toInt64 * (cs_L zc 3 jt)) / 240) - ((cs_L zc 4 jt) / 2)) - (cs_L zc 5 jt)) - (cs_L zc 0 (cs_N zc 2 jt))) else 0) - ((((((cs_I zc 31 jt).toInt64 * (cs_L zc 3 jt)) / 240) - ((cs_L zc 4 jt) / 2)) - (cs_L zc 5 jt)) - (cs_L zc 0 (cs_N zc 2 jt)))) - (cs_L zc 0 (cs_N zc 2 jt))))), va_up (cs_N zc) 0 (va_up (cs_N zc 0) (cs_N zc 3 jt) 0), cs_S zc, cs_X zc)) (htk jt hjt).2 (by simp [va_up]))]; simp [cPi, va_up, upd, opN]), trivial⟩
        have hout : ∀ i j, (i, j) ∉ ([(0, 0), (0, 8), (3, jt), (2, cs_N zc 2 jt), (1, cs_N zc 3 jt)] : List (Nat × Nat)) → cF cA (cs_i zc, cs_n zc, va_up (va_up (cs_I zc) 33 (va_up (cs_I zc 33) jt 1)) 22 (va_up (cs_I zc 22) (cs_N zc 2 jt) ((cs_I zc 22 (cs_N zc 2 jt)) - 1)), va_up (va_up (cs_L zc) 6 (va_up (cs_L zc 6) jt (if 0 < ((((((cs_I zc 31 jt).toInt64 * (cs_L zc 3 jt)) / 240) - ((cs_L zc 4 jt) / 2)) - (cs_L zc 5 jt)) - (cs_L zc 0 (cs_N zc 2 jt))) then ((((((cs_I zc 31 jt).toInt64 * (cs_L zc 3 jt)) / 240) - ((cs_L zc 4 jt) / 2)) - (cs_L zc 5 jt)) - (cs_L zc 0 (cs_N zc 2 jt))) else 0))) 0 (va_up (cs_L zc 0) (cs_N zc 2 jt) ((cs_L zc 0 (cs_N zc 2 jt)) + (((if 0 < ((((((cs_I zc 31 jt).toInt64 * (cs_L zc 3 jt)) / 240) - ((cs_L zc 4 jt) / 2)) - (cs_L zc 5 jt)) - (cs_L zc 0 (cs_N zc 2 jt))) then ((((((cs_I zc 31 jt).toInt64 * (cs_L zc 3 jt)) / 240) - ((cs_L zc 4 jt) / 2)) - (cs_L zc 5 jt)) - (cs_L zc 0 (cs_N zc 2 jt))) else 0) - ((((((cs_I zc 31 jt).toInt64 * (cs_L zc 3 jt)) / 240) - ((cs_L zc 4 jt) / 2)) - (cs_L zc 5 jt)) - (cs_L zc 0 (cs_N zc 2 jt)))) - (cs_L zc 0 (cs_N zc 2 jt))))), va_up (cs_N zc) 0 (va_up (cs_N zc 0) (cs_N zc 3 jt) 0), cs_S zc, cs_X zc) i j = none ∨ ((i, j) ∉ ([(0, 0), (0, 8), (3, jt), (2, cs_N zc 2 jt), (1, cs_N zc 3 jt)] : List (Nat × Nat)) ∧ cF cA (cs_i zc, cs_n zc, va_up (va_up (cs_I zc) 33 (va_up (cs_I zc 33) jt 1)) 22 (va_up (cs_I zc 22) (cs_N zc 2 jt) ((cs_I zc 22 (cs_N zc 2 jt)) - 1)), va_up (va_up (cs_L zc) 6 (va_up (cs_L zc 6) jt (if 0 < ((((((cs_I zc 31 jt).toInt64 * (cs_L zc 3 jt)) / 240) - ((cs_L zc 4 jt) / 2)) - (cs_L zc 5 jt)) - (cs_L zc 0 (cs_N zc 2 jt))) then ((((((cs_I zc 31 jt).toInt64 * (cs_L zc 3 jt)) / 240) - ((cs_L zc 4 jt) / 2)) - (cs_L zc 5 jt)) - (cs_L zc 0 (cs_N zc 2 jt))) else 0))) 0 (va_up (cs_L zc 0) (cs_N zc 2 jt) ((cs_L zc 0 (cs_N zc 2 jt)) + (((if 0 < ((((((cs_I zc 31 jt).toInt64 * (cs_L zc 3 jt)) / 240) - ((cs_L zc 4 jt) / 2)) - (cs_L zc 5 jt)) - (cs_L zc 0 (cs_N zc 2 jt))) then ((((((cs_I zc 31 jt).toInt64 * (cs_L zc 3 jt)) / 240) - ((cs_L zc 4 jt) / 2)) - (cs_L zc 5 jt)) - (cs_L zc 0 (cs_N zc 2 jt))) else 0) - ((((((cs_I zc 31 jt).toInt64 * (cs_L zc 3 jt)) / 240) - ((cs_L zc 4 jt) / 2)) - (cs_L zc 5 jt)) - (cs_L zc 0 (cs_N zc 2 jt)))) - (cs_L zc 0 (cs_N zc 2 jt))))), va_up (cs_N zc) 0 (va_up (cs_N zc 0) (cs_N zc 3 jt) 0), cs_S zc, cs_X zc) i j = cF cA zc i j) := by
          intro i j hij
          refine Or.inr ⟨hij, ?_⟩
          rcases i with _ | _ | _ | _ | _ | _ | _ | _ | i
          · rcases j with _ | _ | _ | _ | _ | _ | _ | _ | _ | _ | _ | _ | j <;> first | rfl | exact absurd (by simp) hij
          · have hne0 : j ≠ cs_N zc 3 jt := fun q => hij (by rw [q]; simp)
            have e9 : cPi (cs_i zc, cs_n zc, va_up (va_up (cs_I zc) 33 (va_up (cs_I zc 33) jt 1)) 22 (va_up (cs_I zc 22) (cs_N zc 2 jt) ((cs_I zc 22 (cs_N zc 2 jt)) - 1)), va_up (va_up (cs_L zc) 6 (va_up (cs_L zc 6) jt (if 0 < ((((((cs_I zc 31 jt).toInt64 * (cs_L zc 3 jt)) / 240) - ((cs_L zc 4 jt) / 2)) - (cs_L zc 5 jt)) - (cs_L zc 0 (cs_N zc 2 jt))) then ((((((cs_I zc 31 jt).toInt64 * (cs_L zc 3 jt)) / 240) - ((cs_L zc 4 jt) / 2)) - (cs_L zc 5 jt)) - (cs_L zc 0 (cs_N zc 2 jt))) else 0))) 0 (va_up (cs_L zc 0) (cs_N zc 2 jt) ((cs_L zc 0 (cs_N zc 2 jt)) + (((if 0 < ((((((cs_I zc 31 jt).toInt64 * (cs_L zc 3 jt)) / 240) - ((cs_L zc 4 jt) / 2)) - (cs_L zc 5 jt)) - (cs_L zc 0 (cs_N zc 2 jt))) then ((((((cs_I zc 31 jt).toInt64 * (cs_L zc 3 jt)) / 240) - ((cs_L zc 4 jt) / 2)) - (cs_L zc 5 jt)) - (cs_L zc 0 (cs_N zc 2 jt))) else 0) - ((((((cs_I zc 31 jt).toInt64 * (cs_L zc 3 jt)) / 240) - ((cs_L zc 4 jt) / 2)) - (cs_L zc 5 jt)) - (cs_L zc 0 (cs_N zc 2 jt)))) - (cs_L zc 0 (cs_N zc 2 jt))))), va_up (cs_N zc) 0 (va_up (cs_N zc 0) (cs_N zc 3 jt) 0), cs_S zc, cs_X zc) j = cPi zc j := by simp [cPi, va_up, hne0]
            show (if j < cs_n (cs_i zc, cs_n zc, va_up (va_up (cs_I zc) 33 (va_up (cs_I zc 33) jt 1)) 22 (va_up (cs_I zc 22) (cs_N zc 2 jt) ((cs_I zc 22 (cs_N zc 2 jt)) - 1)), va_up (va_up (cs_L zc) 6 (va_up (cs_L zc 6) jt (if 0 < ((((((cs_I zc 31 jt).toInt64 * (cs_L zc 3 jt)) / 240) - ((cs_L zc 4 jt) / 2)) - (cs_L zc 5 jt)) - (cs_L zc 0 (cs_N zc 2 jt))) then ((((((cs_I zc 31 jt).toInt64 * (cs_L zc 3 jt)) / 240) - ((cs_L zc 4 jt) / 2)) - (cs_L zc 5 jt)) - (cs_L zc 0 (cs_N zc 2 jt))) else 0))) 0 (va_up (cs_L zc 0) (cs_N zc 2 jt) ((cs_L zc 0 (cs_N zc 2 jt)) + (((if 0 < ((((((cs_I zc 31 jt).toInt64 * (cs_L zc 3 jt)) / 240) - ((cs_L zc 4 jt) / 2)) - (cs_L zc 5 jt)) - (cs_L zc 0 (cs_N zc 2 jt))) then ((((((cs_I zc 31 jt).toInt64 * (cs_L zc 3 jt)) / 240) - ((cs_L zc 4 jt) / 2)) - (cs_L zc 5 jt)) - (cs_L zc 0 (cs_N zc 2 jt))) else 0) - ((((((cs_I zc 31 jt).toInt64 * (cs_L zc 3 jt)) / 240) - ((cs_L zc 4 jt) / 2)) - (cs_L zc 5 jt)) - (cs_L zc 0 (cs_N zc 2 jt)))) - (cs_L zc 0 (cs_N zc 2 jt))))), va_up (cs_N zc) 0 (va_up (cs_N zc 0) (cs_N zc 3 jt) 0), cs_S zc, cs_X zc) 0 then some (cPi (cs_i zc, cs_n zc, va_up (va_up (cs_I zc) 33 (va_up (cs_I zc 33) jt 1)) 22 (va_up (cs_I zc 22) (cs_N zc 2 jt) ((cs_I zc 22 (cs_N zc 2 jt)) - 1)), va_up (va_up (cs_L zc) 6 (va_up (cs_L zc 6) jt (if 0 < ((((((cs_I zc 31 jt).toInt64 * (cs_L zc 3 jt)) / 240) - ((cs_L zc 4 jt) / 2)) - (cs_L zc 5 jt)) - (cs_L zc 0 (cs_N zc 2 jt))) then ((((((cs_I zc 31 jt).toInt64 * (cs_L zc 3 jt)) / 240) - ((cs_L zc 4 jt) / 2)) - (cs_L zc 5 jt)) - (cs_L zc 0 (cs_N zc 2 jt))) else 0))) 0 (va_up (cs_L zc 0) (cs_N zc 2 jt) ((cs_L zc 0 (cs_N zc 2 jt)) + (((if 0 < ((((((cs_I zc 31 jt).toInt64 * (cs_L zc 3 jt)) / 240) - ((cs_L zc 4 jt) / 2)) - (cs_L zc 5 jt)) - (cs_L zc 0 (cs_N zc 2 jt))) then ((((((cs_I zc 31 jt).toInt64 * (cs_L zc 3 jt)) / 240) - ((cs_L zc 4 jt) / 2)) - (cs_L zc 5 jt)) - (cs_L zc 0 (cs_N zc 2 jt))) else 0) - ((((((cs_I zc 31 jt).toInt64 * (cs_L zc 3 jt)) / 240) - ((cs_L zc 4 jt) / 2)) - (cs_L zc 5 jt)) - (cs_L zc 0 (cs_N zc 2 jt)))) - (cs_L zc 0 (cs_N zc 2 jt))))), va_up (cs_N zc) 0 (va_up (cs_N zc 0) (cs_N zc 3 jt) 0), cs_S zc, cs_X zc) j) else none) = _
            rw [e9]
            rfl
          · have hne0 : j ≠ cs_N zc 2 jt := fun q => hij (by rw [q]; simp)
            have e9 : cGa (cs_i zc, cs_n zc, va_up (va_up (cs_I zc) 33 (va_up (cs_I zc 33) jt 1)) 22 (va_up (cs_I zc 22) (cs_N zc 2 jt) ((cs_I zc 22 (cs_N zc 2 jt)) - 1)), va_up (va_up (cs_L zc) 6 (va_up (cs_L zc 6) jt (if 0 < ((((((cs_I zc 31 jt).toInt64 * (cs_L zc 3 jt)) / 240) - ((cs_L zc 4 jt) / 2)) - (cs_L zc 5 jt)) - (cs_L zc 0 (cs_N zc 2 jt))) then ((((((cs_I zc 31 jt).toInt64 * (cs_L zc 3 jt)) / 240) - ((cs_L zc 4 jt) / 2)) - (cs_L zc 5 jt)) - (cs_L zc 0 (cs_N zc 2 jt))) else 0))) 0 (va_up (cs_L zc 0) (cs_N zc 2 jt) ((cs_L zc 0 (cs_N zc 2 jt)) + (((if 0 < ((((((cs_I zc 31 jt).toInt64 * (cs_L zc 3 jt)) / 240) - ((cs_L zc 4 jt) / 2)) - (cs_L zc 5 jt)) - (cs_L zc 0 (cs_N zc 2 jt))) then ((((((cs_I zc 31 jt).toInt64 * (cs_L zc 3 jt)) / 240) - ((cs_L zc 4 jt) / 2)) - (cs_L zc 5 jt)) - (cs_L zc 0 (cs_N zc 2 jt))) else 0) - ((((((cs_I zc 31 jt).toInt64 * (cs_L zc 3 jt)) / 240) - ((cs_L zc 4 jt) / 2)) - (cs_L zc 5 jt)) - (cs_L zc 0 (cs_N zc 2 jt)))) - (cs_L zc 0 (cs_N zc 2 jt))))), va_up (cs_N zc) 0 (va_up (cs_N zc 0) (cs_N zc 3 jt) 0), cs_S zc, cs_X zc) j = cGa zc j := by simp [cGa, va_up, hne0]
            show (if j < cs_n (cs_i zc, cs_n zc, va_up (va_up (cs_I zc) 33 (va_up (cs_I zc 33) jt 1)) 22 (va_up (cs_I zc 22) (cs_N zc 2 jt) ((cs_I zc 22 (cs_N zc 2 jt)) - 1)), va_up (va_up (cs_L zc) 6 (va_up (cs_L zc 6) jt (if 0 < ((((((cs_I zc 31 jt).toInt64 * (cs_L zc 3 jt)) / 240) - ((cs_L zc 4 jt) / 2)) - (cs_L zc 5 jt)) - (cs_L zc 0 (cs_N zc 2 jt))) then ((((((cs_I zc 31 jt).toInt64 * (cs_L zc 3 jt)) / 240) - ((cs_L zc 4 jt) / 2)) - (cs_L zc 5 jt)) - (cs_L zc 0 (cs_N zc 2 jt))) else 0))) 0 (va_up (cs_L zc 0) (cs_N zc 2 jt) ((cs_L zc 0 (cs_N zc 2 jt)) + (((if 0 < ((((((cs_I zc 31 jt).toInt64 * (cs_L zc 3 jt)) / 240) - ((cs_L zc 4 jt) / 2)) - (cs_L zc 5 jt)) - (cs_L zc 0 (cs_N zc 2 jt))) then ((((((cs_I zc 31 jt).toInt64 * (cs_L zc 3 jt)) / 240) - ((cs_L zc 4 jt) / 2)) - (cs_L zc 5 jt)) - (cs_L zc 0 (cs_N zc 2 jt))) else 0) - ((((((cs_I zc 31 jt).toInt64 * (cs_L zc 3 jt)) / 240) - ((cs_L zc 4 jt) / 2)) - (cs_L zc 5 jt)) - (cs_L zc 0 (cs_N zc 2 jt)))) - (cs_L zc 0 (cs_N zc 2 jt))))), va_up (cs_N zc) 0 (va_up (cs_N zc 0) (cs_N zc 3 jt) 0), cs_S zc, cs_X zc) 1 then some (cGa (cs_i zc, cs_n zc, va_up (va_up (cs_I zc) 33 (va_up (cs_I zc 33) jt 1)) 22 (va_up (cs_I zc 22) (cs_N zc 2 jt) ((cs_I zc 22 (cs_N zc 2 jt)) - 1)), va_up (va_up (cs_L zc) 6 (va_up (cs_L zc 6) jt (if 0 < ((((((cs_I zc 31 jt).toInt64 * (cs_L zc 3 jt)) / 240) - ((cs_L zc 4 jt) / 2)) - (cs_L zc 5 jt)) - (cs_L zc 0 (cs_N zc 2 jt))) then ((((((cs_I zc 31 jt).toInt64 * (cs_L zc 3 jt)) / 240) - ((cs_L zc 4 jt) / 2)) - (cs_L zc 5 jt)) - (cs_L zc 0 (cs_N zc 2 jt))) else 0))) 0 (va_up (cs_L zc 0) (cs_N zc 2 jt) ((cs_L zc 0 (cs_N zc 2 jt)) + (((if 0 < ((((((cs_I zc 31 jt).toInt64 * (cs_L zc 3 jt)) / 240) - ((cs_L zc 4 jt) / 2)) - (cs_L zc 5 jt)) - (cs_L zc 0 (cs_N zc 2 jt))) then ((((((cs_I zc 31 jt).toInt64 * (cs_L zc 3 jt)) / 240) - ((cs_L zc 4 jt) / 2)) - (cs_L zc 5 jt)) - (cs_L zc 0 (cs_N zc 2 jt))) else 0) - ((((((cs_I zc 31 jt).toInt64 * (cs_L zc 3 jt)) / 240) - ((cs_L zc 4 jt) / 2)) - (cs_L zc 5 jt)) - (cs_L zc 0 (cs_N zc 2 jt)))) - (cs_L zc 0 (cs_N zc 2 jt))))), va_up (cs_N zc) 0 (va_up (cs_N zc 0) (cs_N zc 3 jt) 0), cs_S zc, cs_X zc) j) else none) = _
            rw [e9]
            rfl
          · have hne0 : j ≠ jt := fun q => hij (by rw [q]; simp)
            have e9 : cTa (cs_i zc, cs_n zc, va_up (va_up (cs_I zc) 33 (va_up (cs_I zc 33) jt 1)) 22 (va_up (cs_I zc 22) (cs_N zc 2 jt) ((cs_I zc 22 (cs_N zc 2 jt)) - 1)), va_up (va_up (cs_L zc) 6 (va_up (cs_L zc 6) jt (if 0 < ((((((cs_I zc 31 jt).toInt64 * (cs_L zc 3 jt)) / 240) - ((cs_L zc 4 jt) / 2)) - (cs_L zc 5 jt)) - (cs_L zc 0 (cs_N zc 2 jt))) then ((((((cs_I zc 31 jt).toInt64 * (cs_L zc 3 jt)) / 240) - ((cs_L zc 4 jt) / 2)) - (cs_L zc 5 jt)) - (cs_L zc 0 (cs_N zc 2 jt))) else 0))) 0 (va_up (cs_L zc 0) (cs_N zc 2 jt) ((cs_L zc 0 (cs_N zc 2 jt)) + (((if 0 < ((((((cs_I zc 31 jt).toInt64 * (cs_L zc 3 jt)) / 240) - ((cs_L zc 4 jt) / 2)) - (cs_L zc 5 jt)) - (cs_L zc 0 (cs_N zc 2 jt))) then ((((((cs_I zc 31 jt).toInt64 * (cs_L zc 3 jt)) / 240) - ((cs_L zc 4 jt) / 2)) - (cs_L zc 5 jt)) - (cs_L zc 0 (cs_N zc 2 jt))) else 0) - ((((((cs_I zc 31 jt).toInt64 * (cs_L zc 3 jt)) / 240) - ((cs_L zc 4 jt) / 2)) - (cs_L zc 5 jt)) - (cs_L zc 0 (cs_N zc 2 jt)))) - (cs_L zc 0 (cs_N zc 2 jt))))), va_up (cs_N zc) 0 (va_up (cs_N zc 0) (cs_N zc 3 jt) 0), cs_S zc, cs_X zc) j = cTa zc j := by simp [cTa, va_up, hne0]
            show (if j < cs_n (cs_i zc, cs_n zc, va_up (va_up (cs_I zc) 33 (va_up (cs_I zc 33) jt 1)) 22 (va_up (cs_I zc 22) (cs_N zc 2 jt) ((cs_I zc 22 (cs_N zc 2 jt)) - 1)), va_up (va_up (cs_L zc) 6 (va_up (cs_L zc 6) jt (if 0 < ((((((cs_I zc 31 jt).toInt64 * (cs_L zc 3 jt)) / 240) - ((cs_L zc 4 jt) / 2)) - (cs_L zc 5 jt)) - (cs_L zc 0 (cs_N zc 2 jt))) then ((((((cs_I zc 31 jt).toInt64 * (cs_L zc 3 jt)) / 240) - ((cs_L zc 4 jt) / 2)) - (cs_L zc 5 jt)) - (cs_L zc 0 (cs_N zc 2 jt))) else 0))) 0 (va_up (cs_L zc 0) (cs_N zc 2 jt) ((cs_L zc 0 (cs_N zc 2 jt)) + (((if 0 < ((((((cs_I zc 31 jt).toInt64 * (cs_L zc 3 jt)) / 240) - ((cs_L zc 4 jt) / 2)) - (cs_L zc 5 jt)) - (cs_L zc 0 (cs_N zc 2 jt))) then ((((((cs_I zc 31 jt).toInt64 * (cs_L zc 3 jt)) / 240) - ((cs_L zc 4 jt) / 2)) - (cs_L zc 5 jt)) - (cs_L zc 0 (cs_N zc 2 jt))) else 0) - ((((((cs_I zc 31 jt).toInt64 * (cs_L zc 3 jt)) / 240) - ((cs_L zc 4 jt) / 2)) - (cs_L zc 5 jt)) - (cs_L zc 0 (cs_N zc 2 jt)))) - (cs_L zc 0 (cs_N zc 2 jt))))), va_up (cs_N zc) 0 (va_up (cs_N zc 0) (cs_N zc 3 jt) 0), cs_S zc, cs_X zc) 2 then some (cTa (cs_i zc, cs_n zc, va_up (va_up (cs_I zc) 33 (va_up (cs_I zc 33) jt 1)) 22 (va_up (cs_I zc 22) (cs_N zc 2 jt) ((cs_I zc 22 (cs_N zc 2 jt)) - 1)), va_up (va_up (cs_L zc) 6 (va_up (cs_L zc 6) jt (if 0 < ((((((cs_I zc 31 jt).toInt64 * (cs_L zc 3 jt)) / 240) - ((cs_L zc 4 jt) / 2)) - (cs_L zc 5 jt)) - (cs_L zc 0 (cs_N zc 2 jt))) then ((((((cs_I zc 31 jt).toInt64 * (cs_L zc 3 jt)) / 240) - ((cs_L zc 4 jt) / 2)) - (cs_L zc 5 jt)) - (cs_L zc 0 (cs_N zc 2 jt))) else 0))) 0 (va_up (cs_L zc 0) (cs_N zc 2 jt) ((cs_L zc 0 (cs_N zc 2 jt)) + (((if 0 < ((((((cs_I zc 31 jt).toInt64 * (cs_L zc 3 jt)) / 240) - ((cs_L zc 4 jt) / 2)) - (cs_L zc 5 jt)) - (cs_L zc 0 (cs_N zc 2 jt))) then ((((((cs_I zc 31 jt).toInt64 * (cs_L zc 3 jt)) / 240) - ((cs_L zc 4 jt) / 2)) - (cs_L zc 5 jt)) - (cs_L zc 0 (cs_N zc 2 jt))) else 0) - ((((((cs_I zc 31 jt).toInt64 * (cs_L zc 3 jt)) / 240) - ((cs_L zc 4 jt) / 2)) - (cs_L zc 5 jt)) - (cs_L zc 0 (cs_N zc 2 jt)))) - (cs_L zc 0 (cs_N zc 2 jt))))), va_up (cs_N zc) 0 (va_up (cs_N zc 0) (cs_N zc 3 jt) 0), cs_S zc, cs_X zc) j) else none) = _
            rw [e9]
            rfl
          · rfl
          · rfl
          · rfl
          · rfl
          · rfl
        exact W.lret (v := if 0 < ((((((cs_I zc 31 jt).toInt64 * (cs_L zc 3 jt)) / 240) - ((cs_L zc 4 jt) / 2)) - (cs_L zc 5 jt)) - (cs_L zc 0 (cs_N zc 2 jt))) then ((((((cs_I zc 31 jt).toInt64 * (cs_L zc 3 jt)) / 240) - ((cs_L zc 4 jt) / 2)) - (cs_L zc 5 jt)) - (cs_L zc 0 (cs_N zc 2 jt))) else 0) hx hb hr (fun t ht hW => have hJ := kjoin hPk hDk hks rfl (hS.F ht) (by rw [ht]; exact hP9) hD9 hks9 hout; ⟨⟨if 0 < ((((((cs_I zc 31 jt).toInt64 * (cs_L zc 3 jt)) / 240) - ((cs_L zc 4 jt) / 2)) - (cs_L zc 5 jt)) - (cs_L zc 0 (cs_N zc 2 jt))) then ((((((cs_I zc 31 jt).toInt64 * (cs_L zc 3 jt)) / 240) - ((cs_L zc 4 jt) / 2)) - (cs_L zc 5 jt)) - (cs_L zc 0 (cs_N zc 2 jt))) else 0, (cs_i zc, cs_n zc, va_up (va_up (cs_I zc) 33 (va_up (cs_I zc 33) jt 1)) 22 (va_up (cs_I zc 22) (cs_N zc 2 jt) ((cs_I zc 22 (cs_N zc 2 jt)) - 1)), va_up (va_up (cs_L zc) 6 (va_up (cs_L zc 6) jt (if 0 < ((((((cs_I zc 31 jt).toInt64 * (cs_L zc 3 jt)) / 240) - ((cs_L zc 4 jt) / 2)) - (cs_L zc 5 jt)) - (cs_L zc 0 (cs_N zc 2 jt))) then ((((((cs_I zc 31 jt).toInt64 * (cs_L zc 3 jt)) / 240) - ((cs_L zc 4 jt) / 2)) - (cs_L zc 5 jt)) - (cs_L zc 0 (cs_N zc 2 jt))) else 0))) 0 (va_up (cs_L zc 0) (cs_N zc 2 jt) ((cs_L zc 0 (cs_N zc 2 jt)) + (((if 0 < ((((((cs_I zc 31 jt).toInt64 * (cs_L zc 3 jt)) / 240) - ((cs_L zc 4 jt) / 2)) - (cs_L zc 5 jt)) - (cs_L zc 0 (cs_N zc 2 jt))) then ((((((cs_I zc 31 jt).toInt64 * (cs_L zc 3 jt)) / 240) - ((cs_L zc 4 jt) / 2)) - (cs_L zc 5 jt)) - (cs_L zc 0 (cs_N zc 2 jt))) else 0) - ((((((cs_I zc 31 jt).toInt64 * (cs_L zc 3 jt)) / 240) - ((cs_L zc 4 jt) / 2)) - (cs_L zc 5 jt)) - (cs_L zc 0 (cs_N zc 2 jt)))) - (cs_L zc 0 (cs_N zc 2 jt))))), va_up (cs_N zc) 0 (va_up (cs_N zc 0) (cs_N zc 3 jt) 0), cs_S zc, cs_X zc), rfl, ⟨(inv_settle hI), (Or.inr (Or.inl ⟨jt, rfl, hjt, hk, c3, rfl, rfl⟩))⟩, hJ.1, va_K.moved hW.alike hKk, hJ.2.1⟩, hJ.2.2⟩) (fun q h => kAll_A hks _ (hS.2.2 q h)) dX10_settle_29
      · skip
        refine lv_ldc2 (v := (-9223372036854775808)) hx hb hown (hts (.constantLong RX10 137 (-9223372036854775808)) (by decide +kernel)) dX10_settle_17 ?_
        subst hQ
        exact W.lret (v := (-9223372036854775808)) hx hb hr (fun t ht hW => ⟨⟨(-9223372036854775808), zc, rfl, ⟨hI, (Or.inr (Or.inr (Or.inl ⟨jt, rfl, hjt, hk, c3, rfl, rfl⟩)))⟩, (by rw [ht]; exact hPk), va_K.moved hW.alike hKk, hDk⟩, (kw_same hPk ht).2⟩) (fun q h => absurd h List.not_mem_nil) dX10_settle_20
    · skip
      have hks : kAll (cF cA zc) [(0, 0), (0, 8), (3, jt), (2, cs_N zc 2 jt), (1, cs_N zc 3 jt)] [cTP zc, cR8 cA zc, cTa zc jt, cGaK zc (cs_N zc 2 jt) 2, cPi zc (cs_N zc 3 jt)] := ⟨rfl, rfl, (kF_ta (z := zc) hjt), (kF_gaK (z := zc) (htk jt hjt).1 hk), (kF_pi (z := zc) (htk jt hjt).2), trivial⟩
      have hP : va_P (dC, dI) vwCl [cTP zc, cR8 cA zc, cTa zc jt, cGaK zc (cs_N zc 2 jt) 2, cPi zc (cs_N zc 3 jt)] s.heap := kAll_P hPk hks
      have hD : va_D (va_A [cTP zc, cR8 cA zc, cTa zc jt, cGaK zc (cs_N zc 2 jt) 2, cPi zc (cs_N zc 3 jt)] s.heap.size) [cTP zc, cR8 cA zc, cTa zc jt, cGaK zc (cs_N zc 2 jt) 2, cPi zc (cs_N zc 3 jt)] := (kAll_D hDk hks (by simp)).self
      have hA : ∀ q : Nat, s.heap.size ≤ q → va_A [cTP zc, cR8 cA zc, cTa zc jt, cGaK zc (cs_N zc 2 jt) 2, cPi zc (cs_N zc 3 jt)] s.heap.size q := fun q h => Or.inr h
      have hS : va_S (va_A [cTP zc, cR8 cA zc, cTa zc jt, cGaK zc (cs_N zc 2 jt) 2, cPi zc (cs_N zc 3 jt)] s.heap.size) s.heap s.heap [] := va_S.rf
      refine lv_aload_n hx hb dX10_settle_0 rfl (lv_at hl 0 rfl) ?_
      refine lv_iload_n hx hb dX10_settle_1 rfl (lv_at hl 1 rfl) ?_
      have hPc := hP.sub (ws' := [cTP zc, cR8 cA zc]) [0, 1] rfl
      have hDc := hD.sub (ws' := [cTP zc, cR8 cA zc]) [0, 1] (by decide) rfl
      have hKc := hK.sub (tys' := [(cA 3, .object RX8)]) [3] rfl
      refine va_csq (va_Run.run (va_runV (As := [.int (nI jt)]) (rest := []) ⟨hx, hb, hml, hown, hts⟩ (s_takeAt_yes l dC dI (cA 3) _ (cs_X zc 0 0) (.ref (cs_X zc 0 1)) (.ref (cs_X zc 0 6)) (.ref (cs_X zc 0 7)) (.ref (cs_X zc 0 9)) (.ref (cs_X zc 0 10)) (.ref (cs_X zc 0 11)) (.int (nI (cs_n zc 0))) (.int (nI (cs_n zc 1))) (.int (nI (cs_n zc 3))) (va_rf (opN (cs_n zc 4) (fun _ => cs_X zc 5 0))) (.int (cs_i zc 2)) (cs_X zc 0 8) jt (cs_n zc 2) (cs_X zc 3 jt) (rfN (cs_n zc 2) (cs_X zc 3)) hjt (by omega) (rfN_at hjt)) (cwV 1 hts gX10_settle_X10_takeAt rfl rfl rfl (by decide +kernel) ⟨Nat.le_of_ble_eq_true rfl, Nat.le_of_ble_eq_true rfl⟩) (pw_preV (va_recv hKc hPc (ci := 10) (q0 := 0) rfl rfl) hPc hKc hDc hN) rfl rfl hl.1 rfl (lv_room (Nat.le_of_ble_eq_true rfl)) dX10_settle_2 ⟨Nat.le_of_ble_eq_true rfl, Nat.le_of_ble_eq_true rfl⟩)) (fun r5 hr5 => ?_)
      have hr5 : r5 = some cs_X zc 3 jt := hr5
      subst hr5
      refine W.eq (g2 := F0 m 5 ls [.ref (cs_X zc 3 jt)]) rfl ?_
      refine lv_astore_n (lv' := [(2, .ref (cs_X zc 3 jt)), (0, .ref (cs_X zc 0 0)), (1, .int (nI jt))]) hx hb dX10_settle_5 rfl hl (by decide) rfl (fun ls hl => ?_)
      refine lv_aload_n hx hb dX10_settle_6 rfl (lv_at hl 0 rfl) ?_
      refine lv_ifnull hx hb dX10_settle_7 ?_
      refine lv_aload_n hx hb dX10_settle_10 rfl (lv_at hl 0 rfl) ?_
      refine va_get (D := (dC, dI)) (ci := 8) (v := .int (cs_I zc 33 jt)) (C := RX8) (T := TX8) (N := 12) hx hb hts hiX8 hown hK hP 2 rfl rfl 11 (by decide) (hts (.fieldLink RX10 238 "TributePitches$Take" "settled" "Z") (by decide +kernel)) (fun _ h9 => h9) rfl dX10_settle_11 ?_
      refine lv_if_eq (tgt := 21) hx hb dX10_settle_14 (by decide) (fun c6 => ?_) (fun c6 => ?_)
      · skip
        refine lv_aload_n hx hb dX10_settle_21 rfl (lv_at hl 0 rfl) ?_
        have hPc := hP.sub (ws' := [cTa zc jt, cGaK zc (cs_N zc 2 jt) 2, cPi zc (cs_N zc 3 jt)]) [2, 3, 4] rfl
        have hDc := hD.sub (ws' := [cTa zc jt, cGaK zc (cs_N zc 2 jt) 2, cPi zc (cs_N zc 3 jt)]) [2, 3, 4] (by decide) rfl
        have hKc := hK.sub (tys' := []) [] rfl
        have hFc := va_free (wc := [cTa zc jt, cGaK zc (cs_N zc 2 jt) 2, cPi zc (cs_N zc 3 jt)]) hD hS hA [2, 3, 4] rfl
        refine va_callv (va_runV (As := []) (rest := []) ⟨hx, hb, hml, hown, hts⟩ (s_end_2 l dC dI  _ (cs_X zc 3 jt) (cs_X zc 1 (cs_N zc 3 jt)) (cs_X zc 2 (cs_N zc 2 jt)) (nI (cs_N zc 2 jt)) (cs_I zc 21 (cs_N zc 2 jt)) (cs_I zc 22 (cs_N zc 2 jt)) (cs_L zc 0 (cs_N zc 2 jt)) (.int (nI jt)) (.long (cs_L zc 1 jt)) (.long (cs_L zc 2 jt)) (.long (cs_L zc 6 jt)) (.int (cs_I zc 32 jt)) (.int (cs_I zc 33 jt)) (.int (nI (cs_N zc 3 jt))) (.int (cs_I zc 11 (cs_N zc 3 jt))) (.int (cs_I zc 12 (cs_N zc 3 jt))) (.int (cs_I zc 13 (cs_N zc 3 jt))) (.int (cs_I zc 14 (cs_N zc 3 jt))) (.int (cs_I zc 15 (cs_N zc 3 jt))) (.int (cs_I zc 16 (cs_N zc 3 jt))) (va_rf (opN (cs_N zc 0 (cs_N zc 3 jt)) (cs_X zc 3))) (cs_I zc 31 jt) (cs_L zc 3 jt) (cs_L zc 4 jt) (cs_L zc 5 jt) ) (cwV 0 hts gX10_settle_X8_end rfl rfl rfl (by decide +kernel) ⟨Nat.le_of_ble_eq_true rfl, Nat.le_of_ble_eq_true rfl⟩) (pw_preV (va_recv hKc hPc (ci := 8) (q0 := 0) rfl rfl) hPc hKc hDc hN) rfl rfl hl.1 rfl (lv_room (Nat.le_of_ble_eq_true rfl)) dX10_settle_22 ⟨Nat.le_of_ble_eq_true rfl, Nat.le_of_ble_eq_true rfl⟩) hS (fun q _ h => hFc q h) hFc (fun u t H1 locs ht hvm hw hB hz1 hk1 hS => ?_)
        obtain ⟨hP1, hK1, hD1⟩ := hB
        rw [ht] at hP1
        obtain ⟨hP, hD⟩ := va_join (wr := [cTP zc, cR8 cA zc]) (w1 := [(cs_X zc 3 jt, .inr (8, [.int (nI jt), .int (cs_I zc 31 jt), .ref (cs_X zc 2 (cs_N zc 2 jt)), .ref (cs_X zc 1 (cs_N zc 3 jt)), .long (cs_L zc 1 jt), .long (cs_L zc 2 jt), .long (cs_L zc 3 jt), .long (cs_L zc 4 jt), .long (cs_L zc 5 jt), .long (if 0 < ((((((cs_I zc 31 jt).toInt64 * (cs_L zc 3 jt)) / 240) - (cs_L zc 4 jt)) - (cs_L zc 5 jt)) - (cs_L zc 0 (cs_N zc 2 jt))) then ((((((cs_I zc 31 jt).toInt64 * (cs_L zc 3 jt)) / 240) - (cs_L zc 4 jt)) - (cs_L zc 5 jt)) - (cs_L zc 0 (cs_N zc 2 jt))) else 0), .int (cs_I zc 32 jt), .int 1])), (cs_X zc 2 (cs_N zc 2 jt), .inr (2, [.int (nI (cs_N zc 2 jt)), .int (cs_I zc 21 (cs_N zc 2 jt)), .int ((cs_I zc 22 (cs_N zc 2 jt)) - 1), .long ((cs_L zc 0 (cs_N zc 2 jt)) + (((if 0 < ((((((cs_I zc 31 jt).toInt64 * (cs_L zc 3 jt)) / 240) - (cs_L zc 4 jt)) - (cs_L zc 5 jt)) - (cs_L zc 0 (cs_N zc 2 jt))) then ((((((cs_I zc 31 jt).toInt64 * (cs_L zc 3 jt)) / 240) - (cs_L zc 4 jt)) - (cs_L zc 5 jt)) - (cs_L zc 0 (cs_N zc 2 jt))) else 0) - ((((((cs_I zc 31 jt).toInt64 * (cs_L zc 3 jt)) / 240) - (cs_L zc 4 jt)) - (cs_L zc 5 jt)) - (cs_L zc 0 (cs_N zc 2 jt)))) - (cs_L zc 0 (cs_N zc 2 jt))))])), (cs_X zc 1 (cs_N zc 3 jt), .inr (6, [.int (nI (cs_N zc 3 jt)), .int (cs_I zc 11 (cs_N zc 3 jt)), .int (cs_I zc 12 (cs_N zc 3 jt)), .int (cs_I zc 13 (cs_N zc 3 jt)), .int (cs_I zc 14 (cs_N zc 3 jt)), .int (cs_I zc 15 (cs_N zc 3 jt)), .int (cs_I zc 16 (cs_N zc 3 jt)), .null]))]) hP hD [2, 3, 4] [0, 1] rfl rfl (by decide) (by decide) hk1 hFc hP1 hD1
        generalize H1 = H at hP hS ⊢
        have hP : va_P (dC, dI) vwCl [cTP zc, cR8 cA zc, (cs_X zc 3 jt, .inr (8, [.int (nI jt), .int (cs_I zc 31 jt), .ref (cs_X zc 2 (cs_N zc 2 jt)), .ref (cs_X zc 1 (cs_N zc 3 jt)), .long (cs_L zc 1 jt), .long (cs_L zc 2 jt), .long (cs_L zc 3 jt), .long (cs_L zc 4 jt), .long (cs_L zc 5 jt), .long (if 0 < ((((((cs_I zc 31 jt).toInt64 * (cs_L zc 3 jt)) / 240) - (cs_L zc 4 jt)) - (cs_L zc 5 jt)) - (cs_L zc 0 (cs_N zc 2 jt))) then ((((((cs_I zc 31 jt).toInt64 * (cs_L zc 3 jt)) / 240) - (cs_L zc 4 jt)) - (cs_L zc 5 jt)) - (cs_L zc 0 (cs_N zc 2 jt))) else 0), .int (cs_I zc 32 jt), .int 1])), (cs_X zc 2 (cs_N zc 2 jt), .inr (2, [.int (nI (cs_N zc 2 jt)), .int (cs_I zc 21 (cs_N zc 2 jt)), .int ((cs_I zc 22 (cs_N zc 2 jt)) - 1), .long ((cs_L zc 0 (cs_N zc 2 jt)) + (((if 0 < ((((((cs_I zc 31 jt).toInt64 * (cs_L zc 3 jt)) / 240) - (cs_L zc 4 jt)) - (cs_L zc 5 jt)) - (cs_L zc 0 (cs_N zc 2 jt))) then ((((((cs_I zc 31 jt).toInt64 * (cs_L zc 3 jt)) / 240) - (cs_L zc 4 jt)) - (cs_L zc 5 jt)) - (cs_L zc 0 (cs_N zc 2 jt))) else 0) - ((((((cs_I zc 31 jt).toInt64 * (cs_L zc 3 jt)) / 240) - (cs_L zc 4 jt)) - (cs_L zc 5 jt)) - (cs_L zc 0 (cs_N zc 2 jt)))) - (cs_L zc 0 (cs_N zc 2 jt))))])), (cs_X zc 1 (cs_N zc 3 jt), .inr (6, [.int (nI (cs_N zc 3 jt)), .int (cs_I zc 11 (cs_N zc 3 jt)), .int (cs_I zc 12 (cs_N zc 3 jt)), .int (cs_I zc 13 (cs_N zc 3 jt)), .int (cs_I zc 14 (cs_N zc 3 jt)), .int (cs_I zc 15 (cs_N zc 3 jt)), .int (cs_I zc 16 (cs_N zc 3 jt)), .null]))] H := hP
        have hD : va_D _ [cTP zc, cR8 cA zc, (cs_X zc 3 jt, .inr (8, [.int (nI jt), .int (cs_I zc 31 jt), .ref (cs_X zc 2 (cs_N zc 2 jt)), .ref (cs_X zc 1 (cs_N zc 3 jt)), .long (cs_L zc 1 jt), .long (cs_L zc 2 jt), .long (cs_L zc 3 jt), .long (cs_L zc 4 jt), .long (cs_L zc 5 jt), .long (if 0 < ((((((cs_I zc 31 jt).toInt64 * (cs_L zc 3 jt)) / 240) - (cs_L zc 4 jt)) - (cs_L zc 5 jt)) - (cs_L zc 0 (cs_N zc 2 jt))) then ((((((cs_I zc 31 jt).toInt64 * (cs_L zc 3 jt)) / 240) - (cs_L zc 4 jt)) - (cs_L zc 5 jt)) - (cs_L zc 0 (cs_N zc 2 jt))) else 0), .int (cs_I zc 32 jt), .int 1])), (cs_X zc 2 (cs_N zc 2 jt), .inr (2, [.int (nI (cs_N zc 2 jt)), .int (cs_I zc 21 (cs_N zc 2 jt)), .int ((cs_I zc 22 (cs_N zc 2 jt)) - 1), .long ((cs_L zc 0 (cs_N zc 2 jt)) + (((if 0 < ((((((cs_I zc 31 jt).toInt64 * (cs_L zc 3 jt)) / 240) - (cs_L zc 4 jt)) - (cs_L zc 5 jt)) - (cs_L zc 0 (cs_N zc 2 jt))) then ((((((cs_I zc 31 jt).toInt64 * (cs_L zc 3 jt)) / 240) - (cs_L zc 4 jt)) - (cs_L zc 5 jt)) - (cs_L zc 0 (cs_N zc 2 jt))) else 0) - ((((((cs_I zc 31 jt).toInt64 * (cs_L zc 3 jt)) / 240) - (cs_L zc 4 jt)) - (cs_L zc 5 jt)) - (cs_L zc 0 (cs_N zc 2 jt)))) - (cs_L zc 0 (cs_N zc 2 jt))))])), (cs_X zc 1 (cs_N zc 3 jt), .inr (6, [.int (nI (cs_N zc 3 jt)), .int (cs_I zc 11 (cs_N zc 3 jt)), .int (cs_I zc 12 (cs_N zc 3 jt)), .int (cs_I zc 13 (cs_N zc 3 jt)), .int (cs_I zc 14 (cs_N zc 3 jt)), .int (cs_I zc 15 (cs_N zc 3 jt)), .int (cs_I zc 16 (cs_N zc 3 jt)), .null]))] := hD
        refine lv_aload_n hx hb dX10_settle_25 rfl (lv_at hl 0 rfl) ?_
        refine va_get (D := (dC, dI)) (ci := 8) (v := .long (if 0 < ((((((cs_I zc 31 jt).toInt64 * (cs_L zc 3 jt)) / 240) - (cs_L zc 4 jt)) - (cs_L zc 5 jt)) - (cs_L zc 0 (cs_N zc 2 jt))) then ((((((cs_I zc 31 jt).toInt64 * (cs_L zc 3 jt)) / 240) - (cs_L zc 4 jt)) - (cs_L zc 5 jt)) - (cs_L zc 0 (cs_N zc 2 jt))) else 0)) (C := RX8) (T := TX8) (N := 12) hx hb hts hiX8 hown hK hP 2 rfl rfl 9 (by decide) (hts (.fieldLink RX10 262 "TributePitches$Take" "pay" "J") (by decide +kernel)) (fun _ h9 => h9) rfl dX10_settle_26 ?_
        subst hQ
        have hP9 : va_P (dC, dI) vwCl [cTP zc, cR8 cA zc, (cs_X zc 3 jt, .inr (8, [.int (nI jt), .int (cs_I zc 31 jt), .ref (cs_X zc 2 (cs_N zc 2 jt)), .ref (cs_X zc 1 (cs_N zc 3 jt)), .long (cs_L zc 1 jt), .long (cs_L zc 2 jt), .long (cs_L zc 3 jt), .long (cs_L zc 4 jt), .long (cs_L zc 5 jt), .long (if 0 < ((((((cs_I zc 31 jt).toInt64 * (cs_L zc 3 jt)) / 240) - (cs_L zc 4 jt)) - (cs_L zc 5 jt)) - (cs_L zc 0 (cs_N zc 2 jt))) then ((((((cs_I zc 31 jt).toInt64 * (cs_L zc 3 jt)) / 240) - (cs_L zc 4 jt)) - (cs_L zc 5 jt)) - (cs_L zc 0 (cs_N zc 2 jt))) else 0), .int (cs_I zc 32 jt), .int 1])), (cs_X zc 2 (cs_N zc 2 jt), .inr (2, [.int (nI (cs_N zc 2 jt)), .int (cs_I zc 21 (cs_N zc 2 jt)), .int ((cs_I zc 22 (cs_N zc 2 jt)) - 1), .long ((cs_L zc 0 (cs_N zc 2 jt)) + (((if 0 < ((((((cs_I zc 31 jt).toInt64 * (cs_L zc 3 jt)) / 240) - (cs_L zc 4 jt)) - (cs_L zc 5 jt)) - (cs_L zc 0 (cs_N zc 2 jt))) then ((((((cs_I zc 31 jt).toInt64 * (cs_L zc 3 jt)) / 240) - (cs_L zc 4 jt)) - (cs_L zc 5 jt)) - (cs_L zc 0 (cs_N zc 2 jt))) else 0) - ((((((cs_I zc 31 jt).toInt64 * (cs_L zc 3 jt)) / 240) - (cs_L zc 4 jt)) - (cs_L zc 5 jt)) - (cs_L zc 0 (cs_N zc 2 jt)))) - (cs_L zc 0 (cs_N zc 2 jt))))])), (cs_X zc 1 (cs_N zc 3 jt), .inr (6, [.int (nI (cs_N zc 3 jt)), .int (cs_I zc 11 (cs_N zc 3 jt)), .int (cs_I zc 12 (cs_N zc 3 jt)), .int (cs_I zc 13 (cs_N zc 3 jt)), .int (cs_I zc 14 (cs_N zc 3 jt)), .int (cs_I zc 15 (cs_N zc 3 jt)), .int (cs_I zc 16 (cs_N zc 3 jt)), .null]))] H := hP.sub [0, 1, 2, 3, 4] rfl
        have hD9 : va_D (va_A [cTP zc, cR8 cA zc, cTa zc jt, cGaK zc (cs_N zc 2 jt) 2, cPi zc (cs_N zc 3 jt)] s.heap.size) [cTP zc, cR8 cA zc, (cs_X zc 3 jt, .inr (8, [.int (nI jt), .int (cs_I zc 31 jt), .ref (cs_X zc 2 (cs_N zc 2 jt)), .ref (cs_X zc 1 (cs_N zc 3 jt)), .long (cs_L zc 1 jt), .long (cs_L zc 2 jt), .long (cs_L zc 3 jt), .long (cs_L zc 4 jt), .long (cs_L zc 5 jt), .long (if 0 < ((((((cs_I zc 31 jt).toInt64 * (cs_L zc 3 jt)) / 240) - (cs_L zc 4 jt)) - (cs_L zc 5 jt)) - (cs_L zc 0 (cs_N zc 2 jt))) then ((((((cs_I zc 31 jt).toInt64 * (cs_L zc 3 jt)) / 240) - (cs_L zc 4 jt)) - (cs_L zc 5 jt)) - (cs_L zc 0 (cs_N zc 2 jt))) else 0), .int (cs_I zc 32 jt), .int 1])), (cs_X zc 2 (cs_N zc 2 jt), .inr (2, [.int (nI (cs_N zc 2 jt)), .int (cs_I zc 21 (cs_N zc 2 jt)), .int ((cs_I zc 22 (cs_N zc 2 jt)) - 1), .long ((cs_L zc 0 (cs_N zc 2 jt)) + (((if 0 < ((((((cs_I zc 31 jt).toInt64 * (cs_L zc 3 jt)) / 240) - (cs_L zc 4 jt)) - (cs_L zc 5 jt)) - (cs_L zc 0 (cs_N zc 2 jt))) then ((((((cs_I zc 31 jt).toInt64 * (cs_L zc 3 jt)) / 240) - (cs_L zc 4 jt)) - (cs_L zc 5 jt)) - (cs_L zc 0 (cs_N zc 2 jt))) else 0) - ((((((cs_I zc 31 jt).toInt64 * (cs_L zc 3 jt)) / 240) - (cs_L zc 4 jt)) - (cs_L zc 5 jt)) - (cs_L zc 0 (cs_N zc 2 jt)))) - (cs_L zc 0 (cs_N zc 2 jt))))])), (cs_X zc 1 (cs_N zc 3 jt), .inr (6, [.int (nI (cs_N zc 3 jt)), .int (cs_I zc 11 (cs_N zc 3 jt)), .int (cs_I zc 12 (cs_N zc 3 jt)), .int (cs_I zc 13 (cs_N zc 3 jt)), .int (cs_I zc 14 (cs_N zc 3 jt)), .int (cs_I zc 15 (cs_N zc 3 jt)), .int (cs_I zc 16 (cs_N zc 3 jt)), .null]))] := hD.sub [0, 1, 2, 3, 4] (by decide) rfl
        have hks9 : kAll (cF cA (cs_i zc, cs_n zc, va_up (va_up (cs_I zc) 33 (va_up (cs_I zc 33) jt 1)) 22 (va_up (cs_I zc 22) (cs_N zc 2 jt) ((cs_I zc 22 (cs_N zc 2 jt)) - 1)), va_up (va_up (cs_L zc) 6 (va_up (cs_L zc 6) jt (if 0 < ((((((cs_I zc 31 jt).toInt64 * (cs_L zc 3 jt)) / 240) - (cs_L zc 4 jt)) - (cs_L zc 5 jt)) - (cs_L zc 0 (cs_N zc 2 jt))) then ((((((cs_I zc 31 jt).toInt64 * (cs_L zc 3 jt)) / 240) - (cs_L zc 4 jt)) - (cs_L zc 5 jt)) - (cs_L zc 0 (cs_N zc 2 jt))) else 0))) 0 (va_up (cs_L zc 0) (cs_N zc 2 jt) ((cs_L zc 0 (cs_N zc 2 jt)) + (((if 0 < ((((((cs_I zc 31 jt).toInt64 * (cs_L zc 3 jt)) / 240) - (cs_L zc 4 jt)) - (cs_L zc 5 jt)) - (cs_L zc 0 (cs_N zc 2 jt))) then ((((((cs_I zc 31 jt).toInt64 * (cs_L zc 3 jt)) / 240) - (cs_L zc 4 jt)) - (cs_L zc 5 jt)) - (cs_L zc 0 (cs_N zc 2 jt))) else 0) - ((((((cs_I zc 31 jt).toInt64 * (cs_L zc 3 jt)) / 240) - (cs_L zc 4 jt)) - (cs_L zc 5 jt)) - (cs_L zc 0 (cs_N zc 2 jt)))) - (cs_L zc 0 (cs_N zc 2 jt))))), va_up (cs_N zc) 0 (va_up (cs_N zc 0) (cs_N zc 3 jt) 0), cs_S zc, cs_X zc)) [(0, 0), (0, 8), (3, jt), (2, cs_N zc 2 jt), (1, cs_N zc 3 jt)] [cTP zc, cR8 cA zc, (cs_X zc 3 jt, .inr (8, [.int (nI jt), .int (cs_I zc 31 jt), .ref (cs_X zc 2 (cs_N zc 2 jt)), .ref (cs_X zc 1 (cs_N zc 3 jt)), .long (cs_L zc 1 jt), .long (cs_L zc 2 jt), .long (cs_L zc 3 jt), .long (cs_L zc 4 jt), .long (cs_L zc 5 jt), .long (if 0 < ((((((cs_I zc 31 jt).toInt64 * (cs_L zc 3 jt)) / 240) - (cs_L zc 4 jt)) - (cs_L zc 5 jt)) - (cs_L zc 0 (cs_N zc 2 jt))) then ((((((cs_I zc 31 jt).toInt64 * (cs_L zc 3 jt)) / 240) - (cs_L zc 4 jt)) - (cs_L zc 5 jt)) - (cs_L zc 0 (cs_N zc 2 jt))) else 0), .int (cs_I zc 32 jt), .int 1])), (cs_X zc 2 (cs_N zc 2 jt), .inr (2, [.int (nI (cs_N zc 2 jt)), .int (cs_I zc 21 (cs_N zc 2 jt)), .int ((cs_I zc 22 (cs_N zc 2 jt)) - 1), .long ((cs_L zc 0 (cs_N zc 2 jt)) + (((if 0 < ((((((cs_I zc 31 jt).toInt64 * (cs_L zc 3 jt)) / 240) - (cs_L zc 4 jt)) - (cs_L zc 5 jt)) - (cs_L zc 0 (cs_N zc 2 jt))) then ((((((cs_I zc 31 jt).toInt64 * (cs_L zc 3 jt)) / 240) - (cs_L zc 4 jt)) - (cs_L zc 5 jt)) - (cs_L zc 0 (cs_N zc 2 jt))) else 0) - ((((((cs_I zc 31 jt).toInt64 * (cs_L zc 3 jt)) / 240) - (cs_L zc 4 jt)) - (cs_L zc 5 jt)) - (cs_L zc 0 (cs_N zc 2 jt)))) - (cs_L zc 0 (cs_N zc 2 jt))))])), (cs_X zc 1 (cs_N zc 3 jt), .inr (6, [.int (nI (cs_N zc 3 jt)), .int (cs_I zc 11 (cs_N zc 3 jt)), .int (cs_I zc 12 (cs_N zc 3 jt)), .int (cs_I zc 13 (cs_N zc 3 jt)), .int (cs_I zc 14 (cs_N zc 3 jt)), .int (cs_I zc 15 (cs_N zc 3 jt)), .int (cs_I zc 16 (cs_N zc 3 jt)), .null]))] := ⟨rfl, rfl, (by rw [(kF_ta (z := (cs_i zc, cs_n zc, va_up (va_up (cs_I zc) 33 (va_up (cs_I zc 33) jt 1)) 22 (va_up (cs_I zc 22) (cs_N zc 2 jt) ((cs_I zc 22 (cs_N zc 2 jt)) - 1)), va_up (va_up (cs_L zc) 6 (va_up (cs_L zc 6) jt (if 0 < ((((((cs_I zc 31 jt).toInt64 * (cs_L zc 3 jt)) / 240) - (cs_L zc 4 jt)) - (cs_L zc 5 jt)) - (cs_L zc 0 (cs_N zc 2 jt))) then ((((((cs_I zc 31 jt).toInt64 * (cs_L zc 3 jt)) / 240) - (cs_L zc 4 jt)) - (cs_L zc 5 jt)) - (cs_L zc 0 (cs_N zc 2 jt))) else 0))) 0 (va_up (cs_L zc 0) (cs_N zc 2 jt) ((cs_L zc 0 (cs_N zc 2 jt)) + (((if 0 < ((((((cs_I zc 31 jt).toInt64 * (cs_L zc 3 jt)) / 240) - (cs_L zc 4 jt)) - (cs_L zc 5 jt)) - (cs_L zc 0 (cs_N zc 2 jt))) then ((((((cs_I zc 31 jt).toInt64 * (cs_L zc 3 jt)) / 240) - (cs_L zc 4 jt)) - (cs_L zc 5 jt)) - (cs_L zc 0 (cs_N zc 2 jt))) else 0) - ((((((cs_I zc 31 jt).toInt64 * (cs_L zc 3 jt)) / 240) - (cs_L zc 4 jt)) - (cs_L zc 5 jt)) - (cs_L zc 0 (cs_N zc 2 jt)))) - (cs_L zc 0 (cs_N zc 2 jt))))), va_up (cs_N zc) 0 (va_up (cs_N zc 0) (cs_N zc 3 jt) 0), cs_S zc, cs_X zc)) hjt)]; simp [cTa, va_up, upd, opN]), (by rw [(kF_gaK (z := (cs_i zc, cs_n zc, va_up (va_up (cs_I zc) 33 (va_up (cs_I zc 33) jt 1)) 22 (va_up (cs_I zc 22) (cs_N zc 2 jt) ((cs_I zc 22 (cs_N zc 2 jt)) - 1)), va_up (va_up (cs_L zc) 6 (va_up (cs_L zc 6) jt (if 0 < ((((((cs_I zc 31 jt).toInt64 * (cs_L zc 3 jt)) / 240) - (cs_L zc 4 jt)) - (cs_L zc 5 jt)) - (cs_L zc 0 (cs_N zc 2 jt))) then ((((((cs_I zc 31 jt).toInt64 * (cs_L zc 3 jt)) / 240) - (cs_L zc 4 jt)) - (cs_L zc 5 jt)) - (cs_L zc 0 (cs_N zc 2 jt))) else 0))) 0 (va_up (cs_L zc 0) (cs_N zc 2 jt) ((cs_L zc 0 (cs_N zc 2 jt)) + (((if 0 < ((((((cs_I zc 31 jt).toInt64 * (cs_L zc 3 jt)) / 240) - (cs_L zc 4 jt)) - (cs_L zc 5 jt)) - (cs_L zc 0 (cs_N zc 2 jt))) then ((((((cs_I zc 31 jt).toInt64 * (cs_L zc 3 jt)) / 240) - (cs_L zc 4 jt)) - (cs_L zc 5 jt)) - (cs_L zc 0 (cs_N zc 2 jt))) else 0) - ((((((cs_I zc 31 jt).toInt64 * (cs_L zc 3 jt)) / 240) - (cs_L zc 4 jt)) - (cs_L zc 5 jt)) - (cs_L zc 0 (cs_N zc 2 jt)))) - (cs_L zc 0 (cs_N zc 2 jt))))), va_up (cs_N zc) 0 (va_up (cs_N zc 0) (cs_N zc 3 jt) 0), cs_S zc, cs_X zc)) (htk jt hjt).1 hk)]; simp [cGa, va_up, upd, opN]), (by rw [(kF_piN (z := (cs_i zc, cs_n zc, va_up (va_up (cs_I zc) 33 (va_up (cs_I zc 33) jt 1)) 22 (va_up (cs_I zc 22) (cs_N zc 2 jt) ((cs_I zc 22 (cs_N zc 2 jt)) - 1)), va_up (va_up (cs_L zc) 6 (va_up (cs_L zc 6) jt (if 0 < ((((((cs_I zc 31 jt).toInt64 * (cs_L zc 3 jt)) / 240) - (cs_L zc 4 jt)) - (cs_L zc 5 jt)) - (cs_L zc 0 (cs_N zc 2 jt))) then ((((((cs_I zc 31 jt).toInt64 * (cs_L zc 3 jt)) / 240) - (cs_L zc 4 jt)) - (cs_L zc 5 jt)) - (cs_L zc 0 (cs_N zc 2 jt))) else 0))) 0 (va_up (cs_L zc 0) (cs_N zc 2 jt) ((cs_L zc 0 (cs_N zc 2 jt)) + (((if 0 < ((((((cs_I zc 31 jt).toInt64 * (cs_L zc 3 jt)) / 240) - (cs_L zc 4 jt)) - (cs_L zc 5 jt)) - (cs_L zc 0 (cs_N zc 2 jt))) then ((((((cs_I zc 31 jt).toInt64 * (cs_L zc 3 jt)) / 240) - (cs_L zc 4 jt)) - (cs_L zc 5 jt)) - (cs_L zc 0 (cs_N zc 2 jt))) else 0) - ((((((cs_I zc 31 jt).toInt64 * (cs_L zc 3 jt)) / 240) - (cs_L zc 4 jt)) - (cs_L zc 5 jt)) - (cs_L zc 0 (cs_N zc 2 jt)))) - (cs_L zc 0 (cs_N zc 2 jt))))), va_up (cs_N zc) 0 (va_up (cs_N zc 0) (cs_N zc 3 jt) 0), cs_S zc, cs_X zc)) (htk jt hjt).2 (by simp [va_up]))]; simp [cPi, va_up, upd, opN]), trivial⟩
        have hout : ∀ i j, (i, j) ∉ ([(0, 0), (0, 8), (3, jt), (2, cs_N zc 2 jt), (1, cs_N zc 3 jt)] : List (Nat × Nat)) → cF cA (cs_i zc, cs_n zc, va_up (va_up (cs_I zc) 33 (va_up (cs_I zc 33) jt 1)) 22 (va_up (cs_I zc 22) (cs_N zc 2 jt) ((cs_I zc 22 (cs_N zc 2 jt)) - 1)), va_up (va_up (cs_L zc) 6 (va_up (cs_L zc 6) jt (if 0 < ((((((cs_I zc 31 jt).toInt64 * (cs_L zc 3 jt)) / 240) - (cs_L zc 4 jt)) - (cs_L zc 5 jt)) - (cs_L zc 0 (cs_N zc 2 jt))) then ((((((cs_I zc 31 jt).toInt64 * (cs_L zc 3 jt)) / 240) - (cs_L zc 4 jt)) - (cs_L zc 5 jt)) - (cs_L zc 0 (cs_N zc 2 jt))) else 0))) 0 (va_up (cs_L zc 0) (cs_N zc 2 jt) ((cs_L zc 0 (cs_N zc 2 jt)) + (((if 0 < ((((((cs_I zc 31 jt).toInt64 * (cs_L zc 3 jt)) / 240) - (cs_L zc 4 jt)) - (cs_L zc 5 jt)) - (cs_L zc 0 (cs_N zc 2 jt))) then ((((((cs_I zc 31 jt).toInt64 * (cs_L zc 3 jt)) / 240) - (cs_L zc 4 jt)) - (cs_L zc 5 jt)) - (cs_L zc 0 (cs_N zc 2 jt))) else 0) - ((((((cs_I zc 31 jt).toInt64 * (cs_L zc 3 jt)) / 240) - (cs_L zc 4 jt)) - (cs_L zc 5 jt)) - (cs_L zc 0 (cs_N zc 2 jt)))) - (cs_L zc 0 (cs_N zc 2 jt))))), va_up (cs_N zc) 0 (va_up (cs_N zc 0) (cs_N zc 3 jt) 0), cs_S zc, cs_X zc) i j = none ∨ ((i, j) ∉ ([(0, 0), (0, 8), (3, jt), (2, cs_N zc 2 jt), (1, cs_N zc 3 jt)] : List (Nat × Nat)) ∧ cF cA (cs_i zc, cs_n zc, va_up (va_up (cs_I zc) 33 (va_up (cs_I zc 33) jt 1)) 22 (va_up (cs_I zc 22) (cs_N zc 2 jt) ((cs_I zc 22 (cs_N zc 2 jt)) - 1)), va_up (va_up (cs_L zc) 6 (va_up (cs_L zc 6) jt (if 0 < ((((((cs_I zc 31 jt).toInt64 * (cs_L zc 3 jt)) / 240) - (cs_L zc 4 jt)) - (cs_L zc 5 jt)) - (cs_L zc 0 (cs_N zc 2 jt))) then ((((((cs_I zc 31 jt).toInt64 * (cs_L zc 3 jt)) / 240) - (cs_L zc 4 jt)) - (cs_L zc 5 jt)) - (cs_L zc 0 (cs_N zc 2 jt))) else 0))) 0 (va_up (cs_L zc 0) (cs_N zc 2 jt) ((cs_L zc 0 (cs_N zc 2 jt)) + (((if 0 < ((((((cs_I zc 31 jt).toInt64 * (cs_L zc 3 jt)) / 240) - (cs_L zc 4 jt)) - (cs_L zc 5 jt)) - (cs_L zc 0 (cs_N zc 2 jt))) then ((((((cs_I zc 31 jt).toInt64 * (cs_L zc 3 jt)) / 240) - (cs_L zc 4 jt)) - (cs_L zc 5 jt)) - (cs_L zc 0 (cs_N zc 2 jt))) else 0) - ((((((cs_I zc 31 jt).toInt64 * (cs_L zc 3 jt)) / 240) - (cs_L zc 4 jt)) - (cs_L zc 5 jt)) - (cs_L zc 0 (cs_N zc 2 jt)))) - (cs_L zc 0 (cs_N zc 2 jt))))), va_up (cs_N zc) 0 (va_up (cs_N zc 0) (cs_N zc 3 jt) 0), cs_S zc, cs_X zc) i j = cF cA zc i j) := by
          intro i j hij
          refine Or.inr ⟨hij, ?_⟩
          rcases i with _ | _ | _ | _ | _ | _ | _ | _ | i
          · rcases j with _ | _ | _ | _ | _ | _ | _ | _ | _ | _ | _ | _ | j <;> first | rfl | exact absurd (by simp) hij
          · have hne0 : j ≠ cs_N zc 3 jt := fun q => hij (by rw [q]; simp)
            have e9 : cPi (cs_i zc, cs_n zc, va_up (va_up (cs_I zc) 33 (va_up (cs_I zc 33) jt 1)) 22 (va_up (cs_I zc 22) (cs_N zc 2 jt) ((cs_I zc 22 (cs_N zc 2 jt)) - 1)), va_up (va_up (cs_L zc) 6 (va_up (cs_L zc 6) jt (if 0 < ((((((cs_I zc 31 jt).toInt64 * (cs_L zc 3 jt)) / 240) - (cs_L zc 4 jt)) - (cs_L zc 5 jt)) - (cs_L zc 0 (cs_N zc 2 jt))) then ((((((cs_I zc 31 jt).toInt64 * (cs_L zc 3 jt)) / 240) - (cs_L zc 4 jt)) - (cs_L zc 5 jt)) - (cs_L zc 0 (cs_N zc 2 jt))) else 0))) 0 (va_up (cs_L zc 0) (cs_N zc 2 jt) ((cs_L zc 0 (cs_N zc 2 jt)) + (((if 0 < ((((((cs_I zc 31 jt).toInt64 * (cs_L zc 3 jt)) / 240) - (cs_L zc 4 jt)) - (cs_L zc 5 jt)) - (cs_L zc 0 (cs_N zc 2 jt))) then ((((((cs_I zc 31 jt).toInt64 * (cs_L zc 3 jt)) / 240) - (cs_L zc 4 jt)) - (cs_L zc 5 jt)) - (cs_L zc 0 (cs_N zc 2 jt))) else 0) - ((((((cs_I zc 31 jt).toInt64 * (cs_L zc 3 jt)) / 240) - (cs_L zc 4 jt)) - (cs_L zc 5 jt)) - (cs_L zc 0 (cs_N zc 2 jt)))) - (cs_L zc 0 (cs_N zc 2 jt))))), va_up (cs_N zc) 0 (va_up (cs_N zc 0) (cs_N zc 3 jt) 0), cs_S zc, cs_X zc) j = cPi zc j := by simp [cPi, va_up, hne0]
            show (if j < cs_n (cs_i zc, cs_n zc, va_up (va_up (cs_I zc) 33 (va_up (cs_I zc 33) jt 1)) 22 (va_up (cs_I zc 22) (cs_N zc 2 jt) ((cs_I zc 22 (cs_N zc 2 jt)) - 1)), va_up (va_up (cs_L zc) 6 (va_up (cs_L zc 6) jt (if 0 < ((((((cs_I zc 31 jt).toInt64 * (cs_L zc 3 jt)) / 240) - (cs_L zc 4 jt)) - (cs_L zc 5 jt)) - (cs_L zc 0 (cs_N zc 2 jt))) then ((((((cs_I zc 31 jt).toInt64 * (cs_L zc 3 jt)) / 240) - (cs_L zc 4 jt)) - (cs_L zc 5 jt)) - (cs_L zc 0 (cs_N zc 2 jt))) else 0))) 0 (va_up (cs_L zc 0) (cs_N zc 2 jt) ((cs_L zc 0 (cs_N zc 2 jt)) + (((if 0 < ((((((cs_I zc 31 jt).toInt64 * (cs_L zc 3 jt)) / 240) - (cs_L zc 4 jt)) - (cs_L zc 5 jt)) - (cs_L zc 0 (cs_N zc 2 jt))) then ((((((cs_I zc 31 jt).toInt64 * (cs_L zc 3 jt)) / 240) - (cs_L zc 4 jt)) - (cs_L zc 5 jt)) - (cs_L zc 0 (cs_N zc 2 jt))) else 0) - ((((((cs_I zc 31 jt).toInt64 * (cs_L zc 3 jt)) / 240) - (cs_L zc 4 jt)) - (cs_L zc 5 jt)) - (cs_L zc 0 (cs_N zc 2 jt)))) - (cs_L zc 0 (cs_N zc 2 jt))))), va_up (cs_N zc) 0 (va_up (cs_N zc 0) (cs_N zc 3 jt) 0), cs_S zc, cs_X zc) 0 then some (cPi (cs_i zc, cs_n zc, va_up (va_up (cs_I zc) 33 (va_up (cs_I zc 33) jt 1)) 22 (va_up (cs_I zc 22) (cs_N zc 2 jt) ((cs_I zc 22 (cs_N zc 2 jt)) - 1)), va_up (va_up (cs_L zc) 6 (va_up (cs_L zc 6) jt (if 0 < ((((((cs_I zc 31 jt).toInt64 * (cs_L zc 3 jt)) / 240) - (cs_L zc 4 jt)) - (cs_L zc 5 jt)) - (cs_L zc 0 (cs_N zc 2 jt))) then ((((((cs_I zc 31 jt).toInt64 * (cs_L zc 3 jt)) / 240) - (cs_L zc 4 jt)) - (cs_L zc 5 jt)) - (cs_L zc 0 (cs_N zc 2 jt))) else 0))) 0 (va_up (cs_L zc 0) (cs_N zc 2 jt) ((cs_L zc 0 (cs_N zc 2 jt)) + (((if 0 < ((((((cs_I zc 31 jt).toInt64 * (cs_L zc 3 jt)) / 240) - (cs_L zc 4 jt)) - (cs_L zc 5 jt)) - (cs_L zc 0 (cs_N zc 2 jt))) then ((((((cs_I zc 31 jt).toInt64 * (cs_L zc 3 jt)) / 240) - (cs_L zc 4 jt)) - (cs_L zc 5 jt)) - (cs_L zc 0 (cs_N zc 2 jt))) else 0) - ((((((cs_I zc 31 jt).toInt64 * (cs_L zc 3 jt)) / 240) - (cs_L zc 4 jt)) - (cs_L zc 5 jt)) - (cs_L zc 0 (cs_N zc 2 jt)))) - (cs_L zc 0 (cs_N zc 2 jt))))), va_up (cs_N zc) 0 (va_up (cs_N zc 0) (cs_N zc 3 jt) 0), cs_S zc, cs_X zc) j) else none) = _
            rw [e9]
            rfl
          · have hne0 : j ≠ cs_N zc 2 jt := fun q => hij (by rw [q]; simp)
            have e9 : cGa (cs_i zc, cs_n zc, va_up (va_up (cs_I zc) 33 (va_up (cs_I zc 33) jt 1)) 22 (va_up (cs_I zc 22) (cs_N zc 2 jt) ((cs_I zc 22 (cs_N zc 2 jt)) - 1)), va_up (va_up (cs_L zc) 6 (va_up (cs_L zc 6) jt (if 0 < ((((((cs_I zc 31 jt).toInt64 * (cs_L zc 3 jt)) / 240) - (cs_L zc 4 jt)) - (cs_L zc 5 jt)) - (cs_L zc 0 (cs_N zc 2 jt))) then ((((((cs_I zc 31 jt).toInt64 * (cs_L zc 3 jt)) / 240) - (cs_L zc 4 jt)) - (cs_L zc 5 jt)) - (cs_L zc 0 (cs_N zc 2 jt))) else 0))) 0 (va_up (cs_L zc 0) (cs_N zc 2 jt) ((cs_L zc 0 (cs_N zc 2 jt)) + (((if 0 < ((((((cs_I zc 31 jt).toInt64 * (cs_L zc 3 jt)) / 240) - (cs_L zc 4 jt)) - (cs_L zc 5 jt)) - (cs_L zc 0 (cs_N zc 2 jt))) then ((((((cs_I zc 31 jt).toInt64 * (cs_L zc 3 jt)) / 240) - (cs_L zc 4 jt)) - (cs_L zc 5 jt)) - (cs_L zc 0 (cs_N zc 2 jt))) else 0) - ((((((cs_I zc 31 jt).toInt64 * (cs_L zc 3 jt)) / 240) - (cs_L zc 4 jt)) - (cs_L zc 5 jt)) - (cs_L zc 0 (cs_N zc 2 jt)))) - (cs_L zc 0 (cs_N zc 2 jt))))), va_up (cs_N zc) 0 (va_up (cs_N zc 0) (cs_N zc 3 jt) 0), cs_S zc, cs_X zc) j = cGa zc j := by simp [cGa, va_up, hne0]
            show (if j < cs_n (cs_i zc, cs_n zc, va_up (va_up (cs_I zc) 33 (va_up (cs_I zc 33) jt 1)) 22 (va_up (cs_I zc 22) (cs_N zc 2 jt) ((cs_I zc 22 (cs_N zc 2 jt)) - 1)), va_up (va_up (cs_L zc) 6 (va_up (cs_L zc 6) jt (if 0 < ((((((cs_I zc 31 jt).toInt64 * (cs_L zc 3 jt)) / 240) - (cs_L zc 4 jt)) - (cs_L zc 5 jt)) - (cs_L zc 0 (cs_N zc 2 jt))) then ((((((cs_I zc 31 jt).toInt64 * (cs_L zc 3 jt)) / 240) - (cs_L zc 4 jt)) - (cs_L zc 5 jt)) - (cs_L zc 0 (cs_N zc 2 jt))) else 0))) 0 (va_up (cs_L zc 0) (cs_N zc 2 jt) ((cs_L zc 0 (cs_N zc 2 jt)) + (((if 0 < ((((((cs_I zc 31 jt).toInt64 * (cs_L zc 3 jt)) / 240) - (cs_L zc 4 jt)) - (cs_L zc 5 jt)) - (cs_L zc 0 (cs_N zc 2 jt))) then ((((((cs_I zc 31 jt).toInt64 * (cs_L zc 3 jt)) / 240) - (cs_L zc 4 jt)) - (cs_L zc 5 jt)) - (cs_L zc 0 (cs_N zc 2 jt))) else 0) - ((((((cs_I zc 31 jt).toInt64 * (cs_L zc 3 jt)) / 240) - (cs_L zc 4 jt)) - (cs_L zc 5 jt)) - (cs_L zc 0 (cs_N zc 2 jt)))) - (cs_L zc 0 (cs_N zc 2 jt))))), va_up (cs_N zc) 0 (va_up (cs_N zc 0) (cs_N zc 3 jt) 0), cs_S zc, cs_X zc) 1 then some (cGa (cs_i zc, cs_n zc, va_up (va_up (cs_I zc) 33 (va_up (cs_I zc 33) jt 1)) 22 (va_up (cs_I zc 22) (cs_N zc 2 jt) ((cs_I zc 22 (cs_N zc 2 jt)) - 1)), va_up (va_up (cs_L zc) 6 (va_up (cs_L zc 6) jt (if 0 < ((((((cs_I zc 31 jt).toInt64 * (cs_L zc 3 jt)) / 240) - (cs_L zc 4 jt)) - (cs_L zc 5 jt)) - (cs_L zc 0 (cs_N zc 2 jt))) then ((((((cs_I zc 31 jt).toInt64 * (cs_L zc 3 jt)) / 240) - (cs_L zc 4 jt)) - (cs_L zc 5 jt)) - (cs_L zc 0 (cs_N zc 2 jt))) else 0))) 0 (va_up (cs_L zc 0) (cs_N zc 2 jt) ((cs_L zc 0 (cs_N zc 2 jt)) + (((if 0 < ((((((cs_I zc 31 jt).toInt64 * (cs_L zc 3 jt)) / 240) - (cs_L zc 4 jt)) - (cs_L zc 5 jt)) - (cs_L zc 0 (cs_N zc 2 jt))) then ((((((cs_I zc 31 jt).toInt64 * (cs_L zc 3 jt)) / 240) - (cs_L zc 4 jt)) - (cs_L zc 5 jt)) - (cs_L zc 0 (cs_N zc 2 jt))) else 0) - ((((((cs_I zc 31 jt).toInt64 * (cs_L zc 3 jt)) / 240) - (cs_L zc 4 jt)) - (cs_L zc 5 jt)) - (cs_L zc 0 (cs_N zc 2 jt)))) - (cs_L zc 0 (cs_N zc 2 jt))))), va_up (cs_N zc) 0 (va_up (cs_N zc 0) (cs_N zc 3 jt) 0), cs_S zc, cs_X zc) j) else none) = _
            rw [e9]
            rfl
          · have hne0 : j ≠ jt := fun q => hij (by rw [q]; simp)
            have e9 : cTa (cs_i zc, cs_n zc, va_up (va_up (cs_I zc) 33 (va_up (cs_I zc 33) jt 1)) 22 (va_up (cs_I zc 22) (cs_N zc 2 jt) ((cs_I zc 22 (cs_N zc 2 jt)) - 1)), va_up (va_up (cs_L zc) 6 (va_up (cs_L zc 6) jt (if 0 < ((((((cs_I zc 31 jt).toInt64 * (cs_L zc 3 jt)) / 240) - (cs_L zc 4 jt)) - (cs_L zc 5 jt)) - (cs_L zc 0 (cs_N zc 2 jt))) then ((((((cs_I zc 31 jt).toInt64 * (cs_L zc 3 jt)) / 240) - (cs_L zc 4 jt)) - (cs_L zc 5 jt)) - (cs_L zc 0 (cs_N zc 2 jt))) else 0))) 0 (va_up (cs_L zc 0) (cs_N zc 2 jt) ((cs_L zc 0 (cs_N zc 2 jt)) + (((if 0 < ((((((cs_I zc 31 jt).toInt64 * (cs_L zc 3 jt)) / 240) - (cs_L zc 4 jt)) - (cs_L zc 5 jt)) - (cs_L zc 0 (cs_N zc 2 jt))) then ((((((cs_I zc 31 jt).toInt64 * (cs_L zc 3 jt)) / 240) - (cs_L zc 4 jt)) - (cs_L zc 5 jt)) - (cs_L zc 0 (cs_N zc 2 jt))) else 0) - ((((((cs_I zc 31 jt).toInt64 * (cs_L zc 3 jt)) / 240) - (cs_L zc 4 jt)) - (cs_L zc 5 jt)) - (cs_L zc 0 (cs_N zc 2 jt)))) - (cs_L zc 0 (cs_N zc 2 jt))))), va_up (cs_N zc) 0 (va_up (cs_N zc 0) (cs_N zc 3 jt) 0), cs_S zc, cs_X zc) j = cTa zc j := by simp [cTa, va_up, hne0]
            show (if j < cs_n (cs_i zc, cs_n zc, va_up (va_up (cs_I zc) 33 (va_up (cs_I zc 33) jt 1)) 22 (va_up (cs_I zc 22) (cs_N zc 2 jt) ((cs_I zc 22 (cs_N zc 2 jt)) - 1)), va_up (va_up (cs_L zc) 6 (va_up (cs_L zc 6) jt (if 0 < ((((((cs_I zc 31 jt).toInt64 * (cs_L zc 3 jt)) / 240) - (cs_L zc 4 jt)) - (cs_L zc 5 jt)) - (cs_L zc 0 (cs_N zc 2 jt))) then ((((((cs_I zc 31 jt).toInt64 * (cs_L zc 3 jt)) / 240) - (cs_L zc 4 jt)) - (cs_L zc 5 jt)) - (cs_L zc 0 (cs_N zc 2 jt))) else 0))) 0 (va_up (cs_L zc 0) (cs_N zc 2 jt) ((cs_L zc 0 (cs_N zc 2 jt)) + (((if 0 < ((((((cs_I zc 31 jt).toInt64 * (cs_L zc 3 jt)) / 240) - (cs_L zc 4 jt)) - (cs_L zc 5 jt)) - (cs_L zc 0 (cs_N zc 2 jt))) then ((((((cs_I zc 31 jt).toInt64 * (cs_L zc 3 jt)) / 240) - (cs_L zc 4 jt)) - (cs_L zc 5 jt)) - (cs_L zc 0 (cs_N zc 2 jt))) else 0) - ((((((cs_I zc 31 jt).toInt64 * (cs_L zc 3 jt)) / 240) - (cs_L zc 4 jt)) - (cs_L zc 5 jt)) - (cs_L zc 0 (cs_N zc 2 jt)))) - (cs_L zc 0 (cs_N zc 2 jt))))), va_up (cs_N zc) 0 (va_up (cs_N zc 0) (cs_N zc 3 jt) 0), cs_S zc, cs_X zc) 2 then some (cTa (cs_i zc, cs_n zc, va_up (va_up (cs_I zc) 33 (va_up (cs_I zc 33) jt 1)) 22 (va_up (cs_I zc 22) (cs_N zc 2 jt) ((cs_I zc 22 (cs_N zc 2 jt)) - 1)), va_up (va_up (cs_L zc) 6 (va_up (cs_L zc 6) jt (if 0 < ((((((cs_I zc 31 jt).toInt64 * (cs_L zc 3 jt)) / 240) - (cs_L zc 4 jt)) - (cs_L zc 5 jt)) - (cs_L zc 0 (cs_N zc 2 jt))) then ((((((cs_I zc 31 jt).toInt64 * (cs_L zc 3 jt)) / 240) - (cs_L zc 4 jt)) - (cs_L zc 5 jt)) - (cs_L zc 0 (cs_N zc 2 jt))) else 0))) 0 (va_up (cs_L zc 0) (cs_N zc 2 jt) ((cs_L zc 0 (cs_N zc 2 jt)) + (((if 0 < ((((((cs_I zc 31 jt).toInt64 * (cs_L zc 3 jt)) / 240) - (cs_L zc 4 jt)) - (cs_L zc 5 jt)) - (cs_L zc 0 (cs_N zc 2 jt))) then ((((((cs_I zc 31 jt).toInt64 * (cs_L zc 3 jt)) / 240) - (cs_L zc 4 jt)) - (cs_L zc 5 jt)) - (cs_L zc 0 (cs_N zc 2 jt))) else 0) - ((((((cs_I zc 31 jt).toInt64 * (cs_L zc 3 jt)) / 240) - (cs_L zc 4 jt)) - (cs_L zc 5 jt)) - (cs_L zc 0 (cs_N zc 2 jt)))) - (cs_L zc 0 (cs_N zc 2 jt))))), va_up (cs_N zc) 0 (va_up (cs_N zc 0) (cs_N zc 3 jt) 0), cs_S zc, cs_X zc) j) else none) = _
            rw [e9]
            rfl
          · rfl
          · rfl
          · rfl
          · rfl
          · rfl
        exact W.lret (v := if 0 < ((((((cs_I zc 31 jt).toInt64 * (cs_L zc 3 jt)) / 240) - (cs_L zc 4 jt)) - (cs_L zc 5 jt)) - (cs_L zc 0 (cs_N zc 2 jt))) then ((((((cs_I zc 31 jt).toInt64 * (cs_L zc 3 jt)) / 240) - (cs_L zc 4 jt)) - (cs_L zc 5 jt)) - (cs_L zc 0 (cs_N zc 2 jt))) else 0) hx hb hr (fun t ht hW => have hJ := kjoin hPk hDk hks rfl (hS.F ht) (by rw [ht]; exact hP9) hD9 hks9 hout; ⟨⟨if 0 < ((((((cs_I zc 31 jt).toInt64 * (cs_L zc 3 jt)) / 240) - (cs_L zc 4 jt)) - (cs_L zc 5 jt)) - (cs_L zc 0 (cs_N zc 2 jt))) then ((((((cs_I zc 31 jt).toInt64 * (cs_L zc 3 jt)) / 240) - (cs_L zc 4 jt)) - (cs_L zc 5 jt)) - (cs_L zc 0 (cs_N zc 2 jt))) else 0, (cs_i zc, cs_n zc, va_up (va_up (cs_I zc) 33 (va_up (cs_I zc 33) jt 1)) 22 (va_up (cs_I zc 22) (cs_N zc 2 jt) ((cs_I zc 22 (cs_N zc 2 jt)) - 1)), va_up (va_up (cs_L zc) 6 (va_up (cs_L zc 6) jt (if 0 < ((((((cs_I zc 31 jt).toInt64 * (cs_L zc 3 jt)) / 240) - (cs_L zc 4 jt)) - (cs_L zc 5 jt)) - (cs_L zc 0 (cs_N zc 2 jt))) then ((((((cs_I zc 31 jt).toInt64 * (cs_L zc 3 jt)) / 240) - (cs_L zc 4 jt)) - (cs_L zc 5 jt)) - (cs_L zc 0 (cs_N zc 2 jt))) else 0))) 0 (va_up (cs_L zc 0) (cs_N zc 2 jt) ((cs_L zc 0 (cs_N zc 2 jt)) + (((if 0 < ((((((cs_I zc 31 jt).toInt64 * (cs_L zc 3 jt)) / 240) - (cs_L zc 4 jt)) - (cs_L zc 5 jt)) - (cs_L zc 0 (cs_N zc 2 jt))) then ((((((cs_I zc 31 jt).toInt64 * (cs_L zc 3 jt)) / 240) - (cs_L zc 4 jt)) - (cs_L zc 5 jt)) - (cs_L zc 0 (cs_N zc 2 jt))) else 0) - ((((((cs_I zc 31 jt).toInt64 * (cs_L zc 3 jt)) / 240) - (cs_L zc 4 jt)) - (cs_L zc 5 jt)) - (cs_L zc 0 (cs_N zc 2 jt)))) - (cs_L zc 0 (cs_N zc 2 jt))))), va_up (cs_N zc) 0 (va_up (cs_N zc 0) (cs_N zc 3 jt) 0), cs_S zc, cs_X zc), rfl, ⟨(inv_settle hI), (Or.inr (Or.inr (Or.inr (Or.inl ⟨jt, rfl, hjt, hk, c6, rfl, rfl⟩))))⟩, hJ.1, va_K.moved hW.alike hKk, hJ.2.1⟩, hJ.2.2⟩) (fun q h => kAll_A hks _ (hS.2.2 q h)) dX10_settle_29
      · skip
        refine lv_ldc2 (v := (-9223372036854775808)) hx hb hown (hts (.constantLong RX10 137 (-9223372036854775808)) (by decide +kernel)) dX10_settle_17 ?_
        subst hQ
        exact W.lret (v := (-9223372036854775808)) hx hb hr (fun t ht hW => ⟨⟨(-9223372036854775808), zc, rfl, ⟨hI, (Or.inr (Or.inr (Or.inr (Or.inr (Or.inl ⟨jt, rfl, hjt, hk, c6, rfl, rfl⟩)))))⟩, (by rw [ht]; exact hPk), va_K.moved hW.alike hKk, hDk⟩, (kw_same hPk ht).2⟩) (fun q h => absurd h List.not_mem_nil) dX10_settle_20
    · skip
      have hks : kAll (cF cA zc) [(0, 0), (0, 8), (3, jt), (2, cs_N zc 2 jt), (1, cs_N zc 3 jt)] [cTP zc, cR8 cA zc, cTa zc jt, cGaK zc (cs_N zc 2 jt) 4, cPi zc (cs_N zc 3 jt)] := ⟨rfl, rfl, (kF_ta (z := zc) hjt), (kF_gaK (z := zc) (htk jt hjt).1 hk), (kF_pi (z := zc) (htk jt hjt).2), trivial⟩
      have hP : va_P (dC, dI) vwCl [cTP zc, cR8 cA zc, cTa zc jt, cGaK zc (cs_N zc 2 jt) 4, cPi zc (cs_N zc 3 jt)] s.heap := kAll_P hPk hks
      have hD : va_D (va_A [cTP zc, cR8 cA zc, cTa zc jt, cGaK zc (cs_N zc 2 jt) 4, cPi zc (cs_N zc 3 jt)] s.heap.size) [cTP zc, cR8 cA zc, cTa zc jt, cGaK zc (cs_N zc 2 jt) 4, cPi zc (cs_N zc 3 jt)] := (kAll_D hDk hks (by simp)).self
      have hA : ∀ q : Nat, s.heap.size ≤ q → va_A [cTP zc, cR8 cA zc, cTa zc jt, cGaK zc (cs_N zc 2 jt) 4, cPi zc (cs_N zc 3 jt)] s.heap.size q := fun q h => Or.inr h
      have hS : va_S (va_A [cTP zc, cR8 cA zc, cTa zc jt, cGaK zc (cs_N zc 2 jt) 4, cPi zc (cs_N zc 3 jt)] s.heap.size) s.heap s.heap [] := va_S.rf
      refine lv_aload_n hx hb dX10_settle_0 rfl (lv_at hl 0 rfl) ?_
      refine lv_iload_n hx hb dX10_settle_1 rfl (lv_at hl 1 rfl) ?_
      have hPc := hP.sub (ws' := [cTP zc, cR8 cA zc]) [0, 1] rfl
      have hDc := hD.sub (ws' := [cTP zc, cR8 cA zc]) [0, 1] (by decide) rfl
      have hKc := hK.sub (tys' := [(cA 3, .object RX8)]) [3] rfl
      refine va_csq (va_Run.run (va_runV (As := [.int (nI jt)]) (rest := []) ⟨hx, hb, hml, hown, hts⟩ (s_takeAt_yes l dC dI (cA 3) _ (cs_X zc 0 0) (.ref (cs_X zc 0 1)) (.ref (cs_X zc 0 6)) (.ref (cs_X zc 0 7)) (.ref (cs_X zc 0 9)) (.ref (cs_X zc 0 10)) (.ref (cs_X zc 0 11)) (.int (nI (cs_n zc 0))) (.int (nI (cs_n zc 1))) (.int (nI (cs_n zc 3))) (va_rf (opN (cs_n zc 4) (fun _ => cs_X zc 5 0))) (.int (cs_i zc 2)) (cs_X zc 0 8) jt (cs_n zc 2) (cs_X zc 3 jt) (rfN (cs_n zc 2) (cs_X zc 3)) hjt (by omega) (rfN_at hjt)) (cwV 1 hts gX10_settle_X10_takeAt rfl rfl rfl (by decide +kernel) ⟨Nat.le_of_ble_eq_true rfl, Nat.le_of_ble_eq_true rfl⟩) (pw_preV (va_recv hKc hPc (ci := 10) (q0 := 0) rfl rfl) hPc hKc hDc hN) rfl rfl hl.1 rfl (lv_room (Nat.le_of_ble_eq_true rfl)) dX10_settle_2 ⟨Nat.le_of_ble_eq_true rfl, Nat.le_of_ble_eq_true rfl⟩)) (fun r8 hr8 => ?_)
      have hr8 : r8 = some cs_X zc 3 jt := hr8
      subst hr8
      refine W.eq (g2 := F0 m 5 ls [.ref (cs_X zc 3 jt)]) rfl ?_
      refine lv_astore_n (lv' := [(2, .ref (cs_X zc 3 jt)), (0, .ref (cs_X zc 0 0)), (1, .int (nI jt))]) hx hb dX10_settle_5 rfl hl (by decide) rfl (fun ls hl => ?_)
      refine lv_aload_n hx hb dX10_settle_6 rfl (lv_at hl 0 rfl) ?_
      refine lv_ifnull hx hb dX10_settle_7 ?_
      refine lv_aload_n hx hb dX10_settle_10 rfl (lv_at hl 0 rfl) ?_
      refine va_get (D := (dC, dI)) (ci := 8) (v := .int (cs_I zc 33 jt)) (C := RX8) (T := TX8) (N := 12) hx hb hts hiX8 hown hK hP 2 rfl rfl 11 (by decide) (hts (.fieldLink RX10 238 "TributePitches$Take" "settled" "Z") (by decide +kernel)) (fun _ h9 => h9) rfl dX10_settle_11 ?_
      refine lv_if_eq (tgt := 21) hx hb dX10_settle_14 (by decide) (fun c9 => ?_) (fun c9 => ?_)
      · skip
        refine lv_aload_n hx hb dX10_settle_21 rfl (lv_at hl 0 rfl) ?_
        have hPc := hP.sub (ws' := [cTa zc jt, cGaK zc (cs_N zc 2 jt) 4, cPi zc (cs_N zc 3 jt)]) [2, 3, 4] rfl
        have hDc := hD.sub (ws' := [cTa zc jt, cGaK zc (cs_N zc 2 jt) 4, cPi zc (cs_N zc 3 jt)]) [2, 3, 4] (by decide) rfl
        have hKc := hK.sub (tys' := []) [] rfl
        have hFc := va_free (wc := [cTa zc jt, cGaK zc (cs_N zc 2 jt) 4, cPi zc (cs_N zc 3 jt)]) hD hS hA [2, 3, 4] rfl
        refine va_callv (va_runV (As := []) (rest := []) ⟨hx, hb, hml, hown, hts⟩ (s_end_4 l dC dI  _ (cs_X zc 3 jt) (cs_X zc 1 (cs_N zc 3 jt)) (cs_X zc 2 (cs_N zc 2 jt)) (nI (cs_N zc 2 jt)) (cs_I zc 21 (cs_N zc 2 jt)) (cs_I zc 22 (cs_N zc 2 jt)) (cs_L zc 0 (cs_N zc 2 jt)) (.int (nI jt)) (.long (cs_L zc 1 jt)) (.long (cs_L zc 2 jt)) (.long (cs_L zc 6 jt)) (.int (cs_I zc 32 jt)) (.int (cs_I zc 33 jt)) (.int (nI (cs_N zc 3 jt))) (.int (cs_I zc 11 (cs_N zc 3 jt))) (.int (cs_I zc 12 (cs_N zc 3 jt))) (.int (cs_I zc 13 (cs_N zc 3 jt))) (.int (cs_I zc 14 (cs_N zc 3 jt))) (.int (cs_I zc 15 (cs_N zc 3 jt))) (.int (cs_I zc 16 (cs_N zc 3 jt))) (va_rf (opN (cs_N zc 0 (cs_N zc 3 jt)) (cs_X zc 3))) (cs_I zc 31 jt) (cs_L zc 3 jt) (cs_L zc 4 jt) (cs_L zc 5 jt) ) (cwV 0 hts gX10_settle_X8_end rfl rfl rfl (by decide +kernel) ⟨Nat.le_of_ble_eq_true rfl, Nat.le_of_ble_eq_true rfl⟩) (pw_preV (va_recv hKc hPc (ci := 8) (q0 := 0) rfl rfl) hPc hKc hDc hN) rfl rfl hl.1 rfl (lv_room (Nat.le_of_ble_eq_true rfl)) dX10_settle_22 ⟨Nat.le_of_ble_eq_true rfl, Nat.le_of_ble_eq_true rfl⟩) hS (fun q _ h => hFc q h) hFc (fun u t H1 locs ht hvm hw hB hz1 hk1 hS => ?_)
        obtain ⟨hP1, hK1, hD1⟩ := hB
        rw [ht] at hP1
        obtain ⟨hP, hD⟩ := va_join (wr := [cTP zc, cR8 cA zc]) (w1 := [(cs_X zc 3 jt, .inr (8, [.int (nI jt), .int (cs_I zc 31 jt), .ref (cs_X zc 2 (cs_N zc 2 jt)), .ref (cs_X zc 1 (cs_N zc 3 jt)), .long (cs_L zc 1 jt), .long (cs_L zc 2 jt), .long (cs_L zc 3 jt), .long (cs_L zc 4 jt), .long (cs_L zc 5 jt), .long (if 0 < ((((((cs_I zc 31 jt).toInt64 * (cs_L zc 3 jt)) / 240) - ((cs_L zc 4 jt) / 2)) - (cs_L zc 5 jt)) - ((cs_L zc 0 (cs_N zc 2 jt)) / 2)) then ((((((cs_I zc 31 jt).toInt64 * (cs_L zc 3 jt)) / 240) - ((cs_L zc 4 jt) / 2)) - (cs_L zc 5 jt)) - ((cs_L zc 0 (cs_N zc 2 jt)) / 2)) else 0), .int (cs_I zc 32 jt), .int 1])), (cs_X zc 2 (cs_N zc 2 jt), .inr (4, [.int (nI (cs_N zc 2 jt)), .int (cs_I zc 21 (cs_N zc 2 jt)), .int ((cs_I zc 22 (cs_N zc 2 jt)) - 1), .long ((cs_L zc 0 (cs_N zc 2 jt)) + (((if 0 < ((((((cs_I zc 31 jt).toInt64 * (cs_L zc 3 jt)) / 240) - ((cs_L zc 4 jt) / 2)) - (cs_L zc 5 jt)) - ((cs_L zc 0 (cs_N zc 2 jt)) / 2)) then ((((((cs_I zc 31 jt).toInt64 * (cs_L zc 3 jt)) / 240) - ((cs_L zc 4 jt) / 2)) - (cs_L zc 5 jt)) - ((cs_L zc 0 (cs_N zc 2 jt)) / 2)) else 0) - ((((((cs_I zc 31 jt).toInt64 * (cs_L zc 3 jt)) / 240) - ((cs_L zc 4 jt) / 2)) - (cs_L zc 5 jt)) - ((cs_L zc 0 (cs_N zc 2 jt)) / 2))) - ((cs_L zc 0 (cs_N zc 2 jt)) / 2)))])), (cs_X zc 1 (cs_N zc 3 jt), .inr (6, [.int (nI (cs_N zc 3 jt)), .int (cs_I zc 11 (cs_N zc 3 jt)), .int (cs_I zc 12 (cs_N zc 3 jt)), .int (cs_I zc 13 (cs_N zc 3 jt)), .int (cs_I zc 14 (cs_N zc 3 jt)), .int (cs_I zc 15 (cs_N zc 3 jt)), .int (cs_I zc 16 (cs_N zc 3 jt)), .null]))]) hP hD [2, 3, 4] [0, 1] rfl rfl (by decide) (by decide) hk1 hFc hP1 hD1
        generalize H1 = H at hP hS ⊢
        have hP : va_P (dC, dI) vwCl [cTP zc, cR8 cA zc, (cs_X zc 3 jt, .inr (8, [.int (nI jt), .int (cs_I zc 31 jt), .ref (cs_X zc 2 (cs_N zc 2 jt)), .ref (cs_X zc 1 (cs_N zc 3 jt)), .long (cs_L zc 1 jt), .long (cs_L zc 2 jt), .long (cs_L zc 3 jt), .long (cs_L zc 4 jt), .long (cs_L zc 5 jt), .long (if 0 < ((((((cs_I zc 31 jt).toInt64 * (cs_L zc 3 jt)) / 240) - ((cs_L zc 4 jt) / 2)) - (cs_L zc 5 jt)) - ((cs_L zc 0 (cs_N zc 2 jt)) / 2)) then ((((((cs_I zc 31 jt).toInt64 * (cs_L zc 3 jt)) / 240) - ((cs_L zc 4 jt) / 2)) - (cs_L zc 5 jt)) - ((cs_L zc 0 (cs_N zc 2 jt)) / 2)) else 0), .int (cs_I zc 32 jt), .int 1])), (cs_X zc 2 (cs_N zc 2 jt), .inr (4, [.int (nI (cs_N zc 2 jt)), .int (cs_I zc 21 (cs_N zc 2 jt)), .int ((cs_I zc 22 (cs_N zc 2 jt)) - 1), .long ((cs_L zc 0 (cs_N zc 2 jt)) + (((if 0 < ((((((cs_I zc 31 jt).toInt64 * (cs_L zc 3 jt)) / 240) - ((cs_L zc 4 jt) / 2)) - (cs_L zc 5 jt)) - ((cs_L zc 0 (cs_N zc 2 jt)) / 2)) then ((((((cs_I zc 31 jt).toInt64 * (cs_L zc 3 jt)) / 240) - ((cs_L zc 4 jt) / 2)) - (cs_L zc 5 jt)) - ((cs_L zc 0 (cs_N zc 2 jt)) / 2)) else 0) - ((((((cs_I zc 31 jt).toInt64 * (cs_L zc 3 jt)) / 240) - ((cs_L zc 4 jt) / 2)) - (cs_L zc 5 jt)) - ((cs_L zc 0 (cs_N zc 2 jt)) / 2))) - ((cs_L zc 0 (cs_N zc 2 jt)) / 2)))])), (cs_X zc 1 (cs_N zc 3 jt), .inr (6, [.int (nI (cs_N zc 3 jt)), .int (cs_I zc 11 (cs_N zc 3 jt)), .int (cs_I zc 12 (cs_N zc 3 jt)), .int (cs_I zc 13 (cs_N zc 3 jt)), .int (cs_I zc 14 (cs_N zc 3 jt)), .int (cs_I zc 15 (cs_N zc 3 jt)), .int (cs_I zc 16 (cs_N zc 3 jt)), .null]))] H := hP
        have hD : va_D _ [cTP zc, cR8 cA zc, (cs_X zc 3 jt, .inr (8, [.int (nI jt), .int (cs_I zc 31 jt), .ref (cs_X zc 2 (cs_N zc 2 jt)), .ref (cs_X zc 1 (cs_N zc 3 jt)), .long (cs_L zc 1 jt), .long (cs_L zc 2 jt), .long (cs_L zc 3 jt), .long (cs_L zc 4 jt), .long (cs_L zc 5 jt), .long (if 0 < ((((((cs_I zc 31 jt).toInt64 * (cs_L zc 3 jt)) / 240) - ((cs_L zc 4 jt) / 2)) - (cs_L zc 5 jt)) - ((cs_L zc 0 (cs_N zc 2 jt)) / 2)) then ((((((cs_I zc 31 jt).toInt64 * (cs_L zc 3 jt)) / 240) - ((cs_L zc 4 jt) / 2)) - (cs_L zc 5 jt)) - ((cs_L zc 0 (cs_N zc 2 jt)) / 2)) else 0), .int (cs_I zc 32 jt), .int 1])), (cs_X zc 2 (cs_N zc 2 jt), .inr (4, [.int (nI (cs_N zc 2 jt)), .int (cs_I zc 21 (cs_N zc 2 jt)), .int ((cs_I zc 22 (cs_N zc 2 jt)) - 1), .long ((cs_L zc 0 (cs_N zc 2 jt)) + (((if 0 < ((((((cs_I zc 31 jt).toInt64 * (cs_L zc 3 jt)) / 240) - ((cs_L zc 4 jt) / 2)) - (cs_L zc 5 jt)) - ((cs_L zc 0 (cs_N zc 2 jt)) / 2)) then ((((((cs_I zc 31 jt).toInt64 * (cs_L zc 3 jt)) / 240) - ((cs_L zc 4 jt) / 2)) - (cs_L zc 5 jt)) - ((cs_L zc 0 (cs_N zc 2 jt)) / 2)) else 0) - ((((((cs_I zc 31 jt).toInt64 * (cs_L zc 3 jt)) / 240) - ((cs_L zc 4 jt) / 2)) - (cs_L zc 5 jt)) - ((cs_L zc 0 (cs_N zc 2 jt)) / 2))) - ((cs_L zc 0 (cs_N zc 2 jt)) / 2)))])), (cs_X zc 1 (cs_N zc 3 jt), .inr (6, [.int (nI (cs_N zc 3 jt)), .int (cs_I zc 11 (cs_N zc 3 jt)), .int (cs_I zc 12 (cs_N zc 3 jt)), .int (cs_I zc 13 (cs_N zc 3 jt)), .int (cs_I zc 14 (cs_N zc 3 jt)), .int (cs_I zc 15 (cs_N zc 3 jt)), .int (cs_I zc 16 (cs_N zc 3 jt)), .null]))] := hD
        refine lv_aload_n hx hb dX10_settle_25 rfl (lv_at hl 0 rfl) ?_
        refine va_get (D := (dC, dI)) (ci := 8) (v := .long (if 0 < ((((((cs_I zc 31 jt).toInt64 * (cs_L zc 3 jt)) / 240) - ((cs_L zc 4 jt) / 2)) - (cs_L zc 5 jt)) - ((cs_L zc 0 (cs_N zc 2 jt)) / 2)) then ((((((cs_I zc 31 jt).toInt64 * (cs_L zc 3 jt)) / 240) - ((cs_L zc 4 jt) / 2)) - (cs_L zc 5 jt)) - ((cs_L zc 0 (cs_N zc 2 jt)) / 2)) else 0)) (C := RX8) (T := TX8) (N := 12) hx hb hts hiX8 hown hK hP 2 rfl rfl 9 (by decide) (hts (.fieldLink RX10 262 "TributePitches$Take" "pay" "J") (by decide +kernel)) (fun _ h9 => h9) rfl dX10_settle_26 ?_
        subst hQ
        have hP9 : va_P (dC, dI) vwCl [cTP zc, cR8 cA zc, (cs_X zc 3 jt, .inr (8, [.int (nI jt), .int (cs_I zc 31 jt), .ref (cs_X zc 2 (cs_N zc 2 jt)), .ref (cs_X zc 1 (cs_N zc 3 jt)), .long (cs_L zc 1 jt), .long (cs_L zc 2 jt), .long (cs_L zc 3 jt), .long (cs_L zc 4 jt), .long (cs_L zc 5 jt), .long (if 0 < ((((((cs_I zc 31 jt).toInt64 * (cs_L zc 3 jt)) / 240) - ((cs_L zc 4 jt) / 2)) - (cs_L zc 5 jt)) - ((cs_L zc 0 (cs_N zc 2 jt)) / 2)) then ((((((cs_I zc 31 jt).toInt64 * (cs_L zc 3 jt)) / 240) - ((cs_L zc 4 jt) / 2)) - (cs_L zc 5 jt)) - ((cs_L zc 0 (cs_N zc 2 jt)) / 2)) else 0), .int (cs_I zc 32 jt), .int 1])), (cs_X zc 2 (cs_N zc 2 jt), .inr (4, [.int (nI (cs_N zc 2 jt)), .int (cs_I zc 21 (cs_N zc 2 jt)), .int ((cs_I zc 22 (cs_N zc 2 jt)) - 1), .long ((cs_L zc 0 (cs_N zc 2 jt)) + (((if 0 < ((((((cs_I zc 31 jt).toInt64 * (cs_L zc 3 jt)) / 240) - ((cs_L zc 4 jt) / 2)) - (cs_L zc 5 jt)) - ((cs_L zc 0 (cs_N zc 2 jt)) / 2)) then ((((((cs_I zc 31 jt).toInt64 * (cs_L zc 3 jt)) / 240) - ((cs_L zc 4 jt) / 2)) - (cs_L zc 5 jt)) - ((cs_L zc 0 (cs_N zc 2 jt)) / 2)) else 0) - ((((((cs_I zc 31 jt).toInt64 * (cs_L zc 3 jt)) / 240) - ((cs_L zc 4 jt) / 2)) - (cs_L zc 5 jt)) - ((cs_L zc 0 (cs_N zc 2 jt)) / 2))) - ((cs_L zc 0 (cs_N zc 2 jt)) / 2)))])), (cs_X zc 1 (cs_N zc 3 jt), .inr (6, [.int (nI (cs_N zc 3 jt)), .int (cs_I zc 11 (cs_N zc 3 jt)), .int (cs_I zc 12 (cs_N zc 3 jt)), .int (cs_I zc 13 (cs_N zc 3 jt)), .int (cs_I zc 14 (cs_N zc 3 jt)), .int (cs_I zc 15 (cs_N zc 3 jt)), .int (cs_I zc 16 (cs_N zc 3 jt)), .null]))] H := hP.sub [0, 1, 2, 3, 4] rfl
        have hD9 : va_D (va_A [cTP zc, cR8 cA zc, cTa zc jt, cGaK zc (cs_N zc 2 jt) 4, cPi zc (cs_N zc 3 jt)] s.heap.size) [cTP zc, cR8 cA zc, (cs_X zc 3 jt, .inr (8, [.int (nI jt), .int (cs_I zc 31 jt), .ref (cs_X zc 2 (cs_N zc 2 jt)), .ref (cs_X zc 1 (cs_N zc 3 jt)), .long (cs_L zc 1 jt), .long (cs_L zc 2 jt), .long (cs_L zc 3 jt), .long (cs_L zc 4 jt), .long (cs_L zc 5 jt), .long (if 0 < ((((((cs_I zc 31 jt).toInt64 * (cs_L zc 3 jt)) / 240) - ((cs_L zc 4 jt) / 2)) - (cs_L zc 5 jt)) - ((cs_L zc 0 (cs_N zc 2 jt)) / 2)) then ((((((cs_I zc 31 jt).toInt64 * (cs_L zc 3 jt)) / 240) - ((cs_L zc 4 jt) / 2)) - (cs_L zc 5 jt)) - ((cs_L zc 0 (cs_N zc 2 jt)) / 2)) else 0), .int (cs_I zc 32 jt), .int 1])), (cs_X zc 2 (cs_N zc 2 jt), .inr (4, [.int (nI (cs_N zc 2 jt)), .int (cs_I zc 21 (cs_N zc 2 jt)), .int ((cs_I zc 22 (cs_N zc 2 jt)) - 1), .long ((cs_L zc 0 (cs_N zc 2 jt)) + (((if 0 < ((((((cs_I zc 31 jt).toInt64 * (cs_L zc 3 jt)) / 240) - ((cs_L zc 4 jt) / 2)) - (cs_L zc 5 jt)) - ((cs_L zc 0 (cs_N zc 2 jt)) / 2)) then ((((((cs_I zc 31 jt).toInt64 * (cs_L zc 3 jt)) / 240) - ((cs_L zc 4 jt) / 2)) - (cs_L zc 5 jt)) - ((cs_L zc 0 (cs_N zc 2 jt)) / 2)) else 0) - ((((((cs_I zc 31 jt).toInt64 * (cs_L zc 3 jt)) / 240) - ((cs_L zc 4 jt) / 2)) - (cs_L zc 5 jt)) - ((cs_L zc 0 (cs_N zc 2 jt)) / 2))) - ((cs_L zc 0 (cs_N zc 2 jt)) / 2)))])), (cs_X zc 1 (cs_N zc 3 jt), .inr (6, [.int (nI (cs_N zc 3 jt)), .int (cs_I zc 11 (cs_N zc 3 jt)), .int (cs_I zc 12 (cs_N zc 3 jt)), .int (cs_I zc 13 (cs_N zc 3 jt)), .int (cs_I zc 14 (cs_N zc 3 jt)), .int (cs_I zc 15 (cs_N zc 3 jt)), .int (cs_I zc 16 (cs_N zc 3 jt)), .null]))] := hD.sub [0, 1, 2, 3, 4] (by decide) rfl
        have hks9 : kAll (cF cA (cs_i zc, cs_n zc, va_up (va_up (cs_I zc) 33 (va_up (cs_I zc 33) jt 1)) 22 (va_up (cs_I zc 22) (cs_N zc 2 jt) ((cs_I zc 22 (cs_N zc 2 jt)) - 1)), va_up (va_up (cs_L zc) 6 (va_up (cs_L zc 6) jt (if 0 < ((((((cs_I zc 31 jt).toInt64 * (cs_L zc 3 jt)) / 240) - ((cs_L zc 4 jt) / 2)) - (cs_L zc 5 jt)) - ((cs_L zc 0 (cs_N zc 2 jt)) / 2)) then ((((((cs_I zc 31 jt).toInt64 * (cs_L zc 3 jt)) / 240) - ((cs_L zc 4 jt) / 2)) - (cs_L zc 5 jt)) - ((cs_L zc 0 (cs_N zc 2 jt)) / 2)) else 0))) 0 (va_up (cs_L zc 0) (cs_N zc 2 jt) ((cs_L zc 0 (cs_N zc 2 jt)) + (((if 0 < ((((((cs_I zc 31 jt).toInt64 * (cs_L zc 3 jt)) / 240) - ((cs_L zc 4 jt) / 2)) - (cs_L zc 5 jt)) - ((cs_L zc 0 (cs_N zc 2 jt)) / 2)) then ((((((cs_I zc 31 jt).toInt64 * (cs_L zc 3 jt)) / 240) - ((cs_L zc 4 jt) / 2)) - (cs_L zc 5 jt)) - ((cs_L zc 0 (cs_N zc 2 jt)) / 2)) else 0) - ((((((cs_I zc 31 jt).toInt64 * (cs_L zc 3 jt)) / 240) - ((cs_L zc 4 jt) / 2)) - (cs_L zc 5 jt)) - ((cs_L zc 0 (cs_N zc 2 jt)) / 2))) - ((cs_L zc 0 (cs_N zc 2 jt)) / 2)))), va_up (cs_N zc) 0 (va_up (cs_N zc 0) (cs_N zc 3 jt) 0), cs_S zc, cs_X zc)) [(0, 0), (0, 8), (3, jt), (2, cs_N zc 2 jt), (1, cs_N zc 3 jt)] [cTP zc, cR8 cA zc, (cs_X zc 3 jt, .inr (8, [.int (nI jt), .int (cs_I zc 31 jt), .ref (cs_X zc 2 (cs_N zc 2 jt)), .ref (cs_X zc 1 (cs_N zc 3 jt)), .long (cs_L zc 1 jt), .long (cs_L zc 2 jt), .long (cs_L zc 3 jt), .long (cs_L zc 4 jt), .long (cs_L zc 5 jt), .long (if 0 < ((((((cs_I zc 31 jt).toInt64 * (cs_L zc 3 jt)) / 240) - ((cs_L zc 4 jt) / 2)) - (cs_L zc 5 jt)) - ((cs_L zc 0 (cs_N zc 2 jt)) / 2)) then ((((((cs_I zc 31 jt).toInt64 * (cs_L zc 3 jt)) / 240) - ((cs_L zc 4 jt) / 2)) - (cs_L zc 5 jt)) - ((cs_L zc 0 (cs_N zc 2 jt)) / 2)) else 0), .int (cs_I zc 32 jt), .int 1])), (cs_X zc 2 (cs_N zc 2 jt), .inr (4, [.int (nI (cs_N zc 2 jt)), .int (cs_I zc 21 (cs_N zc 2 jt)), .int ((cs_I zc 22 (cs_N zc 2 jt)) - 1), .long ((cs_L zc 0 (cs_N zc 2 jt)) + (((if 0 < ((((((cs_I zc 31 jt).toInt64 * (cs_L zc 3 jt)) / 240) - ((cs_L zc 4 jt) / 2)) - (cs_L zc 5 jt)) - ((cs_L zc 0 (cs_N zc 2 jt)) / 2)) then ((((((cs_I zc 31 jt).toInt64 * (cs_L zc 3 jt)) / 240) - ((cs_L zc 4 jt) / 2)) - (cs_L zc 5 jt)) - ((cs_L zc 0 (cs_N zc 2 jt)) / 2)) else 0) - ((((((cs_I zc 31 jt).toInt64 * (cs_L zc 3 jt)) / 240) - ((cs_L zc 4 jt) / 2)) - (cs_L zc 5 jt)) - ((cs_L zc 0 (cs_N zc 2 jt)) / 2))) - ((cs_L zc 0 (cs_N zc 2 jt)) / 2)))])), (cs_X zc 1 (cs_N zc 3 jt), .inr (6, [.int (nI (cs_N zc 3 jt)), .int (cs_I zc 11 (cs_N zc 3 jt)), .int (cs_I zc 12 (cs_N zc 3 jt)), .int (cs_I zc 13 (cs_N zc 3 jt)), .int (cs_I zc 14 (cs_N zc 3 jt)), .int (cs_I zc 15 (cs_N zc 3 jt)), .int (cs_I zc 16 (cs_N zc 3 jt)), .null]))] := ⟨rfl, rfl, (by rw [(kF_ta (z := (cs_i zc, cs_n zc, va_up (va_up (cs_I zc) 33 (va_up (cs_I zc 33) jt 1)) 22 (va_up (cs_I zc 22) (cs_N zc 2 jt) ((cs_I zc 22 (cs_N zc 2 jt)) - 1)), va_up (va_up (cs_L zc) 6 (va_up (cs_L zc 6) jt (if 0 < ((((((cs_I zc 31 jt).toInt64 * (cs_L zc 3 jt)) / 240) - ((cs_L zc 4 jt) / 2)) - (cs_L zc 5 jt)) - ((cs_L zc 0 (cs_N zc 2 jt)) / 2)) then ((((((cs_I zc 31 jt).toInt64 * (cs_L zc 3 jt)) / 240) - ((cs_L zc 4 jt) / 2)) - (cs_L zc 5 jt)) - ((cs_L zc 0 (cs_N zc 2 jt)) / 2)) else 0))) 0 (va_up (cs_L zc 0) (cs_N zc 2 jt) ((cs_L zc 0 (cs_N zc 2 jt)) + (((if 0 < ((((((cs_I zc 31 jt).toInt64 * (cs_L zc 3 jt)) / 240) - ((cs_L zc 4 jt) / 2)) - (cs_L zc 5 jt)) - ((cs_L zc 0 (cs_N zc 2 jt)) / 2)) then ((((((cs_I zc 31 jt).toInt64 * (cs_L zc 3 jt)) / 240) - ((cs_L zc 4 jt) / 2)) - (cs_L zc 5 jt)) - ((cs_L zc 0 (cs_N zc 2 jt)) / 2)) else 0) - ((((((cs_I zc 31 jt).toInt64 * (cs_L zc 3 jt)) / 240) - ((cs_L zc 4 jt) / 2)) - (cs_L zc 5 jt)) - ((cs_L zc 0 (cs_N zc 2 jt)) / 2))) - ((cs_L zc 0 (cs_N zc 2 jt)) / 2)))), va_up (cs_N zc) 0 (va_up (cs_N zc 0) (cs_N zc 3 jt) 0), cs_S zc, cs_X zc)) hjt)]; simp [cTa, va_up, upd, opN]), (by rw [(kF_gaK (z := (cs_i zc, cs_n zc, va_up (va_up (cs_I zc) 33 (va_up (cs_I zc 33) jt 1)) 22 (va_up (cs_I zc 22) (cs_N zc 2 jt) ((cs_I zc 22 (cs_N zc 2 jt)) - 1)), va_up (va_up (cs_L zc) 6 (va_up (cs_L zc 6) jt (if 0 < ((((((cs_I zc 31 jt).toInt64 * (cs_L zc 3 jt)) / 240) - ((cs_L zc 4 jt) / 2)) - (cs_L zc 5 jt)) - ((cs_L zc 0 (cs_N zc 2 jt)) / 2)) then ((((((cs_I zc 31 jt).toInt64 * (cs_L zc 3 jt)) / 240) - ((cs_L zc 4 jt) / 2)) - (cs_L zc 5 jt)) - ((cs_L zc 0 (cs_N zc 2 jt)) / 2)) else 0))) 0 (va_up (cs_L zc 0) (cs_N zc 2 jt) ((cs_L zc 0 (cs_N zc 2 jt)) + (((if 0 < ((((((cs_I zc 31 jt).toInt64 * (cs_L zc 3 jt)) / 240) - ((cs_L zc 4 jt) / 2)) - (cs_L zc 5 jt)) - ((cs_L zc 0 (cs_N zc 2 jt)) / 2)) then ((((((cs_I zc 31 jt).toInt64 * (cs_L zc 3 jt)) / 240) - ((cs_L zc 4 jt) / 2)) - (cs_L zc 5 jt)) - ((cs_L zc 0 (cs_N zc 2 jt)) / 2)) else 0) - ((((((cs_I zc 31 jt).toInt64 * (cs_L zc 3 jt)) / 240) - ((cs_L zc 4 jt) / 2)) - (cs_L zc 5 jt)) - ((cs_L zc 0 (cs_N zc 2 jt)) / 2))) - ((cs_L zc 0 (cs_N zc 2 jt)) / 2)))), va_up (cs_N zc) 0 (va_up (cs_N zc 0) (cs_N zc 3 jt) 0), cs_S zc, cs_X zc)) (htk jt hjt).1 hk)]; simp [cGa, va_up, upd, opN]), (by rw [(kF_piN (z := (cs_i zc, cs_n zc, va_up (va_up (cs_I zc) 33 (va_up (cs_I zc 33) jt 1)) 22 (va_up (cs_I zc 22) (cs_N zc 2 jt) ((cs_I zc 22 (cs_N zc 2 jt)) - 1)), va_up (va_up (cs_L zc) 6 (va_up (cs_L zc 6) jt (if 0 < ((((((cs_I zc 31 jt).toInt64 * (cs_L zc 3 jt)) / 240) - ((cs_L zc 4 jt) / 2)) - (cs_L zc 5 jt)) - ((cs_L zc 0 (cs_N zc 2 jt)) / 2)) then ((((((cs_I zc 31 jt).toInt64 * (cs_L zc 3 jt)) / 240) - ((cs_L zc 4 jt) / 2)) - (cs_L zc 5 jt)) - ((cs_L zc 0 (cs_N zc 2 jt)) / 2)) else 0))) 0 (va_up (cs_L zc 0) (cs_N zc 2 jt) ((cs_L zc 0 (cs_N zc 2 jt)) + (((if 0 < ((((((cs_I zc 31 jt).toInt64 * (cs_L zc 3 jt)) / 240) - ((cs_L zc 4 jt) / 2)) - (cs_L zc 5 jt)) - ((cs_L zc 0 (cs_N zc 2 jt)) / 2)) then ((((((cs_I zc 31 jt).toInt64 * (cs_L zc 3 jt)) / 240) - ((cs_L zc 4 jt) / 2)) - (cs_L zc 5 jt)) - ((cs_L zc 0 (cs_N zc 2 jt)) / 2)) else 0) - ((((((cs_I zc 31 jt).toInt64 * (cs_L zc 3 jt)) / 240) - ((cs_L zc 4 jt) / 2)) - (cs_L zc 5 jt)) - ((cs_L zc 0 (cs_N zc 2 jt)) / 2))) - ((cs_L zc 0 (cs_N zc 2 jt)) / 2)))), va_up (cs_N zc) 0 (va_up (cs_N zc 0) (cs_N zc 3 jt) 0), cs_S zc, cs_X zc)) (htk jt hjt).2 (by simp [va_up]))]; simp [cPi, va_up, upd, opN]), trivial⟩
        have hout : ∀ i j, (i, j) ∉ ([(0, 0), (0, 8), (3, jt), (2, cs_N zc 2 jt), (1, cs_N zc 3 jt)] : List (Nat × Nat)) → cF cA (cs_i zc, cs_n zc, va_up (va_up (cs_I zc) 33 (va_up (cs_I zc 33) jt 1)) 22 (va_up (cs_I zc 22) (cs_N zc 2 jt) ((cs_I zc 22 (cs_N zc 2 jt)) - 1)), va_up (va_up (cs_L zc) 6 (va_up (cs_L zc 6) jt (if 0 < ((((((cs_I zc 31 jt).toInt64 * (cs_L zc 3 jt)) / 240) - ((cs_L zc 4 jt) / 2)) - (cs_L zc 5 jt)) - ((cs_L zc 0 (cs_N zc 2 jt)) / 2)) then ((((((cs_I zc 31 jt).toInt64 * (cs_L zc 3 jt)) / 240) - ((cs_L zc 4 jt) / 2)) - (cs_L zc 5 jt)) - ((cs_L zc 0 (cs_N zc 2 jt)) / 2)) else 0))) 0 (va_up (cs_L zc 0) (cs_N zc 2 jt) ((cs_L zc 0 (cs_N zc 2 jt)) + (((if 0 < ((((((cs_I zc 31 jt).toInt64 * (cs_L zc 3 jt)) / 240) - ((cs_L zc 4 jt) / 2)) - (cs_L zc 5 jt)) - ((cs_L zc 0 (cs_N zc 2 jt)) / 2)) then ((((((cs_I zc 31 jt).toInt64 * (cs_L zc 3 jt)) / 240) - ((cs_L zc 4 jt) / 2)) - (cs_L zc 5 jt)) - ((cs_L zc 0 (cs_N zc 2 jt)) / 2)) else 0) - ((((((cs_I zc 31 jt).toInt64 * (cs_L zc 3 jt)) / 240) - ((cs_L zc 4 jt) / 2)) - (cs_L zc 5 jt)) - ((cs_L zc 0 (cs_N zc 2 jt)) / 2))) - ((cs_L zc 0 (cs_N zc 2 jt)) / 2)))), va_up (cs_N zc) 0 (va_up (cs_N zc 0) (cs_N zc 3 jt) 0), cs_S zc, cs_X zc) i j = none ∨ ((i, j) ∉ ([(0, 0), (0, 8), (3, jt), (2, cs_N zc 2 jt), (1, cs_N zc 3 jt)] : List (Nat × Nat)) ∧ cF cA (cs_i zc, cs_n zc, va_up (va_up (cs_I zc) 33 (va_up (cs_I zc 33) jt 1)) 22 (va_up (cs_I zc 22) (cs_N zc 2 jt) ((cs_I zc 22 (cs_N zc 2 jt)) - 1)), va_up (va_up (cs_L zc) 6 (va_up (cs_L zc 6) jt (if 0 < ((((((cs_I zc 31 jt).toInt64 * (cs_L zc 3 jt)) / 240) - ((cs_L zc 4 jt) / 2)) - (cs_L zc 5 jt)) - ((cs_L zc 0 (cs_N zc 2 jt)) / 2)) then ((((((cs_I zc 31 jt).toInt64 * (cs_L zc 3 jt)) / 240) - ((cs_L zc 4 jt) / 2)) - (cs_L zc 5 jt)) - ((cs_L zc 0 (cs_N zc 2 jt)) / 2)) else 0))) 0 (va_up (cs_L zc 0) (cs_N zc 2 jt) ((cs_L zc 0 (cs_N zc 2 jt)) + (((if 0 < ((((((cs_I zc 31 jt).toInt64 * (cs_L zc 3 jt)) / 240) - ((cs_L zc 4 jt) / 2)) - (cs_L zc 5 jt)) - ((cs_L zc 0 (cs_N zc 2 jt)) / 2)) then ((((((cs_I zc 31 jt).toInt64 * (cs_L zc 3 jt)) / 240) - ((cs_L zc 4 jt) / 2)) - (cs_L zc 5 jt)) - ((cs_L zc 0 (cs_N zc 2 jt)) / 2)) else 0) - ((((((cs_I zc 31 jt).toInt64 * (cs_L zc 3 jt)) / 240) - ((cs_L zc 4 jt) / 2)) - (cs_L zc 5 jt)) - ((cs_L zc 0 (cs_N zc 2 jt)) / 2))) - ((cs_L zc 0 (cs_N zc 2 jt)) / 2)))), va_up (cs_N zc) 0 (va_up (cs_N zc 0) (cs_N zc 3 jt) 0), cs_S zc, cs_X zc) i j = cF cA zc i j) := by
          intro i j hij
          refine Or.inr ⟨hij, ?_⟩
          rcases i with _ | _ | _ | _ | _ | _ | _ | _ | i
          · rcases j with _ | _ | _ | _ | _ | _ | _ | _ | _ | _ | _ | _ | j <;> first | rfl | exact absurd (by simp) hij
          · have hne0 : j ≠ cs_N zc 3 jt := fun q => hij (by rw [q]; simp)
            have e9 : cPi (cs_i zc, cs_n zc, va_up (va_up (cs_I zc) 33 (va_up (cs_I zc 33) jt 1)) 22 (va_up (cs_I zc 22) (cs_N zc 2 jt) ((cs_I zc 22 (cs_N zc 2 jt)) - 1)), va_up (va_up (cs_L zc) 6 (va_up (cs_L zc 6) jt (if 0 < ((((((cs_I zc 31 jt).toInt64 * (cs_L zc 3 jt)) / 240) - ((cs_L zc 4 jt) / 2)) - (cs_L zc 5 jt)) - ((cs_L zc 0 (cs_N zc 2 jt)) / 2)) then ((((((cs_I zc 31 jt).toInt64 * (cs_L zc 3 jt)) / 240) - ((cs_L zc 4 jt) / 2)) - (cs_L zc 5 jt)) - ((cs_L zc 0 (cs_N zc 2 jt)) / 2)) else 0))) 0 (va_up (cs_L zc 0) (cs_N zc 2 jt) ((cs_L zc 0 (cs_N zc 2 jt)) + (((if 0 < ((((((cs_I zc 31 jt).toInt64 * (cs_L zc 3 jt)) / 240) - ((cs_L zc 4 jt) / 2)) - (cs_L zc 5 jt)) - ((cs_L zc 0 (cs_N zc 2 jt)) / 2)) then ((((((cs_I zc 31 jt).toInt64 * (cs_L zc 3 jt)) / 240) - ((cs_L zc 4 jt) / 2)) - (cs_L zc 5 jt)) - ((cs_L zc 0 (cs_N zc 2 jt)) / 2)) else 0) - ((((((cs_I zc 31 jt).toInt64 * (cs_L zc 3 jt)) / 240) - ((cs_L zc 4 jt) / 2)) - (cs_L zc 5 jt)) - ((cs_L zc 0 (cs_N zc 2 jt)) / 2))) - ((cs_L zc 0 (cs_N zc 2 jt)) / 2)))), va_up (cs_N zc) 0 (va_up (cs_N zc 0) (cs_N zc 3 jt) 0), cs_S zc, cs_X zc) j = cPi zc j := by simp [cPi, va_up, hne0]
            show (if j < cs_n (cs_i zc, cs_n zc, va_up (va_up (cs_I zc) 33 (va_up (cs_I zc 33) jt 1)) 22 (va_up (cs_I zc 22) (cs_N zc 2 jt) ((cs_I zc 22 (cs_N zc 2 jt)) - 1)), va_up (va_up (cs_L zc) 6 (va_up (cs_L zc 6) jt (if 0 < ((((((cs_I zc 31 jt).toInt64 * (cs_L zc 3 jt)) / 240) - ((cs_L zc 4 jt) / 2)) - (cs_L zc 5 jt)) - ((cs_L zc 0 (cs_N zc 2 jt)) / 2)) then ((((((cs_I zc 31 jt).toInt64 * (cs_L zc 3 jt)) / 240) - ((cs_L zc 4 jt) / 2)) - (cs_L zc 5 jt)) - ((cs_L zc 0 (cs_N zc 2 jt)) / 2)) else 0))) 0 (va_up (cs_L zc 0) (cs_N zc 2 jt) ((cs_L zc 0 (cs_N zc 2 jt)) + (((if 0 < ((((((cs_I zc 31 jt).toInt64 * (cs_L zc 3 jt)) / 240) - ((cs_L zc 4 jt) / 2)) - (cs_L zc 5 jt)) - ((cs_L zc 0 (cs_N zc 2 jt)) / 2)) then ((((((cs_I zc 31 jt).toInt64 * (cs_L zc 3 jt)) / 240) - ((cs_L zc 4 jt) / 2)) - (cs_L zc 5 jt)) - ((cs_L zc 0 (cs_N zc 2 jt)) / 2)) else 0) - ((((((cs_I zc 31 jt).toInt64 * (cs_L zc 3 jt)) / 240) - ((cs_L zc 4 jt) / 2)) - (cs_L zc 5 jt)) - ((cs_L zc 0 (cs_N zc 2 jt)) / 2))) - ((cs_L zc 0 (cs_N zc 2 jt)) / 2)))), va_up (cs_N zc) 0 (va_up (cs_N zc 0) (cs_N zc 3 jt) 0), cs_S zc, cs_X zc) 0 then some (cPi (cs_i zc, cs_n zc, va_up (va_up (cs_I zc) 33 (va_up (cs_I zc 33) jt 1)) 22 (va_up (cs_I zc 22) (cs_N zc 2 jt) ((cs_I zc 22 (cs_N zc 2 jt)) - 1)), va_up (va_up (cs_L zc) 6 (va_up (cs_L zc 6) jt (if 0 < ((((((cs_I zc 31 jt).toInt64 * (cs_L zc 3 jt)) / 240) - ((cs_L zc 4 jt) / 2)) - (cs_L zc 5 jt)) - ((cs_L zc 0 (cs_N zc 2 jt)) / 2)) then ((((((cs_I zc 31 jt).toInt64 * (cs_L zc 3 jt)) / 240) - ((cs_L zc 4 jt) / 2)) - (cs_L zc 5 jt)) - ((cs_L zc 0 (cs_N zc 2 jt)) / 2)) else 0))) 0 (va_up (cs_L zc 0) (cs_N zc 2 jt) ((cs_L zc 0 (cs_N zc 2 jt)) + (((if 0 < ((((((cs_I zc 31 jt).toInt64 * (cs_L zc 3 jt)) / 240) - ((cs_L zc 4 jt) / 2)) - (cs_L zc 5 jt)) - ((cs_L zc 0 (cs_N zc 2 jt)) / 2)) then ((((((cs_I zc 31 jt).toInt64 * (cs_L zc 3 jt)) / 240) - ((cs_L zc 4 jt) / 2)) - (cs_L zc 5 jt)) - ((cs_L zc 0 (cs_N zc 2 jt)) / 2)) else 0) - ((((((cs_I zc 31 jt).toInt64 * (cs_L zc 3 jt)) / 240) - ((cs_L zc 4 jt) / 2)) - (cs_L zc 5 jt)) - ((cs_L zc 0 (cs_N zc 2 jt)) / 2))) - ((cs_L zc 0 (cs_N zc 2 jt)) / 2)))), va_up (cs_N zc) 0 (va_up (cs_N zc 0) (cs_N zc 3 jt) 0), cs_S zc, cs_X zc) j) else none) = _
            rw [e9]
            rfl
          · have hne0 : j ≠ cs_N zc 2 jt := fun q => hij (by rw [q]; simp)
            have e9 : cGa (cs_i zc, cs_n zc, va_up (va_up (cs_I zc) 33 (va_up (cs_I zc 33) jt 1)) 22 (va_up (cs_I zc 22) (cs_N zc 2 jt) ((cs_I zc 22 (cs_N zc 2 jt)) - 1)), va_up (va_up (cs_L zc) 6 (va_up (cs_L zc 6) jt (if 0 < ((((((cs_I zc 31 jt).toInt64 * (cs_L zc 3 jt)) / 240) - ((cs_L zc 4 jt) / 2)) - (cs_L zc 5 jt)) - ((cs_L zc 0 (cs_N zc 2 jt)) / 2)) then ((((((cs_I zc 31 jt).toInt64 * (cs_L zc 3 jt)) / 240) - ((cs_L zc 4 jt) / 2)) - (cs_L zc 5 jt)) - ((cs_L zc 0 (cs_N zc 2 jt)) / 2)) else 0))) 0 (va_up (cs_L zc 0) (cs_N zc 2 jt) ((cs_L zc 0 (cs_N zc 2 jt)) + (((if 0 < ((((((cs_I zc 31 jt).toInt64 * (cs_L zc 3 jt)) / 240) - ((cs_L zc 4 jt) / 2)) - (cs_L zc 5 jt)) - ((cs_L zc 0 (cs_N zc 2 jt)) / 2)) then ((((((cs_I zc 31 jt).toInt64 * (cs_L zc 3 jt)) / 240) - ((cs_L zc 4 jt) / 2)) - (cs_L zc 5 jt)) - ((cs_L zc 0 (cs_N zc 2 jt)) / 2)) else 0) - ((((((cs_I zc 31 jt).toInt64 * (cs_L zc 3 jt)) / 240) - ((cs_L zc 4 jt) / 2)) - (cs_L zc 5 jt)) - ((cs_L zc 0 (cs_N zc 2 jt)) / 2))) - ((cs_L zc 0 (cs_N zc 2 jt)) / 2)))), va_up (cs_N zc) 0 (va_up (cs_N zc 0) (cs_N zc 3 jt) 0), cs_S zc, cs_X zc) j = cGa zc j := by simp [cGa, va_up, hne0]
            show (if j < cs_n (cs_i zc, cs_n zc, va_up (va_up (cs_I zc) 33 (va_up (cs_I zc 33) jt 1)) 22 (va_up (cs_I zc 22) (cs_N zc 2 jt) ((cs_I zc 22 (cs_N zc 2 jt)) - 1)), va_up (va_up (cs_L zc) 6 (va_up (cs_L zc 6) jt (if 0 < ((((((cs_I zc 31 jt).toInt64 * (cs_L zc 3 jt)) / 240) - ((cs_L zc 4 jt) / 2)) - (cs_L zc 5 jt)) - ((cs_L zc 0 (cs_N zc 2 jt)) / 2)) then ((((((cs_I zc 31 jt).toInt64 * (cs_L zc 3 jt)) / 240) - ((cs_L zc 4 jt) / 2)) - (cs_L zc 5 jt)) - ((cs_L zc 0 (cs_N zc 2 jt)) / 2)) else 0))) 0 (va_up (cs_L zc 0) (cs_N zc 2 jt) ((cs_L zc 0 (cs_N zc 2 jt)) + (((if 0 < ((((((cs_I zc 31 jt).toInt64 * (cs_L zc 3 jt)) / 240) - ((cs_L zc 4 jt) / 2)) - (cs_L zc 5 jt)) - ((cs_L zc 0 (cs_N zc 2 jt)) / 2)) then ((((((cs_I zc 31 jt).toInt64 * (cs_L zc 3 jt)) / 240) - ((cs_L zc 4 jt) / 2)) - (cs_L zc 5 jt)) - ((cs_L zc 0 (cs_N zc 2 jt)) / 2)) else 0) - ((((((cs_I zc 31 jt).toInt64 * (cs_L zc 3 jt)) / 240) - ((cs_L zc 4 jt) / 2)) - (cs_L zc 5 jt)) - ((cs_L zc 0 (cs_N zc 2 jt)) / 2))) - ((cs_L zc 0 (cs_N zc 2 jt)) / 2)))), va_up (cs_N zc) 0 (va_up (cs_N zc 0) (cs_N zc 3 jt) 0), cs_S zc, cs_X zc) 1 then some (cGa (cs_i zc, cs_n zc, va_up (va_up (cs_I zc) 33 (va_up (cs_I zc 33) jt 1)) 22 (va_up (cs_I zc 22) (cs_N zc 2 jt) ((cs_I zc 22 (cs_N zc 2 jt)) - 1)), va_up (va_up (cs_L zc) 6 (va_up (cs_L zc 6) jt (if 0 < ((((((cs_I zc 31 jt).toInt64 * (cs_L zc 3 jt)) / 240) - ((cs_L zc 4 jt) / 2)) - (cs_L zc 5 jt)) - ((cs_L zc 0 (cs_N zc 2 jt)) / 2)) then ((((((cs_I zc 31 jt).toInt64 * (cs_L zc 3 jt)) / 240) - ((cs_L zc 4 jt) / 2)) - (cs_L zc 5 jt)) - ((cs_L zc 0 (cs_N zc 2 jt)) / 2)) else 0))) 0 (va_up (cs_L zc 0) (cs_N zc 2 jt) ((cs_L zc 0 (cs_N zc 2 jt)) + (((if 0 < ((((((cs_I zc 31 jt).toInt64 * (cs_L zc 3 jt)) / 240) - ((cs_L zc 4 jt) / 2)) - (cs_L zc 5 jt)) - ((cs_L zc 0 (cs_N zc 2 jt)) / 2)) then ((((((cs_I zc 31 jt).toInt64 * (cs_L zc 3 jt)) / 240) - ((cs_L zc 4 jt) / 2)) - (cs_L zc 5 jt)) - ((cs_L zc 0 (cs_N zc 2 jt)) / 2)) else 0) - ((((((cs_I zc 31 jt).toInt64 * (cs_L zc 3 jt)) / 240) - ((cs_L zc 4 jt) / 2)) - (cs_L zc 5 jt)) - ((cs_L zc 0 (cs_N zc 2 jt)) / 2))) - ((cs_L zc 0 (cs_N zc 2 jt)) / 2)))), va_up (cs_N zc) 0 (va_up (cs_N zc 0) (cs_N zc 3 jt) 0), cs_S zc, cs_X zc) j) else none) = _
            rw [e9]
            rfl
          · have hne0 : j ≠ jt := fun q => hij (by rw [q]; simp)
            have e9 : cTa (cs_i zc, cs_n zc, va_up (va_up (cs_I zc) 33 (va_up (cs_I zc 33) jt 1)) 22 (va_up (cs_I zc 22) (cs_N zc 2 jt) ((cs_I zc 22 (cs_N zc 2 jt)) - 1)), va_up (va_up (cs_L zc) 6 (va_up (cs_L zc 6) jt (if 0 < ((((((cs_I zc 31 jt).toInt64 * (cs_L zc 3 jt)) / 240) - ((cs_L zc 4 jt) / 2)) - (cs_L zc 5 jt)) - ((cs_L zc 0 (cs_N zc 2 jt)) / 2)) then ((((((cs_I zc 31 jt).toInt64 * (cs_L zc 3 jt)) / 240) - ((cs_L zc 4 jt) / 2)) - (cs_L zc 5 jt)) - ((cs_L zc 0 (cs_N zc 2 jt)) / 2)) else 0))) 0 (va_up (cs_L zc 0) (cs_N zc 2 jt) ((cs_L zc 0 (cs_N zc 2 jt)) + (((if 0 < ((((((cs_I zc 31 jt).toInt64 * (cs_L zc 3 jt)) / 240) - ((cs_L zc 4 jt) / 2)) - (cs_L zc 5 jt)) - ((cs_L zc 0 (cs_N zc 2 jt)) / 2)) then ((((((cs_I zc 31 jt).toInt64 * (cs_L zc 3 jt)) / 240) - ((cs_L zc 4 jt) / 2)) - (cs_L zc 5 jt)) - ((cs_L zc 0 (cs_N zc 2 jt)) / 2)) else 0) - ((((((cs_I zc 31 jt).toInt64 * (cs_L zc 3 jt)) / 240) - ((cs_L zc 4 jt) / 2)) - (cs_L zc 5 jt)) - ((cs_L zc 0 (cs_N zc 2 jt)) / 2))) - ((cs_L zc 0 (cs_N zc 2 jt)) / 2)))), va_up (cs_N zc) 0 (va_up (cs_N zc 0) (cs_N zc 3 jt) 0), cs_S zc, cs_X zc) j = cTa zc j := by simp [cTa, va_up, hne0]
            show (if j < cs_n (cs_i zc, cs_n zc, va_up (va_up (cs_I zc) 33 (va_up (cs_I zc 33) jt 1)) 22 (va_up (cs_I zc 22) (cs_N zc 2 jt) ((cs_I zc 22 (cs_N zc 2 jt)) - 1)), va_up (va_up (cs_L zc) 6 (va_up (cs_L zc 6) jt (if 0 < ((((((cs_I zc 31 jt).toInt64 * (cs_L zc 3 jt)) / 240) - ((cs_L zc 4 jt) / 2)) - (cs_L zc 5 jt)) - ((cs_L zc 0 (cs_N zc 2 jt)) / 2)) then ((((((cs_I zc 31 jt).toInt64 * (cs_L zc 3 jt)) / 240) - ((cs_L zc 4 jt) / 2)) - (cs_L zc 5 jt)) - ((cs_L zc 0 (cs_N zc 2 jt)) / 2)) else 0))) 0 (va_up (cs_L zc 0) (cs_N zc 2 jt) ((cs_L zc 0 (cs_N zc 2 jt)) + (((if 0 < ((((((cs_I zc 31 jt).toInt64 * (cs_L zc 3 jt)) / 240) - ((cs_L zc 4 jt) / 2)) - (cs_L zc 5 jt)) - ((cs_L zc 0 (cs_N zc 2 jt)) / 2)) then ((((((cs_I zc 31 jt).toInt64 * (cs_L zc 3 jt)) / 240) - ((cs_L zc 4 jt) / 2)) - (cs_L zc 5 jt)) - ((cs_L zc 0 (cs_N zc 2 jt)) / 2)) else 0) - ((((((cs_I zc 31 jt).toInt64 * (cs_L zc 3 jt)) / 240) - ((cs_L zc 4 jt) / 2)) - (cs_L zc 5 jt)) - ((cs_L zc 0 (cs_N zc 2 jt)) / 2))) - ((cs_L zc 0 (cs_N zc 2 jt)) / 2)))), va_up (cs_N zc) 0 (va_up (cs_N zc 0) (cs_N zc 3 jt) 0), cs_S zc, cs_X zc) 2 then some (cTa (cs_i zc, cs_n zc, va_up (va_up (cs_I zc) 33 (va_up (cs_I zc 33) jt 1)) 22 (va_up (cs_I zc 22) (cs_N zc 2 jt) ((cs_I zc 22 (cs_N zc 2 jt)) - 1)), va_up (va_up (cs_L zc) 6 (va_up (cs_L zc 6) jt (if 0 < ((((((cs_I zc 31 jt).toInt64 * (cs_L zc 3 jt)) / 240) - ((cs_L zc 4 jt) / 2)) - (cs_L zc 5 jt)) - ((cs_L zc 0 (cs_N zc 2 jt)) / 2)) then ((((((cs_I zc 31 jt).toInt64 * (cs_L zc 3 jt)) / 240) - ((cs_L zc 4 jt) / 2)) - (cs_L zc 5 jt)) - ((cs_L zc 0 (cs_N zc 2 jt)) / 2)) else 0))) 0 (va_up (cs_L zc 0) (cs_N zc 2 jt) ((cs_L zc 0 (cs_N zc 2 jt)) + (((if 0 < ((((((cs_I zc 31 jt).toInt64 * (cs_L zc 3 jt)) / 240) - ((cs_L zc 4 jt) / 2)) - (cs_L zc 5 jt)) - ((cs_L zc 0 (cs_N zc 2 jt)) / 2)) then ((((((cs_I zc 31 jt).toInt64 * (cs_L zc 3 jt)) / 240) - ((cs_L zc 4 jt) / 2)) - (cs_L zc 5 jt)) - ((cs_L zc 0 (cs_N zc 2 jt)) / 2)) else 0) - ((((((cs_I zc 31 jt).toInt64 * (cs_L zc 3 jt)) / 240) - ((cs_L zc 4 jt) / 2)) - (cs_L zc 5 jt)) - ((cs_L zc 0 (cs_N zc 2 jt)) / 2))) - ((cs_L zc 0 (cs_N zc 2 jt)) / 2)))), va_up (cs_N zc) 0 (va_up (cs_N zc 0) (cs_N zc 3 jt) 0), cs_S zc, cs_X zc) j) else none) = _
            rw [e9]
            rfl
          · rfl
          · rfl
          · rfl
          · rfl
          · rfl
        exact W.lret (v := if 0 < ((((((cs_I zc 31 jt).toInt64 * (cs_L zc 3 jt)) / 240) - ((cs_L zc 4 jt) / 2)) - (cs_L zc 5 jt)) - ((cs_L zc 0 (cs_N zc 2 jt)) / 2)) then ((((((cs_I zc 31 jt).toInt64 * (cs_L zc 3 jt)) / 240) - ((cs_L zc 4 jt) / 2)) - (cs_L zc 5 jt)) - ((cs_L zc 0 (cs_N zc 2 jt)) / 2)) else 0) hx hb hr (fun t ht hW => have hJ := kjoin hPk hDk hks rfl (hS.F ht) (by rw [ht]; exact hP9) hD9 hks9 hout; ⟨⟨if 0 < ((((((cs_I zc 31 jt).toInt64 * (cs_L zc 3 jt)) / 240) - ((cs_L zc 4 jt) / 2)) - (cs_L zc 5 jt)) - ((cs_L zc 0 (cs_N zc 2 jt)) / 2)) then ((((((cs_I zc 31 jt).toInt64 * (cs_L zc 3 jt)) / 240) - ((cs_L zc 4 jt) / 2)) - (cs_L zc 5 jt)) - ((cs_L zc 0 (cs_N zc 2 jt)) / 2)) else 0, (cs_i zc, cs_n zc, va_up (va_up (cs_I zc) 33 (va_up (cs_I zc 33) jt 1)) 22 (va_up (cs_I zc 22) (cs_N zc 2 jt) ((cs_I zc 22 (cs_N zc 2 jt)) - 1)), va_up (va_up (cs_L zc) 6 (va_up (cs_L zc 6) jt (if 0 < ((((((cs_I zc 31 jt).toInt64 * (cs_L zc 3 jt)) / 240) - ((cs_L zc 4 jt) / 2)) - (cs_L zc 5 jt)) - ((cs_L zc 0 (cs_N zc 2 jt)) / 2)) then ((((((cs_I zc 31 jt).toInt64 * (cs_L zc 3 jt)) / 240) - ((cs_L zc 4 jt) / 2)) - (cs_L zc 5 jt)) - ((cs_L zc 0 (cs_N zc 2 jt)) / 2)) else 0))) 0 (va_up (cs_L zc 0) (cs_N zc 2 jt) ((cs_L zc 0 (cs_N zc 2 jt)) + (((if 0 < ((((((cs_I zc 31 jt).toInt64 * (cs_L zc 3 jt)) / 240) - ((cs_L zc 4 jt) / 2)) - (cs_L zc 5 jt)) - ((cs_L zc 0 (cs_N zc 2 jt)) / 2)) then ((((((cs_I zc 31 jt).toInt64 * (cs_L zc 3 jt)) / 240) - ((cs_L zc 4 jt) / 2)) - (cs_L zc 5 jt)) - ((cs_L zc 0 (cs_N zc 2 jt)) / 2)) else 0) - ((((((cs_I zc 31 jt).toInt64 * (cs_L zc 3 jt)) / 240) - ((cs_L zc 4 jt) / 2)) - (cs_L zc 5 jt)) - ((cs_L zc 0 (cs_N zc 2 jt)) / 2))) - ((cs_L zc 0 (cs_N zc 2 jt)) / 2)))), va_up (cs_N zc) 0 (va_up (cs_N zc 0) (cs_N zc 3 jt) 0), cs_S zc, cs_X zc), rfl, ⟨(inv_settle hI), (Or.inr (Or.inr (Or.inr (Or.inr (Or.inr (Or.inl ⟨jt, rfl, hjt, hk, c9, rfl, rfl⟩))))))⟩, hJ.1, va_K.moved hW.alike hKk, hJ.2.1⟩, hJ.2.2⟩) (fun q h => kAll_A hks _ (hS.2.2 q h)) dX10_settle_29
      · skip
        refine lv_ldc2 (v := (-9223372036854775808)) hx hb hown (hts (.constantLong RX10 137 (-9223372036854775808)) (by decide +kernel)) dX10_settle_17 ?_
        subst hQ
        exact W.lret (v := (-9223372036854775808)) hx hb hr (fun t ht hW => ⟨⟨(-9223372036854775808), zc, rfl, ⟨hI, (Or.inr (Or.inr (Or.inr (Or.inr (Or.inr (Or.inr ⟨jt, rfl, hjt, hk, c9, rfl, rfl⟩))))))⟩, (by rw [ht]; exact hPk), va_K.moved hW.alike hKk, hDk⟩, (kw_same hPk ht).2⟩) (fun q h => absurd h List.not_mem_nil) dX10_settle_20
def pC_about (zc : CS) (p : Int32) (wh : Int32) (r : Int32) (u : CS) : Prop :=
  ((∀ j, j < cs_n zc 0 → p ≠ nI j) ∧ r = (-1) ∧ u = zc) ∨
  (∃ jp : Nat, p = nI jp ∧ (jp < cs_n zc 0) ∧ (cs_N zc 0 jp = 0) ∧ wh = 0 ∧ r = cs_I zc 11 jp ∧ u = zc) ∨
  (∃ jp : Nat, p = nI jp ∧ (jp < cs_n zc 0) ∧ (cs_N zc 0 jp = 0) ∧ wh = 1 ∧ r = cs_I zc 12 jp ∧ u = zc) ∨
  (∃ jp : Nat, p = nI jp ∧ (jp < cs_n zc 0) ∧ (cs_N zc 0 jp = 0) ∧ wh = 2 ∧ r = cs_I zc 13 jp ∧ u = zc) ∨
  (∃ jp : Nat, p = nI jp ∧ (jp < cs_n zc 0) ∧ (cs_N zc 0 jp = 0) ∧ wh = 3 ∧ r = cs_I zc 14 jp ∧ u = zc) ∨
  (∃ jp : Nat, p = nI jp ∧ (jp < cs_n zc 0) ∧ (cs_N zc 0 jp = 0) ∧ wh = 4 ∧ r = cs_I zc 15 jp ∧ u = zc) ∨
  (∃ jp : Nat, p = nI jp ∧ (jp < cs_n zc 0) ∧ (cs_N zc 0 jp = 0) ∧ wh = 5 ∧ r = (-9) ∧ u = zc) ∨
  (∃ jp : Nat, p = nI jp ∧ (jp < cs_n zc 0) ∧ (cs_N zc 0 jp = 0) ∧ wh = 6 ∧ r = cs_I zc 16 jp ∧ u = zc) ∨
  (∃ jp : Nat, p = nI jp ∧ (jp < cs_n zc 0) ∧ (cs_N zc 0 jp = 0) ∧ (¬ wh = 0) ∧ (¬ wh = 1) ∧ (¬ wh = 2) ∧ (¬ wh = 3) ∧ (¬ wh = 4) ∧ (¬ wh = 5) ∧ (¬ wh = 6) ∧ r = (-2) ∧ u = zc) ∨
  (∃ jp : Nat, p = nI jp ∧ (jp < cs_n zc 0) ∧ (¬ cs_N zc 0 jp = 0) ∧ wh = 0 ∧ r = cs_I zc 11 jp ∧ u = zc) ∨
  (∃ jp : Nat, p = nI jp ∧ (jp < cs_n zc 0) ∧ (¬ cs_N zc 0 jp = 0) ∧ wh = 1 ∧ r = cs_I zc 12 jp ∧ u = zc) ∨
  (∃ jp : Nat, p = nI jp ∧ (jp < cs_n zc 0) ∧ (¬ cs_N zc 0 jp = 0) ∧ wh = 2 ∧ r = cs_I zc 13 jp ∧ u = zc) ∨
  (∃ jp : Nat, p = nI jp ∧ (jp < cs_n zc 0) ∧ (¬ cs_N zc 0 jp = 0) ∧ wh = 3 ∧ r = cs_I zc 14 jp ∧ u = zc) ∨
  (∃ jp : Nat, p = nI jp ∧ (jp < cs_n zc 0) ∧ (¬ cs_N zc 0 jp = 0) ∧ wh = 4 ∧ r = cs_I zc 15 jp ∧ u = zc) ∨
  (∃ jp : Nat, p = nI jp ∧ (jp < cs_n zc 0) ∧ (¬ cs_N zc 0 jp = 0) ∧ wh = 5 ∧ r = nI (cs_N zc 0 jp - 1) ∧ u = zc) ∨
  (∃ jp : Nat, p = nI jp ∧ (jp < cs_n zc 0) ∧ (¬ cs_N zc 0 jp = 0) ∧ wh = 6 ∧ r = cs_I zc 16 jp ∧ u = zc) ∨
  (∃ jp : Nat, p = nI jp ∧ (jp < cs_n zc 0) ∧ (¬ cs_N zc 0 jp = 0) ∧ (¬ wh = 0) ∧ (¬ wh = 1) ∧ (¬ wh = 2) ∧ (¬ wh = 3) ∧ (¬ wh = 4) ∧ (¬ wh = 5) ∧ (¬ wh = 6) ∧ r = (-2) ∧ u = zc)
set_option maxHeartbeats 4000000 in
set_option maxRecDepth 100000 in
theorem K_about (l : Launch) (dC : Nat → ClassId) (dI : Nat → Nat → Nat) (cA : Nat → ClassId) (sz : Nat) (zc : CS) (p : Int32) (wh : Int32) (hI : invC zc) : Met l yX10_about wsX10_about ({ frames := 2, cells := 0, slots := 0, locals := 60 }) (kw (dC, dI) (ctys cA) (cF cA zc) sz [.ref (cs_X zc 0 0), .int p, .int wh]) (kQi (dC, dI) (ctys cA) (cF cA zc) sz (cF cA) (fun r u => invC u ∧ pC_about zc p wh r u)) 0 0 (kA (cF cA zc) sz) := by
  refine kw_met (cc := cX10_about) (maxL := 4) (ret := (some .int)) (by decide) rfl (Nat.le_of_ble_eq_true rfl) ?_
  intro p e s m below meth c0 hx hb hr hml hown hlocks hnm hts hPk hKk hDk hN hsz ls hl
  subst hsz
  have hK : va_K (dC, dI) vwCl [(cA 0, .int), (cA 1, .object RX6), (cA 2, .object RX2), (cA 3, .object RX8), (cA 4, .object RX5), (cA 5, .object RX7)] s := hKk
  obtain ⟨⟨hn0, hn1, hn2, hn3, hn4, hn5⟩, hpi, hgk, htk, hpk, hsh⟩ := id hI
  have hl : lv_has ls 4 [(0, .ref (cs_X zc 0 0)), (1, .int p), (2, .int wh)] := hl
  have hiX6 : ∀ w ∈ wsX60, w ∈ wsX10_about := by decide +kernel
  have hiX8 : ∀ w ∈ wsX80, w ∈ wsX10_about := by decide +kernel
  generalize hQ : MQ _ _ _ _ _ _ _ = Q
  rcases ixd p (cs_n zc 0) with hnojp | ⟨jp, hjp, rfl⟩
  · skip
    have hks : kAll (cF cA zc) [(0, 0), (0, 6)] [cTP zc, cR6 cA zc] := ⟨rfl, rfl, trivial⟩
    have hP : va_P (dC, dI) vwCl [cTP zc, cR6 cA zc] s.heap := kAll_P hPk hks
    have hD : va_D (va_A [cTP zc, cR6 cA zc] s.heap.size) [cTP zc, cR6 cA zc] := (kAll_D hDk hks (by simp)).self
    have hA : ∀ q : Nat, s.heap.size ≤ q → va_A [cTP zc, cR6 cA zc] s.heap.size q := fun q h => Or.inr h
    have hS : va_S (va_A [cTP zc, cR6 cA zc] s.heap.size) s.heap s.heap [] := va_S.rf
    refine lv_aload_n hx hb dX10_about_0 rfl (lv_at hl 0 rfl) ?_
    refine lv_iload_n hx hb dX10_about_1 rfl (lv_at hl 1 rfl) ?_
    have hPc := hP.sub (ws' := [cTP zc]) [0] rfl
    have hDc := hD.sub (ws' := [cTP zc]) [0] (by decide) rfl
    have hKc := hK.sub (tys' := []) [] rfl
    refine va_csq (va_Run.run (va_runV (As := [.int p]) (rest := []) ⟨hx, hb, hml, hown, hts⟩ (s_pitchAt_no l dC dI  _ (cs_X zc 0 0) (.ref (cs_X zc 0 1)) (.ref (cs_X zc 0 6)) (.ref (cs_X zc 0 7)) (.ref (cs_X zc 0 8)) (.ref (cs_X zc 0 9)) (.ref (cs_X zc 0 10)) (.ref (cs_X zc 0 11)) (.int (nI (cs_n zc 1))) (.int (nI (cs_n zc 2))) (.int (nI (cs_n zc 3))) (va_rf (opN (cs_n zc 4) (fun _ => cs_X zc 5 0))) (.int (cs_i zc 2)) p (cs_n zc 0) (by omega) hnojp) (cwV 1 hts gX10_about_X10_pitchAt rfl rfl rfl (by decide +kernel) ⟨Nat.le_of_ble_eq_true rfl, Nat.le_of_ble_eq_true rfl⟩) (pw_preV (va_recv hKc hPc (ci := 10) (q0 := 0) rfl rfl) hPc hKc hDc hN) rfl rfl hl.1 rfl (lv_room (Nat.le_of_ble_eq_true rfl)) dX10_about_2 ⟨Nat.le_of_ble_eq_true rfl, Nat.le_of_ble_eq_true rfl⟩)) (fun r1 hr1 => ?_)
    have hr1 : r1 = none := hr1
    subst hr1
    refine W.eq (g2 := F0 m 5 ls [.null]) rfl ?_
    refine lv_astore_nN (lv' := [(3, .null), (0, .ref (cs_X zc 0 0)), (1, .int p), (2, .int wh)]) hx hb dX10_about_5 rfl hl (by decide) rfl (fun ls hl => ?_)
    refine lv_aload_nN hx hb dX10_about_6 rfl (lv_at hl 0 rfl) ?_
    refine lv_ifnonnullN hx hb dX10_about_7 ?_
    refine lv_iconst (v := (-1)) hx hb dX10_about_10 (by decide) ?_
    subst hQ
    exact W.iret (v := (-1)) hx hb hr (fun t ht hW => ⟨⟨(-1), zc, rfl, ⟨hI, (Or.inl ⟨hnojp, rfl, rfl⟩)⟩, (by rw [ht]; exact hPk), va_K.moved hW.alike hKk, hDk⟩, (kw_same hPk ht).2⟩) (fun q h => absurd h List.not_mem_nil) dX10_about_11
  · skip
    by_cases h0t : cs_N zc 0 jp = 0
    · skip
      have hks : kAll (cF cA zc) [(0, 0), (0, 6), (1, jp)] [cTP zc, cR6 cA zc, cPiN zc jp] := ⟨rfl, rfl, (kF_piN (z := zc) hjp h0t), trivial⟩
      have hP : va_P (dC, dI) vwCl [cTP zc, cR6 cA zc, cPiN zc jp] s.heap := kAll_P hPk hks
      have hD : va_D (va_A [cTP zc, cR6 cA zc, cPiN zc jp] s.heap.size) [cTP zc, cR6 cA zc, cPiN zc jp] := (kAll_D hDk hks (by simp)).self
      have hA : ∀ q : Nat, s.heap.size ≤ q → va_A [cTP zc, cR6 cA zc, cPiN zc jp] s.heap.size q := fun q h => Or.inr h
      have hS : va_S (va_A [cTP zc, cR6 cA zc, cPiN zc jp] s.heap.size) s.heap s.heap [] := va_S.rf
      refine lv_aload_n hx hb dX10_about_0 rfl (lv_at hl 0 rfl) ?_
      refine lv_iload_n hx hb dX10_about_1 rfl (lv_at hl 1 rfl) ?_
      have hPc := hP.sub (ws' := [cTP zc, cR6 cA zc]) [0, 1] rfl
      have hDc := hD.sub (ws' := [cTP zc, cR6 cA zc]) [0, 1] (by decide) rfl
      have hKc := hK.sub (tys' := [(cA 1, .object RX6)]) [1] rfl
      refine va_csq (va_Run.run (va_runV (As := [.int (nI jp)]) (rest := []) ⟨hx, hb, hml, hown, hts⟩ (s_pitchAt_yes l dC dI (cA 1) _ (cs_X zc 0 0) (.ref (cs_X zc 0 1)) (.ref (cs_X zc 0 7)) (.ref (cs_X zc 0 8)) (.ref (cs_X zc 0 9)) (.ref (cs_X zc 0 10)) (.ref (cs_X zc 0 11)) (.int (nI (cs_n zc 1))) (.int (nI (cs_n zc 2))) (.int (nI (cs_n zc 3))) (va_rf (opN (cs_n zc 4) (fun _ => cs_X zc 5 0))) (.int (cs_i zc 2)) (cs_X zc 0 6) jp (cs_n zc 0) (cs_X zc 1 jp) (rfN (cs_n zc 0) (cs_X zc 1)) hjp (by omega) (rfN_at hjp)) (cwV 1 hts gX10_about_X10_pitchAt rfl rfl rfl (by decide +kernel) ⟨Nat.le_of_ble_eq_true rfl, Nat.le_of_ble_eq_true rfl⟩) (pw_preV (va_recv hKc hPc (ci := 10) (q0 := 0) rfl rfl) hPc hKc hDc hN) rfl rfl hl.1 rfl (lv_room (Nat.le_of_ble_eq_true rfl)) dX10_about_2 ⟨Nat.le_of_ble_eq_true rfl, Nat.le_of_ble_eq_true rfl⟩)) (fun r2 hr2 => ?_)
      have hr2 : r2 = some cs_X zc 1 jp := hr2
      subst hr2
      refine W.eq (g2 := F0 m 5 ls [.ref (cs_X zc 1 jp)]) rfl ?_
      refine lv_astore_n (lv' := [(3, .ref (cs_X zc 1 jp)), (0, .ref (cs_X zc 0 0)), (1, .int (nI jp)), (2, .int wh)]) hx hb dX10_about_5 rfl hl (by decide) rfl (fun ls hl => ?_)
      refine lv_aload_n hx hb dX10_about_6 rfl (lv_at hl 0 rfl) ?_
      refine lv_ifnonnull (tgt := 12) hx hb dX10_about_7 (by decide) ?_
      refine lv_iload_n hx hb dX10_about_12 rfl (lv_at hl 3 rfl) ?_
      by_cases hw3 : wh = 0
      · subst hw3
        refine lv_tableIn (off := 43) (tgt := 56) hx hb dX10_about_13 (by decide) (by decide) rfl (by decide) ?_
        refine lv_aload_n hx hb dX10_about_56 rfl (lv_at hl 0 rfl) ?_
        refine va_get (D := (dC, dI)) (ci := 6) (v := .int (cs_I zc 11 jp)) (C := RX6) (T := TX6) (N := 8) hx hb hts hiX6 hown hK hP 2 rfl rfl 1 (by decide) (hts (.fieldLink RX10 213 "TributePitches$Pitch" "x" "I") (by decide +kernel)) (fun _ h9 => h9) rfl dX10_about_57 ?_
        subst hQ
        exact W.iret (v := cs_I zc 11 jp) hx hb hr (fun t ht hW => ⟨⟨cs_I zc 11 jp, zc, rfl, ⟨hI, (Or.inr (Or.inl ⟨jp, rfl, hjp, h0t, rfl, rfl, rfl⟩))⟩, (by rw [ht]; exact hPk), va_K.moved hW.alike hKk, hDk⟩, (kw_same hPk ht).2⟩) (fun q h => absurd h List.not_mem_nil) dX10_about_60
      by_cases hw4 : wh = 1
      · subst hw4
        refine lv_tableIn (off := 48) (tgt := 61) hx hb dX10_about_13 (by decide) (by decide) rfl (by decide) ?_
        refine lv_aload_n hx hb dX10_about_61 rfl (lv_at hl 0 rfl) ?_
        refine va_get (D := (dC, dI)) (ci := 6) (v := .int (cs_I zc 12 jp)) (C := RX6) (T := TX6) (N := 8) hx hb hts hiX6 hown hK hP 2 rfl rfl 2 (by decide) (hts (.fieldLink RX10 216 "TributePitches$Pitch" "y" "I") (by decide +kernel)) (fun _ h9 => h9) rfl dX10_about_62 ?_
        subst hQ
        exact W.iret (v := cs_I zc 12 jp) hx hb hr (fun t ht hW => ⟨⟨cs_I zc 12 jp, zc, rfl, ⟨hI, (Or.inr (Or.inr (Or.inl ⟨jp, rfl, hjp, h0t, rfl, rfl, rfl⟩)))⟩, (by rw [ht]; exact hPk), va_K.moved hW.alike hKk, hDk⟩, (kw_same hPk ht).2⟩) (fun q h => absurd h List.not_mem_nil) dX10_about_65
      by_cases hw5 : wh = 2
      · subst hw5
        refine lv_tableIn (off := 53) (tgt := 66) hx hb dX10_about_13 (by decide) (by decide) rfl (by decide) ?_
        refine lv_aload_n hx hb dX10_about_66 rfl (lv_at hl 0 rfl) ?_
        refine va_get (D := (dC, dI)) (ci := 6) (v := .int (cs_I zc 13 jp)) (C := RX6) (T := TX6) (N := 8) hx hb hts hiX6 hown hK hP 2 rfl rfl 3 (by decide) (hts (.fieldLink RX10 219 "TributePitches$Pitch" "x2" "I") (by decide +kernel)) (fun _ h9 => h9) rfl dX10_about_67 ?_
        subst hQ
        exact W.iret (v := cs_I zc 13 jp) hx hb hr (fun t ht hW => ⟨⟨cs_I zc 13 jp, zc, rfl, ⟨hI, (Or.inr (Or.inr (Or.inr (Or.inl ⟨jp, rfl, hjp, h0t, rfl, rfl, rfl⟩))))⟩, (by rw [ht]; exact hPk), va_K.moved hW.alike hKk, hDk⟩, (kw_same hPk ht).2⟩) (fun q h => absurd h List.not_mem_nil) dX10_about_70
      by_cases hw6 : wh = 3
      · subst hw6
        refine lv_tableIn (off := 58) (tgt := 71) hx hb dX10_about_13 (by decide) (by decide) rfl (by decide) ?_
        refine lv_aload_n hx hb dX10_about_71 rfl (lv_at hl 0 rfl) ?_
        refine va_get (D := (dC, dI)) (ci := 6) (v := .int (cs_I zc 14 jp)) (C := RX6) (T := TX6) (N := 8) hx hb hts hiX6 hown hK hP 2 rfl rfl 4 (by decide) (hts (.fieldLink RX10 222 "TributePitches$Pitch" "y2" "I") (by decide +kernel)) (fun _ h9 => h9) rfl dX10_about_72 ?_
        subst hQ
        exact W.iret (v := cs_I zc 14 jp) hx hb hr (fun t ht hW => ⟨⟨cs_I zc 14 jp, zc, rfl, ⟨hI, (Or.inr (Or.inr (Or.inr (Or.inr (Or.inl ⟨jp, rfl, hjp, h0t, rfl, rfl, rfl⟩)))))⟩, (by rw [ht]; exact hPk), va_K.moved hW.alike hKk, hDk⟩, (kw_same hPk ht).2⟩) (fun q h => absurd h List.not_mem_nil) dX10_about_75
      by_cases hw7 : wh = 4
      · subst hw7
        refine lv_tableIn (off := 63) (tgt := 76) hx hb dX10_about_13 (by decide) (by decide) rfl (by decide) ?_
        refine lv_aload_n hx hb dX10_about_76 rfl (lv_at hl 0 rfl) ?_
        refine va_get (D := (dC, dI)) (ci := 6) (v := .int (cs_I zc 15 jp)) (C := RX6) (T := TX6) (N := 8) hx hb hts hiX6 hown hK hP 2 rfl rfl 5 (by decide) (hts (.fieldLink RX10 225 "TributePitches$Pitch" "tons" "I") (by decide +kernel)) (fun _ h9 => h9) rfl dX10_about_77 ?_
        subst hQ
        exact W.iret (v := cs_I zc 15 jp) hx hb hr (fun t ht hW => ⟨⟨cs_I zc 15 jp, zc, rfl, ⟨hI, (Or.inr (Or.inr (Or.inr (Or.inr (Or.inr (Or.inl ⟨jp, rfl, hjp, h0t, rfl, rfl, rfl⟩))))))⟩, (by rw [ht]; exact hPk), va_K.moved hW.alike hKk, hDk⟩, (kw_same hPk ht).2⟩) (fun q h => absurd h List.not_mem_nil) dX10_about_80
      by_cases hw8 : wh = 5
      · subst hw8
        refine lv_tableIn (off := 68) (tgt := 81) hx hb dX10_about_13 (by decide) (by decide) rfl (by decide) ?_
        refine lv_aload_n hx hb dX10_about_81 rfl (lv_at hl 0 rfl) ?_
        refine va_get (D := (dC, dI)) (ci := 6) (v := .null) (C := RX6) (T := TX6) (N := 8) hx hb hts hiX6 hown hK hP 2 rfl rfl 7 (by decide) (hts (.fieldLink RX10 159 "TributePitches$Pitch" "take" "LTributePitches$Take;") (by decide +kernel)) (fun _ h9 => h9) rfl dX10_about_82 ?_
        refine lv_ifnonnullN hx hb dX10_about_85 ?_
        refine lv_bipush (v := (-9)) hx hb dX10_about_88 (by decide) ?_
        refine lv_goto (tgt := 100) hx hb dX10_about_90 (by decide) ?_
        subst hQ
        exact W.iret (v := (-9)) hx hb hr (fun t ht hW => ⟨⟨(-9), zc, rfl, ⟨hI, (Or.inr (Or.inr (Or.inr (Or.inr (Or.inr (Or.inr (Or.inl ⟨jp, rfl, hjp, h0t, rfl, rfl, rfl⟩)))))))⟩, (by rw [ht]; exact hPk), va_K.moved hW.alike hKk, hDk⟩, (kw_same hPk ht).2⟩) (fun q h => absurd h List.not_mem_nil) dX10_about_100
      by_cases hw9 : wh = 6
      · subst hw9
        refine lv_tableIn (off := 88) (tgt := 101) hx hb dX10_about_13 (by decide) (by decide) rfl (by decide) ?_
        refine lv_aload_n hx hb dX10_about_101 rfl (lv_at hl 0 rfl) ?_
        refine va_get (D := (dC, dI)) (ci := 6) (v := .int (cs_I zc 16 jp)) (C := RX6) (T := TX6) (N := 8) hx hb hts hiX6 hown hK hP 2 rfl rfl 6 (by decide) (hts (.fieldLink RX10 231 "TributePitches$Pitch" "takesHad" "I") (by decide +kernel)) (fun _ h9 => h9) rfl dX10_about_102 ?_
        subst hQ
        exact W.iret (v := cs_I zc 16 jp) hx hb hr (fun t ht hW => ⟨⟨cs_I zc 16 jp, zc, rfl, ⟨hI, (Or.inr (Or.inr (Or.inr (Or.inr (Or.inr (Or.inr (Or.inr (Or.inl ⟨jp, rfl, hjp, h0t, rfl, rfl, rfl⟩))))))))⟩, (by rw [ht]; exact hPk), va_K.moved hW.alike hKk, hDk⟩, (kw_same hPk ht).2⟩) (fun q h => absurd h List.not_mem_nil) dX10_about_105
      refine lv_tableOut (tgt := 106) hx hb dX10_about_13 (tb_out7 hw3 hw4 hw5 hw6 hw7 hw8 hw9) (by decide) ?_
      refine lv_bipush (v := (-2)) hx hb dX10_about_106 (by decide) ?_
      subst hQ
      exact W.iret (v := (-2)) hx hb hr (fun t ht hW => ⟨⟨(-2), zc, rfl, ⟨hI, (Or.inr (Or.inr (Or.inr (Or.inr (Or.inr (Or.inr (Or.inr (Or.inr (Or.inl ⟨jp, rfl, hjp, h0t, hw3, hw4, hw5, hw6, hw7, hw8, hw9, rfl, rfl⟩)))))))))⟩, (by rw [ht]; exact hPk), va_K.moved hW.alike hKk, hDk⟩, (kw_same hPk ht).2⟩) (fun q h => absurd h List.not_mem_nil) dX10_about_108
    · skip
      have hks : kAll (cF cA zc) [(0, 0), (0, 6), (1, jp), (3, cs_N zc 0 jp - 1)] [cTP zc, cR6 cA zc, cPiT zc jp, cTa zc (cs_N zc 0 jp - 1)] := ⟨rfl, rfl, (kF_piT (z := zc) hjp h0t), (kF_ta (z := zc) (by have q := (hpi jp hjp).2.2; omega)), trivial⟩
      have hP : va_P (dC, dI) vwCl [cTP zc, cR6 cA zc, cPiT zc jp, cTa zc (cs_N zc 0 jp - 1)] s.heap := kAll_P hPk hks
      have hD : va_D (va_A [cTP zc, cR6 cA zc, cPiT zc jp, cTa zc (cs_N zc 0 jp - 1)] s.heap.size) [cTP zc, cR6 cA zc, cPiT zc jp, cTa zc (cs_N zc 0 jp - 1)] := (kAll_D hDk hks (by simp)).self
      have hA : ∀ q : Nat, s.heap.size ≤ q → va_A [cTP zc, cR6 cA zc, cPiT zc jp, cTa zc (cs_N zc 0 jp - 1)] s.heap.size q := fun q h => Or.inr h
      have hS : va_S (va_A [cTP zc, cR6 cA zc, cPiT zc jp, cTa zc (cs_N zc 0 jp - 1)] s.heap.size) s.heap s.heap [] := va_S.rf
      refine lv_aload_n hx hb dX10_about_0 rfl (lv_at hl 0 rfl) ?_
      refine lv_iload_n hx hb dX10_about_1 rfl (lv_at hl 1 rfl) ?_
      have hPc := hP.sub (ws' := [cTP zc, cR6 cA zc]) [0, 1] rfl
      have hDc := hD.sub (ws' := [cTP zc, cR6 cA zc]) [0, 1] (by decide) rfl
      have hKc := hK.sub (tys' := [(cA 1, .object RX6)]) [1] rfl
      refine va_csq (va_Run.run (va_runV (As := [.int (nI jp)]) (rest := []) ⟨hx, hb, hml, hown, hts⟩ (s_pitchAt_yes l dC dI (cA 1) _ (cs_X zc 0 0) (.ref (cs_X zc 0 1)) (.ref (cs_X zc 0 7)) (.ref (cs_X zc 0 8)) (.ref (cs_X zc 0 9)) (.ref (cs_X zc 0 10)) (.ref (cs_X zc 0 11)) (.int (nI (cs_n zc 1))) (.int (nI (cs_n zc 2))) (.int (nI (cs_n zc 3))) (va_rf (opN (cs_n zc 4) (fun _ => cs_X zc 5 0))) (.int (cs_i zc 2)) (cs_X zc 0 6) jp (cs_n zc 0) (cs_X zc 1 jp) (rfN (cs_n zc 0) (cs_X zc 1)) hjp (by omega) (rfN_at hjp)) (cwV 1 hts gX10_about_X10_pitchAt rfl rfl rfl (by decide +kernel) ⟨Nat.le_of_ble_eq_true rfl, Nat.le_of_ble_eq_true rfl⟩) (pw_preV (va_recv hKc hPc (ci := 10) (q0 := 0) rfl rfl) hPc hKc hDc hN) rfl rfl hl.1 rfl (lv_room (Nat.le_of_ble_eq_true rfl)) dX10_about_2 ⟨Nat.le_of_ble_eq_true rfl, Nat.le_of_ble_eq_true rfl⟩)) (fun r10 hr10 => ?_)
      have hr10 : r10 = some cs_X zc 1 jp := hr10
      subst hr10
      refine W.eq (g2 := F0 m 5 ls [.ref (cs_X zc 1 jp)]) rfl ?_
      refine lv_astore_n (lv' := [(3, .ref (cs_X zc 1 jp)), (0, .ref (cs_X zc 0 0)), (1, .int (nI jp)), (2, .int wh)]) hx hb dX10_about_5 rfl hl (by decide) rfl (fun ls hl => ?_)
      refine lv_aload_n hx hb dX10_about_6 rfl (lv_at hl 0 rfl) ?_
      refine lv_ifnonnull (tgt := 12) hx hb dX10_about_7 (by decide) ?_
      refine lv_iload_n hx hb dX10_about_12 rfl (lv_at hl 3 rfl) ?_
      by_cases hw11 : wh = 0
      · subst hw11
        refine lv_tableIn (off := 43) (tgt := 56) hx hb dX10_about_13 (by decide) (by decide) rfl (by decide) ?_
        refine lv_aload_n hx hb dX10_about_56 rfl (lv_at hl 0 rfl) ?_
        refine va_get (D := (dC, dI)) (ci := 6) (v := .int (cs_I zc 11 jp)) (C := RX6) (T := TX6) (N := 8) hx hb hts hiX6 hown hK hP 2 rfl rfl 1 (by decide) (hts (.fieldLink RX10 213 "TributePitches$Pitch" "x" "I") (by decide +kernel)) (fun _ h9 => h9) rfl dX10_about_57 ?_
        subst hQ
        exact W.iret (v := cs_I zc 11 jp) hx hb hr (fun t ht hW => ⟨⟨cs_I zc 11 jp, zc, rfl, ⟨hI, (Or.inr (Or.inr (Or.inr (Or.inr (Or.inr (Or.inr (Or.inr (Or.inr (Or.inr (Or.inl ⟨jp, rfl, hjp, h0t, rfl, rfl, rfl⟩))))))))))⟩, (by rw [ht]; exact hPk), va_K.moved hW.alike hKk, hDk⟩, (kw_same hPk ht).2⟩) (fun q h => absurd h List.not_mem_nil) dX10_about_60
      by_cases hw12 : wh = 1
      · subst hw12
        refine lv_tableIn (off := 48) (tgt := 61) hx hb dX10_about_13 (by decide) (by decide) rfl (by decide) ?_
        refine lv_aload_n hx hb dX10_about_61 rfl (lv_at hl 0 rfl) ?_
        refine va_get (D := (dC, dI)) (ci := 6) (v := .int (cs_I zc 12 jp)) (C := RX6) (T := TX6) (N := 8) hx hb hts hiX6 hown hK hP 2 rfl rfl 2 (by decide) (hts (.fieldLink RX10 216 "TributePitches$Pitch" "y" "I") (by decide +kernel)) (fun _ h9 => h9) rfl dX10_about_62 ?_
        subst hQ
        exact W.iret (v := cs_I zc 12 jp) hx hb hr (fun t ht hW => ⟨⟨cs_I zc 12 jp, zc, rfl, ⟨hI, (Or.inr (Or.inr (Or.inr (Or.inr (Or.inr (Or.inr (Or.inr (Or.inr (Or.inr (Or.inr (Or.inl ⟨jp, rfl, hjp, h0t, rfl, rfl, rfl⟩)))))))))))⟩, (by rw [ht]; exact hPk), va_K.moved hW.alike hKk, hDk⟩, (kw_same hPk ht).2⟩) (fun q h => absurd h List.not_mem_nil) dX10_about_65
      by_cases hw13 : wh = 2
      · subst hw13
        refine lv_tableIn (off := 53) (tgt := 66) hx hb dX10_about_13 (by decide) (by decide) rfl (by decide) ?_
        refine lv_aload_n hx hb dX10_about_66 rfl (lv_at hl 0 rfl) ?_
        refine va_get (D := (dC, dI)) (ci := 6) (v := .int (cs_I zc 13 jp)) (C := RX6) (T := TX6) (N := 8) hx hb hts hiX6 hown hK hP 2 rfl rfl 3 (by decide) (hts (.fieldLink RX10 219 "TributePitches$Pitch" "x2" "I") (by decide +kernel)) (fun _ h9 => h9) rfl dX10_about_67 ?_
        subst hQ
        exact W.iret (v := cs_I zc 13 jp) hx hb hr (fun t ht hW => ⟨⟨cs_I zc 13 jp, zc, rfl, ⟨hI, (Or.inr (Or.inr (Or.inr (Or.inr (Or.inr (Or.inr (Or.inr (Or.inr (Or.inr (Or.inr (Or.inr (Or.inl ⟨jp, rfl, hjp, h0t, rfl, rfl, rfl⟩))))))))))))⟩, (by rw [ht]; exact hPk), va_K.moved hW.alike hKk, hDk⟩, (kw_same hPk ht).2⟩) (fun q h => absurd h List.not_mem_nil) dX10_about_70
      by_cases hw14 : wh = 3
      · subst hw14
        refine lv_tableIn (off := 58) (tgt := 71) hx hb dX10_about_13 (by decide) (by decide) rfl (by decide) ?_
        refine lv_aload_n hx hb dX10_about_71 rfl (lv_at hl 0 rfl) ?_
        refine va_get (D := (dC, dI)) (ci := 6) (v := .int (cs_I zc 14 jp)) (C := RX6) (T := TX6) (N := 8) hx hb hts hiX6 hown hK hP 2 rfl rfl 4 (by decide) (hts (.fieldLink RX10 222 "TributePitches$Pitch" "y2" "I") (by decide +kernel)) (fun _ h9 => h9) rfl dX10_about_72 ?_
        subst hQ
        exact W.iret (v := cs_I zc 14 jp) hx hb hr (fun t ht hW => ⟨⟨cs_I zc 14 jp, zc, rfl, ⟨hI, (Or.inr (Or.inr (Or.inr (Or.inr (Or.inr (Or.inr (Or.inr (Or.inr (Or.inr (Or.inr (Or.inr (Or.inr (Or.inl ⟨jp, rfl, hjp, h0t, rfl, rfl, rfl⟩)))))))))))))⟩, (by rw [ht]; exact hPk), va_K.moved hW.alike hKk, hDk⟩, (kw_same hPk ht).2⟩) (fun q h => absurd h List.not_mem_nil) dX10_about_75
      by_cases hw15 : wh = 4
      · subst hw15
        refine lv_tableIn (off := 63) (tgt := 76) hx hb dX10_about_13 (by decide) (by decide) rfl (by decide) ?_
        refine lv_aload_n hx hb dX10_about_76 rfl (lv_at hl 0 rfl) ?_
        refine va_get (D := (dC, dI)) (ci := 6) (v := .int (cs_I zc 15 jp)) (C := RX6) (T := TX6) (N := 8) hx hb hts hiX6 hown hK hP 2 rfl rfl 5 (by decide) (hts (.fieldLink RX10 225 "TributePitches$Pitch" "tons" "I") (by decide +kernel)) (fun _ h9 => h9) rfl dX10_about_77 ?_
        subst hQ
        exact W.iret (v := cs_I zc 15 jp) hx hb hr (fun t ht hW => ⟨⟨cs_I zc 15 jp, zc, rfl, ⟨hI, (Or.inr (Or.inr (Or.inr (Or.inr (Or.inr (Or.inr (Or.inr (Or.inr (Or.inr (Or.inr (Or.inr (Or.inr (Or.inr (Or.inl ⟨jp, rfl, hjp, h0t, rfl, rfl, rfl⟩))))))))))))))⟩, (by rw [ht]; exact hPk), va_K.moved hW.alike hKk, hDk⟩, (kw_same hPk ht).2⟩) (fun q h => absurd h List.not_mem_nil) dX10_about_80
      by_cases hw16 : wh = 5
      · subst hw16
        refine lv_tableIn (off := 68) (tgt := 81) hx hb dX10_about_13 (by decide) (by decide) rfl (by decide) ?_
        refine lv_aload_n hx hb dX10_about_81 rfl (lv_at hl 0 rfl) ?_
        refine va_get (D := (dC, dI)) (ci := 6) (v := .ref (cs_X zc 3 (cs_N zc 0 jp - 1))) (C := RX6) (T := TX6) (N := 8) hx hb hts hiX6 hown hK hP 2 rfl rfl 7 (by decide) (hts (.fieldLink RX10 159 "TributePitches$Pitch" "take" "LTributePitches$Take;") (by decide +kernel)) (fun _ h9 => h9) rfl dX10_about_82 ?_
        refine lv_ifnonnull (tgt := 93) hx hb dX10_about_85 (by decide) ?_
        refine lv_aload_n hx hb dX10_about_93 rfl (lv_at hl 0 rfl) ?_
        refine va_get (D := (dC, dI)) (ci := 6) (v := .ref (cs_X zc 3 (cs_N zc 0 jp - 1))) (C := RX6) (T := TX6) (N := 8) hx hb hts hiX6 hown hK hP 2 rfl rfl 7 (by decide) (hts (.fieldLink RX10 159 "TributePitches$Pitch" "take" "LTributePitches$Take;") (by decide +kernel)) (fun _ h9 => h9) rfl dX10_about_94 ?_
        refine va_get (D := (dC, dI)) (ci := 8) (v := .int (nI (cs_N zc 0 jp - 1))) (C := RX8) (T := TX8) (N := 12) hx hb hts hiX8 hown hK hP 3 rfl rfl 0 (by decide) (hts (.fieldLink RX10 228 "TributePitches$Take" "number" "I") (by decide +kernel)) (fun _ h9 => h9) rfl dX10_about_97 ?_
        subst hQ
        exact W.iret (v := nI (cs_N zc 0 jp - 1)) hx hb hr (fun t ht hW => ⟨⟨nI (cs_N zc 0 jp - 1), zc, rfl, ⟨hI, (Or.inr (Or.inr (Or.inr (Or.inr (Or.inr (Or.inr (Or.inr (Or.inr (Or.inr (Or.inr (Or.inr (Or.inr (Or.inr (Or.inr (Or.inl ⟨jp, rfl, hjp, h0t, rfl, rfl, rfl⟩)))))))))))))))⟩, (by rw [ht]; exact hPk), va_K.moved hW.alike hKk, hDk⟩, (kw_same hPk ht).2⟩) (fun q h => absurd h List.not_mem_nil) dX10_about_100
      by_cases hw17 : wh = 6
      · subst hw17
        refine lv_tableIn (off := 88) (tgt := 101) hx hb dX10_about_13 (by decide) (by decide) rfl (by decide) ?_
        refine lv_aload_n hx hb dX10_about_101 rfl (lv_at hl 0 rfl) ?_
        refine va_get (D := (dC, dI)) (ci := 6) (v := .int (cs_I zc 16 jp)) (C := RX6) (T := TX6) (N := 8) hx hb hts hiX6 hown hK hP 2 rfl rfl 6 (by decide) (hts (.fieldLink RX10 231 "TributePitches$Pitch" "takesHad" "I") (by decide +kernel)) (fun _ h9 => h9) rfl dX10_about_102 ?_
        subst hQ
        exact W.iret (v := cs_I zc 16 jp) hx hb hr (fun t ht hW => ⟨⟨cs_I zc 16 jp, zc, rfl, ⟨hI, (Or.inr (Or.inr (Or.inr (Or.inr (Or.inr (Or.inr (Or.inr (Or.inr (Or.inr (Or.inr (Or.inr (Or.inr (Or.inr (Or.inr (Or.inr (Or.inl ⟨jp, rfl, hjp, h0t, rfl, rfl, rfl⟩))))))))))))))))⟩, (by rw [ht]; exact hPk), va_K.moved hW.alike hKk, hDk⟩, (kw_same hPk ht).2⟩) (fun q h => absurd h List.not_mem_nil) dX10_about_105
      refine lv_tableOut (tgt := 106) hx hb dX10_about_13 (tb_out7 hw11 hw12 hw13 hw14 hw15 hw16 hw17) (by decide) ?_
      refine lv_bipush (v := (-2)) hx hb dX10_about_106 (by decide) ?_
      subst hQ
      exact W.iret (v := (-2)) hx hb hr (fun t ht hW => ⟨⟨(-2), zc, rfl, ⟨hI, (Or.inr (Or.inr (Or.inr (Or.inr (Or.inr (Or.inr (Or.inr (Or.inr (Or.inr (Or.inr (Or.inr (Or.inr (Or.inr (Or.inr (Or.inr (Or.inr ⟨jp, rfl, hjp, h0t, hw11, hw12, hw13, hw14, hw15, hw16, hw17, rfl, rfl⟩))))))))))))))))⟩, (by rw [ht]; exact hPk), va_K.moved hW.alike hKk, hDk⟩, (kw_same hPk ht).2⟩) (fun q h => absurd h List.not_mem_nil) dX10_about_108
