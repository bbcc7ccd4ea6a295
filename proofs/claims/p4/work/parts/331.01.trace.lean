def pC_trace (zc : CS) (r : Int32) (u : CS) : Prop :=
  (r = (cs_i zc 1) ∧ u = zc)
set_option maxHeartbeats 4000000 in
set_option maxRecDepth 100000 in
theorem K_trace (l : Launch) (dC : Nat → ClassId) (dI : Nat → Nat → Nat) (cA : Nat → ClassId) (sz : Nat) (zc : CS) (hI : invC zc) : Met l yX10_trace wsX10_trace ({ frames := 1, cells := 0, slots := 0, locals := 30 }) (kw (dC, dI) (ctys cA) (cF cA zc) sz [.ref (cs_X zc 0 0)]) (kQi (dC, dI) (ctys cA) (cF cA zc) sz (cF cA) (fun r u => (invC u ∧ cs_X u 0 0 = cs_X zc 0 0) ∧ pC_trace zc r u)) 0 0 (kA (cF cA zc) sz) := by
  refine kw_met (cc := cX10_trace) (maxL := 1) (ret := (some .int)) (by decide) rfl (Nat.le_of_ble_eq_true rfl) ?_
  intro p e s m below meth c0 hx hb hr hml hown hlocks hnm hts hPk hKk hDk hN hsz ls hl
  subst hsz
  have hK : va_K (dC, dI) vwCl [(cA 0, .int), (cA 1, .object RX6), (cA 2, .object RX2), (cA 3, .object RX8), (cA 4, .object RX5), (cA 5, .object RX7)] s := hKk
  obtain ⟨⟨hn0, hn1, hn2, hn3, hn4, hn5⟩, hpi, hgk, htk, hpk, hsh⟩ := id hI
  have hl : lv_has ls 1 [(0, .ref (cs_X zc 0 0))] := hl
  have hiX10 : ∀ w ∈ wsX100, w ∈ wsX10_trace := by decide +kernel
  have hiX9 : ∀ w ∈ wsX90, w ∈ wsX10_trace := by decide +kernel
  generalize hQ : MQ _ _ _ _ _ _ _ = Q
  have hks : kAll (cF cA zc) [(0, 0), (0, 11)] [cTP zc, cTr zc] := ⟨(kF_tp (cA := cA) (z := zc)), (kF_tr (cA := cA) (z := zc)), trivial⟩
  have hP : va_P (dC, dI) vwCl [cTP zc, cTr zc] s.heap := kAll_P hPk hks
  have hD : va_D (va_A [cTP zc, cTr zc] s.heap.size) [cTP zc, cTr zc] := (kAll_D hDk hks (by simp)).self
  have hA : ∀ q : Nat, s.heap.size ≤ q → va_A [cTP zc, cTr zc] s.heap.size q := fun q h => Or.inr h
  have hS : va_S (va_A [cTP zc, cTr zc] s.heap.size) s.heap s.heap [] := va_S.rf
  refine lv_aload_n hx hb dX10_trace_0 rfl (lv_at hl 0 rfl) ?_
  refine va_get (D := (dC, dI)) (ci := 10) (v := .ref (cs_X zc 0 11)) (C := RX10) (T := TX10) (N := 13) hx hb hts hiX10 hown hK hP 0 rfl rfl 6 (by decide) (hts (.fieldLink RX10 52 "TributePitches" "steps" "LTributePitches$Trace;") (by decide +kernel)) (fun _ h9 => h9) rfl dX10_trace_1 ?_
  refine va_get (D := (dC, dI)) (ci := 9) (v := .int (cs_i zc 1)) (C := RX9) (T := TX9) (N := 1) hx hb hts hiX9 hown hK hP 1 rfl rfl 0 (by decide) (hts (.fieldLink RX10 315 "TributePitches$Trace" "number" "I") (by decide +kernel)) (fun _ h9 => h9) rfl dX10_trace_4 ?_
  subst hQ
  exact W.iret (v := cs_i zc 1) hx hb hr (fun t ht hW => ⟨⟨cs_i zc 1, zc, rfl, ⟨⟨hI, rfl⟩, ⟨rfl, rfl⟩⟩, (by rw [ht]; exact hPk), va_K.moved hW.alike hKk, kDA_self hDk⟩, (kw_same hPk ht).2⟩) (fun q h => absurd h List.not_mem_nil) dX10_trace_7
