def pC_fault (zc : CS) (r : Int32) (u : CS) : Prop :=
  (r = (cs_i zc 2) ∧ u = zc)
set_option maxHeartbeats 4000000 in
set_option maxRecDepth 100000 in
theorem K_fault (l : Launch) (dC : Nat → ClassId) (dI : Nat → Nat → Nat) (cA : Nat → ClassId) (sz : Nat) (zc : CS) (hI : invC zc) : Met l yX10_fault wsX10_fault ({ frames := 1, cells := 0, slots := 0, locals := 30 }) (kw (dC, dI) (ctys cA) (cF cA zc) sz [.ref (cs_X zc 0 0)]) (kQi (dC, dI) (ctys cA) (cF cA zc) sz (cF cA) (fun r u => (invC u ∧ cs_X u 0 0 = cs_X zc 0 0) ∧ pC_fault zc r u)) 0 0 (kA (cF cA zc) sz) := by
  refine kw_met (cc := cX10_fault) (maxL := 1) (ret := (some .int)) (by decide) rfl (Nat.le_of_ble_eq_true rfl) ?_
  intro p e s m below meth c0 hx hb hr hml hown hlocks hnm hts hPk hKk hDk hN hsz ls hl
  subst hsz
  have hK : va_K (dC, dI) vwCl [(cA 0, .int), (cA 1, .object RX6), (cA 2, .object RX2), (cA 3, .object RX8), (cA 4, .object RX5), (cA 5, .object RX7)] s := hKk
  obtain ⟨⟨hn0, hn1, hn2, hn3, hn4, hn5⟩, hpi, hgk, htk, hpk, hsh⟩ := id hI
  have hl : lv_has ls 1 [(0, .ref (cs_X zc 0 0))] := hl
  have hiX10 : ∀ w ∈ wsX100, w ∈ wsX10_fault := by decide +kernel
  generalize hQ : MQ _ _ _ _ _ _ _ = Q
  have hks : kAll (cF cA zc) [(0, 0)] [cTP zc] := ⟨(kF_tp (cA := cA) (z := zc)), trivial⟩
  have hP : va_P (dC, dI) vwCl [cTP zc] s.heap := kAll_P hPk hks
  have hD : va_D (va_A [cTP zc] s.heap.size) [cTP zc] := (kAll_D hDk hks (by simp)).self
  have hA : ∀ q : Nat, s.heap.size ≤ q → va_A [cTP zc] s.heap.size q := fun q h => Or.inr h
  have hS : va_S (va_A [cTP zc] s.heap.size) s.heap s.heap [] := va_S.rf
  refine lv_aload_n hx hb dX10_fault_0 rfl (lv_at hl 0 rfl) ?_
  refine va_get (D := (dC, dI)) (ci := 10) (v := .int (cs_i zc 2)) (C := RX10) (T := TX10) (N := 13) hx hb hts hiX10 hown hK hP 0 rfl rfl 12 (by decide) (hts (.fieldLink RX10 56 "TributePitches" "latestFault" "I") (by decide +kernel)) (fun _ h9 => h9) rfl dX10_fault_1 ?_
  subst hQ
  exact W.iret (v := cs_i zc 2) hx hb hr (fun t ht hW => ⟨⟨cs_i zc 2, zc, rfl, ⟨⟨hI, rfl⟩, ⟨rfl, rfl⟩⟩, (by rw [ht]; exact hPk), va_K.moved hW.alike hKk, kDA_self hDk⟩, (kw_same hPk ht).2⟩) (fun q h => absurd h List.not_mem_nil) dX10_fault_4
