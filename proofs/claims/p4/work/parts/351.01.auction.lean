def pC_auction (zc : CS) (pp : Int32) (sv : Int32) (r : Int32) (u : CS) : Prop :=
  ((∀ j, j < cs_n zc 0 → pp ≠ nI j) ∧ r = ((-1)) ∧ u = zc) ∨
  (∃ jp : Nat, pp = nI jp ∧ (jp < cs_n zc 0) ∧ (cs_N zc 0 jp = 0) ∧ (cs_n zc 4 = 0) ∧ (1 ≤ sv ∧ sv ≤ 240) ∧ ∃ qa : Nat, r = (1) ∧ u = (va_up (va_up (cs_i zc) 3 sv) 4 0, va_up (va_up (cs_n zc) 4 (jp + 1)) 5 0, cs_I zc, cs_L zc, cs_N zc, cs_S zc, va_up (cs_X zc) 5 (va_up (cs_X zc 5) 0 qa))) ∨
  (∃ jp : Nat, pp = nI jp ∧ (jp < cs_n zc 0) ∧ (cs_N zc 0 jp = 0) ∧ (cs_n zc 4 = 0) ∧ (¬ (1 ≤ sv ∧ sv ≤ 240)) ∧ r = ((-2)) ∧ u = zc) ∨
  (∃ jp : Nat, pp = nI jp ∧ (jp < cs_n zc 0) ∧ (cs_N zc 0 jp = 0) ∧ (¬ cs_n zc 4 = 0) ∧ (1 ≤ sv ∧ sv ≤ 240) ∧ r = ((-3)) ∧ u = zc) ∨
  (∃ jp : Nat, pp = nI jp ∧ (jp < cs_n zc 0) ∧ (cs_N zc 0 jp = 0) ∧ (¬ cs_n zc 4 = 0) ∧ (¬ (1 ≤ sv ∧ sv ≤ 240)) ∧ r = ((-2)) ∧ u = zc) ∨
  (∃ jp : Nat, pp = nI jp ∧ (jp < cs_n zc 0) ∧ (¬ cs_N zc 0 jp = 0) ∧ (1 ≤ sv ∧ sv ≤ 240) ∧ r = ((-3)) ∧ u = zc) ∨
  (∃ jp : Nat, pp = nI jp ∧ (jp < cs_n zc 0) ∧ (¬ cs_N zc 0 jp = 0) ∧ (¬ (1 ≤ sv ∧ sv ≤ 240)) ∧ r = ((-2)) ∧ u = zc)
set_option maxHeartbeats 4000000 in
theorem lf_auction_1 (cA : Nat → ClassId) (zc : CS) (sv : Int32) (jp : Nat) (qa : Nat) (hjp : jp < cs_n zc 0) (h0t : cs_N zc 0 jp = 0) (hcur : cs_n zc 4 = 0) (c4 : 1 ≤ sv ∧ sv ≤ 240) (hI : invC zc) : invC (va_up (va_up (cs_i zc) 3 sv) 4 0, va_up (va_up (cs_n zc) 4 (jp + 1)) 5 0, cs_I zc, cs_L zc, cs_N zc, cs_S zc, va_up (cs_X zc) 5 (va_up (cs_X zc 5) 0 qa)) ∧ kAll (cF cA (va_up (va_up (cs_i zc) 3 sv) 4 0, va_up (va_up (cs_n zc) 4 (jp + 1)) 5 0, cs_I zc, cs_L zc, cs_N zc, cs_S zc, va_up (cs_X zc) 5 (va_up (cs_X zc 5) 0 qa))) [(0, 0), (0, 6), (1, jp), (5, 0)] [(cs_X zc 0 0, .inr (10, [.ref (cs_X zc 0 1), .ref (cs_X zc 0 6), .ref (cs_X zc 0 7), .ref (cs_X zc 0 8), .ref (cs_X zc 0 9), .ref (cs_X zc 0 10), .ref (cs_X zc 0 11), .int (nI (cs_n zc 0)), .int (nI (cs_n zc 1)), .int (nI (cs_n zc 2)), .int (nI (cs_n zc 3)), .ref qa, .int (cs_i zc 2)])), cR6 cA zc, cPiN zc jp, (qa, .inr (0, [.ref (cs_X zc 1 jp), .int sv, .int 0, .null]))] ∧ ∀ i j, (i, j) ∉ ([(0, 0), (0, 6), (1, jp), (5, 0)] : List (Nat × Nat)) → cF cA (va_up (va_up (cs_i zc) 3 sv) 4 0, va_up (va_up (cs_n zc) 4 (jp + 1)) 5 0, cs_I zc, cs_L zc, cs_N zc, cs_S zc, va_up (cs_X zc) 5 (va_up (cs_X zc 5) 0 qa)) i j = none ∨ ((i, j) ∉ ([(0, 0), (0, 6), (1, jp)] : List (Nat × Nat)) ∧ cF cA (va_up (va_up (cs_i zc) 3 sv) 4 0, va_up (va_up (cs_n zc) 4 (jp + 1)) 5 0, cs_I zc, cs_L zc, cs_N zc, cs_S zc, va_up (cs_X zc) 5 (va_up (cs_X zc 5) 0 qa)) i j = cF cA zc i j) := by
  obtain ⟨⟨hn0, hn1, hn2, hn3, hn4, hn5⟩, hpi, hgk, htk, hpk, hsh⟩ := id hI
  refine ⟨(by refine ⟨⟨hn0, hn1, hn2, hn3, (show jp + 1 ≤ cs_n zc 0 from hjp), Nat.zero_le _⟩, hpi, hgk, htk, hpk, hsh⟩), ⟨(by (rw [(kF_tpA (z := (va_up (va_up (cs_i zc) 3 sv) 4 0, va_up (va_up (cs_n zc) 4 (jp + 1)) 5 0, cs_I zc, cs_L zc, cs_N zc, cs_S zc, va_up (cs_X zc) 5 (va_up (cs_X zc 5) 0 qa))) (Nat.succ_ne_zero _))]) <;> simp [cTP, cTPN, cTPA, cLo, cA2, cA3, cA4, cA5, cR6, cR7, cR8, cR9, cR10, cTr, cPi, cPiN, cPiT, cGa, cGaK, cTa, cPa, cAu, cAuN, cAuB, cSh, cSc, cs_i, cs_n, cs_I, cs_L, cs_N, cs_S, cs_X, va_up, upd, opN]), (by (rw [(kF_r6 (cA := cA) (z := (va_up (va_up (cs_i zc) 3 sv) 4 0, va_up (va_up (cs_n zc) 4 (jp + 1)) 5 0, cs_I zc, cs_L zc, cs_N zc, cs_S zc, va_up (cs_X zc) 5 (va_up (cs_X zc 5) 0 qa))))]) <;> simp [cTP, cTPN, cTPA, cLo, cA2, cA3, cA4, cA5, cR6, cR7, cR8, cR9, cR10, cTr, cPi, cPiN, cPiT, cGa, cGaK, cTa, cPa, cAu, cAuN, cAuB, cSh, cSc, cs_i, cs_n, cs_I, cs_L, cs_N, cs_S, cs_X, va_up, upd, opN]), (by (rw [(kF_piN (z := (va_up (va_up (cs_i zc) 3 sv) 4 0, va_up (va_up (cs_n zc) 4 (jp + 1)) 5 0, cs_I zc, cs_L zc, cs_N zc, cs_S zc, va_up (cs_X zc) 5 (va_up (cs_X zc 5) 0 qa))) (j := jp) hjp h0t)]) <;> simp [cTP, cTPN, cTPA, cLo, cA2, cA3, cA4, cA5, cR6, cR7, cR8, cR9, cR10, cTr, cPi, cPiN, cPiT, cGa, cGaK, cTa, cPa, cAu, cAuN, cAuB, cSh, cSc, cs_i, cs_n, cs_I, cs_L, cs_N, cs_S, cs_X, va_up, upd, opN]), (by (rw [(kF_auN (z := (va_up (va_up (cs_i zc) 3 sv) 4 0, va_up (va_up (cs_n zc) 4 (jp + 1)) 5 0, cs_I zc, cs_L zc, cs_N zc, cs_S zc, va_up (cs_X zc) 5 (va_up (cs_X zc 5) 0 qa))) (Nat.succ_ne_zero _) rfl)]) <;> simp [cTP, cTPN, cTPA, cLo, cA2, cA3, cA4, cA5, cR6, cR7, cR8, cR9, cR10, cTr, cPi, cPiN, cPiT, cGa, cGaK, cTa, cPa, cAu, cAuN, cAuB, cSh, cSc, cs_i, cs_n, cs_I, cs_L, cs_N, cs_S, cs_X, va_up, upd, opN]), trivial⟩, ?_⟩
  intro i j hij
  have hij0 : (i, j) ∉ ([(0, 0), (0, 6), (1, jp)] : List (Nat × Nat)) := by
    intro q
    simp only [List.mem_cons, Prod.mk.injEq, List.not_mem_nil, or_false] at q
    rcases q with ⟨rfl, rfl⟩ | ⟨rfl, rfl⟩ | ⟨rfl, rfl⟩
    · exact hij (by simp)
    · exact hij (by simp)
    · exact hij (by simp)
  refine Or.inr ⟨hij0, ?_⟩
  rcases i with _ | _ | _ | _ | _ | _ | _ | _ | i
  · rcases j with _ | _ | _ | _ | _ | _ | _ | _ | _ | _ | _ | _ | j
    · exact absurd (by simp) hij
    · show some (cLo (va_up (va_up (cs_i zc) 3 sv) 4 0, va_up (va_up (cs_n zc) 4 (jp + 1)) 5 0, cs_I zc, cs_L zc, cs_N zc, cs_S zc, va_up (cs_X zc) 5 (va_up (cs_X zc 5) 0 qa))) = some (cLo zc); simp [cLo, cs_i, cs_n, cs_I, cs_L, cs_N, cs_S, cs_X, va_up]
    · show some (cA2 cA (va_up (va_up (cs_i zc) 3 sv) 4 0, va_up (va_up (cs_n zc) 4 (jp + 1)) 5 0, cs_I zc, cs_L zc, cs_N zc, cs_S zc, va_up (cs_X zc) 5 (va_up (cs_X zc 5) 0 qa))) = some (cA2 cA zc); simp [cA2, cs_i, cs_n, cs_I, cs_L, cs_N, cs_S, cs_X, va_up]
    · show some (cA3 cA (va_up (va_up (cs_i zc) 3 sv) 4 0, va_up (va_up (cs_n zc) 4 (jp + 1)) 5 0, cs_I zc, cs_L zc, cs_N zc, cs_S zc, va_up (cs_X zc) 5 (va_up (cs_X zc 5) 0 qa))) = some (cA3 cA zc); simp [cA3, cs_i, cs_n, cs_I, cs_L, cs_N, cs_S, cs_X, va_up]
    · show some (cA4 cA (va_up (va_up (cs_i zc) 3 sv) 4 0, va_up (va_up (cs_n zc) 4 (jp + 1)) 5 0, cs_I zc, cs_L zc, cs_N zc, cs_S zc, va_up (cs_X zc) 5 (va_up (cs_X zc 5) 0 qa))) = some (cA4 cA zc); simp [cA4, cs_i, cs_n, cs_I, cs_L, cs_N, cs_S, cs_X, va_up]
    · show some (cA5 cA (va_up (va_up (cs_i zc) 3 sv) 4 0, va_up (va_up (cs_n zc) 4 (jp + 1)) 5 0, cs_I zc, cs_L zc, cs_N zc, cs_S zc, va_up (cs_X zc) 5 (va_up (cs_X zc 5) 0 qa))) = some (cA5 cA zc); simp [cA5, cs_i, cs_n, cs_I, cs_L, cs_N, cs_S, cs_X, va_up]
    · exact absurd (by simp) hij
    · show some (cR7 cA (va_up (va_up (cs_i zc) 3 sv) 4 0, va_up (va_up (cs_n zc) 4 (jp + 1)) 5 0, cs_I zc, cs_L zc, cs_N zc, cs_S zc, va_up (cs_X zc) 5 (va_up (cs_X zc 5) 0 qa))) = some (cR7 cA zc); simp [cR7, cs_i, cs_n, cs_I, cs_L, cs_N, cs_S, cs_X, va_up]
    · show some (cR8 cA (va_up (va_up (cs_i zc) 3 sv) 4 0, va_up (va_up (cs_n zc) 4 (jp + 1)) 5 0, cs_I zc, cs_L zc, cs_N zc, cs_S zc, va_up (cs_X zc) 5 (va_up (cs_X zc 5) 0 qa))) = some (cR8 cA zc); simp [cR8, cs_i, cs_n, cs_I, cs_L, cs_N, cs_S, cs_X, va_up]
    · show some (cR9 cA (va_up (va_up (cs_i zc) 3 sv) 4 0, va_up (va_up (cs_n zc) 4 (jp + 1)) 5 0, cs_I zc, cs_L zc, cs_N zc, cs_S zc, va_up (cs_X zc) 5 (va_up (cs_X zc 5) 0 qa))) = some (cR9 cA zc); simp [cR9, cs_i, cs_n, cs_I, cs_L, cs_N, cs_S, cs_X, va_up]
    · show some (cR10 cA (va_up (va_up (cs_i zc) 3 sv) 4 0, va_up (va_up (cs_n zc) 4 (jp + 1)) 5 0, cs_I zc, cs_L zc, cs_N zc, cs_S zc, va_up (cs_X zc) 5 (va_up (cs_X zc 5) 0 qa))) = some (cR10 cA zc); simp [cR10, cs_i, cs_n, cs_I, cs_L, cs_N, cs_S, cs_X, va_up]
    · show some (cTr (va_up (va_up (cs_i zc) 3 sv) 4 0, va_up (va_up (cs_n zc) 4 (jp + 1)) 5 0, cs_I zc, cs_L zc, cs_N zc, cs_S zc, va_up (cs_X zc) 5 (va_up (cs_X zc 5) 0 qa))) = some (cTr zc); simp [cTr, cs_i, cs_n, cs_I, cs_L, cs_N, cs_S, cs_X, va_up]
    · show (none : Option (Nat × va_E)) = none; rfl
  · show (if j < cs_n (va_up (va_up (cs_i zc) 3 sv) 4 0, va_up (va_up (cs_n zc) 4 (jp + 1)) 5 0, cs_I zc, cs_L zc, cs_N zc, cs_S zc, va_up (cs_X zc) 5 (va_up (cs_X zc 5) 0 qa)) 0 then some (cPi (va_up (va_up (cs_i zc) 3 sv) 4 0, va_up (va_up (cs_n zc) 4 (jp + 1)) 5 0, cs_I zc, cs_L zc, cs_N zc, cs_S zc, va_up (cs_X zc) 5 (va_up (cs_X zc 5) 0 qa)) j) else none) = if j < cs_n zc 0 then some (cPi zc j) else none
    simp [cPi, cs_i, cs_n, cs_I, cs_L, cs_N, cs_S, cs_X, va_up]
  · show (if j < cs_n (va_up (va_up (cs_i zc) 3 sv) 4 0, va_up (va_up (cs_n zc) 4 (jp + 1)) 5 0, cs_I zc, cs_L zc, cs_N zc, cs_S zc, va_up (cs_X zc) 5 (va_up (cs_X zc 5) 0 qa)) 1 then some (cGa (va_up (va_up (cs_i zc) 3 sv) 4 0, va_up (va_up (cs_n zc) 4 (jp + 1)) 5 0, cs_I zc, cs_L zc, cs_N zc, cs_S zc, va_up (cs_X zc) 5 (va_up (cs_X zc 5) 0 qa)) j) else none) = if j < cs_n zc 1 then some (cGa zc j) else none
    simp [cGa, cs_i, cs_n, cs_I, cs_L, cs_N, cs_S, cs_X, va_up]
  · show (if j < cs_n (va_up (va_up (cs_i zc) 3 sv) 4 0, va_up (va_up (cs_n zc) 4 (jp + 1)) 5 0, cs_I zc, cs_L zc, cs_N zc, cs_S zc, va_up (cs_X zc) 5 (va_up (cs_X zc 5) 0 qa)) 2 then some (cTa (va_up (va_up (cs_i zc) 3 sv) 4 0, va_up (va_up (cs_n zc) 4 (jp + 1)) 5 0, cs_I zc, cs_L zc, cs_N zc, cs_S zc, va_up (cs_X zc) 5 (va_up (cs_X zc 5) 0 qa)) j) else none) = if j < cs_n zc 2 then some (cTa zc j) else none
    simp [cTa, cs_i, cs_n, cs_I, cs_L, cs_N, cs_S, cs_X, va_up]
  · show (if j < cs_n (va_up (va_up (cs_i zc) 3 sv) 4 0, va_up (va_up (cs_n zc) 4 (jp + 1)) 5 0, cs_I zc, cs_L zc, cs_N zc, cs_S zc, va_up (cs_X zc) 5 (va_up (cs_X zc 5) 0 qa)) 3 then some (cPa (va_up (va_up (cs_i zc) 3 sv) 4 0, va_up (va_up (cs_n zc) 4 (jp + 1)) 5 0, cs_I zc, cs_L zc, cs_N zc, cs_S zc, va_up (cs_X zc) 5 (va_up (cs_X zc 5) 0 qa)) j) else none) = if j < cs_n zc 3 then some (cPa zc j) else none
    simp [cPa, cs_i, cs_n, cs_I, cs_L, cs_N, cs_S, cs_X, va_up]
  · have hne0 : j ≠ 0 := fun q => hij (by rw [q]; simp)
    show (if j = 0 ∧ ¬ cs_n (va_up (va_up (cs_i zc) 3 sv) 4 0, va_up (va_up (cs_n zc) 4 (jp + 1)) 5 0, cs_I zc, cs_L zc, cs_N zc, cs_S zc, va_up (cs_X zc) 5 (va_up (cs_X zc 5) 0 qa)) 4 = 0 then some (cAu (va_up (va_up (cs_i zc) 3 sv) 4 0, va_up (va_up (cs_n zc) 4 (jp + 1)) 5 0, cs_I zc, cs_L zc, cs_N zc, cs_S zc, va_up (cs_X zc) 5 (va_up (cs_X zc 5) 0 qa))) else none) = (if j = 0 ∧ ¬ cs_n zc 4 = 0 then some (cAu zc) else none)
    rw [if_neg (fun q => hne0 q.1), if_neg (fun q => hne0 q.1)]
  · show (if j < 4 then some (cSh (va_up (va_up (cs_i zc) 3 sv) 4 0, va_up (va_up (cs_n zc) 4 (jp + 1)) 5 0, cs_I zc, cs_L zc, cs_N zc, cs_S zc, va_up (cs_X zc) 5 (va_up (cs_X zc 5) 0 qa)) j) else none) = if j < 4 then some (cSh zc j) else none
    simp [cSh, cs_i, cs_n, cs_I, cs_L, cs_N, cs_S, cs_X, va_up]
  · show (if j < 4 then some (cSc cA (va_up (va_up (cs_i zc) 3 sv) 4 0, va_up (va_up (cs_n zc) 4 (jp + 1)) 5 0, cs_I zc, cs_L zc, cs_N zc, cs_S zc, va_up (cs_X zc) 5 (va_up (cs_X zc 5) 0 qa)) j) else none) = if j < 4 then some (cSc cA zc j) else none
    simp [cSc, cs_i, cs_n, cs_I, cs_L, cs_N, cs_S, cs_X, va_up]
  · show (none : Option (Nat × va_E)) = none; rfl
set_option maxHeartbeats 4000000 in
set_option maxRecDepth 100000 in
theorem K_auction (l : Launch) (dC : Nat → ClassId) (dI : Nat → Nat → Nat) (cA : Nat → ClassId) (sz : Nat) (zc : CS) (pp : Int32) (sv : Int32) (hI : invC zc) : Met l yX10_auction wsX10_auction ({ frames := 2, cells := 1, slots := 4, locals := 60 }) (kw (dC, dI) (ctys cA) (cF cA zc) sz [.ref (cs_X zc 0 0), .int pp, .int sv]) (kQi (dC, dI) (ctys cA) (cF cA zc) sz (cF cA) (fun r u => (invC u ∧ cs_X u 0 0 = cs_X zc 0 0) ∧ pC_auction zc pp sv r u)) 1 4 (kA (cF cA zc) sz) := by
  refine kw_met (cc := cX10_auction) (maxL := 4) (ret := (some .int)) (by decide) rfl (Nat.le_of_ble_eq_true rfl) ?_
  intro p e s m below meth c0 hx hb hr hml hown hlocks hnm hts hPk hKk hDk hN hsz ls hl
  subst hsz
  have hK : va_K (dC, dI) vwCl [(cA 0, .int), (cA 1, .object RX6), (cA 2, .object RX2), (cA 3, .object RX8), (cA 4, .object RX5), (cA 5, .object RX7)] s := hKk
  obtain ⟨⟨hn0, hn1, hn2, hn3, hn4, hn5⟩, hpi, hgk, htk, hpk, hsh⟩ := id hI
  have hl : lv_has ls 4 [(0, .ref (cs_X zc 0 0)), (1, .int pp), (2, .int sv)] := hl
  have hiX0 : ∀ w ∈ wsX00, w ∈ wsX10_auction := by decide +kernel
  have hiX10 : ∀ w ∈ wsX100, w ∈ wsX10_auction := by decide +kernel
  have hiX6 : ∀ w ∈ wsX60, w ∈ wsX10_auction := by decide +kernel
  generalize hQ : MQ _ _ _ _ _ _ _ = Q
  rcases ixd pp (cs_n zc 0) with hnojp | ⟨jp, hjp, rfl⟩
  · skip
    have hks : kAll (cF cA zc) [(0, 0), (0, 6)] [cTP zc, cR6 cA zc] := ⟨(kF_tp (cA := cA) (z := zc)), (kF_r6 (cA := cA) (z := zc)), trivial⟩
    have hP : va_P (dC, dI) vwCl [cTP zc, cR6 cA zc] s.heap := kAll_P hPk hks
    have hD : va_D (va_A [cTP zc, cR6 cA zc] s.heap.size) [cTP zc, cR6 cA zc] := (kAll_D hDk hks (by simp)).self
    have hA : ∀ q : Nat, s.heap.size ≤ q → va_A [cTP zc, cR6 cA zc] s.heap.size q := fun q h => Or.inr h
    have hS : va_S (va_A [cTP zc, cR6 cA zc] s.heap.size) s.heap s.heap [] := va_S.rf
    refine lv_aload_n hx hb dX10_auction_0 rfl (lv_at hl 0 rfl) ?_
    refine lv_iload_n hx hb dX10_auction_1 rfl (lv_at hl 1 rfl) ?_
    have hPc := hP.sub (ws' := [cTP zc]) [0] rfl
    have hDc := hD.sub (ws' := [cTP zc]) [0] (by decide) rfl
    have hKc := hK.sub (tys' := []) [] rfl
    refine va_csq (va_Run.run (va_runV (As := [.int pp]) (rest := []) ⟨hx, hb, hml, hown, hts⟩ (s_pitchAt_no l dC dI  _ (cs_X zc 0 0) (.ref (cs_X zc 0 1)) (.ref (cs_X zc 0 6)) (.ref (cs_X zc 0 7)) (.ref (cs_X zc 0 8)) (.ref (cs_X zc 0 9)) (.ref (cs_X zc 0 10)) (.ref (cs_X zc 0 11)) (.int (nI (cs_n zc 1))) (.int (nI (cs_n zc 2))) (.int (nI (cs_n zc 3))) (va_rf (opN (cs_n zc 4) (fun _ => cs_X zc 5 0))) (.int (cs_i zc 2)) pp (cs_n zc 0) (by omega) hnojp) (cwV 1 hts gX10_auction_X10_pitchAt rfl rfl rfl (by decide +kernel) ⟨Nat.le_of_ble_eq_true rfl, Nat.le_of_ble_eq_true rfl⟩) (pw_preV (va_recv hKc hPc (ci := 10) (q0 := 0) rfl rfl) hPc hKc hDc hN) rfl rfl hl.1 rfl (lv_room (Nat.le_of_ble_eq_true rfl)) dX10_auction_2 ⟨Nat.le_of_ble_eq_true rfl, Nat.le_of_ble_eq_true rfl⟩)) (fun r1 hr1 => ?_)
    have hr1 : r1 = none := hr1
    subst hr1
    refine W.eq (g2 := F0 m 5 ls [.null]) rfl ?_
    refine lv_astore_nN (lv' := [(3, .null), (0, .ref (cs_X zc 0 0)), (1, .int pp), (2, .int sv)]) hx hb dX10_auction_5 rfl hl (by decide) rfl (fun ls hl => ?_)
    refine lv_aload_nN hx hb dX10_auction_6 rfl (lv_at hl 0 rfl) ?_
    refine lv_ifnonnullN hx hb dX10_auction_7 ?_
    refine lv_iconst (v := (-1)) hx hb dX10_auction_10 (by decide) ?_
    subst hQ
    refine W.widen (k := 1) (n := 4) (Nat.le_of_ble_eq_true rfl) (Nat.le_of_ble_eq_true rfl) ?_
    exact W.iret (v := (-1)) hx hb hr (fun t ht hW => ⟨⟨(-1), zc, rfl, ⟨⟨hI, rfl⟩, (Or.inl ⟨hnojp, rfl, rfl⟩)⟩, (by rw [ht]; exact hPk), va_K.moved hW.alike hKk, kDA_self hDk⟩, (kw_same hPk ht).2⟩) (fun q h => absurd h List.not_mem_nil) dX10_auction_11
  · skip
    by_cases h0t : cs_N zc 0 jp = 0
    · skip
      by_cases hcur : cs_n zc 4 = 0
      · skip
        have hks : kAll (cF cA zc) [(0, 0), (0, 6), (1, jp)] [cTPN zc, cR6 cA zc, cPiN zc jp] := ⟨(kF_tpN (z := zc) hcur), (kF_r6 (cA := cA) (z := zc)), (kF_piN (z := zc) (j := jp) hjp h0t), trivial⟩
        have hP : va_P (dC, dI) vwCl [cTPN zc, cR6 cA zc, cPiN zc jp] s.heap := kAll_P hPk hks
        have hD : va_D (va_A [cTPN zc, cR6 cA zc, cPiN zc jp] s.heap.size) [cTPN zc, cR6 cA zc, cPiN zc jp] := (kAll_D hDk hks (by simp)).self
        have hA : ∀ q : Nat, s.heap.size ≤ q → va_A [cTPN zc, cR6 cA zc, cPiN zc jp] s.heap.size q := fun q h => Or.inr h
        have hS : va_S (va_A [cTPN zc, cR6 cA zc, cPiN zc jp] s.heap.size) s.heap s.heap [] := va_S.rf
        refine lv_aload_n hx hb dX10_auction_0 rfl (lv_at hl 0 rfl) ?_
        refine lv_iload_n hx hb dX10_auction_1 rfl (lv_at hl 1 rfl) ?_
        have hPc := hP.sub (ws' := [cTPN zc, cR6 cA zc]) [0, 1] rfl
        have hDc := hD.sub (ws' := [cTPN zc, cR6 cA zc]) [0, 1] (by decide) rfl
        have hKc := hK.sub (tys' := [(cA 1, .object RX6)]) [1] rfl
        refine va_csq (va_Run.run (va_runV (As := [.int (nI jp)]) (rest := []) ⟨hx, hb, hml, hown, hts⟩ (s_pitchAt_yes l dC dI (cA 1) _ (cs_X zc 0 0) (.ref (cs_X zc 0 1)) (.ref (cs_X zc 0 7)) (.ref (cs_X zc 0 8)) (.ref (cs_X zc 0 9)) (.ref (cs_X zc 0 10)) (.ref (cs_X zc 0 11)) (.int (nI (cs_n zc 1))) (.int (nI (cs_n zc 2))) (.int (nI (cs_n zc 3))) .null (.int (cs_i zc 2)) (cs_X zc 0 6) jp (cs_n zc 0) (cs_X zc 1 jp) (rfN (cs_n zc 0) (cs_X zc 1)) hjp (by omega) (rfN_at hjp)) (cwV 1 hts gX10_auction_X10_pitchAt rfl rfl rfl (by decide +kernel) ⟨Nat.le_of_ble_eq_true rfl, Nat.le_of_ble_eq_true rfl⟩) (pw_preV (va_recv hKc hPc (ci := 10) (q0 := 0) rfl rfl) hPc hKc hDc hN) rfl rfl hl.1 rfl (lv_room (Nat.le_of_ble_eq_true rfl)) dX10_auction_2 ⟨Nat.le_of_ble_eq_true rfl, Nat.le_of_ble_eq_true rfl⟩)) (fun r2 hr2 => ?_)
        have hr2 : r2 = some (cs_X zc 1 jp) := hr2
        subst hr2
        refine W.eq (g2 := F0 m 5 ls [.ref (cs_X zc 1 jp)]) rfl ?_
        refine lv_astore_n (lv' := [(3, .ref (cs_X zc 1 jp)), (0, .ref (cs_X zc 0 0)), (1, .int (nI jp)), (2, .int sv)]) hx hb dX10_auction_5 rfl hl (by decide) rfl (fun ls hl => ?_)
        refine lv_aload_n hx hb dX10_auction_6 rfl (lv_at hl 0 rfl) ?_
        refine lv_ifnonnull (tgt := 12) hx hb dX10_auction_7 (by decide) ?_
        refine lv_iload_n hx hb dX10_auction_12 rfl (lv_at hl 3 rfl) ?_
        refine lv_iconst (v := 1) hx hb dX10_auction_13 (by decide) ?_
        refine lv_sipush (v := 240) hx hb dX10_auction_14 (by decide) ?_
        refine vp_callSi (va_Run.run (va_runS (As := [.int sv, .int 1, .int 240]) (rest := []) ⟨hx, hb, hml, hown, hts⟩ (c_X10_isWithin l sv 1 240 ) (va_cwS 3 hts gX10_auction_X10_isWithin rfl rfl rfl (by decide +kernel) ⟨Nat.le_of_ble_eq_true rfl, Nat.le_of_ble_eq_true rfl⟩) (p0_preS hN) rfl rfl hl.1 rfl (lv_room (Nat.le_of_ble_eq_true rfl)) dX10_auction_17 ⟨Nat.le_of_ble_eq_true rfl, Nat.le_of_ble_eq_true rfl⟩)) (fun r3 hr3 => ?_)
        have hr3 : r3 = if 1 ≤ sv ∧ sv ≤ 240 then 1 else 0 := hr3
        refine lv_if_ne (tgt := 26) hx hb dX10_auction_20 (by decide) (fun c4 => ?_) (fun c4 => ?_)
        · skip
          have c4 := (fa_bool_prop hr3).2.mp c4
          refine lv_aload_n hx hb dX10_auction_26 rfl (lv_at hl 0 rfl) ?_
          refine va_get (D := (dC, dI)) (ci := 6) (v := .null) (C := RX6) (T := TX6) (N := 8) hx hb hts hiX6 hown hK hP 2 rfl rfl 7 (by decide) (hts (.fieldLink RX10 159 "TributePitches$Pitch" "take" "LTributePitches$Take;") (by decide +kernel)) (fun _ h9 => h9) rfl dX10_auction_27 ?_
          refine lv_ifnonnullN hx hb dX10_auction_30 ?_
          refine lv_aload_n hx hb dX10_auction_33 rfl (lv_at hl 1 rfl) ?_
          refine va_get (D := (dC, dI)) (ci := 10) (v := .null) (C := RX10) (T := TX10) (N := 13) hx hb hts hiX10 hown hK hP 0 rfl rfl 11 (by decide) (hts (.fieldLink RX10 163 "TributePitches" "current" "LTributePitches$Auction;") (by decide +kernel)) (fun _ h9 => h9) rfl dX10_auction_34 ?_
          refine lv_ifnullN (tgt := 43) hx hb dX10_auction_37 (by decide) ?_
          refine lv_aload_n hx hb dX10_auction_43 rfl (lv_at hl 1 rfl) ?_
          refine va_new (ci := 0) (fs := [.null, .int 0, .int 0, .null]) (C := RX0) (T := TX0) (N := 4) hx hb hts hiX0 tyX0 tyX0_ok hown (hts (.classLink RX10 167 RX0) (by decide +kernel)) (hts (.instantiable RX0 4) (by decide +kernel)) (hts (.initialized RX0) (by decide +kernel)) hK hP hD hS hA rfl (fun j hj => by rcases (show j = 0 ∨ j = 1 ∨ j = 2 ∨ j = 3 by omega) with rfl | rfl | rfl | rfl <;> rfl) (Nat.le_of_ble_eq_true rfl) (Nat.le_of_ble_eq_true rfl) dX10_auction_44 (fun qa H hP hD hS => ?_)
          have hP : va_P (dC, dI) vwCl [cTPN zc, cR6 cA zc, cPiN zc jp, (qa, .inr (0, [.null, .int 0, .int 0, .null]))] H := hP
          have hD : va_D _ [cTPN zc, cR6 cA zc, cPiN zc jp, (qa, .inr (0, [.null, .int 0, .int 0, .null]))] := hD
          refine lv_dup hx hb dX10_auction_47 rfl ?_
          refine lv_aload_n hx hb dX10_auction_48 rfl (lv_at hl 0 rfl) ?_
          refine lv_iload_n hx hb dX10_auction_49 rfl (lv_at hl 3 rfl) ?_
          have hPc := hP.sub (ws' := [(qa, .inr (0, [.null, .int 0, .int 0, .null]))]) [3] rfl
          have hDc := hD.sub (ws' := [(qa, .inr (0, [.null, .int 0, .int 0, .null]))]) [3] (by decide) rfl
          have hKc := hK.sub (tys' := []) [] rfl
          have hFc := va_free (wc := [(qa, .inr (0, [.null, .int 0, .int 0, .null]))]) hD hS hA [3] rfl
          refine va_callv (va_runI (As := [.ref (cs_X zc 1 jp), .int sv]) (rest := [.ref qa, .ref (cs_X zc 0 0)]) ⟨hx, hb, hml, hown, hts⟩ (s_X0_init l dC dI  _ qa (cs_X zc 1 jp) sv ) (cwI 2 hts gX10_auction_X0_init rfl rfl rfl (hts (.initialized RX0) (by decide +kernel)) (hts (.methodLink RX10 169 yX0_init) (by decide +kernel)) (hts (.instanceMethod yX0_init) (by decide +kernel)) rfl (by decide +kernel) ⟨Nat.le_of_ble_eq_true rfl, Nat.le_of_ble_eq_true rfl⟩) (pw_preS hPc hKc hDc hN) rfl rfl hl.1 rfl (lv_room (Nat.le_of_ble_eq_true rfl)) dX10_auction_50 ⟨Nat.le_of_ble_eq_true rfl, Nat.le_of_ble_eq_true rfl⟩) hS (fun q _ h => hFc q h) hFc (fun u t H1 locs ht hvm hw hB hz1 hk1 hS => ?_)
          obtain ⟨hP1, hK1, hD1⟩ := hB
          rw [ht] at hP1
          obtain ⟨hP, hD⟩ := va_join (wr := [cTPN zc, cR6 cA zc, cPiN zc jp]) (w1 := [(qa, .inr (0, [.ref (cs_X zc 1 jp), .int sv, .int 0, .null]))]) hP hD [3] [0, 1, 2] rfl rfl (by decide) (by decide) hk1 hFc hP1 hD1
          generalize H1 = H at hP hS ⊢
          have hP : va_P (dC, dI) vwCl [cTPN zc, cR6 cA zc, cPiN zc jp, (qa, .inr (0, [.ref (cs_X zc 1 jp), .int sv, .int 0, .null]))] H := hP
          have hD : va_D _ [cTPN zc, cR6 cA zc, cPiN zc jp, (qa, .inr (0, [.ref (cs_X zc 1 jp), .int sv, .int 0, .null]))] := hD
          refine va_put (D := (dC, dI)) (ci := 10) (v := .ref qa) (ty := .object "TributePitches$Auction") (C := RX10) (T := TX10) (N := 13) hx hb hts hiX10 tyX10 tyX10_ok nmX10 hown hK hP hD hS 0 rfl rfl 11 (by decide) (hts (.fieldLink RX10 163 "TributePitches" "current" "LTributePitches$Auction;") (by decide +kernel)) (fun _ h9 => h9) rfl (by decide +kernel) rfl rfl (Nat.le_of_ble_eq_true rfl) dX10_auction_53 (fun H locs hP hD hS => ?_)
          have hP : va_P (dC, dI) vwCl [(cs_X zc 0 0, .inr (10, [.ref (cs_X zc 0 1), .ref (cs_X zc 0 6), .ref (cs_X zc 0 7), .ref (cs_X zc 0 8), .ref (cs_X zc 0 9), .ref (cs_X zc 0 10), .ref (cs_X zc 0 11), .int (nI (cs_n zc 0)), .int (nI (cs_n zc 1)), .int (nI (cs_n zc 2)), .int (nI (cs_n zc 3)), .ref qa, .int (cs_i zc 2)])), cR6 cA zc, cPiN zc jp, (qa, .inr (0, [.ref (cs_X zc 1 jp), .int sv, .int 0, .null]))] H := hP
          have hD : va_D _ [(cs_X zc 0 0, .inr (10, [.ref (cs_X zc 0 1), .ref (cs_X zc 0 6), .ref (cs_X zc 0 7), .ref (cs_X zc 0 8), .ref (cs_X zc 0 9), .ref (cs_X zc 0 10), .ref (cs_X zc 0 11), .int (nI (cs_n zc 0)), .int (nI (cs_n zc 1)), .int (nI (cs_n zc 2)), .int (nI (cs_n zc 3)), .ref qa, .int (cs_i zc 2)])), cR6 cA zc, cPiN zc jp, (qa, .inr (0, [.ref (cs_X zc 1 jp), .int sv, .int 0, .null]))] := hD
          refine lv_iconst (v := 1) hx hb dX10_auction_56 (by decide) ?_
          subst hQ
          have hP9 : va_P (dC, dI) vwCl [(cs_X zc 0 0, .inr (10, [.ref (cs_X zc 0 1), .ref (cs_X zc 0 6), .ref (cs_X zc 0 7), .ref (cs_X zc 0 8), .ref (cs_X zc 0 9), .ref (cs_X zc 0 10), .ref (cs_X zc 0 11), .int (nI (cs_n zc 0)), .int (nI (cs_n zc 1)), .int (nI (cs_n zc 2)), .int (nI (cs_n zc 3)), .ref qa, .int (cs_i zc 2)])), cR6 cA zc, cPiN zc jp, (qa, .inr (0, [.ref (cs_X zc 1 jp), .int sv, .int 0, .null]))] H := hP.sub [0, 1, 2, 3] rfl
          have hD9 : va_D (va_A [cTPN zc, cR6 cA zc, cPiN zc jp] s.heap.size) [(cs_X zc 0 0, .inr (10, [.ref (cs_X zc 0 1), .ref (cs_X zc 0 6), .ref (cs_X zc 0 7), .ref (cs_X zc 0 8), .ref (cs_X zc 0 9), .ref (cs_X zc 0 10), .ref (cs_X zc 0 11), .int (nI (cs_n zc 0)), .int (nI (cs_n zc 1)), .int (nI (cs_n zc 2)), .int (nI (cs_n zc 3)), .ref qa, .int (cs_i zc 2)])), cR6 cA zc, cPiN zc jp, (qa, .inr (0, [.ref (cs_X zc 1 jp), .int sv, .int 0, .null]))] := hD.sub [0, 1, 2, 3] (by decide) rfl
          have hlf := lf_auction_1 cA zc sv jp qa hjp h0t hcur c4 hI
          exact W.iret (v := 1) hx hb hr (fun t ht hW => have hJ := kjoin hPk hDk hks rfl (hS.F ht) (by rw [ht]; exact hP9) hD9 hlf.2.1 hlf.2.2; ⟨⟨1, (va_up (va_up (cs_i zc) 3 sv) 4 0, va_up (va_up (cs_n zc) 4 (jp + 1)) 5 0, cs_I zc, cs_L zc, cs_N zc, cs_S zc, va_up (cs_X zc) 5 (va_up (cs_X zc 5) 0 qa)), rfl, ⟨⟨hlf.1, rfl⟩, (Or.inr (Or.inl ⟨jp, rfl, hjp, h0t, hcur, c4, qa, rfl, rfl⟩))⟩, hJ.1, va_K.moved hW.alike hKk, hJ.2.1⟩, hJ.2.2⟩) (fun q h => kAll_A hks _ (hS.2.2 q h)) dX10_auction_57
        · skip
          have c4 := (fa_bool_prop hr3).1.mp c4
          refine lv_bipush (v := (-2)) hx hb dX10_auction_23 (by decide) ?_
          subst hQ
          refine W.widen (k := 1) (n := 4) (Nat.le_of_ble_eq_true rfl) (Nat.le_of_ble_eq_true rfl) ?_
          exact W.iret (v := (-2)) hx hb hr (fun t ht hW => ⟨⟨(-2), zc, rfl, ⟨⟨hI, rfl⟩, (Or.inr (Or.inr (Or.inl ⟨jp, rfl, hjp, h0t, hcur, c4, rfl, rfl⟩)))⟩, (by rw [ht]; exact hPk), va_K.moved hW.alike hKk, kDA_self hDk⟩, (kw_same hPk ht).2⟩) (fun q h => absurd h List.not_mem_nil) dX10_auction_25
      · skip
        have hks : kAll (cF cA zc) [(0, 0), (0, 6), (1, jp)] [cTPA zc, cR6 cA zc, cPiN zc jp] := ⟨(kF_tpA (z := zc) hcur), (kF_r6 (cA := cA) (z := zc)), (kF_piN (z := zc) (j := jp) hjp h0t), trivial⟩
        have hP : va_P (dC, dI) vwCl [cTPA zc, cR6 cA zc, cPiN zc jp] s.heap := kAll_P hPk hks
        have hD : va_D (va_A [cTPA zc, cR6 cA zc, cPiN zc jp] s.heap.size) [cTPA zc, cR6 cA zc, cPiN zc jp] := (kAll_D hDk hks (by simp)).self
        have hA : ∀ q : Nat, s.heap.size ≤ q → va_A [cTPA zc, cR6 cA zc, cPiN zc jp] s.heap.size q := fun q h => Or.inr h
        have hS : va_S (va_A [cTPA zc, cR6 cA zc, cPiN zc jp] s.heap.size) s.heap s.heap [] := va_S.rf
        refine lv_aload_n hx hb dX10_auction_0 rfl (lv_at hl 0 rfl) ?_
        refine lv_iload_n hx hb dX10_auction_1 rfl (lv_at hl 1 rfl) ?_
        have hPc := hP.sub (ws' := [cTPA zc, cR6 cA zc]) [0, 1] rfl
        have hDc := hD.sub (ws' := [cTPA zc, cR6 cA zc]) [0, 1] (by decide) rfl
        have hKc := hK.sub (tys' := [(cA 1, .object RX6)]) [1] rfl
        refine va_csq (va_Run.run (va_runV (As := [.int (nI jp)]) (rest := []) ⟨hx, hb, hml, hown, hts⟩ (s_pitchAt_yes l dC dI (cA 1) _ (cs_X zc 0 0) (.ref (cs_X zc 0 1)) (.ref (cs_X zc 0 7)) (.ref (cs_X zc 0 8)) (.ref (cs_X zc 0 9)) (.ref (cs_X zc 0 10)) (.ref (cs_X zc 0 11)) (.int (nI (cs_n zc 1))) (.int (nI (cs_n zc 2))) (.int (nI (cs_n zc 3))) (.ref (cs_X zc 5 0)) (.int (cs_i zc 2)) (cs_X zc 0 6) jp (cs_n zc 0) (cs_X zc 1 jp) (rfN (cs_n zc 0) (cs_X zc 1)) hjp (by omega) (rfN_at hjp)) (cwV 1 hts gX10_auction_X10_pitchAt rfl rfl rfl (by decide +kernel) ⟨Nat.le_of_ble_eq_true rfl, Nat.le_of_ble_eq_true rfl⟩) (pw_preV (va_recv hKc hPc (ci := 10) (q0 := 0) rfl rfl) hPc hKc hDc hN) rfl rfl hl.1 rfl (lv_room (Nat.le_of_ble_eq_true rfl)) dX10_auction_2 ⟨Nat.le_of_ble_eq_true rfl, Nat.le_of_ble_eq_true rfl⟩)) (fun r6 hr6 => ?_)
        have hr6 : r6 = some (cs_X zc 1 jp) := hr6
        subst hr6
        refine W.eq (g2 := F0 m 5 ls [.ref (cs_X zc 1 jp)]) rfl ?_
        refine lv_astore_n (lv' := [(3, .ref (cs_X zc 1 jp)), (0, .ref (cs_X zc 0 0)), (1, .int (nI jp)), (2, .int sv)]) hx hb dX10_auction_5 rfl hl (by decide) rfl (fun ls hl => ?_)
        refine lv_aload_n hx hb dX10_auction_6 rfl (lv_at hl 0 rfl) ?_
        refine lv_ifnonnull (tgt := 12) hx hb dX10_auction_7 (by decide) ?_
        refine lv_iload_n hx hb dX10_auction_12 rfl (lv_at hl 3 rfl) ?_
        refine lv_iconst (v := 1) hx hb dX10_auction_13 (by decide) ?_
        refine lv_sipush (v := 240) hx hb dX10_auction_14 (by decide) ?_
        refine vp_callSi (va_Run.run (va_runS (As := [.int sv, .int 1, .int 240]) (rest := []) ⟨hx, hb, hml, hown, hts⟩ (c_X10_isWithin l sv 1 240 ) (va_cwS 3 hts gX10_auction_X10_isWithin rfl rfl rfl (by decide +kernel) ⟨Nat.le_of_ble_eq_true rfl, Nat.le_of_ble_eq_true rfl⟩) (p0_preS hN) rfl rfl hl.1 rfl (lv_room (Nat.le_of_ble_eq_true rfl)) dX10_auction_17 ⟨Nat.le_of_ble_eq_true rfl, Nat.le_of_ble_eq_true rfl⟩)) (fun r7 hr7 => ?_)
        have hr7 : r7 = if 1 ≤ sv ∧ sv ≤ 240 then 1 else 0 := hr7
        refine lv_if_ne (tgt := 26) hx hb dX10_auction_20 (by decide) (fun c8 => ?_) (fun c8 => ?_)
        · skip
          have c8 := (fa_bool_prop hr7).2.mp c8
          refine lv_aload_n hx hb dX10_auction_26 rfl (lv_at hl 0 rfl) ?_
          refine va_get (D := (dC, dI)) (ci := 6) (v := .null) (C := RX6) (T := TX6) (N := 8) hx hb hts hiX6 hown hK hP 2 rfl rfl 7 (by decide) (hts (.fieldLink RX10 159 "TributePitches$Pitch" "take" "LTributePitches$Take;") (by decide +kernel)) (fun _ h9 => h9) rfl dX10_auction_27 ?_
          refine lv_ifnonnullN hx hb dX10_auction_30 ?_
          refine lv_aload_n hx hb dX10_auction_33 rfl (lv_at hl 1 rfl) ?_
          refine va_get (D := (dC, dI)) (ci := 10) (v := .ref (cs_X zc 5 0)) (C := RX10) (T := TX10) (N := 13) hx hb hts hiX10 hown hK hP 0 rfl rfl 11 (by decide) (hts (.fieldLink RX10 163 "TributePitches" "current" "LTributePitches$Auction;") (by decide +kernel)) (fun _ h9 => h9) rfl dX10_auction_34 ?_
          refine lv_ifnull hx hb dX10_auction_37 ?_
          refine lv_bipush (v := (-3)) hx hb dX10_auction_40 (by decide) ?_
          subst hQ
          refine W.widen (k := 1) (n := 4) (Nat.le_of_ble_eq_true rfl) (Nat.le_of_ble_eq_true rfl) ?_
          exact W.iret (v := (-3)) hx hb hr (fun t ht hW => ⟨⟨(-3), zc, rfl, ⟨⟨hI, rfl⟩, (Or.inr (Or.inr (Or.inr (Or.inl ⟨jp, rfl, hjp, h0t, hcur, c8, rfl, rfl⟩))))⟩, (by rw [ht]; exact hPk), va_K.moved hW.alike hKk, kDA_self hDk⟩, (kw_same hPk ht).2⟩) (fun q h => absurd h List.not_mem_nil) dX10_auction_42
        · skip
          have c8 := (fa_bool_prop hr7).1.mp c8
          refine lv_bipush (v := (-2)) hx hb dX10_auction_23 (by decide) ?_
          subst hQ
          refine W.widen (k := 1) (n := 4) (Nat.le_of_ble_eq_true rfl) (Nat.le_of_ble_eq_true rfl) ?_
          exact W.iret (v := (-2)) hx hb hr (fun t ht hW => ⟨⟨(-2), zc, rfl, ⟨⟨hI, rfl⟩, (Or.inr (Or.inr (Or.inr (Or.inr (Or.inl ⟨jp, rfl, hjp, h0t, hcur, c8, rfl, rfl⟩)))))⟩, (by rw [ht]; exact hPk), va_K.moved hW.alike hKk, kDA_self hDk⟩, (kw_same hPk ht).2⟩) (fun q h => absurd h List.not_mem_nil) dX10_auction_25
    · skip
      have hks : kAll (cF cA zc) [(0, 0), (0, 6), (1, jp)] [cTP zc, cR6 cA zc, cPiT zc jp] := ⟨(kF_tp (cA := cA) (z := zc)), (kF_r6 (cA := cA) (z := zc)), (kF_piT (z := zc) (j := jp) hjp h0t), trivial⟩
      have hP : va_P (dC, dI) vwCl [cTP zc, cR6 cA zc, cPiT zc jp] s.heap := kAll_P hPk hks
      have hD : va_D (va_A [cTP zc, cR6 cA zc, cPiT zc jp] s.heap.size) [cTP zc, cR6 cA zc, cPiT zc jp] := (kAll_D hDk hks (by simp)).self
      have hA : ∀ q : Nat, s.heap.size ≤ q → va_A [cTP zc, cR6 cA zc, cPiT zc jp] s.heap.size q := fun q h => Or.inr h
      have hS : va_S (va_A [cTP zc, cR6 cA zc, cPiT zc jp] s.heap.size) s.heap s.heap [] := va_S.rf
      refine lv_aload_n hx hb dX10_auction_0 rfl (lv_at hl 0 rfl) ?_
      refine lv_iload_n hx hb dX10_auction_1 rfl (lv_at hl 1 rfl) ?_
      have hPc := hP.sub (ws' := [cTP zc, cR6 cA zc]) [0, 1] rfl
      have hDc := hD.sub (ws' := [cTP zc, cR6 cA zc]) [0, 1] (by decide) rfl
      have hKc := hK.sub (tys' := [(cA 1, .object RX6)]) [1] rfl
      refine va_csq (va_Run.run (va_runV (As := [.int (nI jp)]) (rest := []) ⟨hx, hb, hml, hown, hts⟩ (s_pitchAt_yes l dC dI (cA 1) _ (cs_X zc 0 0) (.ref (cs_X zc 0 1)) (.ref (cs_X zc 0 7)) (.ref (cs_X zc 0 8)) (.ref (cs_X zc 0 9)) (.ref (cs_X zc 0 10)) (.ref (cs_X zc 0 11)) (.int (nI (cs_n zc 1))) (.int (nI (cs_n zc 2))) (.int (nI (cs_n zc 3))) (va_rf (opN (cs_n zc 4) (fun _ => cs_X zc 5 0))) (.int (cs_i zc 2)) (cs_X zc 0 6) jp (cs_n zc 0) (cs_X zc 1 jp) (rfN (cs_n zc 0) (cs_X zc 1)) hjp (by omega) (rfN_at hjp)) (cwV 1 hts gX10_auction_X10_pitchAt rfl rfl rfl (by decide +kernel) ⟨Nat.le_of_ble_eq_true rfl, Nat.le_of_ble_eq_true rfl⟩) (pw_preV (va_recv hKc hPc (ci := 10) (q0 := 0) rfl rfl) hPc hKc hDc hN) rfl rfl hl.1 rfl (lv_room (Nat.le_of_ble_eq_true rfl)) dX10_auction_2 ⟨Nat.le_of_ble_eq_true rfl, Nat.le_of_ble_eq_true rfl⟩)) (fun r9 hr9 => ?_)
      have hr9 : r9 = some (cs_X zc 1 jp) := hr9
      subst hr9
      refine W.eq (g2 := F0 m 5 ls [.ref (cs_X zc 1 jp)]) rfl ?_
      refine lv_astore_n (lv' := [(3, .ref (cs_X zc 1 jp)), (0, .ref (cs_X zc 0 0)), (1, .int (nI jp)), (2, .int sv)]) hx hb dX10_auction_5 rfl hl (by decide) rfl (fun ls hl => ?_)
      refine lv_aload_n hx hb dX10_auction_6 rfl (lv_at hl 0 rfl) ?_
      refine lv_ifnonnull (tgt := 12) hx hb dX10_auction_7 (by decide) ?_
      refine lv_iload_n hx hb dX10_auction_12 rfl (lv_at hl 3 rfl) ?_
      refine lv_iconst (v := 1) hx hb dX10_auction_13 (by decide) ?_
      refine lv_sipush (v := 240) hx hb dX10_auction_14 (by decide) ?_
      refine vp_callSi (va_Run.run (va_runS (As := [.int sv, .int 1, .int 240]) (rest := []) ⟨hx, hb, hml, hown, hts⟩ (c_X10_isWithin l sv 1 240 ) (va_cwS 3 hts gX10_auction_X10_isWithin rfl rfl rfl (by decide +kernel) ⟨Nat.le_of_ble_eq_true rfl, Nat.le_of_ble_eq_true rfl⟩) (p0_preS hN) rfl rfl hl.1 rfl (lv_room (Nat.le_of_ble_eq_true rfl)) dX10_auction_17 ⟨Nat.le_of_ble_eq_true rfl, Nat.le_of_ble_eq_true rfl⟩)) (fun r10 hr10 => ?_)
      have hr10 : r10 = if 1 ≤ sv ∧ sv ≤ 240 then 1 else 0 := hr10
      refine lv_if_ne (tgt := 26) hx hb dX10_auction_20 (by decide) (fun c11 => ?_) (fun c11 => ?_)
      · skip
        have c11 := (fa_bool_prop hr10).2.mp c11
        refine lv_aload_n hx hb dX10_auction_26 rfl (lv_at hl 0 rfl) ?_
        refine va_get (D := (dC, dI)) (ci := 6) (v := .ref (cs_X zc 3 (cs_N zc 0 jp - 1))) (C := RX6) (T := TX6) (N := 8) hx hb hts hiX6 hown hK hP 2 rfl rfl 7 (by decide) (hts (.fieldLink RX10 159 "TributePitches$Pitch" "take" "LTributePitches$Take;") (by decide +kernel)) (fun _ h9 => h9) rfl dX10_auction_27 ?_
        refine lv_ifnonnull (tgt := 40) hx hb dX10_auction_30 (by decide) ?_
        refine lv_bipush (v := (-3)) hx hb dX10_auction_40 (by decide) ?_
        subst hQ
        refine W.widen (k := 1) (n := 4) (Nat.le_of_ble_eq_true rfl) (Nat.le_of_ble_eq_true rfl) ?_
        exact W.iret (v := (-3)) hx hb hr (fun t ht hW => ⟨⟨(-3), zc, rfl, ⟨⟨hI, rfl⟩, (Or.inr (Or.inr (Or.inr (Or.inr (Or.inr (Or.inl ⟨jp, rfl, hjp, h0t, c11, rfl, rfl⟩))))))⟩, (by rw [ht]; exact hPk), va_K.moved hW.alike hKk, kDA_self hDk⟩, (kw_same hPk ht).2⟩) (fun q h => absurd h List.not_mem_nil) dX10_auction_42
      · skip
        have c11 := (fa_bool_prop hr10).1.mp c11
        refine lv_bipush (v := (-2)) hx hb dX10_auction_23 (by decide) ?_
        subst hQ
        refine W.widen (k := 1) (n := 4) (Nat.le_of_ble_eq_true rfl) (Nat.le_of_ble_eq_true rfl) ?_
        exact W.iret (v := (-2)) hx hb hr (fun t ht hW => ⟨⟨(-2), zc, rfl, ⟨⟨hI, rfl⟩, (Or.inr (Or.inr (Or.inr (Or.inr (Or.inr (Or.inr ⟨jp, rfl, hjp, h0t, c11, rfl, rfl⟩))))))⟩, (by rw [ht]; exact hPk), va_K.moved hW.alike hKk, kDA_self hDk⟩, (kw_same hPk ht).2⟩) (fun q h => absurd h List.not_mem_nil) dX10_auction_25
