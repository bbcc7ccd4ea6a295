def pC_gang (zc : CS) (k : Int32) (r : Int32) (u : CS) : Prop :=
  ((0 ≤ k ∧ k ≤ 2) ∧ ((nI (cs_n zc 1)) < 8) ∧ (cs_n zc 1 < 8) ∧ k = 0 ∧ ∃ r4 : Nat, r = (nI (cs_n zc 1)) ∧ u = (cs_i zc, va_up (cs_n zc) 1 (cs_n zc 1 + 1), va_up (va_up (cs_I zc) 21 (va_up (cs_I zc 21) (cs_n zc 1) 0)) 22 (va_up (cs_I zc 22) (cs_n zc 1) 0), va_up (cs_L zc) 0 (va_up (cs_L zc 0) (cs_n zc 1) 0), va_up (cs_N zc) 1 (va_up (cs_N zc 1) (cs_n zc 1) 2), cs_S zc, va_up (cs_X zc) 2 (va_up (cs_X zc 2) (cs_n zc 1) r4))) ∨
  ((0 ≤ k ∧ k ≤ 2) ∧ ((nI (cs_n zc 1)) < 8) ∧ (cs_n zc 1 < 8) ∧ k = 1 ∧ ∃ r5 : Nat, r = (nI (cs_n zc 1)) ∧ u = (cs_i zc, va_up (cs_n zc) 1 (cs_n zc 1 + 1), va_up (va_up (cs_I zc) 21 (va_up (cs_I zc 21) (cs_n zc 1) 0)) 22 (va_up (cs_I zc 22) (cs_n zc 1) 0), va_up (cs_L zc) 0 (va_up (cs_L zc 0) (cs_n zc 1) 0), va_up (cs_N zc) 1 (va_up (cs_N zc 1) (cs_n zc 1) 1), cs_S zc, va_up (cs_X zc) 2 (va_up (cs_X zc 2) (cs_n zc 1) r5))) ∨
  ((0 ≤ k ∧ k ≤ 2) ∧ ((nI (cs_n zc 1)) < 8) ∧ (cs_n zc 1 < 8) ∧ k = 2 ∧ ∃ r6 : Nat, r = (nI (cs_n zc 1)) ∧ u = (cs_i zc, va_up (cs_n zc) 1 (cs_n zc 1 + 1), va_up (va_up (cs_I zc) 21 (va_up (cs_I zc 21) (cs_n zc 1) 0)) 22 (va_up (cs_I zc 22) (cs_n zc 1) 0), va_up (cs_L zc) 0 (va_up (cs_L zc 0) (cs_n zc 1) 0), va_up (cs_N zc) 1 (va_up (cs_N zc 1) (cs_n zc 1) 4), cs_S zc, va_up (cs_X zc) 2 (va_up (cs_X zc 2) (cs_n zc 1) r6))) ∨
  ((0 ≤ k ∧ k ≤ 2) ∧ (¬ (nI (cs_n zc 1)) < 8) ∧ r = ((-4)) ∧ u = zc) ∨
  ((¬ (0 ≤ k ∧ k ≤ 2)) ∧ r = ((-2)) ∧ u = zc)
set_option maxHeartbeats 4000000 in
theorem lf_gang_0 (cA : Nat → ClassId) (zc : CS) (r4 : Nat) (c2 : 0 ≤ (0 : Int32) ∧ (0 : Int32) ≤ 2) (c3 : (nI (cs_n zc 1)) < 8) (hg8 : cs_n zc 1 < 8) (hI : invC zc) : invC (cs_i zc, va_up (cs_n zc) 1 (cs_n zc 1 + 1), va_up (va_up (cs_I zc) 21 (va_up (cs_I zc 21) (cs_n zc 1) 0)) 22 (va_up (cs_I zc 22) (cs_n zc 1) 0), va_up (cs_L zc) 0 (va_up (cs_L zc 0) (cs_n zc 1) 0), va_up (cs_N zc) 1 (va_up (cs_N zc 1) (cs_n zc 1) 2), cs_S zc, va_up (cs_X zc) 2 (va_up (cs_X zc 2) (cs_n zc 1) r4)) ∧ kAll (cF cA (cs_i zc, va_up (cs_n zc) 1 (cs_n zc 1 + 1), va_up (va_up (cs_I zc) 21 (va_up (cs_I zc 21) (cs_n zc 1) 0)) 22 (va_up (cs_I zc 22) (cs_n zc 1) 0), va_up (cs_L zc) 0 (va_up (cs_L zc 0) (cs_n zc 1) 0), va_up (cs_N zc) 1 (va_up (cs_N zc 1) (cs_n zc 1) 2), cs_S zc, va_up (cs_X zc) 2 (va_up (cs_X zc 2) (cs_n zc 1) r4))) [(0, 0), (0, 7), (2, cs_n zc 1)] [(cs_X zc 0 0, .inr (10, [.ref (cs_X zc 0 1), .ref (cs_X zc 0 6), .ref (cs_X zc 0 7), .ref (cs_X zc 0 8), .ref (cs_X zc 0 9), .ref (cs_X zc 0 10), .ref (cs_X zc 0 11), .int (nI (cs_n zc 0)), .int (nI (cs_n zc 1 + 1)), .int (nI (cs_n zc 2)), .int (nI (cs_n zc 3)), va_rf (opN (cs_n zc 4) (fun _ => cs_X zc 5 0)), .int (cs_i zc 2)])), (cs_X zc 0 7, .inl (cA 2, 8, .inr (.inr (.inr (.inr (va_up (rfN (cs_n zc 1) (cs_X zc 2)) (nI (cs_n zc 1)).toNatClampNeg (some r4))))))), (r4, .inr (2, [.int (nI (cs_n zc 1)), .int 0, .int 0, .long 0]))] ∧ ∀ i j, (i, j) ∉ ([(0, 0), (0, 7), (2, cs_n zc 1)] : List (Nat × Nat)) → cF cA (cs_i zc, va_up (cs_n zc) 1 (cs_n zc 1 + 1), va_up (va_up (cs_I zc) 21 (va_up (cs_I zc 21) (cs_n zc 1) 0)) 22 (va_up (cs_I zc 22) (cs_n zc 1) 0), va_up (cs_L zc) 0 (va_up (cs_L zc 0) (cs_n zc 1) 0), va_up (cs_N zc) 1 (va_up (cs_N zc 1) (cs_n zc 1) 2), cs_S zc, va_up (cs_X zc) 2 (va_up (cs_X zc 2) (cs_n zc 1) r4)) i j = none ∨ ((i, j) ∉ ([(0, 0), (0, 7)] : List (Nat × Nat)) ∧ cF cA (cs_i zc, va_up (cs_n zc) 1 (cs_n zc 1 + 1), va_up (va_up (cs_I zc) 21 (va_up (cs_I zc 21) (cs_n zc 1) 0)) 22 (va_up (cs_I zc 22) (cs_n zc 1) 0), va_up (cs_L zc) 0 (va_up (cs_L zc 0) (cs_n zc 1) 0), va_up (cs_N zc) 1 (va_up (cs_N zc 1) (cs_n zc 1) 2), cs_S zc, va_up (cs_X zc) 2 (va_up (cs_X zc 2) (cs_n zc 1) r4)) i j = cF cA zc i j) := by
  obtain ⟨⟨hn0, hn1, hn2, hn3, hn4, hn5⟩, hpi, hgk, htk, hpk, hsh⟩ := id hI
  refine ⟨(by refine ⟨⟨hn0, (show cs_n zc 1 + 1 ≤ 8 by omega), hn2, hn3, hn4, (show cs_n zc 5 ≤ cs_n zc 1 + 1 by omega)⟩, hpi, (fun g hg => ?_), (fun t ht => ⟨Nat.lt_succ_of_lt (htk t ht).1, (htk t ht).2⟩), hpk, hsh⟩; have hg : g < cs_n zc 1 + 1 := hg; show va_up (cs_N zc 1) (cs_n zc 1) 2 g = 1 ∨ va_up (cs_N zc 1) (cs_n zc 1) 2 g = 2 ∨ va_up (cs_N zc 1) (cs_n zc 1) 2 g = 4; by_cases h9 : g = cs_n zc 1; (rw [h9, va_up_self]; decide); (rw [va_up_ne _ _ h9]; exact hgk g (by omega))), ⟨(by (rw [(kF_tp (cA := cA) (z := (cs_i zc, va_up (cs_n zc) 1 (cs_n zc 1 + 1), va_up (va_up (cs_I zc) 21 (va_up (cs_I zc 21) (cs_n zc 1) 0)) 22 (va_up (cs_I zc 22) (cs_n zc 1) 0), va_up (cs_L zc) 0 (va_up (cs_L zc 0) (cs_n zc 1) 0), va_up (cs_N zc) 1 (va_up (cs_N zc 1) (cs_n zc 1) 2), cs_S zc, va_up (cs_X zc) 2 (va_up (cs_X zc 2) (cs_n zc 1) r4))))]) <;> simp [cTP, cTPN, cTPA, cLo, cA2, cA3, cA4, cA5, cR6, cR7, cR8, cR9, cR10, cTr, cPi, cPiN, cPiT, cGa, cGaK, cTa, cPa, cAu, cAuN, cAuB, cSh, cSc, cs_i, cs_n, cs_I, cs_L, cs_N, cs_S, cs_X, va_up, upd, opN]), (by rw [(kF_r7 (cA := cA) (z := (cs_i zc, va_up (cs_n zc) 1 (cs_n zc 1 + 1), va_up (va_up (cs_I zc) 21 (va_up (cs_I zc 21) (cs_n zc 1) 0)) 22 (va_up (cs_I zc 22) (cs_n zc 1) 0), va_up (cs_L zc) 0 (va_up (cs_L zc 0) (cs_n zc 1) 0), va_up (cs_N zc) 1 (va_up (cs_N zc 1) (cs_n zc 1) 2), cs_S zc, va_up (cs_X zc) 2 (va_up (cs_X zc 2) (cs_n zc 1) r4))))]; simp only [cR6, cR7, cR8, cR9]; rw [nI_clamp (by omega), rfN_up]; simp [cs_n, cs_X, va_up]), (by (rw [(kF_gaK (z := (cs_i zc, va_up (cs_n zc) 1 (cs_n zc 1 + 1), va_up (va_up (cs_I zc) 21 (va_up (cs_I zc 21) (cs_n zc 1) 0)) 22 (va_up (cs_I zc 22) (cs_n zc 1) 0), va_up (cs_L zc) 0 (va_up (cs_L zc 0) (cs_n zc 1) 0), va_up (cs_N zc) 1 (va_up (cs_N zc 1) (cs_n zc 1) 2), cs_S zc, va_up (cs_X zc) 2 (va_up (cs_X zc 2) (cs_n zc 1) r4))) (k := 2) (show cs_n zc 1 < cs_n zc 1 + 1 from Nat.lt_succ_self _) (by simp [cs_N, cs_n, va_up]))]) <;> simp [cTP, cTPN, cTPA, cLo, cA2, cA3, cA4, cA5, cR6, cR7, cR8, cR9, cR10, cTr, cPi, cPiN, cPiT, cGa, cGaK, cTa, cPa, cAu, cAuN, cAuB, cSh, cSc, cs_i, cs_n, cs_I, cs_L, cs_N, cs_S, cs_X, va_up, upd, opN]), trivial⟩, ?_⟩
  intro i j hij
  have hij0 : (i, j) ∉ ([(0, 0), (0, 7)] : List (Nat × Nat)) := by
    intro q
    simp only [List.mem_cons, Prod.mk.injEq, List.not_mem_nil, or_false] at q
    rcases q with ⟨rfl, rfl⟩ | ⟨rfl, rfl⟩
    · exact hij (by simp)
    · exact hij (by simp)
  refine Or.inr ⟨hij0, ?_⟩
  rcases i with _ | _ | _ | _ | _ | _ | _ | _ | i
  · rcases j with _ | _ | _ | _ | _ | _ | _ | _ | _ | _ | _ | _ | j
    · exact absurd (by simp) hij
    · show some (cLo (cs_i zc, va_up (cs_n zc) 1 (cs_n zc 1 + 1), va_up (va_up (cs_I zc) 21 (va_up (cs_I zc 21) (cs_n zc 1) 0)) 22 (va_up (cs_I zc 22) (cs_n zc 1) 0), va_up (cs_L zc) 0 (va_up (cs_L zc 0) (cs_n zc 1) 0), va_up (cs_N zc) 1 (va_up (cs_N zc 1) (cs_n zc 1) 2), cs_S zc, va_up (cs_X zc) 2 (va_up (cs_X zc 2) (cs_n zc 1) r4))) = some (cLo zc); simp [cLo, cs_i, cs_n, cs_I, cs_L, cs_N, cs_S, cs_X, va_up]
    · show some (cA2 cA (cs_i zc, va_up (cs_n zc) 1 (cs_n zc 1 + 1), va_up (va_up (cs_I zc) 21 (va_up (cs_I zc 21) (cs_n zc 1) 0)) 22 (va_up (cs_I zc 22) (cs_n zc 1) 0), va_up (cs_L zc) 0 (va_up (cs_L zc 0) (cs_n zc 1) 0), va_up (cs_N zc) 1 (va_up (cs_N zc 1) (cs_n zc 1) 2), cs_S zc, va_up (cs_X zc) 2 (va_up (cs_X zc 2) (cs_n zc 1) r4))) = some (cA2 cA zc); simp [cA2, cs_i, cs_n, cs_I, cs_L, cs_N, cs_S, cs_X, va_up]
    · show some (cA3 cA (cs_i zc, va_up (cs_n zc) 1 (cs_n zc 1 + 1), va_up (va_up (cs_I zc) 21 (va_up (cs_I zc 21) (cs_n zc 1) 0)) 22 (va_up (cs_I zc 22) (cs_n zc 1) 0), va_up (cs_L zc) 0 (va_up (cs_L zc 0) (cs_n zc 1) 0), va_up (cs_N zc) 1 (va_up (cs_N zc 1) (cs_n zc 1) 2), cs_S zc, va_up (cs_X zc) 2 (va_up (cs_X zc 2) (cs_n zc 1) r4))) = some (cA3 cA zc); simp [cA3, cs_i, cs_n, cs_I, cs_L, cs_N, cs_S, cs_X, va_up]
    · show some (cA4 cA (cs_i zc, va_up (cs_n zc) 1 (cs_n zc 1 + 1), va_up (va_up (cs_I zc) 21 (va_up (cs_I zc 21) (cs_n zc 1) 0)) 22 (va_up (cs_I zc 22) (cs_n zc 1) 0), va_up (cs_L zc) 0 (va_up (cs_L zc 0) (cs_n zc 1) 0), va_up (cs_N zc) 1 (va_up (cs_N zc 1) (cs_n zc 1) 2), cs_S zc, va_up (cs_X zc) 2 (va_up (cs_X zc 2) (cs_n zc 1) r4))) = some (cA4 cA zc); simp [cA4, cs_i, cs_n, cs_I, cs_L, cs_N, cs_S, cs_X, va_up]
    · show some (cA5 cA (cs_i zc, va_up (cs_n zc) 1 (cs_n zc 1 + 1), va_up (va_up (cs_I zc) 21 (va_up (cs_I zc 21) (cs_n zc 1) 0)) 22 (va_up (cs_I zc 22) (cs_n zc 1) 0), va_up (cs_L zc) 0 (va_up (cs_L zc 0) (cs_n zc 1) 0), va_up (cs_N zc) 1 (va_up (cs_N zc 1) (cs_n zc 1) 2), cs_S zc, va_up (cs_X zc) 2 (va_up (cs_X zc 2) (cs_n zc 1) r4))) = some (cA5 cA zc); simp [cA5, cs_i, cs_n, cs_I, cs_L, cs_N, cs_S, cs_X, va_up]
    · show some (cR6 cA (cs_i zc, va_up (cs_n zc) 1 (cs_n zc 1 + 1), va_up (va_up (cs_I zc) 21 (va_up (cs_I zc 21) (cs_n zc 1) 0)) 22 (va_up (cs_I zc 22) (cs_n zc 1) 0), va_up (cs_L zc) 0 (va_up (cs_L zc 0) (cs_n zc 1) 0), va_up (cs_N zc) 1 (va_up (cs_N zc 1) (cs_n zc 1) 2), cs_S zc, va_up (cs_X zc) 2 (va_up (cs_X zc 2) (cs_n zc 1) r4))) = some (cR6 cA zc); simp [cR6, cs_i, cs_n, cs_I, cs_L, cs_N, cs_S, cs_X, va_up]
    · exact absurd (by simp) hij
    · show some (cR8 cA (cs_i zc, va_up (cs_n zc) 1 (cs_n zc 1 + 1), va_up (va_up (cs_I zc) 21 (va_up (cs_I zc 21) (cs_n zc 1) 0)) 22 (va_up (cs_I zc 22) (cs_n zc 1) 0), va_up (cs_L zc) 0 (va_up (cs_L zc 0) (cs_n zc 1) 0), va_up (cs_N zc) 1 (va_up (cs_N zc 1) (cs_n zc 1) 2), cs_S zc, va_up (cs_X zc) 2 (va_up (cs_X zc 2) (cs_n zc 1) r4))) = some (cR8 cA zc); simp [cR8, cs_i, cs_n, cs_I, cs_L, cs_N, cs_S, cs_X, va_up]
    · show some (cR9 cA (cs_i zc, va_up (cs_n zc) 1 (cs_n zc 1 + 1), va_up (va_up (cs_I zc) 21 (va_up (cs_I zc 21) (cs_n zc 1) 0)) 22 (va_up (cs_I zc 22) (cs_n zc 1) 0), va_up (cs_L zc) 0 (va_up (cs_L zc 0) (cs_n zc 1) 0), va_up (cs_N zc) 1 (va_up (cs_N zc 1) (cs_n zc 1) 2), cs_S zc, va_up (cs_X zc) 2 (va_up (cs_X zc 2) (cs_n zc 1) r4))) = some (cR9 cA zc); simp [cR9, cs_i, cs_n, cs_I, cs_L, cs_N, cs_S, cs_X, va_up]
    · show some (cR10 cA (cs_i zc, va_up (cs_n zc) 1 (cs_n zc 1 + 1), va_up (va_up (cs_I zc) 21 (va_up (cs_I zc 21) (cs_n zc 1) 0)) 22 (va_up (cs_I zc 22) (cs_n zc 1) 0), va_up (cs_L zc) 0 (va_up (cs_L zc 0) (cs_n zc 1) 0), va_up (cs_N zc) 1 (va_up (cs_N zc 1) (cs_n zc 1) 2), cs_S zc, va_up (cs_X zc) 2 (va_up (cs_X zc 2) (cs_n zc 1) r4))) = some (cR10 cA zc); simp [cR10, cs_i, cs_n, cs_I, cs_L, cs_N, cs_S, cs_X, va_up]
    · show some (cTr (cs_i zc, va_up (cs_n zc) 1 (cs_n zc 1 + 1), va_up (va_up (cs_I zc) 21 (va_up (cs_I zc 21) (cs_n zc 1) 0)) 22 (va_up (cs_I zc 22) (cs_n zc 1) 0), va_up (cs_L zc) 0 (va_up (cs_L zc 0) (cs_n zc 1) 0), va_up (cs_N zc) 1 (va_up (cs_N zc 1) (cs_n zc 1) 2), cs_S zc, va_up (cs_X zc) 2 (va_up (cs_X zc 2) (cs_n zc 1) r4))) = some (cTr zc); simp [cTr, cs_i, cs_n, cs_I, cs_L, cs_N, cs_S, cs_X, va_up]
    · show (none : Option (Nat × va_E)) = none; rfl
  · show (if j < cs_n (cs_i zc, va_up (cs_n zc) 1 (cs_n zc 1 + 1), va_up (va_up (cs_I zc) 21 (va_up (cs_I zc 21) (cs_n zc 1) 0)) 22 (va_up (cs_I zc 22) (cs_n zc 1) 0), va_up (cs_L zc) 0 (va_up (cs_L zc 0) (cs_n zc 1) 0), va_up (cs_N zc) 1 (va_up (cs_N zc 1) (cs_n zc 1) 2), cs_S zc, va_up (cs_X zc) 2 (va_up (cs_X zc 2) (cs_n zc 1) r4)) 0 then some (cPi (cs_i zc, va_up (cs_n zc) 1 (cs_n zc 1 + 1), va_up (va_up (cs_I zc) 21 (va_up (cs_I zc 21) (cs_n zc 1) 0)) 22 (va_up (cs_I zc 22) (cs_n zc 1) 0), va_up (cs_L zc) 0 (va_up (cs_L zc 0) (cs_n zc 1) 0), va_up (cs_N zc) 1 (va_up (cs_N zc 1) (cs_n zc 1) 2), cs_S zc, va_up (cs_X zc) 2 (va_up (cs_X zc 2) (cs_n zc 1) r4)) j) else none) = if j < cs_n zc 0 then some (cPi zc j) else none
    simp [cPi, cs_i, cs_n, cs_I, cs_L, cs_N, cs_S, cs_X, va_up]
  · have hne : j ≠ cs_n zc 1 := fun q => hij (by rw [q]; simp)
    have e9 : cGa (cs_i zc, va_up (cs_n zc) 1 (cs_n zc 1 + 1), va_up (va_up (cs_I zc) 21 (va_up (cs_I zc 21) (cs_n zc 1) 0)) 22 (va_up (cs_I zc 22) (cs_n zc 1) 0), va_up (cs_L zc) 0 (va_up (cs_L zc 0) (cs_n zc 1) 0), va_up (cs_N zc) 1 (va_up (cs_N zc 1) (cs_n zc 1) 2), cs_S zc, va_up (cs_X zc) 2 (va_up (cs_X zc 2) (cs_n zc 1) r4)) j = cGa zc j := by simp [cGa, cs_i, cs_n, cs_I, cs_L, cs_N, cs_S, cs_X, va_up, hne]
    show (if j < cs_n zc 1 + 1 then some (cGa (cs_i zc, va_up (cs_n zc) 1 (cs_n zc 1 + 1), va_up (va_up (cs_I zc) 21 (va_up (cs_I zc 21) (cs_n zc 1) 0)) 22 (va_up (cs_I zc 22) (cs_n zc 1) 0), va_up (cs_L zc) 0 (va_up (cs_L zc 0) (cs_n zc 1) 0), va_up (cs_N zc) 1 (va_up (cs_N zc 1) (cs_n zc 1) 2), cs_S zc, va_up (cs_X zc) 2 (va_up (cs_X zc 2) (cs_n zc 1) r4)) j) else none) = if j < cs_n zc 1 then some (cGa zc j) else none
    rw [e9]
    by_cases h9 : j < cs_n zc 1
    · rw [if_pos h9, if_pos (Nat.lt_succ_of_lt h9)]
    · rw [if_neg h9, if_neg (by omega)]
  · show (if j < cs_n zc 2 then some (cTa (cs_i zc, va_up (cs_n zc) 1 (cs_n zc 1 + 1), va_up (va_up (cs_I zc) 21 (va_up (cs_I zc 21) (cs_n zc 1) 0)) 22 (va_up (cs_I zc 22) (cs_n zc 1) 0), va_up (cs_L zc) 0 (va_up (cs_L zc 0) (cs_n zc 1) 0), va_up (cs_N zc) 1 (va_up (cs_N zc 1) (cs_n zc 1) 2), cs_S zc, va_up (cs_X zc) 2 (va_up (cs_X zc 2) (cs_n zc 1) r4)) j) else none) = if j < cs_n zc 2 then some (cTa zc j) else none
    by_cases h9 : j < cs_n zc 2
    · rw [if_pos h9, if_pos h9]
      have hne : cs_N zc 2 j ≠ cs_n zc 1 := Nat.ne_of_lt (htk j h9).1
      simp [cTa, cs_i, cs_n, cs_I, cs_L, cs_N, cs_S, cs_X, va_up, hne]
    · rw [if_neg h9, if_neg h9]
  · show (if j < cs_n (cs_i zc, va_up (cs_n zc) 1 (cs_n zc 1 + 1), va_up (va_up (cs_I zc) 21 (va_up (cs_I zc 21) (cs_n zc 1) 0)) 22 (va_up (cs_I zc 22) (cs_n zc 1) 0), va_up (cs_L zc) 0 (va_up (cs_L zc 0) (cs_n zc 1) 0), va_up (cs_N zc) 1 (va_up (cs_N zc 1) (cs_n zc 1) 2), cs_S zc, va_up (cs_X zc) 2 (va_up (cs_X zc 2) (cs_n zc 1) r4)) 3 then some (cPa (cs_i zc, va_up (cs_n zc) 1 (cs_n zc 1 + 1), va_up (va_up (cs_I zc) 21 (va_up (cs_I zc 21) (cs_n zc 1) 0)) 22 (va_up (cs_I zc 22) (cs_n zc 1) 0), va_up (cs_L zc) 0 (va_up (cs_L zc 0) (cs_n zc 1) 0), va_up (cs_N zc) 1 (va_up (cs_N zc 1) (cs_n zc 1) 2), cs_S zc, va_up (cs_X zc) 2 (va_up (cs_X zc 2) (cs_n zc 1) r4)) j) else none) = if j < cs_n zc 3 then some (cPa zc j) else none
    simp [cPa, cs_i, cs_n, cs_I, cs_L, cs_N, cs_S, cs_X, va_up]
  · show (if j = 0 ∧ ¬ cs_n zc 4 = 0 then some (cAu (cs_i zc, va_up (cs_n zc) 1 (cs_n zc 1 + 1), va_up (va_up (cs_I zc) 21 (va_up (cs_I zc 21) (cs_n zc 1) 0)) 22 (va_up (cs_I zc 22) (cs_n zc 1) 0), va_up (cs_L zc) 0 (va_up (cs_L zc 0) (cs_n zc 1) 0), va_up (cs_N zc) 1 (va_up (cs_N zc 1) (cs_n zc 1) 2), cs_S zc, va_up (cs_X zc) 2 (va_up (cs_X zc 2) (cs_n zc 1) r4))) else none) = if j = 0 ∧ ¬ cs_n zc 4 = 0 then some (cAu zc) else none
    by_cases h9 : j = 0 ∧ ¬ cs_n zc 4 = 0
    · rw [if_pos h9, if_pos h9]
      simp [cAu, cs_i, cs_n, cs_I, cs_L, cs_N, cs_S, cs_X, va_up, opN_up hn5]
    · rw [if_neg h9, if_neg h9]
  · show (if j < 4 then some (cSh (cs_i zc, va_up (cs_n zc) 1 (cs_n zc 1 + 1), va_up (va_up (cs_I zc) 21 (va_up (cs_I zc 21) (cs_n zc 1) 0)) 22 (va_up (cs_I zc 22) (cs_n zc 1) 0), va_up (cs_L zc) 0 (va_up (cs_L zc 0) (cs_n zc 1) 0), va_up (cs_N zc) 1 (va_up (cs_N zc 1) (cs_n zc 1) 2), cs_S zc, va_up (cs_X zc) 2 (va_up (cs_X zc 2) (cs_n zc 1) r4)) j) else none) = if j < 4 then some (cSh zc j) else none
    simp [cSh, cs_i, cs_n, cs_I, cs_L, cs_N, cs_S, cs_X, va_up]
  · show (if j < 4 then some (cSc cA (cs_i zc, va_up (cs_n zc) 1 (cs_n zc 1 + 1), va_up (va_up (cs_I zc) 21 (va_up (cs_I zc 21) (cs_n zc 1) 0)) 22 (va_up (cs_I zc 22) (cs_n zc 1) 0), va_up (cs_L zc) 0 (va_up (cs_L zc 0) (cs_n zc 1) 0), va_up (cs_N zc) 1 (va_up (cs_N zc 1) (cs_n zc 1) 2), cs_S zc, va_up (cs_X zc) 2 (va_up (cs_X zc 2) (cs_n zc 1) r4)) j) else none) = if j < 4 then some (cSc cA zc j) else none
    simp [cSc, cs_i, cs_n, cs_I, cs_L, cs_N, cs_S, cs_X, va_up]
  · show (none : Option (Nat × va_E)) = none; rfl
set_option maxHeartbeats 4000000 in
theorem lf_gang_1 (cA : Nat → ClassId) (zc : CS) (r5 : Nat) (c2 : 0 ≤ (1 : Int32) ∧ (1 : Int32) ≤ 2) (c3 : (nI (cs_n zc 1)) < 8) (hg8 : cs_n zc 1 < 8) (hI : invC zc) : invC (cs_i zc, va_up (cs_n zc) 1 (cs_n zc 1 + 1), va_up (va_up (cs_I zc) 21 (va_up (cs_I zc 21) (cs_n zc 1) 0)) 22 (va_up (cs_I zc 22) (cs_n zc 1) 0), va_up (cs_L zc) 0 (va_up (cs_L zc 0) (cs_n zc 1) 0), va_up (cs_N zc) 1 (va_up (cs_N zc 1) (cs_n zc 1) 1), cs_S zc, va_up (cs_X zc) 2 (va_up (cs_X zc 2) (cs_n zc 1) r5)) ∧ kAll (cF cA (cs_i zc, va_up (cs_n zc) 1 (cs_n zc 1 + 1), va_up (va_up (cs_I zc) 21 (va_up (cs_I zc 21) (cs_n zc 1) 0)) 22 (va_up (cs_I zc 22) (cs_n zc 1) 0), va_up (cs_L zc) 0 (va_up (cs_L zc 0) (cs_n zc 1) 0), va_up (cs_N zc) 1 (va_up (cs_N zc 1) (cs_n zc 1) 1), cs_S zc, va_up (cs_X zc) 2 (va_up (cs_X zc 2) (cs_n zc 1) r5))) [(0, 0), (0, 7), (2, cs_n zc 1)] [(cs_X zc 0 0, .inr (10, [.ref (cs_X zc 0 1), .ref (cs_X zc 0 6), .ref (cs_X zc 0 7), .ref (cs_X zc 0 8), .ref (cs_X zc 0 9), .ref (cs_X zc 0 10), .ref (cs_X zc 0 11), .int (nI (cs_n zc 0)), .int (nI (cs_n zc 1 + 1)), .int (nI (cs_n zc 2)), .int (nI (cs_n zc 3)), va_rf (opN (cs_n zc 4) (fun _ => cs_X zc 5 0)), .int (cs_i zc 2)])), (cs_X zc 0 7, .inl (cA 2, 8, .inr (.inr (.inr (.inr (va_up (rfN (cs_n zc 1) (cs_X zc 2)) (nI (cs_n zc 1)).toNatClampNeg (some r5))))))), (r5, .inr (1, [.int (nI (cs_n zc 1)), .int 0, .int 0, .long 0]))] ∧ ∀ i j, (i, j) ∉ ([(0, 0), (0, 7), (2, cs_n zc 1)] : List (Nat × Nat)) → cF cA (cs_i zc, va_up (cs_n zc) 1 (cs_n zc 1 + 1), va_up (va_up (cs_I zc) 21 (va_up (cs_I zc 21) (cs_n zc 1) 0)) 22 (va_up (cs_I zc 22) (cs_n zc 1) 0), va_up (cs_L zc) 0 (va_up (cs_L zc 0) (cs_n zc 1) 0), va_up (cs_N zc) 1 (va_up (cs_N zc 1) (cs_n zc 1) 1), cs_S zc, va_up (cs_X zc) 2 (va_up (cs_X zc 2) (cs_n zc 1) r5)) i j = none ∨ ((i, j) ∉ ([(0, 0), (0, 7)] : List (Nat × Nat)) ∧ cF cA (cs_i zc, va_up (cs_n zc) 1 (cs_n zc 1 + 1), va_up (va_up (cs_I zc) 21 (va_up (cs_I zc 21) (cs_n zc 1) 0)) 22 (va_up (cs_I zc 22) (cs_n zc 1) 0), va_up (cs_L zc) 0 (va_up (cs_L zc 0) (cs_n zc 1) 0), va_up (cs_N zc) 1 (va_up (cs_N zc 1) (cs_n zc 1) 1), cs_S zc, va_up (cs_X zc) 2 (va_up (cs_X zc 2) (cs_n zc 1) r5)) i j = cF cA zc i j) := by
  obtain ⟨⟨hn0, hn1, hn2, hn3, hn4, hn5⟩, hpi, hgk, htk, hpk, hsh⟩ := id hI
  refine ⟨(by refine ⟨⟨hn0, (show cs_n zc 1 + 1 ≤ 8 by omega), hn2, hn3, hn4, (show cs_n zc 5 ≤ cs_n zc 1 + 1 by omega)⟩, hpi, (fun g hg => ?_), (fun t ht => ⟨Nat.lt_succ_of_lt (htk t ht).1, (htk t ht).2⟩), hpk, hsh⟩; have hg : g < cs_n zc 1 + 1 := hg; show va_up (cs_N zc 1) (cs_n zc 1) 1 g = 1 ∨ va_up (cs_N zc 1) (cs_n zc 1) 1 g = 2 ∨ va_up (cs_N zc 1) (cs_n zc 1) 1 g = 4; by_cases h9 : g = cs_n zc 1; (rw [h9, va_up_self]; decide); (rw [va_up_ne _ _ h9]; exact hgk g (by omega))), ⟨(by (rw [(kF_tp (cA := cA) (z := (cs_i zc, va_up (cs_n zc) 1 (cs_n zc 1 + 1), va_up (va_up (cs_I zc) 21 (va_up (cs_I zc 21) (cs_n zc 1) 0)) 22 (va_up (cs_I zc 22) (cs_n zc 1) 0), va_up (cs_L zc) 0 (va_up (cs_L zc 0) (cs_n zc 1) 0), va_up (cs_N zc) 1 (va_up (cs_N zc 1) (cs_n zc 1) 1), cs_S zc, va_up (cs_X zc) 2 (va_up (cs_X zc 2) (cs_n zc 1) r5))))]) <;> simp [cTP, cTPN, cTPA, cLo, cA2, cA3, cA4, cA5, cR6, cR7, cR8, cR9, cR10, cTr, cPi, cPiN, cPiT, cGa, cGaK, cTa, cPa, cAu, cAuN, cAuB, cSh, cSc, cs_i, cs_n, cs_I, cs_L, cs_N, cs_S, cs_X, va_up, upd, opN]), (by rw [(kF_r7 (cA := cA) (z := (cs_i zc, va_up (cs_n zc) 1 (cs_n zc 1 + 1), va_up (va_up (cs_I zc) 21 (va_up (cs_I zc 21) (cs_n zc 1) 0)) 22 (va_up (cs_I zc 22) (cs_n zc 1) 0), va_up (cs_L zc) 0 (va_up (cs_L zc 0) (cs_n zc 1) 0), va_up (cs_N zc) 1 (va_up (cs_N zc 1) (cs_n zc 1) 1), cs_S zc, va_up (cs_X zc) 2 (va_up (cs_X zc 2) (cs_n zc 1) r5))))]; simp only [cR6, cR7, cR8, cR9]; rw [nI_clamp (by omega), rfN_up]; simp [cs_n, cs_X, va_up]), (by (rw [(kF_gaK (z := (cs_i zc, va_up (cs_n zc) 1 (cs_n zc 1 + 1), va_up (va_up (cs_I zc) 21 (va_up (cs_I zc 21) (cs_n zc 1) 0)) 22 (va_up (cs_I zc 22) (cs_n zc 1) 0), va_up (cs_L zc) 0 (va_up (cs_L zc 0) (cs_n zc 1) 0), va_up (cs_N zc) 1 (va_up (cs_N zc 1) (cs_n zc 1) 1), cs_S zc, va_up (cs_X zc) 2 (va_up (cs_X zc 2) (cs_n zc 1) r5))) (k := 1) (show cs_n zc 1 < cs_n zc 1 + 1 from Nat.lt_succ_self _) (by simp [cs_N, cs_n, va_up]))]) <;> simp [cTP, cTPN, cTPA, cLo, cA2, cA3, cA4, cA5, cR6, cR7, cR8, cR9, cR10, cTr, cPi, cPiN, cPiT, cGa, cGaK, cTa, cPa, cAu, cAuN, cAuB, cSh, cSc, cs_i, cs_n, cs_I, cs_L, cs_N, cs_S, cs_X, va_up, upd, opN]), trivial⟩, ?_⟩
  intro i j hij
  have hij0 : (i, j) ∉ ([(0, 0), (0, 7)] : List (Nat × Nat)) := by
    intro q
    simp only [List.mem_cons, Prod.mk.injEq, List.not_mem_nil, or_false] at q
    rcases q with ⟨rfl, rfl⟩ | ⟨rfl, rfl⟩
    · exact hij (by simp)
    · exact hij (by simp)
  refine Or.inr ⟨hij0, ?_⟩
  rcases i with _ | _ | _ | _ | _ | _ | _ | _ | i
  · rcases j with _ | _ | _ | _ | _ | _ | _ | _ | _ | _ | _ | _ | j
    · exact absurd (by simp) hij
    · show some (cLo (cs_i zc, va_up (cs_n zc) 1 (cs_n zc 1 + 1), va_up (va_up (cs_I zc) 21 (va_up (cs_I zc 21) (cs_n zc 1) 0)) 22 (va_up (cs_I zc 22) (cs_n zc 1) 0), va_up (cs_L zc) 0 (va_up (cs_L zc 0) (cs_n zc 1) 0), va_up (cs_N zc) 1 (va_up (cs_N zc 1) (cs_n zc 1) 1), cs_S zc, va_up (cs_X zc) 2 (va_up (cs_X zc 2) (cs_n zc 1) r5))) = some (cLo zc); simp [cLo, cs_i, cs_n, cs_I, cs_L, cs_N, cs_S, cs_X, va_up]
    · show some (cA2 cA (cs_i zc, va_up (cs_n zc) 1 (cs_n zc 1 + 1), va_up (va_up (cs_I zc) 21 (va_up (cs_I zc 21) (cs_n zc 1) 0)) 22 (va_up (cs_I zc 22) (cs_n zc 1) 0), va_up (cs_L zc) 0 (va_up (cs_L zc 0) (cs_n zc 1) 0), va_up (cs_N zc) 1 (va_up (cs_N zc 1) (cs_n zc 1) 1), cs_S zc, va_up (cs_X zc) 2 (va_up (cs_X zc 2) (cs_n zc 1) r5))) = some (cA2 cA zc); simp [cA2, cs_i, cs_n, cs_I, cs_L, cs_N, cs_S, cs_X, va_up]
    · show some (cA3 cA (cs_i zc, va_up (cs_n zc) 1 (cs_n zc 1 + 1), va_up (va_up (cs_I zc) 21 (va_up (cs_I zc 21) (cs_n zc 1) 0)) 22 (va_up (cs_I zc 22) (cs_n zc 1) 0), va_up (cs_L zc) 0 (va_up (cs_L zc 0) (cs_n zc 1) 0), va_up (cs_N zc) 1 (va_up (cs_N zc 1) (cs_n zc 1) 1), cs_S zc, va_up (cs_X zc) 2 (va_up (cs_X zc 2) (cs_n zc 1) r5))) = some (cA3 cA zc); simp [cA3, cs_i, cs_n, cs_I, cs_L, cs_N, cs_S, cs_X, va_up]
    · show some (cA4 cA (cs_i zc, va_up (cs_n zc) 1 (cs_n zc 1 + 1), va_up (va_up (cs_I zc) 21 (va_up (cs_I zc 21) (cs_n zc 1) 0)) 22 (va_up (cs_I zc 22) (cs_n zc 1) 0), va_up (cs_L zc) 0 (va_up (cs_L zc 0) (cs_n zc 1) 0), va_up (cs_N zc) 1 (va_up (cs_N zc 1) (cs_n zc 1) 1), cs_S zc, va_up (cs_X zc) 2 (va_up (cs_X zc 2) (cs_n zc 1) r5))) = some (cA4 cA zc); simp [cA4, cs_i, cs_n, cs_I, cs_L, cs_N, cs_S, cs_X, va_up]
    · show some (cA5 cA (cs_i zc, va_up (cs_n zc) 1 (cs_n zc 1 + 1), va_up (va_up (cs_I zc) 21 (va_up (cs_I zc 21) (cs_n zc 1) 0)) 22 (va_up (cs_I zc 22) (cs_n zc 1) 0), va_up (cs_L zc) 0 (va_up (cs_L zc 0) (cs_n zc 1) 0), va_up (cs_N zc) 1 (va_up (cs_N zc 1) (cs_n zc 1) 1), cs_S zc, va_up (cs_X zc) 2 (va_up (cs_X zc 2) (cs_n zc 1) r5))) = some (cA5 cA zc); simp [cA5, cs_i, cs_n, cs_I, cs_L, cs_N, cs_S, cs_X, va_up]
    · show some (cR6 cA (cs_i zc, va_up (cs_n zc) 1 (cs_n zc 1 + 1), va_up (va_up (cs_I zc) 21 (va_up (cs_I zc 21) (cs_n zc 1) 0)) 22 (va_up (cs_I zc 22) (cs_n zc 1) 0), va_up (cs_L zc) 0 (va_up (cs_L zc 0) (cs_n zc 1) 0), va_up (cs_N zc) 1 (va_up (cs_N zc 1) (cs_n zc 1) 1), cs_S zc, va_up (cs_X zc) 2 (va_up (cs_X zc 2) (cs_n zc 1) r5))) = some (cR6 cA zc); simp [cR6, cs_i, cs_n, cs_I, cs_L, cs_N, cs_S, cs_X, va_up]
    · exact absurd (by simp) hij
    · show some (cR8 cA (cs_i zc, va_up (cs_n zc) 1 (cs_n zc 1 + 1), va_up (va_up (cs_I zc) 21 (va_up (cs_I zc 21) (cs_n zc 1) 0)) 22 (va_up (cs_I zc 22) (cs_n zc 1) 0), va_up (cs_L zc) 0 (va_up (cs_L zc 0) (cs_n zc 1) 0), va_up (cs_N zc) 1 (va_up (cs_N zc 1) (cs_n zc 1) 1), cs_S zc, va_up (cs_X zc) 2 (va_up (cs_X zc 2) (cs_n zc 1) r5))) = some (cR8 cA zc); simp [cR8, cs_i, cs_n, cs_I, cs_L, cs_N, cs_S, cs_X, va_up]
    · show some (cR9 cA (cs_i zc, va_up (cs_n zc) 1 (cs_n zc 1 + 1), va_up (va_up (cs_I zc) 21 (va_up (cs_I zc 21) (cs_n zc 1) 0)) 22 (va_up (cs_I zc 22) (cs_n zc 1) 0), va_up (cs_L zc) 0 (va_up (cs_L zc 0) (cs_n zc 1) 0), va_up (cs_N zc) 1 (va_up (cs_N zc 1) (cs_n zc 1) 1), cs_S zc, va_up (cs_X zc) 2 (va_up (cs_X zc 2) (cs_n zc 1) r5))) = some (cR9 cA zc); simp [cR9, cs_i, cs_n, cs_I, cs_L, cs_N, cs_S, cs_X, va_up]
    · show some (cR10 cA (cs_i zc, va_up (cs_n zc) 1 (cs_n zc 1 + 1), va_up (va_up (cs_I zc) 21 (va_up (cs_I zc 21) (cs_n zc 1) 0)) 22 (va_up (cs_I zc 22) (cs_n zc 1) 0), va_up (cs_L zc) 0 (va_up (cs_L zc 0) (cs_n zc 1) 0), va_up (cs_N zc) 1 (va_up (cs_N zc 1) (cs_n zc 1) 1), cs_S zc, va_up (cs_X zc) 2 (va_up (cs_X zc 2) (cs_n zc 1) r5))) = some (cR10 cA zc); simp [cR10, cs_i, cs_n, cs_I, cs_L, cs_N, cs_S, cs_X, va_up]
    · show some (cTr (cs_i zc, va_up (cs_n zc) 1 (cs_n zc 1 + 1), va_up (va_up (cs_I zc) 21 (va_up (cs_I zc 21) (cs_n zc 1) 0)) 22 (va_up (cs_I zc 22) (cs_n zc 1) 0), va_up (cs_L zc) 0 (va_up (cs_L zc 0) (cs_n zc 1) 0), va_up (cs_N zc) 1 (va_up (cs_N zc 1) (cs_n zc 1) 1), cs_S zc, va_up (cs_X zc) 2 (va_up (cs_X zc 2) (cs_n zc 1) r5))) = some (cTr zc); simp [cTr, cs_i, cs_n, cs_I, cs_L, cs_N, cs_S, cs_X, va_up]
    · show (none : Option (Nat × va_E)) = none; rfl
  · show (if j < cs_n (cs_i zc, va_up (cs_n zc) 1 (cs_n zc 1 + 1), va_up (va_up (cs_I zc) 21 (va_up (cs_I zc 21) (cs_n zc 1) 0)) 22 (va_up (cs_I zc 22) (cs_n zc 1) 0), va_up (cs_L zc) 0 (va_up (cs_L zc 0) (cs_n zc 1) 0), va_up (cs_N zc) 1 (va_up (cs_N zc 1) (cs_n zc 1) 1), cs_S zc, va_up (cs_X zc) 2 (va_up (cs_X zc 2) (cs_n zc 1) r5)) 0 then some (cPi (cs_i zc, va_up (cs_n zc) 1 (cs_n zc 1 + 1), va_up (va_up (cs_I zc) 21 (va_up (cs_I zc 21) (cs_n zc 1) 0)) 22 (va_up (cs_I zc 22) (cs_n zc 1) 0), va_up (cs_L zc) 0 (va_up (cs_L zc 0) (cs_n zc 1) 0), va_up (cs_N zc) 1 (va_up (cs_N zc 1) (cs_n zc 1) 1), cs_S zc, va_up (cs_X zc) 2 (va_up (cs_X zc 2) (cs_n zc 1) r5)) j) else none) = if j < cs_n zc 0 then some (cPi zc j) else none
    simp [cPi, cs_i, cs_n, cs_I, cs_L, cs_N, cs_S, cs_X, va_up]
  · have hne : j ≠ cs_n zc 1 := fun q => hij (by rw [q]; simp)
    have e9 : cGa (cs_i zc, va_up (cs_n zc) 1 (cs_n zc 1 + 1), va_up (va_up (cs_I zc) 21 (va_up (cs_I zc 21) (cs_n zc 1) 0)) 22 (va_up (cs_I zc 22) (cs_n zc 1) 0), va_up (cs_L zc) 0 (va_up (cs_L zc 0) (cs_n zc 1) 0), va_up (cs_N zc) 1 (va_up (cs_N zc 1) (cs_n zc 1) 1), cs_S zc, va_up (cs_X zc) 2 (va_up (cs_X zc 2) (cs_n zc 1) r5)) j = cGa zc j := by simp [cGa, cs_i, cs_n, cs_I, cs_L, cs_N, cs_S, cs_X, va_up, hne]
    show (if j < cs_n zc 1 + 1 then some (cGa (cs_i zc, va_up (cs_n zc) 1 (cs_n zc 1 + 1), va_up (va_up (cs_I zc) 21 (va_up (cs_I zc 21) (cs_n zc 1) 0)) 22 (va_up (cs_I zc 22) (cs_n zc 1) 0), va_up (cs_L zc) 0 (va_up (cs_L zc 0) (cs_n zc 1) 0), va_up (cs_N zc) 1 (va_up (cs_N zc 1) (cs_n zc 1) 1), cs_S zc, va_up (cs_X zc) 2 (va_up (cs_X zc 2) (cs_n zc 1) r5)) j) else none) = if j < cs_n zc 1 then some (cGa zc j) else none
    rw [e9]
    by_cases h9 : j < cs_n zc 1
    · rw [if_pos h9, if_pos (Nat.lt_succ_of_lt h9)]
    · rw [if_neg h9, if_neg (by omega)]
  · show (if j < cs_n zc 2 then some (cTa (cs_i zc, va_up (cs_n zc) 1 (cs_n zc 1 + 1), va_up (va_up (cs_I zc) 21 (va_up (cs_I zc 21) (cs_n zc 1) 0)) 22 (va_up (cs_I zc 22) (cs_n zc 1) 0), va_up (cs_L zc) 0 (va_up (cs_L zc 0) (cs_n zc 1) 0), va_up (cs_N zc) 1 (va_up (cs_N zc 1) (cs_n zc 1) 1), cs_S zc, va_up (cs_X zc) 2 (va_up (cs_X zc 2) (cs_n zc 1) r5)) j) else none) = if j < cs_n zc 2 then some (cTa zc j) else none
    by_cases h9 : j < cs_n zc 2
    · rw [if_pos h9, if_pos h9]
      have hne : cs_N zc 2 j ≠ cs_n zc 1 := Nat.ne_of_lt (htk j h9).1
      simp [cTa, cs_i, cs_n, cs_I, cs_L, cs_N, cs_S, cs_X, va_up, hne]
    · rw [if_neg h9, if_neg h9]
  · show (if j < cs_n (cs_i zc, va_up (cs_n zc) 1 (cs_n zc 1 + 1), va_up (va_up (cs_I zc) 21 (va_up (cs_I zc 21) (cs_n zc 1) 0)) 22 (va_up (cs_I zc 22) (cs_n zc 1) 0), va_up (cs_L zc) 0 (va_up (cs_L zc 0) (cs_n zc 1) 0), va_up (cs_N zc) 1 (va_up (cs_N zc 1) (cs_n zc 1) 1), cs_S zc, va_up (cs_X zc) 2 (va_up (cs_X zc 2) (cs_n zc 1) r5)) 3 then some (cPa (cs_i zc, va_up (cs_n zc) 1 (cs_n zc 1 + 1), va_up (va_up (cs_I zc) 21 (va_up (cs_I zc 21) (cs_n zc 1) 0)) 22 (va_up (cs_I zc 22) (cs_n zc 1) 0), va_up (cs_L zc) 0 (va_up (cs_L zc 0) (cs_n zc 1) 0), va_up (cs_N zc) 1 (va_up (cs_N zc 1) (cs_n zc 1) 1), cs_S zc, va_up (cs_X zc) 2 (va_up (cs_X zc 2) (cs_n zc 1) r5)) j) else none) = if j < cs_n zc 3 then some (cPa zc j) else none
    simp [cPa, cs_i, cs_n, cs_I, cs_L, cs_N, cs_S, cs_X, va_up]
  · show (if j = 0 ∧ ¬ cs_n zc 4 = 0 then some (cAu (cs_i zc, va_up (cs_n zc) 1 (cs_n zc 1 + 1), va_up (va_up (cs_I zc) 21 (va_up (cs_I zc 21) (cs_n zc 1) 0)) 22 (va_up (cs_I zc 22) (cs_n zc 1) 0), va_up (cs_L zc) 0 (va_up (cs_L zc 0) (cs_n zc 1) 0), va_up (cs_N zc) 1 (va_up (cs_N zc 1) (cs_n zc 1) 1), cs_S zc, va_up (cs_X zc) 2 (va_up (cs_X zc 2) (cs_n zc 1) r5))) else none) = if j = 0 ∧ ¬ cs_n zc 4 = 0 then some (cAu zc) else none
    by_cases h9 : j = 0 ∧ ¬ cs_n zc 4 = 0
    · rw [if_pos h9, if_pos h9]
      simp [cAu, cs_i, cs_n, cs_I, cs_L, cs_N, cs_S, cs_X, va_up, opN_up hn5]
    · rw [if_neg h9, if_neg h9]
  · show (if j < 4 then some (cSh (cs_i zc, va_up (cs_n zc) 1 (cs_n zc 1 + 1), va_up (va_up (cs_I zc) 21 (va_up (cs_I zc 21) (cs_n zc 1) 0)) 22 (va_up (cs_I zc 22) (cs_n zc 1) 0), va_up (cs_L zc) 0 (va_up (cs_L zc 0) (cs_n zc 1) 0), va_up (cs_N zc) 1 (va_up (cs_N zc 1) (cs_n zc 1) 1), cs_S zc, va_up (cs_X zc) 2 (va_up (cs_X zc 2) (cs_n zc 1) r5)) j) else none) = if j < 4 then some (cSh zc j) else none
    simp [cSh, cs_i, cs_n, cs_I, cs_L, cs_N, cs_S, cs_X, va_up]
  · show (if j < 4 then some (cSc cA (cs_i zc, va_up (cs_n zc) 1 (cs_n zc 1 + 1), va_up (va_up (cs_I zc) 21 (va_up (cs_I zc 21) (cs_n zc 1) 0)) 22 (va_up (cs_I zc 22) (cs_n zc 1) 0), va_up (cs_L zc) 0 (va_up (cs_L zc 0) (cs_n zc 1) 0), va_up (cs_N zc) 1 (va_up (cs_N zc 1) (cs_n zc 1) 1), cs_S zc, va_up (cs_X zc) 2 (va_up (cs_X zc 2) (cs_n zc 1) r5)) j) else none) = if j < 4 then some (cSc cA zc j) else none
    simp [cSc, cs_i, cs_n, cs_I, cs_L, cs_N, cs_S, cs_X, va_up]
  · show (none : Option (Nat × va_E)) = none; rfl
set_option maxHeartbeats 4000000 in
theorem lf_gang_2 (cA : Nat → ClassId) (zc : CS) (r6 : Nat) (c2 : 0 ≤ (2 : Int32) ∧ (2 : Int32) ≤ 2) (c3 : (nI (cs_n zc 1)) < 8) (hg8 : cs_n zc 1 < 8) (hI : invC zc) : invC (cs_i zc, va_up (cs_n zc) 1 (cs_n zc 1 + 1), va_up (va_up (cs_I zc) 21 (va_up (cs_I zc 21) (cs_n zc 1) 0)) 22 (va_up (cs_I zc 22) (cs_n zc 1) 0), va_up (cs_L zc) 0 (va_up (cs_L zc 0) (cs_n zc 1) 0), va_up (cs_N zc) 1 (va_up (cs_N zc 1) (cs_n zc 1) 4), cs_S zc, va_up (cs_X zc) 2 (va_up (cs_X zc 2) (cs_n zc 1) r6)) ∧ kAll (cF cA (cs_i zc, va_up (cs_n zc) 1 (cs_n zc 1 + 1), va_up (va_up (cs_I zc) 21 (va_up (cs_I zc 21) (cs_n zc 1) 0)) 22 (va_up (cs_I zc 22) (cs_n zc 1) 0), va_up (cs_L zc) 0 (va_up (cs_L zc 0) (cs_n zc 1) 0), va_up (cs_N zc) 1 (va_up (cs_N zc 1) (cs_n zc 1) 4), cs_S zc, va_up (cs_X zc) 2 (va_up (cs_X zc 2) (cs_n zc 1) r6))) [(0, 0), (0, 7), (2, cs_n zc 1)] [(cs_X zc 0 0, .inr (10, [.ref (cs_X zc 0 1), .ref (cs_X zc 0 6), .ref (cs_X zc 0 7), .ref (cs_X zc 0 8), .ref (cs_X zc 0 9), .ref (cs_X zc 0 10), .ref (cs_X zc 0 11), .int (nI (cs_n zc 0)), .int (nI (cs_n zc 1 + 1)), .int (nI (cs_n zc 2)), .int (nI (cs_n zc 3)), va_rf (opN (cs_n zc 4) (fun _ => cs_X zc 5 0)), .int (cs_i zc 2)])), (cs_X zc 0 7, .inl (cA 2, 8, .inr (.inr (.inr (.inr (va_up (rfN (cs_n zc 1) (cs_X zc 2)) (nI (cs_n zc 1)).toNatClampNeg (some r6))))))), (r6, .inr (4, [.int (nI (cs_n zc 1)), .int 0, .int 0, .long 0]))] ∧ ∀ i j, (i, j) ∉ ([(0, 0), (0, 7), (2, cs_n zc 1)] : List (Nat × Nat)) → cF cA (cs_i zc, va_up (cs_n zc) 1 (cs_n zc 1 + 1), va_up (va_up (cs_I zc) 21 (va_up (cs_I zc 21) (cs_n zc 1) 0)) 22 (va_up (cs_I zc 22) (cs_n zc 1) 0), va_up (cs_L zc) 0 (va_up (cs_L zc 0) (cs_n zc 1) 0), va_up (cs_N zc) 1 (va_up (cs_N zc 1) (cs_n zc 1) 4), cs_S zc, va_up (cs_X zc) 2 (va_up (cs_X zc 2) (cs_n zc 1) r6)) i j = none ∨ ((i, j) ∉ ([(0, 0), (0, 7)] : List (Nat × Nat)) ∧ cF cA (cs_i zc, va_up (cs_n zc) 1 (cs_n zc 1 + 1), va_up (va_up (cs_I zc) 21 (va_up (cs_I zc 21) (cs_n zc 1) 0)) 22 (va_up (cs_I zc 22) (cs_n zc 1) 0), va_up (cs_L zc) 0 (va_up (cs_L zc 0) (cs_n zc 1) 0), va_up (cs_N zc) 1 (va_up (cs_N zc 1) (cs_n zc 1) 4), cs_S zc, va_up (cs_X zc) 2 (va_up (cs_X zc 2) (cs_n zc 1) r6)) i j = cF cA zc i j) := by
  obtain ⟨⟨hn0, hn1, hn2, hn3, hn4, hn5⟩, hpi, hgk, htk, hpk, hsh⟩ := id hI
  refine ⟨(by refine ⟨⟨hn0, (show cs_n zc 1 + 1 ≤ 8 by omega), hn2, hn3, hn4, (show cs_n zc 5 ≤ cs_n zc 1 + 1 by omega)⟩, hpi, (fun g hg => ?_), (fun t ht => ⟨Nat.lt_succ_of_lt (htk t ht).1, (htk t ht).2⟩), hpk, hsh⟩; have hg : g < cs_n zc 1 + 1 := hg; show va_up (cs_N zc 1) (cs_n zc 1) 4 g = 1 ∨ va_up (cs_N zc 1) (cs_n zc 1) 4 g = 2 ∨ va_up (cs_N zc 1) (cs_n zc 1) 4 g = 4; by_cases h9 : g = cs_n zc 1; (rw [h9, va_up_self]; decide); (rw [va_up_ne _ _ h9]; exact hgk g (by omega))), ⟨(by (rw [(kF_tp (cA := cA) (z := (cs_i zc, va_up (cs_n zc) 1 (cs_n zc 1 + 1), va_up (va_up (cs_I zc) 21 (va_up (cs_I zc 21) (cs_n zc 1) 0)) 22 (va_up (cs_I zc 22) (cs_n zc 1) 0), va_up (cs_L zc) 0 (va_up (cs_L zc 0) (cs_n zc 1) 0), va_up (cs_N zc) 1 (va_up (cs_N zc 1) (cs_n zc 1) 4), cs_S zc, va_up (cs_X zc) 2 (va_up (cs_X zc 2) (cs_n zc 1) r6))))]) <;> simp [cTP, cTPN, cTPA, cLo, cA2, cA3, cA4, cA5, cR6, cR7, cR8, cR9, cR10, cTr, cPi, cPiN, cPiT, cGa, cGaK, cTa, cPa, cAu, cAuN, cAuB, cSh, cSc, cs_i, cs_n, cs_I, cs_L, cs_N, cs_S, cs_X, va_up, upd, opN]), (by rw [(kF_r7 (cA := cA) (z := (cs_i zc, va_up (cs_n zc) 1 (cs_n zc 1 + 1), va_up (va_up (cs_I zc) 21 (va_up (cs_I zc 21) (cs_n zc 1) 0)) 22 (va_up (cs_I zc 22) (cs_n zc 1) 0), va_up (cs_L zc) 0 (va_up (cs_L zc 0) (cs_n zc 1) 0), va_up (cs_N zc) 1 (va_up (cs_N zc 1) (cs_n zc 1) 4), cs_S zc, va_up (cs_X zc) 2 (va_up (cs_X zc 2) (cs_n zc 1) r6))))]; simp only [cR6, cR7, cR8, cR9]; rw [nI_clamp (by omega), rfN_up]; simp [cs_n, cs_X, va_up]), (by (rw [(kF_gaK (z := (cs_i zc, va_up (cs_n zc) 1 (cs_n zc 1 + 1), va_up (va_up (cs_I zc) 21 (va_up (cs_I zc 21) (cs_n zc 1) 0)) 22 (va_up (cs_I zc 22) (cs_n zc 1) 0), va_up (cs_L zc) 0 (va_up (cs_L zc 0) (cs_n zc 1) 0), va_up (cs_N zc) 1 (va_up (cs_N zc 1) (cs_n zc 1) 4), cs_S zc, va_up (cs_X zc) 2 (va_up (cs_X zc 2) (cs_n zc 1) r6))) (k := 4) (show cs_n zc 1 < cs_n zc 1 + 1 from Nat.lt_succ_self _) (by simp [cs_N, cs_n, va_up]))]) <;> simp [cTP, cTPN, cTPA, cLo, cA2, cA3, cA4, cA5, cR6, cR7, cR8, cR9, cR10, cTr, cPi, cPiN, cPiT, cGa, cGaK, cTa, cPa, cAu, cAuN, cAuB, cSh, cSc, cs_i, cs_n, cs_I, cs_L, cs_N, cs_S, cs_X, va_up, upd, opN]), trivial⟩, ?_⟩
  intro i j hij
  have hij0 : (i, j) ∉ ([(0, 0), (0, 7)] : List (Nat × Nat)) := by
    intro q
    simp only [List.mem_cons, Prod.mk.injEq, List.not_mem_nil, or_false] at q
    rcases q with ⟨rfl, rfl⟩ | ⟨rfl, rfl⟩
    · exact hij (by simp)
    · exact hij (by simp)
  refine Or.inr ⟨hij0, ?_⟩
  rcases i with _ | _ | _ | _ | _ | _ | _ | _ | i
  · rcases j with _ | _ | _ | _ | _ | _ | _ | _ | _ | _ | _ | _ | j
    · exact absurd (by simp) hij
    · show some (cLo (cs_i zc, va_up (cs_n zc) 1 (cs_n zc 1 + 1), va_up (va_up (cs_I zc) 21 (va_up (cs_I zc 21) (cs_n zc 1) 0)) 22 (va_up (cs_I zc 22) (cs_n zc 1) 0), va_up (cs_L zc) 0 (va_up (cs_L zc 0) (cs_n zc 1) 0), va_up (cs_N zc) 1 (va_up (cs_N zc 1) (cs_n zc 1) 4), cs_S zc, va_up (cs_X zc) 2 (va_up (cs_X zc 2) (cs_n zc 1) r6))) = some (cLo zc); simp [cLo, cs_i, cs_n, cs_I, cs_L, cs_N, cs_S, cs_X, va_up]
    · show some (cA2 cA (cs_i zc, va_up (cs_n zc) 1 (cs_n zc 1 + 1), va_up (va_up (cs_I zc) 21 (va_up (cs_I zc 21) (cs_n zc 1) 0)) 22 (va_up (cs_I zc 22) (cs_n zc 1) 0), va_up (cs_L zc) 0 (va_up (cs_L zc 0) (cs_n zc 1) 0), va_up (cs_N zc) 1 (va_up (cs_N zc 1) (cs_n zc 1) 4), cs_S zc, va_up (cs_X zc) 2 (va_up (cs_X zc 2) (cs_n zc 1) r6))) = some (cA2 cA zc); simp [cA2, cs_i, cs_n, cs_I, cs_L, cs_N, cs_S, cs_X, va_up]
    · show some (cA3 cA (cs_i zc, va_up (cs_n zc) 1 (cs_n zc 1 + 1), va_up (va_up (cs_I zc) 21 (va_up (cs_I zc 21) (cs_n zc 1) 0)) 22 (va_up (cs_I zc 22) (cs_n zc 1) 0), va_up (cs_L zc) 0 (va_up (cs_L zc 0) (cs_n zc 1) 0), va_up (cs_N zc) 1 (va_up (cs_N zc 1) (cs_n zc 1) 4), cs_S zc, va_up (cs_X zc) 2 (va_up (cs_X zc 2) (cs_n zc 1) r6))) = some (cA3 cA zc); simp [cA3, cs_i, cs_n, cs_I, cs_L, cs_N, cs_S, cs_X, va_up]
    · show some (cA4 cA (cs_i zc, va_up (cs_n zc) 1 (cs_n zc 1 + 1), va_up (va_up (cs_I zc) 21 (va_up (cs_I zc 21) (cs_n zc 1) 0)) 22 (va_up (cs_I zc 22) (cs_n zc 1) 0), va_up (cs_L zc) 0 (va_up (cs_L zc 0) (cs_n zc 1) 0), va_up (cs_N zc) 1 (va_up (cs_N zc 1) (cs_n zc 1) 4), cs_S zc, va_up (cs_X zc) 2 (va_up (cs_X zc 2) (cs_n zc 1) r6))) = some (cA4 cA zc); simp [cA4, cs_i, cs_n, cs_I, cs_L, cs_N, cs_S, cs_X, va_up]
    · show some (cA5 cA (cs_i zc, va_up (cs_n zc) 1 (cs_n zc 1 + 1), va_up (va_up (cs_I zc) 21 (va_up (cs_I zc 21) (cs_n zc 1) 0)) 22 (va_up (cs_I zc 22) (cs_n zc 1) 0), va_up (cs_L zc) 0 (va_up (cs_L zc 0) (cs_n zc 1) 0), va_up (cs_N zc) 1 (va_up (cs_N zc 1) (cs_n zc 1) 4), cs_S zc, va_up (cs_X zc) 2 (va_up (cs_X zc 2) (cs_n zc 1) r6))) = some (cA5 cA zc); simp [cA5, cs_i, cs_n, cs_I, cs_L, cs_N, cs_S, cs_X, va_up]
    · show some (cR6 cA (cs_i zc, va_up (cs_n zc) 1 (cs_n zc 1 + 1), va_up (va_up (cs_I zc) 21 (va_up (cs_I zc 21) (cs_n zc 1) 0)) 22 (va_up (cs_I zc 22) (cs_n zc 1) 0), va_up (cs_L zc) 0 (va_up (cs_L zc 0) (cs_n zc 1) 0), va_up (cs_N zc) 1 (va_up (cs_N zc 1) (cs_n zc 1) 4), cs_S zc, va_up (cs_X zc) 2 (va_up (cs_X zc 2) (cs_n zc 1) r6))) = some (cR6 cA zc); simp [cR6, cs_i, cs_n, cs_I, cs_L, cs_N, cs_S, cs_X, va_up]
    · exact absurd (by simp) hij
    · show some (cR8 cA (cs_i zc, va_up (cs_n zc) 1 (cs_n zc 1 + 1), va_up (va_up (cs_I zc) 21 (va_up (cs_I zc 21) (cs_n zc 1) 0)) 22 (va_up (cs_I zc 22) (cs_n zc 1) 0), va_up (cs_L zc) 0 (va_up (cs_L zc 0) (cs_n zc 1) 0), va_up (cs_N zc) 1 (va_up (cs_N zc 1) (cs_n zc 1) 4), cs_S zc, va_up (cs_X zc) 2 (va_up (cs_X zc 2) (cs_n zc 1) r6))) = some (cR8 cA zc); simp [cR8, cs_i, cs_n, cs_I, cs_L, cs_N, cs_S, cs_X, va_up]
    · show some (cR9 cA (cs_i zc, va_up (cs_n zc) 1 (cs_n zc 1 + 1), va_up (va_up (cs_I zc) 21 (va_up (cs_I zc 21) (cs_n zc 1) 0)) 22 (va_up (cs_I zc 22) (cs_n zc 1) 0), va_up (cs_L zc) 0 (va_up (cs_L zc 0) (cs_n zc 1) 0), va_up (cs_N zc) 1 (va_up (cs_N zc 1) (cs_n zc 1) 4), cs_S zc, va_up (cs_X zc) 2 (va_up (cs_X zc 2) (cs_n zc 1) r6))) = some (cR9 cA zc); simp [cR9, cs_i, cs_n, cs_I, cs_L, cs_N, cs_S, cs_X, va_up]
    · show some (cR10 cA (cs_i zc, va_up (cs_n zc) 1 (cs_n zc 1 + 1), va_up (va_up (cs_I zc) 21 (va_up (cs_I zc 21) (cs_n zc 1) 0)) 22 (va_up (cs_I zc 22) (cs_n zc 1) 0), va_up (cs_L zc) 0 (va_up (cs_L zc 0) (cs_n zc 1) 0), va_up (cs_N zc) 1 (va_up (cs_N zc 1) (cs_n zc 1) 4), cs_S zc, va_up (cs_X zc) 2 (va_up (cs_X zc 2) (cs_n zc 1) r6))) = some (cR10 cA zc); simp [cR10, cs_i, cs_n, cs_I, cs_L, cs_N, cs_S, cs_X, va_up]
    · show some (cTr (cs_i zc, va_up (cs_n zc) 1 (cs_n zc 1 + 1), va_up (va_up (cs_I zc) 21 (va_up (cs_I zc 21) (cs_n zc 1) 0)) 22 (va_up (cs_I zc 22) (cs_n zc 1) 0), va_up (cs_L zc) 0 (va_up (cs_L zc 0) (cs_n zc 1) 0), va_up (cs_N zc) 1 (va_up (cs_N zc 1) (cs_n zc 1) 4), cs_S zc, va_up (cs_X zc) 2 (va_up (cs_X zc 2) (cs_n zc 1) r6))) = some (cTr zc); simp [cTr, cs_i, cs_n, cs_I, cs_L, cs_N, cs_S, cs_X, va_up]
    · show (none : Option (Nat × va_E)) = none; rfl
  · show (if j < cs_n (cs_i zc, va_up (cs_n zc) 1 (cs_n zc 1 + 1), va_up (va_up (cs_I zc) 21 (va_up (cs_I zc 21) (cs_n zc 1) 0)) 22 (va_up (cs_I zc 22) (cs_n zc 1) 0), va_up (cs_L zc) 0 (va_up (cs_L zc 0) (cs_n zc 1) 0), va_up (cs_N zc) 1 (va_up (cs_N zc 1) (cs_n zc 1) 4), cs_S zc, va_up (cs_X zc) 2 (va_up (cs_X zc 2) (cs_n zc 1) r6)) 0 then some (cPi (cs_i zc, va_up (cs_n zc) 1 (cs_n zc 1 + 1), va_up (va_up (cs_I zc) 21 (va_up (cs_I zc 21) (cs_n zc 1) 0)) 22 (va_up (cs_I zc 22) (cs_n zc 1) 0), va_up (cs_L zc) 0 (va_up (cs_L zc 0) (cs_n zc 1) 0), va_up (cs_N zc) 1 (va_up (cs_N zc 1) (cs_n zc 1) 4), cs_S zc, va_up (cs_X zc) 2 (va_up (cs_X zc 2) (cs_n zc 1) r6)) j) else none) = if j < cs_n zc 0 then some (cPi zc j) else none
    simp [cPi, cs_i, cs_n, cs_I, cs_L, cs_N, cs_S, cs_X, va_up]
  · have hne : j ≠ cs_n zc 1 := fun q => hij (by rw [q]; simp)
    have e9 : cGa (cs_i zc, va_up (cs_n zc) 1 (cs_n zc 1 + 1), va_up (va_up (cs_I zc) 21 (va_up (cs_I zc 21) (cs_n zc 1) 0)) 22 (va_up (cs_I zc 22) (cs_n zc 1) 0), va_up (cs_L zc) 0 (va_up (cs_L zc 0) (cs_n zc 1) 0), va_up (cs_N zc) 1 (va_up (cs_N zc 1) (cs_n zc 1) 4), cs_S zc, va_up (cs_X zc) 2 (va_up (cs_X zc 2) (cs_n zc 1) r6)) j = cGa zc j := by simp [cGa, cs_i, cs_n, cs_I, cs_L, cs_N, cs_S, cs_X, va_up, hne]
    show (if j < cs_n zc 1 + 1 then some (cGa (cs_i zc, va_up (cs_n zc) 1 (cs_n zc 1 + 1), va_up (va_up (cs_I zc) 21 (va_up (cs_I zc 21) (cs_n zc 1) 0)) 22 (va_up (cs_I zc 22) (cs_n zc 1) 0), va_up (cs_L zc) 0 (va_up (cs_L zc 0) (cs_n zc 1) 0), va_up (cs_N zc) 1 (va_up (cs_N zc 1) (cs_n zc 1) 4), cs_S zc, va_up (cs_X zc) 2 (va_up (cs_X zc 2) (cs_n zc 1) r6)) j) else none) = if j < cs_n zc 1 then some (cGa zc j) else none
    rw [e9]
    by_cases h9 : j < cs_n zc 1
    · rw [if_pos h9, if_pos (Nat.lt_succ_of_lt h9)]
    · rw [if_neg h9, if_neg (by omega)]
  · show (if j < cs_n zc 2 then some (cTa (cs_i zc, va_up (cs_n zc) 1 (cs_n zc 1 + 1), va_up (va_up (cs_I zc) 21 (va_up (cs_I zc 21) (cs_n zc 1) 0)) 22 (va_up (cs_I zc 22) (cs_n zc 1) 0), va_up (cs_L zc) 0 (va_up (cs_L zc 0) (cs_n zc 1) 0), va_up (cs_N zc) 1 (va_up (cs_N zc 1) (cs_n zc 1) 4), cs_S zc, va_up (cs_X zc) 2 (va_up (cs_X zc 2) (cs_n zc 1) r6)) j) else none) = if j < cs_n zc 2 then some (cTa zc j) else none
    by_cases h9 : j < cs_n zc 2
    · rw [if_pos h9, if_pos h9]
      have hne : cs_N zc 2 j ≠ cs_n zc 1 := Nat.ne_of_lt (htk j h9).1
      simp [cTa, cs_i, cs_n, cs_I, cs_L, cs_N, cs_S, cs_X, va_up, hne]
    · rw [if_neg h9, if_neg h9]
  · show (if j < cs_n (cs_i zc, va_up (cs_n zc) 1 (cs_n zc 1 + 1), va_up (va_up (cs_I zc) 21 (va_up (cs_I zc 21) (cs_n zc 1) 0)) 22 (va_up (cs_I zc 22) (cs_n zc 1) 0), va_up (cs_L zc) 0 (va_up (cs_L zc 0) (cs_n zc 1) 0), va_up (cs_N zc) 1 (va_up (cs_N zc 1) (cs_n zc 1) 4), cs_S zc, va_up (cs_X zc) 2 (va_up (cs_X zc 2) (cs_n zc 1) r6)) 3 then some (cPa (cs_i zc, va_up (cs_n zc) 1 (cs_n zc 1 + 1), va_up (va_up (cs_I zc) 21 (va_up (cs_I zc 21) (cs_n zc 1) 0)) 22 (va_up (cs_I zc 22) (cs_n zc 1) 0), va_up (cs_L zc) 0 (va_up (cs_L zc 0) (cs_n zc 1) 0), va_up (cs_N zc) 1 (va_up (cs_N zc 1) (cs_n zc 1) 4), cs_S zc, va_up (cs_X zc) 2 (va_up (cs_X zc 2) (cs_n zc 1) r6)) j) else none) = if j < cs_n zc 3 then some (cPa zc j) else none
    simp [cPa, cs_i, cs_n, cs_I, cs_L, cs_N, cs_S, cs_X, va_up]
  · show (if j = 0 ∧ ¬ cs_n zc 4 = 0 then some (cAu (cs_i zc, va_up (cs_n zc) 1 (cs_n zc 1 + 1), va_up (va_up (cs_I zc) 21 (va_up (cs_I zc 21) (cs_n zc 1) 0)) 22 (va_up (cs_I zc 22) (cs_n zc 1) 0), va_up (cs_L zc) 0 (va_up (cs_L zc 0) (cs_n zc 1) 0), va_up (cs_N zc) 1 (va_up (cs_N zc 1) (cs_n zc 1) 4), cs_S zc, va_up (cs_X zc) 2 (va_up (cs_X zc 2) (cs_n zc 1) r6))) else none) = if j = 0 ∧ ¬ cs_n zc 4 = 0 then some (cAu zc) else none
    by_cases h9 : j = 0 ∧ ¬ cs_n zc 4 = 0
    · rw [if_pos h9, if_pos h9]
      simp [cAu, cs_i, cs_n, cs_I, cs_L, cs_N, cs_S, cs_X, va_up, opN_up hn5]
    · rw [if_neg h9, if_neg h9]
  · show (if j < 4 then some (cSh (cs_i zc, va_up (cs_n zc) 1 (cs_n zc 1 + 1), va_up (va_up (cs_I zc) 21 (va_up (cs_I zc 21) (cs_n zc 1) 0)) 22 (va_up (cs_I zc 22) (cs_n zc 1) 0), va_up (cs_L zc) 0 (va_up (cs_L zc 0) (cs_n zc 1) 0), va_up (cs_N zc) 1 (va_up (cs_N zc 1) (cs_n zc 1) 4), cs_S zc, va_up (cs_X zc) 2 (va_up (cs_X zc 2) (cs_n zc 1) r6)) j) else none) = if j < 4 then some (cSh zc j) else none
    simp [cSh, cs_i, cs_n, cs_I, cs_L, cs_N, cs_S, cs_X, va_up]
  · show (if j < 4 then some (cSc cA (cs_i zc, va_up (cs_n zc) 1 (cs_n zc 1 + 1), va_up (va_up (cs_I zc) 21 (va_up (cs_I zc 21) (cs_n zc 1) 0)) 22 (va_up (cs_I zc 22) (cs_n zc 1) 0), va_up (cs_L zc) 0 (va_up (cs_L zc 0) (cs_n zc 1) 0), va_up (cs_N zc) 1 (va_up (cs_N zc 1) (cs_n zc 1) 4), cs_S zc, va_up (cs_X zc) 2 (va_up (cs_X zc 2) (cs_n zc 1) r6)) j) else none) = if j < 4 then some (cSc cA zc j) else none
    simp [cSc, cs_i, cs_n, cs_I, cs_L, cs_N, cs_S, cs_X, va_up]
  · show (none : Option (Nat × va_E)) = none; rfl
set_option maxHeartbeats 4000000 in
set_option maxRecDepth 100000 in
theorem K_gang (l : Launch) (dC : Nat → ClassId) (dI : Nat → Nat → Nat) (cA : Nat → ClassId) (sz : Nat) (zc : CS) (k : Int32) (hI : invC zc) : Met l yX10_gang wsX10_gang ({ frames := 5, cells := 1, slots := 4, locals := 160 }) (kw (dC, dI) (ctys cA) (cF cA zc) sz [.ref (cs_X zc 0 0), .int k]) (kQi (dC, dI) (ctys cA) (cF cA zc) sz (cF cA) (fun r u => (invC u ∧ cs_X u 0 0 = cs_X zc 0 0) ∧ pC_gang zc k r u)) 1 4 (kA (cF cA zc) sz) := by
  refine kw_met (cc := cX10_gang) (maxL := 2) (ret := (some .int)) (by decide) rfl (Nat.le_of_ble_eq_true rfl) ?_
  intro p e s m below meth c0 hx hb hr hml hown hlocks hnm hts hPk hKk hDk hN hsz ls hl
  subst hsz
  have hK : va_K (dC, dI) vwCl [(cA 0, .int), (cA 1, .object RX6), (cA 2, .object RX2), (cA 3, .object RX8), (cA 4, .object RX5), (cA 5, .object RX7)] s := hKk
  obtain ⟨⟨hn0, hn1, hn2, hn3, hn4, hn5⟩, hpi, hgk, htk, hpk, hsh⟩ := id hI
  have hl : lv_has ls 2 [(0, .ref (cs_X zc 0 0)), (1, .int k)] := hl
  have hiX10 : ∀ w ∈ wsX100, w ∈ wsX10_gang := fun _ h => List.mem_cons_of_mem _ (List.mem_append_left _ (List.mem_append_left _ (List.mem_append_left _ (List.mem_append_right _ (h)))))
  generalize hQ : MQ _ _ _ _ _ _ _ = Q
  have hks : kAll (cF cA zc) [(0, 0), (0, 7)] [cTP zc, cR7 cA zc] := ⟨(kF_tp (cA := cA) (z := zc)), (kF_r7 (cA := cA) (z := zc)), trivial⟩
  have hP : va_P (dC, dI) vwCl [cTP zc, cR7 cA zc] s.heap := kAll_P hPk hks
  have hD : va_D (va_A [cTP zc, cR7 cA zc] s.heap.size) [cTP zc, cR7 cA zc] := (kAll_D hDk hks (by simp)).self
  have hA : ∀ q : Nat, s.heap.size ≤ q → va_A [cTP zc, cR7 cA zc] s.heap.size q := fun q h => Or.inr h
  have hS : va_S (va_A [cTP zc, cR7 cA zc] s.heap.size) s.heap s.heap [] := va_S.rf
  refine lv_iload_n hx hb dX10_gang_0 rfl (lv_at hl 1 rfl) ?_
  refine lv_iconst (v := 0) hx hb dX10_gang_1 (by decide) ?_
  refine lv_iconst (v := 2) hx hb dX10_gang_2 (by decide) ?_
  refine vp_callSi (va_Run.run (va_runS (As := [.int k, .int 0, .int 2]) (rest := []) ⟨hx, hb, hml, hown, hts⟩ (c_X10_isWithin l k 0 2 ) (va_cwS 3 hts gX10_gang_X10_isWithin rfl rfl rfl (by decide +kernel) ⟨Nat.le_of_ble_eq_true rfl, Nat.le_of_ble_eq_true rfl⟩) (p0_preS hN) rfl rfl hl.1 rfl (lv_room (Nat.le_of_ble_eq_true rfl)) dX10_gang_3 ⟨Nat.le_of_ble_eq_true rfl, Nat.le_of_ble_eq_true rfl⟩)) (fun r1 hr1 => ?_)
  have hr1 : r1 = if 0 ≤ k ∧ k ≤ 2 then 1 else 0 := hr1
  refine lv_if_ne (tgt := 12) hx hb dX10_gang_6 (by decide) (fun c2 => ?_) (fun c2 => ?_)
  · skip
    have c2 := (fa_bool_prop hr1).2.mp c2
    refine lv_aload_n hx hb dX10_gang_12 rfl (lv_at hl 0 rfl) ?_
    refine va_get (D := (dC, dI)) (ci := 10) (v := .int (nI (cs_n zc 1))) (C := RX10) (T := TX10) (N := 13) hx hb hts hiX10 hown hK hP 0 rfl rfl 8 (by decide) (hts (.fieldLink RX10 143 "TributePitches" "gangCount" "I") (List.mem_of_getElem? (i := 1) rfl)) (fun _ h9 => h9) rfl dX10_gang_13 ?_
    refine lv_bipush (v := 8) hx hb dX10_gang_16 (by decide) ?_
    refine lv_icmp_lt (tgt := 24) hx hb dX10_gang_18 (by decide) (fun c3 => ?_) (fun c3 => ?_)
    · skip
      have hg8 : cs_n zc 1 < 8 := nI_lt_of (b := 8) (by omega) (by omega) c3
      refine lv_aload_n hx hb dX10_gang_24 rfl (lv_at hl 0 rfl) ?_
      refine va_get (D := (dC, dI)) (ci := 10) (v := .ref (cs_X zc 0 7)) (C := RX10) (T := TX10) (N := 13) hx hb hts hiX10 hown hK hP 0 rfl rfl 2 (by decide) (hts (.fieldLink RX10 26 "TributePitches" "gangs" "[LTributePitches$Gang;") (List.mem_of_getElem? (i := 2) rfl)) (fun _ h9 => h9) rfl dX10_gang_25 ?_
      refine lv_aload_n hx hb dX10_gang_28 rfl (lv_at hl 0 rfl) ?_
      refine va_get (D := (dC, dI)) (ci := 10) (v := .int (nI (cs_n zc 1))) (C := RX10) (T := TX10) (N := 13) hx hb hts hiX10 hown hK hP 0 rfl rfl 8 (by decide) (hts (.fieldLink RX10 143 "TributePitches" "gangCount" "I") (List.mem_of_getElem? (i := 1) rfl)) (fun _ h9 => h9) rfl dX10_gang_29 ?_
      refine lv_iload_n hx hb dX10_gang_32 rfl (lv_at hl 1 rfl) ?_
      refine lv_aload_n hx hb dX10_gang_33 rfl (lv_at hl 0 rfl) ?_
      refine va_get (D := (dC, dI)) (ci := 10) (v := .int (nI (cs_n zc 1))) (C := RX10) (T := TX10) (N := 13) hx hb hts hiX10 hown hK hP 0 rfl rfl 8 (by decide) (hts (.fieldLink RX10 143 "TributePitches" "gangCount" "I") (List.mem_of_getElem? (i := 1) rfl)) (fun _ h9 => h9) rfl dX10_gang_34 ?_
      rcases k012 c2 with rfl | rfl | rfl
      · skip
        have hPc := hP.sub (ws' := []) [] rfl
        have hDc := hD.sub (ws' := []) [] (by decide) rfl
        have hKc := hK.sub (tys' := []) [] rfl
        have hFc := va_free (wc := []) hD hS hA [] rfl
        refine va_callr (va_runS (As := [.int 0, .int (nI (cs_n zc 1))]) (rest := [.int (nI (cs_n zc 1)), .ref (cs_X zc 0 7)]) ⟨hx, hb, hml, hown, hts⟩ (s_newGang_2 l dC dI  _ (nI (cs_n zc 1)) ) (va_cwS 2 hts gX10_gang_X10_newGang rfl rfl rfl (by decide +kernel) ⟨Nat.le_of_ble_eq_true rfl, Nat.le_of_ble_eq_true rfl⟩) (pw_preS hPc hKc hDc hN) rfl rfl hl.1 rfl (lv_room (Nat.le_of_ble_eq_true rfl)) dX10_gang_37 ⟨Nat.le_of_ble_eq_true rfl, Nat.le_of_ble_eq_true rfl⟩) hS (fun q _ h => hFc q h) hFc (fun u r4 t H1 locs ht hvm hw hB hz1 hk1 hS => ?_)
        obtain ⟨hP1, hK1, hD1⟩ := hB
        rw [ht] at hP1
        obtain ⟨hP, hD⟩ := va_join (wr := [cTP zc, cR7 cA zc]) (w1 := [(r4, .inr (2, [.int (nI (cs_n zc 1)), .int 0, .int 0, .long 0]))]) hP hD [] [0, 1] rfl rfl (by decide) (by decide) hk1 hFc hP1 hD1
        generalize H1 = H at hP hS ⊢
        have hP : va_P (dC, dI) vwCl [cTP zc, cR7 cA zc, (r4, .inr (2, [.int (nI (cs_n zc 1)), .int 0, .int 0, .long 0]))] H := hP
        have hD : va_D _ [cTP zc, cR7 cA zc, (r4, .inr (2, [.int (nI (cs_n zc 1)), .int 0, .int 0, .long 0]))] := hD
        refine va_astq (r := (RX2, TX2, 4)) hx hb hK hP hD hS 1 2 2 2 rfl rfl rfl rfl (vp_in_nI (by omega) (by omega)) dX10_gang_40 (fun H locs hP hD hS => ?_)
        have hP : va_P (dC, dI) vwCl [cTP zc, (cs_X zc 0 7, .inl (cA 2, 8, .inr (.inr (.inr (.inr (va_up (rfN (cs_n zc 1) (cs_X zc 2)) (nI (cs_n zc 1)).toNatClampNeg (some r4))))))), (r4, .inr (2, [.int (nI (cs_n zc 1)), .int 0, .int 0, .long 0]))] H := hP
        have hD : va_D _ [cTP zc, (cs_X zc 0 7, .inl (cA 2, 8, .inr (.inr (.inr (.inr (va_up (rfN (cs_n zc 1) (cs_X zc 2)) (nI (cs_n zc 1)).toNatClampNeg (some r4))))))), (r4, .inr (2, [.int (nI (cs_n zc 1)), .int 0, .int 0, .long 0]))] := hD
        refine lv_aload_n hx hb dX10_gang_41 rfl (lv_at hl 0 rfl) ?_
        refine lv_dup hx hb dX10_gang_42 rfl ?_
        refine va_get (D := (dC, dI)) (ci := 10) (v := .int (nI (cs_n zc 1))) (C := RX10) (T := TX10) (N := 13) hx hb hts hiX10 hown hK hP 0 rfl rfl 8 (by decide) (hts (.fieldLink RX10 143 "TributePitches" "gangCount" "I") (List.mem_of_getElem? (i := 1) rfl)) (fun _ h9 => h9) rfl dX10_gang_43 ?_
        refine lv_dup_x1 hx hb dX10_gang_46 rfl rfl ?_
        refine lv_iconst (v := 1) hx hb dX10_gang_47 (by decide) ?_
        refine lv_iadd hx hb dX10_gang_48 ?_
        refine lv_topi (fun v48 ev48 => ?_)
        have ev48 : v48 = nI (cs_n zc 1 + 1) := by rw [ev48]; exact nI_1 _
        subst ev48
        refine va_put (D := (dC, dI)) (ci := 10) (v := .int (nI (cs_n zc 1 + 1))) (ty := .int) (C := RX10) (T := TX10) (N := 13) hx hb hts hiX10 tyX10 tyX10_ok nmX10 hown hK hP hD hS 0 rfl rfl 8 (by decide) (hts (.fieldLink RX10 143 "TributePitches" "gangCount" "I") (List.mem_of_getElem? (i := 1) rfl)) (fun _ h9 => h9) rfl (by decide +kernel) rfl rfl (Nat.le_of_ble_eq_true rfl) dX10_gang_49 (fun H locs hP hD hS => ?_)
        have hP : va_P (dC, dI) vwCl [(cs_X zc 0 0, .inr (10, [.ref (cs_X zc 0 1), .ref (cs_X zc 0 6), .ref (cs_X zc 0 7), .ref (cs_X zc 0 8), .ref (cs_X zc 0 9), .ref (cs_X zc 0 10), .ref (cs_X zc 0 11), .int (nI (cs_n zc 0)), .int (nI (cs_n zc 1 + 1)), .int (nI (cs_n zc 2)), .int (nI (cs_n zc 3)), va_rf (opN (cs_n zc 4) (fun _ => cs_X zc 5 0)), .int (cs_i zc 2)])), (cs_X zc 0 7, .inl (cA 2, 8, .inr (.inr (.inr (.inr (va_up (rfN (cs_n zc 1) (cs_X zc 2)) (nI (cs_n zc 1)).toNatClampNeg (some r4))))))), (r4, .inr (2, [.int (nI (cs_n zc 1)), .int 0, .int 0, .long 0]))] H := hP
        have hD : va_D _ [(cs_X zc 0 0, .inr (10, [.ref (cs_X zc 0 1), .ref (cs_X zc 0 6), .ref (cs_X zc 0 7), .ref (cs_X zc 0 8), .ref (cs_X zc 0 9), .ref (cs_X zc 0 10), .ref (cs_X zc 0 11), .int (nI (cs_n zc 0)), .int (nI (cs_n zc 1 + 1)), .int (nI (cs_n zc 2)), .int (nI (cs_n zc 3)), va_rf (opN (cs_n zc 4) (fun _ => cs_X zc 5 0)), .int (cs_i zc 2)])), (cs_X zc 0 7, .inl (cA 2, 8, .inr (.inr (.inr (.inr (va_up (rfN (cs_n zc 1) (cs_X zc 2)) (nI (cs_n zc 1)).toNatClampNeg (some r4))))))), (r4, .inr (2, [.int (nI (cs_n zc 1)), .int 0, .int 0, .long 0]))] := hD
        subst hQ
        have hP9 : va_P (dC, dI) vwCl [(cs_X zc 0 0, .inr (10, [.ref (cs_X zc 0 1), .ref (cs_X zc 0 6), .ref (cs_X zc 0 7), .ref (cs_X zc 0 8), .ref (cs_X zc 0 9), .ref (cs_X zc 0 10), .ref (cs_X zc 0 11), .int (nI (cs_n zc 0)), .int (nI (cs_n zc 1 + 1)), .int (nI (cs_n zc 2)), .int (nI (cs_n zc 3)), va_rf (opN (cs_n zc 4) (fun _ => cs_X zc 5 0)), .int (cs_i zc 2)])), (cs_X zc 0 7, .inl (cA 2, 8, .inr (.inr (.inr (.inr (va_up (rfN (cs_n zc 1) (cs_X zc 2)) (nI (cs_n zc 1)).toNatClampNeg (some r4))))))), (r4, .inr (2, [.int (nI (cs_n zc 1)), .int 0, .int 0, .long 0]))] H := hP.sub [0, 1, 2] rfl
        have hD9 : va_D (va_A [cTP zc, cR7 cA zc] s.heap.size) [(cs_X zc 0 0, .inr (10, [.ref (cs_X zc 0 1), .ref (cs_X zc 0 6), .ref (cs_X zc 0 7), .ref (cs_X zc 0 8), .ref (cs_X zc 0 9), .ref (cs_X zc 0 10), .ref (cs_X zc 0 11), .int (nI (cs_n zc 0)), .int (nI (cs_n zc 1 + 1)), .int (nI (cs_n zc 2)), .int (nI (cs_n zc 3)), va_rf (opN (cs_n zc 4) (fun _ => cs_X zc 5 0)), .int (cs_i zc 2)])), (cs_X zc 0 7, .inl (cA 2, 8, .inr (.inr (.inr (.inr (va_up (rfN (cs_n zc 1) (cs_X zc 2)) (nI (cs_n zc 1)).toNatClampNeg (some r4))))))), (r4, .inr (2, [.int (nI (cs_n zc 1)), .int 0, .int 0, .long 0]))] := hD.sub [0, 1, 2] (by decide) rfl
        have hlf := lf_gang_0 cA zc r4 c2 c3 hg8 hI
        exact W.iret (v := nI (cs_n zc 1)) hx hb hr (fun t ht hW => have hJ := kjoin hPk hDk hks rfl (hS.F ht) (by rw [ht]; exact hP9) hD9 hlf.2.1 hlf.2.2; ⟨⟨nI (cs_n zc 1), (cs_i zc, va_up (cs_n zc) 1 (cs_n zc 1 + 1), va_up (va_up (cs_I zc) 21 (va_up (cs_I zc 21) (cs_n zc 1) 0)) 22 (va_up (cs_I zc 22) (cs_n zc 1) 0), va_up (cs_L zc) 0 (va_up (cs_L zc 0) (cs_n zc 1) 0), va_up (cs_N zc) 1 (va_up (cs_N zc 1) (cs_n zc 1) 2), cs_S zc, va_up (cs_X zc) 2 (va_up (cs_X zc 2) (cs_n zc 1) r4)), rfl, ⟨⟨hlf.1, rfl⟩, (Or.inl ⟨c2, c3, hg8, rfl, r4, rfl, rfl⟩)⟩, hJ.1, va_K.moved hW.alike hKk, hJ.2.1⟩, hJ.2.2⟩) (fun q h => kAll_A hks _ (hS.2.2 q h)) dX10_gang_52
      · skip
        have hPc := hP.sub (ws' := []) [] rfl
        have hDc := hD.sub (ws' := []) [] (by decide) rfl
        have hKc := hK.sub (tys' := []) [] rfl
        have hFc := va_free (wc := []) hD hS hA [] rfl
        refine va_callr (va_runS (As := [.int 1, .int (nI (cs_n zc 1))]) (rest := [.int (nI (cs_n zc 1)), .ref (cs_X zc 0 7)]) ⟨hx, hb, hml, hown, hts⟩ (s_newGang_1 l dC dI  _ (nI (cs_n zc 1)) ) (va_cwS 2 hts gX10_gang_X10_newGang rfl rfl rfl (by decide +kernel) ⟨Nat.le_of_ble_eq_true rfl, Nat.le_of_ble_eq_true rfl⟩) (pw_preS hPc hKc hDc hN) rfl rfl hl.1 rfl (lv_room (Nat.le_of_ble_eq_true rfl)) dX10_gang_37 ⟨Nat.le_of_ble_eq_true rfl, Nat.le_of_ble_eq_true rfl⟩) hS (fun q _ h => hFc q h) hFc (fun u r5 t H1 locs ht hvm hw hB hz1 hk1 hS => ?_)
        obtain ⟨hP1, hK1, hD1⟩ := hB
        rw [ht] at hP1
        obtain ⟨hP, hD⟩ := va_join (wr := [cTP zc, cR7 cA zc]) (w1 := [(r5, .inr (1, [.int (nI (cs_n zc 1)), .int 0, .int 0, .long 0]))]) hP hD [] [0, 1] rfl rfl (by decide) (by decide) hk1 hFc hP1 hD1
        generalize H1 = H at hP hS ⊢
        have hP : va_P (dC, dI) vwCl [cTP zc, cR7 cA zc, (r5, .inr (1, [.int (nI (cs_n zc 1)), .int 0, .int 0, .long 0]))] H := hP
        have hD : va_D _ [cTP zc, cR7 cA zc, (r5, .inr (1, [.int (nI (cs_n zc 1)), .int 0, .int 0, .long 0]))] := hD
        have hany : va_Any RX2 s H r5 := va_rAny (q0 := 2) (r := (RX1, TX1, 4)) hK hP rfl rfl (vb_asgC hN.2.2.1)
        refine va_astqM hx hb hK hP hD hS 1 2 rfl rfl hany (vp_in_nI (by omega) (by omega)) dX10_gang_40 (fun H locs hP hD hS => ?_)
        have hP : va_P (dC, dI) vwCl [cTP zc, (cs_X zc 0 7, .inl (cA 2, 8, .inr (.inr (.inr (.inr (va_up (rfN (cs_n zc 1) (cs_X zc 2)) (nI (cs_n zc 1)).toNatClampNeg (some r5))))))), (r5, .inr (1, [.int (nI (cs_n zc 1)), .int 0, .int 0, .long 0]))] H := hP
        have hD : va_D _ [cTP zc, (cs_X zc 0 7, .inl (cA 2, 8, .inr (.inr (.inr (.inr (va_up (rfN (cs_n zc 1) (cs_X zc 2)) (nI (cs_n zc 1)).toNatClampNeg (some r5))))))), (r5, .inr (1, [.int (nI (cs_n zc 1)), .int 0, .int 0, .long 0]))] := hD
        refine lv_aload_n hx hb dX10_gang_41 rfl (lv_at hl 0 rfl) ?_
        refine lv_dup hx hb dX10_gang_42 rfl ?_
        refine va_get (D := (dC, dI)) (ci := 10) (v := .int (nI (cs_n zc 1))) (C := RX10) (T := TX10) (N := 13) hx hb hts hiX10 hown hK hP 0 rfl rfl 8 (by decide) (hts (.fieldLink RX10 143 "TributePitches" "gangCount" "I") (List.mem_of_getElem? (i := 1) rfl)) (fun _ h9 => h9) rfl dX10_gang_43 ?_
        refine lv_dup_x1 hx hb dX10_gang_46 rfl rfl ?_
        refine lv_iconst (v := 1) hx hb dX10_gang_47 (by decide) ?_
        refine lv_iadd hx hb dX10_gang_48 ?_
        refine lv_topi (fun v48 ev48 => ?_)
        have ev48 : v48 = nI (cs_n zc 1 + 1) := by rw [ev48]; exact nI_1 _
        subst ev48
        refine va_put (D := (dC, dI)) (ci := 10) (v := .int (nI (cs_n zc 1 + 1))) (ty := .int) (C := RX10) (T := TX10) (N := 13) hx hb hts hiX10 tyX10 tyX10_ok nmX10 hown hK hP hD hS 0 rfl rfl 8 (by decide) (hts (.fieldLink RX10 143 "TributePitches" "gangCount" "I") (List.mem_of_getElem? (i := 1) rfl)) (fun _ h9 => h9) rfl (by decide +kernel) rfl rfl (Nat.le_of_ble_eq_true rfl) dX10_gang_49 (fun H locs hP hD hS => ?_)
        have hP : va_P (dC, dI) vwCl [(cs_X zc 0 0, .inr (10, [.ref (cs_X zc 0 1), .ref (cs_X zc 0 6), .ref (cs_X zc 0 7), .ref (cs_X zc 0 8), .ref (cs_X zc 0 9), .ref (cs_X zc 0 10), .ref (cs_X zc 0 11), .int (nI (cs_n zc 0)), .int (nI (cs_n zc 1 + 1)), .int (nI (cs_n zc 2)), .int (nI (cs_n zc 3)), va_rf (opN (cs_n zc 4) (fun _ => cs_X zc 5 0)), .int (cs_i zc 2)])), (cs_X zc 0 7, .inl (cA 2, 8, .inr (.inr (.inr (.inr (va_up (rfN (cs_n zc 1) (cs_X zc 2)) (nI (cs_n zc 1)).toNatClampNeg (some r5))))))), (r5, .inr (1, [.int (nI (cs_n zc 1)), .int 0, .int 0, .long 0]))] H := hP
        have hD : va_D _ [(cs_X zc 0 0, .inr (10, [.ref (cs_X zc 0 1), .ref (cs_X zc 0 6), .ref (cs_X zc 0 7), .ref (cs_X zc 0 8), .ref (cs_X zc 0 9), .ref (cs_X zc 0 10), .ref (cs_X zc 0 11), .int (nI (cs_n zc 0)), .int (nI (cs_n zc 1 + 1)), .int (nI (cs_n zc 2)), .int (nI (cs_n zc 3)), va_rf (opN (cs_n zc 4) (fun _ => cs_X zc 5 0)), .int (cs_i zc 2)])), (cs_X zc 0 7, .inl (cA 2, 8, .inr (.inr (.inr (.inr (va_up (rfN (cs_n zc 1) (cs_X zc 2)) (nI (cs_n zc 1)).toNatClampNeg (some r5))))))), (r5, .inr (1, [.int (nI (cs_n zc 1)), .int 0, .int 0, .long 0]))] := hD
        subst hQ
        have hP9 : va_P (dC, dI) vwCl [(cs_X zc 0 0, .inr (10, [.ref (cs_X zc 0 1), .ref (cs_X zc 0 6), .ref (cs_X zc 0 7), .ref (cs_X zc 0 8), .ref (cs_X zc 0 9), .ref (cs_X zc 0 10), .ref (cs_X zc 0 11), .int (nI (cs_n zc 0)), .int (nI (cs_n zc 1 + 1)), .int (nI (cs_n zc 2)), .int (nI (cs_n zc 3)), va_rf (opN (cs_n zc 4) (fun _ => cs_X zc 5 0)), .int (cs_i zc 2)])), (cs_X zc 0 7, .inl (cA 2, 8, .inr (.inr (.inr (.inr (va_up (rfN (cs_n zc 1) (cs_X zc 2)) (nI (cs_n zc 1)).toNatClampNeg (some r5))))))), (r5, .inr (1, [.int (nI (cs_n zc 1)), .int 0, .int 0, .long 0]))] H := hP.sub [0, 1, 2] rfl
        have hD9 : va_D (va_A [cTP zc, cR7 cA zc] s.heap.size) [(cs_X zc 0 0, .inr (10, [.ref (cs_X zc 0 1), .ref (cs_X zc 0 6), .ref (cs_X zc 0 7), .ref (cs_X zc 0 8), .ref (cs_X zc 0 9), .ref (cs_X zc 0 10), .ref (cs_X zc 0 11), .int (nI (cs_n zc 0)), .int (nI (cs_n zc 1 + 1)), .int (nI (cs_n zc 2)), .int (nI (cs_n zc 3)), va_rf (opN (cs_n zc 4) (fun _ => cs_X zc 5 0)), .int (cs_i zc 2)])), (cs_X zc 0 7, .inl (cA 2, 8, .inr (.inr (.inr (.inr (va_up (rfN (cs_n zc 1) (cs_X zc 2)) (nI (cs_n zc 1)).toNatClampNeg (some r5))))))), (r5, .inr (1, [.int (nI (cs_n zc 1)), .int 0, .int 0, .long 0]))] := hD.sub [0, 1, 2] (by decide) rfl
        have hlf := lf_gang_1 cA zc r5 c2 c3 hg8 hI
        exact W.iret (v := nI (cs_n zc 1)) hx hb hr (fun t ht hW => have hJ := kjoin hPk hDk hks rfl (hS.F ht) (by rw [ht]; exact hP9) hD9 hlf.2.1 hlf.2.2; ⟨⟨nI (cs_n zc 1), (cs_i zc, va_up (cs_n zc) 1 (cs_n zc 1 + 1), va_up (va_up (cs_I zc) 21 (va_up (cs_I zc 21) (cs_n zc 1) 0)) 22 (va_up (cs_I zc 22) (cs_n zc 1) 0), va_up (cs_L zc) 0 (va_up (cs_L zc 0) (cs_n zc 1) 0), va_up (cs_N zc) 1 (va_up (cs_N zc 1) (cs_n zc 1) 1), cs_S zc, va_up (cs_X zc) 2 (va_up (cs_X zc 2) (cs_n zc 1) r5)), rfl, ⟨⟨hlf.1, rfl⟩, (Or.inr (Or.inl ⟨c2, c3, hg8, rfl, r5, rfl, rfl⟩))⟩, hJ.1, va_K.moved hW.alike hKk, hJ.2.1⟩, hJ.2.2⟩) (fun q h => kAll_A hks _ (hS.2.2 q h)) dX10_gang_52
      · skip
        have hPc := hP.sub (ws' := []) [] rfl
        have hDc := hD.sub (ws' := []) [] (by decide) rfl
        have hKc := hK.sub (tys' := []) [] rfl
        have hFc := va_free (wc := []) hD hS hA [] rfl
        refine va_callr (va_runS (As := [.int 2, .int (nI (cs_n zc 1))]) (rest := [.int (nI (cs_n zc 1)), .ref (cs_X zc 0 7)]) ⟨hx, hb, hml, hown, hts⟩ (s_newGang_4 l dC dI  _ (nI (cs_n zc 1)) ) (va_cwS 2 hts gX10_gang_X10_newGang rfl rfl rfl (by decide +kernel) ⟨Nat.le_of_ble_eq_true rfl, Nat.le_of_ble_eq_true rfl⟩) (pw_preS hPc hKc hDc hN) rfl rfl hl.1 rfl (lv_room (Nat.le_of_ble_eq_true rfl)) dX10_gang_37 ⟨Nat.le_of_ble_eq_true rfl, Nat.le_of_ble_eq_true rfl⟩) hS (fun q _ h => hFc q h) hFc (fun u r6 t H1 locs ht hvm hw hB hz1 hk1 hS => ?_)
        obtain ⟨hP1, hK1, hD1⟩ := hB
        rw [ht] at hP1
        obtain ⟨hP, hD⟩ := va_join (wr := [cTP zc, cR7 cA zc]) (w1 := [(r6, .inr (4, [.int (nI (cs_n zc 1)), .int 0, .int 0, .long 0]))]) hP hD [] [0, 1] rfl rfl (by decide) (by decide) hk1 hFc hP1 hD1
        generalize H1 = H at hP hS ⊢
        have hP : va_P (dC, dI) vwCl [cTP zc, cR7 cA zc, (r6, .inr (4, [.int (nI (cs_n zc 1)), .int 0, .int 0, .long 0]))] H := hP
        have hD : va_D _ [cTP zc, cR7 cA zc, (r6, .inr (4, [.int (nI (cs_n zc 1)), .int 0, .int 0, .long 0]))] := hD
        have hany : va_Any RX2 s H r6 := va_rAny (q0 := 2) (r := (RX4, TX4, 4)) hK hP rfl rfl (vb_asgC hN.2.2.2.1)
        refine va_astqM hx hb hK hP hD hS 1 2 rfl rfl hany (vp_in_nI (by omega) (by omega)) dX10_gang_40 (fun H locs hP hD hS => ?_)
        have hP : va_P (dC, dI) vwCl [cTP zc, (cs_X zc 0 7, .inl (cA 2, 8, .inr (.inr (.inr (.inr (va_up (rfN (cs_n zc 1) (cs_X zc 2)) (nI (cs_n zc 1)).toNatClampNeg (some r6))))))), (r6, .inr (4, [.int (nI (cs_n zc 1)), .int 0, .int 0, .long 0]))] H := hP
        have hD : va_D _ [cTP zc, (cs_X zc 0 7, .inl (cA 2, 8, .inr (.inr (.inr (.inr (va_up (rfN (cs_n zc 1) (cs_X zc 2)) (nI (cs_n zc 1)).toNatClampNeg (some r6))))))), (r6, .inr (4, [.int (nI (cs_n zc 1)), .int 0, .int 0, .long 0]))] := hD
        refine lv_aload_n hx hb dX10_gang_41 rfl (lv_at hl 0 rfl) ?_
        refine lv_dup hx hb dX10_gang_42 rfl ?_
        refine va_get (D := (dC, dI)) (ci := 10) (v := .int (nI (cs_n zc 1))) (C := RX10) (T := TX10) (N := 13) hx hb hts hiX10 hown hK hP 0 rfl rfl 8 (by decide) (hts (.fieldLink RX10 143 "TributePitches" "gangCount" "I") (List.mem_of_getElem? (i := 1) rfl)) (fun _ h9 => h9) rfl dX10_gang_43 ?_
        refine lv_dup_x1 hx hb dX10_gang_46 rfl rfl ?_
        refine lv_iconst (v := 1) hx hb dX10_gang_47 (by decide) ?_
        refine lv_iadd hx hb dX10_gang_48 ?_
        refine lv_topi (fun v48 ev48 => ?_)
        have ev48 : v48 = nI (cs_n zc 1 + 1) := by rw [ev48]; exact nI_1 _
        subst ev48
        refine va_put (D := (dC, dI)) (ci := 10) (v := .int (nI (cs_n zc 1 + 1))) (ty := .int) (C := RX10) (T := TX10) (N := 13) hx hb hts hiX10 tyX10 tyX10_ok nmX10 hown hK hP hD hS 0 rfl rfl 8 (by decide) (hts (.fieldLink RX10 143 "TributePitches" "gangCount" "I") (List.mem_of_getElem? (i := 1) rfl)) (fun _ h9 => h9) rfl (by decide +kernel) rfl rfl (Nat.le_of_ble_eq_true rfl) dX10_gang_49 (fun H locs hP hD hS => ?_)
        have hP : va_P (dC, dI) vwCl [(cs_X zc 0 0, .inr (10, [.ref (cs_X zc 0 1), .ref (cs_X zc 0 6), .ref (cs_X zc 0 7), .ref (cs_X zc 0 8), .ref (cs_X zc 0 9), .ref (cs_X zc 0 10), .ref (cs_X zc 0 11), .int (nI (cs_n zc 0)), .int (nI (cs_n zc 1 + 1)), .int (nI (cs_n zc 2)), .int (nI (cs_n zc 3)), va_rf (opN (cs_n zc 4) (fun _ => cs_X zc 5 0)), .int (cs_i zc 2)])), (cs_X zc 0 7, .inl (cA 2, 8, .inr (.inr (.inr (.inr (va_up (rfN (cs_n zc 1) (cs_X zc 2)) (nI (cs_n zc 1)).toNatClampNeg (some r6))))))), (r6, .inr (4, [.int (nI (cs_n zc 1)), .int 0, .int 0, .long 0]))] H := hP
        have hD : va_D _ [(cs_X zc 0 0, .inr (10, [.ref (cs_X zc 0 1), .ref (cs_X zc 0 6), .ref (cs_X zc 0 7), .ref (cs_X zc 0 8), .ref (cs_X zc 0 9), .ref (cs_X zc 0 10), .ref (cs_X zc 0 11), .int (nI (cs_n zc 0)), .int (nI (cs_n zc 1 + 1)), .int (nI (cs_n zc 2)), .int (nI (cs_n zc 3)), va_rf (opN (cs_n zc 4) (fun _ => cs_X zc 5 0)), .int (cs_i zc 2)])), (cs_X zc 0 7, .inl (cA 2, 8, .inr (.inr (.inr (.inr (va_up (rfN (cs_n zc 1) (cs_X zc 2)) (nI (cs_n zc 1)).toNatClampNeg (some r6))))))), (r6, .inr (4, [.int (nI (cs_n zc 1)), .int 0, .int 0, .long 0]))] := hD
        subst hQ
        have hP9 : va_P (dC, dI) vwCl [(cs_X zc 0 0, .inr (10, [.ref (cs_X zc 0 1), .ref (cs_X zc 0 6), .ref (cs_X zc 0 7), .ref (cs_X zc 0 8), .ref (cs_X zc 0 9), .ref (cs_X zc 0 10), .ref (cs_X zc 0 11), .int (nI (cs_n zc 0)), .int (nI (cs_n zc 1 + 1)), .int (nI (cs_n zc 2)), .int (nI (cs_n zc 3)), va_rf (opN (cs_n zc 4) (fun _ => cs_X zc 5 0)), .int (cs_i zc 2)])), (cs_X zc 0 7, .inl (cA 2, 8, .inr (.inr (.inr (.inr (va_up (rfN (cs_n zc 1) (cs_X zc 2)) (nI (cs_n zc 1)).toNatClampNeg (some r6))))))), (r6, .inr (4, [.int (nI (cs_n zc 1)), .int 0, .int 0, .long 0]))] H := hP.sub [0, 1, 2] rfl
        have hD9 : va_D (va_A [cTP zc, cR7 cA zc] s.heap.size) [(cs_X zc 0 0, .inr (10, [.ref (cs_X zc 0 1), .ref (cs_X zc 0 6), .ref (cs_X zc 0 7), .ref (cs_X zc 0 8), .ref (cs_X zc 0 9), .ref (cs_X zc 0 10), .ref (cs_X zc 0 11), .int (nI (cs_n zc 0)), .int (nI (cs_n zc 1 + 1)), .int (nI (cs_n zc 2)), .int (nI (cs_n zc 3)), va_rf (opN (cs_n zc 4) (fun _ => cs_X zc 5 0)), .int (cs_i zc 2)])), (cs_X zc 0 7, .inl (cA 2, 8, .inr (.inr (.inr (.inr (va_up (rfN (cs_n zc 1) (cs_X zc 2)) (nI (cs_n zc 1)).toNatClampNeg (some r6))))))), (r6, .inr (4, [.int (nI (cs_n zc 1)), .int 0, .int 0, .long 0]))] := hD.sub [0, 1, 2] (by decide) rfl
        have hlf := lf_gang_2 cA zc r6 c2 c3 hg8 hI
        exact W.iret (v := nI (cs_n zc 1)) hx hb hr (fun t ht hW => have hJ := kjoin hPk hDk hks rfl (hS.F ht) (by rw [ht]; exact hP9) hD9 hlf.2.1 hlf.2.2; ⟨⟨nI (cs_n zc 1), (cs_i zc, va_up (cs_n zc) 1 (cs_n zc 1 + 1), va_up (va_up (cs_I zc) 21 (va_up (cs_I zc 21) (cs_n zc 1) 0)) 22 (va_up (cs_I zc 22) (cs_n zc 1) 0), va_up (cs_L zc) 0 (va_up (cs_L zc 0) (cs_n zc 1) 0), va_up (cs_N zc) 1 (va_up (cs_N zc 1) (cs_n zc 1) 4), cs_S zc, va_up (cs_X zc) 2 (va_up (cs_X zc 2) (cs_n zc 1) r6)), rfl, ⟨⟨hlf.1, rfl⟩, (Or.inr (Or.inr (Or.inl ⟨c2, c3, hg8, rfl, r6, rfl, rfl⟩)))⟩, hJ.1, va_K.moved hW.alike hKk, hJ.2.1⟩, hJ.2.2⟩) (fun q h => kAll_A hks _ (hS.2.2 q h)) dX10_gang_52
    · skip
      refine lv_bipush (v := (-4)) hx hb dX10_gang_21 (by decide) ?_
      subst hQ
      refine W.widen (k := 1) (n := 4) (Nat.le_of_ble_eq_true rfl) (Nat.le_of_ble_eq_true rfl) ?_
      exact W.iret (v := (-4)) hx hb hr (fun t ht hW => ⟨⟨(-4), zc, rfl, ⟨⟨hI, rfl⟩, (Or.inr (Or.inr (Or.inr (Or.inl ⟨c2, c3, rfl, rfl⟩))))⟩, (by rw [ht]; exact hPk), va_K.moved hW.alike hKk, kDA_self hDk⟩, (kw_same hPk ht).2⟩) (fun q h => absurd h List.not_mem_nil) dX10_gang_23
  · skip
    have c2 := (fa_bool_prop hr1).1.mp c2
    refine lv_bipush (v := (-2)) hx hb dX10_gang_9 (by decide) ?_
    subst hQ
    refine W.widen (k := 1) (n := 4) (Nat.le_of_ble_eq_true rfl) (Nat.le_of_ble_eq_true rfl) ?_
    exact W.iret (v := (-2)) hx hb hr (fun t ht hW => ⟨⟨(-2), zc, rfl, ⟨⟨hI, rfl⟩, (Or.inr (Or.inr (Or.inr (Or.inr ⟨c2, rfl, rfl⟩))))⟩, (by rw [ht]; exact hPk), va_K.moved hW.alike hKk, kDA_self hDk⟩, (kw_same hPk ht).2⟩) (fun q h => absurd h List.not_mem_nil) dX10_gang_11
def pC_parcel (zc : CS) (t : Int32) (tn : Int32) (gd : Int32) (r : Int32) (u : CS) : Prop :=
  ((∀ j, j < cs_n zc 2 → t ≠ nI j) ∧ r = ((-1)) ∧ u = zc) ∨
  (∃ jt : Nat, t = nI jt ∧ (jt < cs_n zc 2) ∧ (¬ (1 ≤ tn ∧ tn ≤ 1000)) ∧ r = ((-2)) ∧ u = zc) ∨
  (∃ jt : Nat, t = nI jt ∧ (jt < cs_n zc 2) ∧ (1 ≤ tn ∧ tn ≤ 1000) ∧ (0 ≤ gd ∧ gd ≤ 1000) ∧ ((cs_I zc 33 jt) = 0) ∧ ((nI (cs_n zc 3)) < 80) ∧ (cs_n zc 3 < 80) ∧ ∃ qk : Nat, r = (nI (cs_n zc 3)) ∧ u = (cs_i zc, va_up (cs_n zc) 3 (cs_n zc 3 + 1), va_up (va_up (cs_I zc) 32 (va_up (cs_I zc 32) jt ((cs_I zc 32 jt) + 1))) 40 (va_up (cs_I zc 40) (cs_n zc 3) gd), va_up (cs_L zc) 3 (va_up (cs_L zc 3) jt ((cs_L zc 3 jt) + (tn.toInt64 * gd.toInt64))), va_up (cs_N zc) 4 (va_up (cs_N zc 4) (cs_n zc 3) (cs_N zc 3 jt)), cs_S zc, va_up (cs_X zc) 4 (va_up (cs_X zc 4) (cs_n zc 3) qk))) ∨
  (∃ jt : Nat, t = nI jt ∧ (jt < cs_n zc 2) ∧ (1 ≤ tn ∧ tn ≤ 1000) ∧ (0 ≤ gd ∧ gd ≤ 1000) ∧ ((cs_I zc 33 jt) = 0) ∧ (¬ (nI (cs_n zc 3)) < 80) ∧ r = ((-4)) ∧ u = zc) ∨
  (∃ jt : Nat, t = nI jt ∧ (jt < cs_n zc 2) ∧ (1 ≤ tn ∧ tn ≤ 1000) ∧ (0 ≤ gd ∧ gd ≤ 1000) ∧ (¬ (cs_I zc 33 jt) = 0) ∧ r = ((-3)) ∧ u = zc) ∨
  (∃ jt : Nat, t = nI jt ∧ (jt < cs_n zc 2) ∧ (1 ≤ tn ∧ tn ≤ 1000) ∧ (¬ (0 ≤ gd ∧ gd ≤ 1000)) ∧ r = ((-2)) ∧ u = zc)
set_option maxHeartbeats 4000000 in
theorem lf_parcel_2 (cA : Nat → ClassId) (zc : CS) (tn : Int32) (gd : Int32) (jt : Nat) (qk : Nat) (hjt : jt < cs_n zc 2) (c4 : 1 ≤ tn ∧ tn ≤ 1000) (c6 : 0 ≤ gd ∧ gd ≤ 1000) (c7 : (cs_I zc 33 jt) = 0) (c8 : (nI (cs_n zc 3)) < 80) (hk8 : cs_n zc 3 < 80) (hI : invC zc) : invC (cs_i zc, va_up (cs_n zc) 3 (cs_n zc 3 + 1), va_up (va_up (cs_I zc) 32 (va_up (cs_I zc 32) jt ((cs_I zc 32 jt) + 1))) 40 (va_up (cs_I zc 40) (cs_n zc 3) gd), va_up (cs_L zc) 3 (va_up (cs_L zc 3) jt ((cs_L zc 3 jt) + (tn.toInt64 * gd.toInt64))), va_up (cs_N zc) 4 (va_up (cs_N zc 4) (cs_n zc 3) (cs_N zc 3 jt)), cs_S zc, va_up (cs_X zc) 4 (va_up (cs_X zc 4) (cs_n zc 3) qk)) ∧ kAll (cF cA (cs_i zc, va_up (cs_n zc) 3 (cs_n zc 3 + 1), va_up (va_up (cs_I zc) 32 (va_up (cs_I zc 32) jt ((cs_I zc 32 jt) + 1))) 40 (va_up (cs_I zc 40) (cs_n zc 3) gd), va_up (cs_L zc) 3 (va_up (cs_L zc 3) jt ((cs_L zc 3 jt) + (tn.toInt64 * gd.toInt64))), va_up (cs_N zc) 4 (va_up (cs_N zc 4) (cs_n zc 3) (cs_N zc 3 jt)), cs_S zc, va_up (cs_X zc) 4 (va_up (cs_X zc 4) (cs_n zc 3) qk))) [(0, 0), (0, 8), (3, jt), (0, 9), (4, cs_n zc 3)] [(cs_X zc 0 0, .inr (10, [.ref (cs_X zc 0 1), .ref (cs_X zc 0 6), .ref (cs_X zc 0 7), .ref (cs_X zc 0 8), .ref (cs_X zc 0 9), .ref (cs_X zc 0 10), .ref (cs_X zc 0 11), .int (nI (cs_n zc 0)), .int (nI (cs_n zc 1)), .int (nI (cs_n zc 2)), .int (nI (cs_n zc 3 + 1)), va_rf (opN (cs_n zc 4) (fun _ => cs_X zc 5 0)), .int (cs_i zc 2)])), cR8 cA zc, (cs_X zc 3 jt, .inr (8, [.int (nI jt), .int (cs_I zc 31 jt), .ref (cs_X zc 2 (cs_N zc 2 jt)), .ref (cs_X zc 1 (cs_N zc 3 jt)), .long (cs_L zc 1 jt), .long (cs_L zc 2 jt), .long ((cs_L zc 3 jt) + (tn.toInt64 * gd.toInt64)), .long (cs_L zc 4 jt), .long (cs_L zc 5 jt), .long (cs_L zc 6 jt), .int ((cs_I zc 32 jt) + 1), .int (cs_I zc 33 jt)])), (cs_X zc 0 9, .inl (cA 4, 80, .inr (.inr (.inr (.inr (va_up (rfN (cs_n zc 3) (cs_X zc 4)) (nI (cs_n zc 3)).toNatClampNeg (some qk))))))), (qk, .inr (5, [.ref (cs_X zc 1 (cs_N zc 3 jt)), .int gd]))] ∧ ∀ i j, (i, j) ∉ ([(0, 0), (0, 8), (3, jt), (0, 9), (4, cs_n zc 3)] : List (Nat × Nat)) → cF cA (cs_i zc, va_up (cs_n zc) 3 (cs_n zc 3 + 1), va_up (va_up (cs_I zc) 32 (va_up (cs_I zc 32) jt ((cs_I zc 32 jt) + 1))) 40 (va_up (cs_I zc 40) (cs_n zc 3) gd), va_up (cs_L zc) 3 (va_up (cs_L zc 3) jt ((cs_L zc 3 jt) + (tn.toInt64 * gd.toInt64))), va_up (cs_N zc) 4 (va_up (cs_N zc 4) (cs_n zc 3) (cs_N zc 3 jt)), cs_S zc, va_up (cs_X zc) 4 (va_up (cs_X zc 4) (cs_n zc 3) qk)) i j = none ∨ ((i, j) ∉ ([(0, 0), (0, 8), (3, jt), (0, 9)] : List (Nat × Nat)) ∧ cF cA (cs_i zc, va_up (cs_n zc) 3 (cs_n zc 3 + 1), va_up (va_up (cs_I zc) 32 (va_up (cs_I zc 32) jt ((cs_I zc 32 jt) + 1))) 40 (va_up (cs_I zc 40) (cs_n zc 3) gd), va_up (cs_L zc) 3 (va_up (cs_L zc 3) jt ((cs_L zc 3 jt) + (tn.toInt64 * gd.toInt64))), va_up (cs_N zc) 4 (va_up (cs_N zc 4) (cs_n zc 3) (cs_N zc 3 jt)), cs_S zc, va_up (cs_X zc) 4 (va_up (cs_X zc 4) (cs_n zc 3) qk)) i j = cF cA zc i j) := by
  obtain ⟨⟨hn0, hn1, hn2, hn3, hn4, hn5⟩, hpi, hgk, htk, hpk, hsh⟩ := id hI
  refine ⟨(by refine ⟨⟨hn0, hn1, hn2, (show cs_n zc 3 + 1 ≤ 80 by omega), hn4, hn5⟩, hpi, hgk, htk, (fun k hk9 => ?_), hsh⟩; have hk9 : k < cs_n zc 3 + 1 := hk9; show va_up (cs_N zc 4) (cs_n zc 3) (cs_N zc 3 jt) k < cs_n zc 0; by_cases h9 : k = cs_n zc 3; (rw [h9, va_up_self]; exact (htk jt hjt).2); (rw [va_up_ne _ _ h9]; exact hpk k (by omega))), ⟨(by (rw [(kF_tp (cA := cA) (z := (cs_i zc, va_up (cs_n zc) 3 (cs_n zc 3 + 1), va_up (va_up (cs_I zc) 32 (va_up (cs_I zc 32) jt ((cs_I zc 32 jt) + 1))) 40 (va_up (cs_I zc 40) (cs_n zc 3) gd), va_up (cs_L zc) 3 (va_up (cs_L zc 3) jt ((cs_L zc 3 jt) + (tn.toInt64 * gd.toInt64))), va_up (cs_N zc) 4 (va_up (cs_N zc 4) (cs_n zc 3) (cs_N zc 3 jt)), cs_S zc, va_up (cs_X zc) 4 (va_up (cs_X zc 4) (cs_n zc 3) qk))))]) <;> simp [cTP, cTPN, cTPA, cLo, cA2, cA3, cA4, cA5, cR6, cR7, cR8, cR9, cR10, cTr, cPi, cPiN, cPiT, cGa, cGaK, cTa, cPa, cAu, cAuN, cAuB, cSh, cSc, cs_i, cs_n, cs_I, cs_L, cs_N, cs_S, cs_X, va_up, upd, opN]), (by (rw [(kF_r8 (cA := cA) (z := (cs_i zc, va_up (cs_n zc) 3 (cs_n zc 3 + 1), va_up (va_up (cs_I zc) 32 (va_up (cs_I zc 32) jt ((cs_I zc 32 jt) + 1))) 40 (va_up (cs_I zc 40) (cs_n zc 3) gd), va_up (cs_L zc) 3 (va_up (cs_L zc 3) jt ((cs_L zc 3 jt) + (tn.toInt64 * gd.toInt64))), va_up (cs_N zc) 4 (va_up (cs_N zc 4) (cs_n zc 3) (cs_N zc 3 jt)), cs_S zc, va_up (cs_X zc) 4 (va_up (cs_X zc 4) (cs_n zc 3) qk))))]) <;> simp [cTP, cTPN, cTPA, cLo, cA2, cA3, cA4, cA5, cR6, cR7, cR8, cR9, cR10, cTr, cPi, cPiN, cPiT, cGa, cGaK, cTa, cPa, cAu, cAuN, cAuB, cSh, cSc, cs_i, cs_n, cs_I, cs_L, cs_N, cs_S, cs_X, va_up, upd, opN]), (by (rw [(kF_ta (z := (cs_i zc, va_up (cs_n zc) 3 (cs_n zc 3 + 1), va_up (va_up (cs_I zc) 32 (va_up (cs_I zc 32) jt ((cs_I zc 32 jt) + 1))) 40 (va_up (cs_I zc 40) (cs_n zc 3) gd), va_up (cs_L zc) 3 (va_up (cs_L zc 3) jt ((cs_L zc 3 jt) + (tn.toInt64 * gd.toInt64))), va_up (cs_N zc) 4 (va_up (cs_N zc 4) (cs_n zc 3) (cs_N zc 3 jt)), cs_S zc, va_up (cs_X zc) 4 (va_up (cs_X zc 4) (cs_n zc 3) qk))) hjt)]) <;> simp [cTP, cTPN, cTPA, cLo, cA2, cA3, cA4, cA5, cR6, cR7, cR8, cR9, cR10, cTr, cPi, cPiN, cPiT, cGa, cGaK, cTa, cPa, cAu, cAuN, cAuB, cSh, cSc, cs_i, cs_n, cs_I, cs_L, cs_N, cs_S, cs_X, va_up, upd, opN]), (by rw [(kF_r9 (cA := cA) (z := (cs_i zc, va_up (cs_n zc) 3 (cs_n zc 3 + 1), va_up (va_up (cs_I zc) 32 (va_up (cs_I zc 32) jt ((cs_I zc 32 jt) + 1))) 40 (va_up (cs_I zc 40) (cs_n zc 3) gd), va_up (cs_L zc) 3 (va_up (cs_L zc 3) jt ((cs_L zc 3 jt) + (tn.toInt64 * gd.toInt64))), va_up (cs_N zc) 4 (va_up (cs_N zc 4) (cs_n zc 3) (cs_N zc 3 jt)), cs_S zc, va_up (cs_X zc) 4 (va_up (cs_X zc 4) (cs_n zc 3) qk))))]; simp only [cR6, cR7, cR8, cR9]; rw [nI_clamp (by omega), rfN_up]; simp [cs_n, cs_X, va_up]), (by (rw [(kF_pa (z := (cs_i zc, va_up (cs_n zc) 3 (cs_n zc 3 + 1), va_up (va_up (cs_I zc) 32 (va_up (cs_I zc 32) jt ((cs_I zc 32 jt) + 1))) 40 (va_up (cs_I zc 40) (cs_n zc 3) gd), va_up (cs_L zc) 3 (va_up (cs_L zc 3) jt ((cs_L zc 3 jt) + (tn.toInt64 * gd.toInt64))), va_up (cs_N zc) 4 (va_up (cs_N zc 4) (cs_n zc 3) (cs_N zc 3 jt)), cs_S zc, va_up (cs_X zc) 4 (va_up (cs_X zc 4) (cs_n zc 3) qk))) (show cs_n zc 3 < cs_n zc 3 + 1 from Nat.lt_succ_self _))]) <;> simp [cTP, cTPN, cTPA, cLo, cA2, cA3, cA4, cA5, cR6, cR7, cR8, cR9, cR10, cTr, cPi, cPiN, cPiT, cGa, cGaK, cTa, cPa, cAu, cAuN, cAuB, cSh, cSc, cs_i, cs_n, cs_I, cs_L, cs_N, cs_S, cs_X, va_up, upd, opN]), trivial⟩, ?_⟩
  intro i j hij
  have hij0 : (i, j) ∉ ([(0, 0), (0, 8), (3, jt), (0, 9)] : List (Nat × Nat)) := by
    intro q
    simp only [List.mem_cons, Prod.mk.injEq, List.not_mem_nil, or_false] at q
    rcases q with ⟨rfl, rfl⟩ | ⟨rfl, rfl⟩ | ⟨rfl, rfl⟩ | ⟨rfl, rfl⟩
    · exact hij (by simp)
    · exact hij (by simp)
    · exact hij (by simp)
    · exact hij (by simp)
  refine Or.inr ⟨hij0, ?_⟩
  rcases i with _ | _ | _ | _ | _ | _ | _ | _ | i
  · rcases j with _ | _ | _ | _ | _ | _ | _ | _ | _ | _ | _ | _ | j
    · exact absurd (by simp) hij
    · show some (cLo (cs_i zc, va_up (cs_n zc) 3 (cs_n zc 3 + 1), va_up (va_up (cs_I zc) 32 (va_up (cs_I zc 32) jt ((cs_I zc 32 jt) + 1))) 40 (va_up (cs_I zc 40) (cs_n zc 3) gd), va_up (cs_L zc) 3 (va_up (cs_L zc 3) jt ((cs_L zc 3 jt) + (tn.toInt64 * gd.toInt64))), va_up (cs_N zc) 4 (va_up (cs_N zc 4) (cs_n zc 3) (cs_N zc 3 jt)), cs_S zc, va_up (cs_X zc) 4 (va_up (cs_X zc 4) (cs_n zc 3) qk))) = some (cLo zc); simp [cLo, cs_i, cs_n, cs_I, cs_L, cs_N, cs_S, cs_X, va_up]
    · show some (cA2 cA (cs_i zc, va_up (cs_n zc) 3 (cs_n zc 3 + 1), va_up (va_up (cs_I zc) 32 (va_up (cs_I zc 32) jt ((cs_I zc 32 jt) + 1))) 40 (va_up (cs_I zc 40) (cs_n zc 3) gd), va_up (cs_L zc) 3 (va_up (cs_L zc 3) jt ((cs_L zc 3 jt) + (tn.toInt64 * gd.toInt64))), va_up (cs_N zc) 4 (va_up (cs_N zc 4) (cs_n zc 3) (cs_N zc 3 jt)), cs_S zc, va_up (cs_X zc) 4 (va_up (cs_X zc 4) (cs_n zc 3) qk))) = some (cA2 cA zc); simp [cA2, cs_i, cs_n, cs_I, cs_L, cs_N, cs_S, cs_X, va_up]
    · show some (cA3 cA (cs_i zc, va_up (cs_n zc) 3 (cs_n zc 3 + 1), va_up (va_up (cs_I zc) 32 (va_up (cs_I zc 32) jt ((cs_I zc 32 jt) + 1))) 40 (va_up (cs_I zc 40) (cs_n zc 3) gd), va_up (cs_L zc) 3 (va_up (cs_L zc 3) jt ((cs_L zc 3 jt) + (tn.toInt64 * gd.toInt64))), va_up (cs_N zc) 4 (va_up (cs_N zc 4) (cs_n zc 3) (cs_N zc 3 jt)), cs_S zc, va_up (cs_X zc) 4 (va_up (cs_X zc 4) (cs_n zc 3) qk))) = some (cA3 cA zc); simp [cA3, cs_i, cs_n, cs_I, cs_L, cs_N, cs_S, cs_X, va_up]
    · show some (cA4 cA (cs_i zc, va_up (cs_n zc) 3 (cs_n zc 3 + 1), va_up (va_up (cs_I zc) 32 (va_up (cs_I zc 32) jt ((cs_I zc 32 jt) + 1))) 40 (va_up (cs_I zc 40) (cs_n zc 3) gd), va_up (cs_L zc) 3 (va_up (cs_L zc 3) jt ((cs_L zc 3 jt) + (tn.toInt64 * gd.toInt64))), va_up (cs_N zc) 4 (va_up (cs_N zc 4) (cs_n zc 3) (cs_N zc 3 jt)), cs_S zc, va_up (cs_X zc) 4 (va_up (cs_X zc 4) (cs_n zc 3) qk))) = some (cA4 cA zc); simp [cA4, cs_i, cs_n, cs_I, cs_L, cs_N, cs_S, cs_X, va_up]
    · show some (cA5 cA (cs_i zc, va_up (cs_n zc) 3 (cs_n zc 3 + 1), va_up (va_up (cs_I zc) 32 (va_up (cs_I zc 32) jt ((cs_I zc 32 jt) + 1))) 40 (va_up (cs_I zc 40) (cs_n zc 3) gd), va_up (cs_L zc) 3 (va_up (cs_L zc 3) jt ((cs_L zc 3 jt) + (tn.toInt64 * gd.toInt64))), va_up (cs_N zc) 4 (va_up (cs_N zc 4) (cs_n zc 3) (cs_N zc 3 jt)), cs_S zc, va_up (cs_X zc) 4 (va_up (cs_X zc 4) (cs_n zc 3) qk))) = some (cA5 cA zc); simp [cA5, cs_i, cs_n, cs_I, cs_L, cs_N, cs_S, cs_X, va_up]
    · show some (cR6 cA (cs_i zc, va_up (cs_n zc) 3 (cs_n zc 3 + 1), va_up (va_up (cs_I zc) 32 (va_up (cs_I zc 32) jt ((cs_I zc 32 jt) + 1))) 40 (va_up (cs_I zc 40) (cs_n zc 3) gd), va_up (cs_L zc) 3 (va_up (cs_L zc 3) jt ((cs_L zc 3 jt) + (tn.toInt64 * gd.toInt64))), va_up (cs_N zc) 4 (va_up (cs_N zc 4) (cs_n zc 3) (cs_N zc 3 jt)), cs_S zc, va_up (cs_X zc) 4 (va_up (cs_X zc 4) (cs_n zc 3) qk))) = some (cR6 cA zc); simp [cR6, cs_i, cs_n, cs_I, cs_L, cs_N, cs_S, cs_X, va_up]
    · show some (cR7 cA (cs_i zc, va_up (cs_n zc) 3 (cs_n zc 3 + 1), va_up (va_up (cs_I zc) 32 (va_up (cs_I zc 32) jt ((cs_I zc 32 jt) + 1))) 40 (va_up (cs_I zc 40) (cs_n zc 3) gd), va_up (cs_L zc) 3 (va_up (cs_L zc 3) jt ((cs_L zc 3 jt) + (tn.toInt64 * gd.toInt64))), va_up (cs_N zc) 4 (va_up (cs_N zc 4) (cs_n zc 3) (cs_N zc 3 jt)), cs_S zc, va_up (cs_X zc) 4 (va_up (cs_X zc 4) (cs_n zc 3) qk))) = some (cR7 cA zc); simp [cR7, cs_i, cs_n, cs_I, cs_L, cs_N, cs_S, cs_X, va_up]
    · exact absurd (by simp) hij
    · exact absurd (by simp) hij
    · show some (cR10 cA (cs_i zc, va_up (cs_n zc) 3 (cs_n zc 3 + 1), va_up (va_up (cs_I zc) 32 (va_up (cs_I zc 32) jt ((cs_I zc 32 jt) + 1))) 40 (va_up (cs_I zc 40) (cs_n zc 3) gd), va_up (cs_L zc) 3 (va_up (cs_L zc 3) jt ((cs_L zc 3 jt) + (tn.toInt64 * gd.toInt64))), va_up (cs_N zc) 4 (va_up (cs_N zc 4) (cs_n zc 3) (cs_N zc 3 jt)), cs_S zc, va_up (cs_X zc) 4 (va_up (cs_X zc 4) (cs_n zc 3) qk))) = some (cR10 cA zc); simp [cR10, cs_i, cs_n, cs_I, cs_L, cs_N, cs_S, cs_X, va_up]
    · show some (cTr (cs_i zc, va_up (cs_n zc) 3 (cs_n zc 3 + 1), va_up (va_up (cs_I zc) 32 (va_up (cs_I zc 32) jt ((cs_I zc 32 jt) + 1))) 40 (va_up (cs_I zc 40) (cs_n zc 3) gd), va_up (cs_L zc) 3 (va_up (cs_L zc 3) jt ((cs_L zc 3 jt) + (tn.toInt64 * gd.toInt64))), va_up (cs_N zc) 4 (va_up (cs_N zc 4) (cs_n zc 3) (cs_N zc 3 jt)), cs_S zc, va_up (cs_X zc) 4 (va_up (cs_X zc 4) (cs_n zc 3) qk))) = some (cTr zc); simp [cTr, cs_i, cs_n, cs_I, cs_L, cs_N, cs_S, cs_X, va_up]
    · show (none : Option (Nat × va_E)) = none; rfl
  · show (if j < cs_n (cs_i zc, va_up (cs_n zc) 3 (cs_n zc 3 + 1), va_up (va_up (cs_I zc) 32 (va_up (cs_I zc 32) jt ((cs_I zc 32 jt) + 1))) 40 (va_up (cs_I zc 40) (cs_n zc 3) gd), va_up (cs_L zc) 3 (va_up (cs_L zc 3) jt ((cs_L zc 3 jt) + (tn.toInt64 * gd.toInt64))), va_up (cs_N zc) 4 (va_up (cs_N zc 4) (cs_n zc 3) (cs_N zc 3 jt)), cs_S zc, va_up (cs_X zc) 4 (va_up (cs_X zc 4) (cs_n zc 3) qk)) 0 then some (cPi (cs_i zc, va_up (cs_n zc) 3 (cs_n zc 3 + 1), va_up (va_up (cs_I zc) 32 (va_up (cs_I zc 32) jt ((cs_I zc 32 jt) + 1))) 40 (va_up (cs_I zc 40) (cs_n zc 3) gd), va_up (cs_L zc) 3 (va_up (cs_L zc 3) jt ((cs_L zc 3 jt) + (tn.toInt64 * gd.toInt64))), va_up (cs_N zc) 4 (va_up (cs_N zc 4) (cs_n zc 3) (cs_N zc 3 jt)), cs_S zc, va_up (cs_X zc) 4 (va_up (cs_X zc 4) (cs_n zc 3) qk)) j) else none) = if j < cs_n zc 0 then some (cPi zc j) else none
    simp [cPi, cs_i, cs_n, cs_I, cs_L, cs_N, cs_S, cs_X, va_up]
  · show (if j < cs_n (cs_i zc, va_up (cs_n zc) 3 (cs_n zc 3 + 1), va_up (va_up (cs_I zc) 32 (va_up (cs_I zc 32) jt ((cs_I zc 32 jt) + 1))) 40 (va_up (cs_I zc 40) (cs_n zc 3) gd), va_up (cs_L zc) 3 (va_up (cs_L zc 3) jt ((cs_L zc 3 jt) + (tn.toInt64 * gd.toInt64))), va_up (cs_N zc) 4 (va_up (cs_N zc 4) (cs_n zc 3) (cs_N zc 3 jt)), cs_S zc, va_up (cs_X zc) 4 (va_up (cs_X zc 4) (cs_n zc 3) qk)) 1 then some (cGa (cs_i zc, va_up (cs_n zc) 3 (cs_n zc 3 + 1), va_up (va_up (cs_I zc) 32 (va_up (cs_I zc 32) jt ((cs_I zc 32 jt) + 1))) 40 (va_up (cs_I zc 40) (cs_n zc 3) gd), va_up (cs_L zc) 3 (va_up (cs_L zc 3) jt ((cs_L zc 3 jt) + (tn.toInt64 * gd.toInt64))), va_up (cs_N zc) 4 (va_up (cs_N zc 4) (cs_n zc 3) (cs_N zc 3 jt)), cs_S zc, va_up (cs_X zc) 4 (va_up (cs_X zc 4) (cs_n zc 3) qk)) j) else none) = if j < cs_n zc 1 then some (cGa zc j) else none
    simp [cGa, cs_i, cs_n, cs_I, cs_L, cs_N, cs_S, cs_X, va_up]
  · have hne0 : j ≠ jt := fun q => hij (by rw [q]; simp)
    have e9 : cTa (cs_i zc, va_up (cs_n zc) 3 (cs_n zc 3 + 1), va_up (va_up (cs_I zc) 32 (va_up (cs_I zc 32) jt ((cs_I zc 32 jt) + 1))) 40 (va_up (cs_I zc 40) (cs_n zc 3) gd), va_up (cs_L zc) 3 (va_up (cs_L zc 3) jt ((cs_L zc 3 jt) + (tn.toInt64 * gd.toInt64))), va_up (cs_N zc) 4 (va_up (cs_N zc 4) (cs_n zc 3) (cs_N zc 3 jt)), cs_S zc, va_up (cs_X zc) 4 (va_up (cs_X zc 4) (cs_n zc 3) qk)) j = cTa zc j := by simp [cTa, cs_i, cs_n, cs_I, cs_L, cs_N, cs_S, cs_X, va_up, hne0]
    show (if j < cs_n (cs_i zc, va_up (cs_n zc) 3 (cs_n zc 3 + 1), va_up (va_up (cs_I zc) 32 (va_up (cs_I zc 32) jt ((cs_I zc 32 jt) + 1))) 40 (va_up (cs_I zc 40) (cs_n zc 3) gd), va_up (cs_L zc) 3 (va_up (cs_L zc 3) jt ((cs_L zc 3 jt) + (tn.toInt64 * gd.toInt64))), va_up (cs_N zc) 4 (va_up (cs_N zc 4) (cs_n zc 3) (cs_N zc 3 jt)), cs_S zc, va_up (cs_X zc) 4 (va_up (cs_X zc 4) (cs_n zc 3) qk)) 2 then some (cTa (cs_i zc, va_up (cs_n zc) 3 (cs_n zc 3 + 1), va_up (va_up (cs_I zc) 32 (va_up (cs_I zc 32) jt ((cs_I zc 32 jt) + 1))) 40 (va_up (cs_I zc 40) (cs_n zc 3) gd), va_up (cs_L zc) 3 (va_up (cs_L zc 3) jt ((cs_L zc 3 jt) + (tn.toInt64 * gd.toInt64))), va_up (cs_N zc) 4 (va_up (cs_N zc 4) (cs_n zc 3) (cs_N zc 3 jt)), cs_S zc, va_up (cs_X zc) 4 (va_up (cs_X zc 4) (cs_n zc 3) qk)) j) else none) = if j < cs_n zc 2 then some (cTa zc j) else none
    (rw [e9]) <;> simp [cs_n, va_up]
  · have hne : j ≠ cs_n zc 3 := fun q => hij (by rw [q]; simp)
    have e9 : cPa (cs_i zc, va_up (cs_n zc) 3 (cs_n zc 3 + 1), va_up (va_up (cs_I zc) 32 (va_up (cs_I zc 32) jt ((cs_I zc 32 jt) + 1))) 40 (va_up (cs_I zc 40) (cs_n zc 3) gd), va_up (cs_L zc) 3 (va_up (cs_L zc 3) jt ((cs_L zc 3 jt) + (tn.toInt64 * gd.toInt64))), va_up (cs_N zc) 4 (va_up (cs_N zc 4) (cs_n zc 3) (cs_N zc 3 jt)), cs_S zc, va_up (cs_X zc) 4 (va_up (cs_X zc 4) (cs_n zc 3) qk)) j = cPa zc j := by simp [cPa, cs_i, cs_n, cs_I, cs_L, cs_N, cs_S, cs_X, va_up, hne]
    show (if j < cs_n zc 3 + 1 then some (cPa (cs_i zc, va_up (cs_n zc) 3 (cs_n zc 3 + 1), va_up (va_up (cs_I zc) 32 (va_up (cs_I zc 32) jt ((cs_I zc 32 jt) + 1))) 40 (va_up (cs_I zc 40) (cs_n zc 3) gd), va_up (cs_L zc) 3 (va_up (cs_L zc 3) jt ((cs_L zc 3 jt) + (tn.toInt64 * gd.toInt64))), va_up (cs_N zc) 4 (va_up (cs_N zc 4) (cs_n zc 3) (cs_N zc 3 jt)), cs_S zc, va_up (cs_X zc) 4 (va_up (cs_X zc 4) (cs_n zc 3) qk)) j) else none) = if j < cs_n zc 3 then some (cPa zc j) else none
    rw [e9]
    by_cases h9 : j < cs_n zc 3
    · rw [if_pos h9, if_pos (Nat.lt_succ_of_lt h9)]
    · rw [if_neg h9, if_neg (by omega)]
  · show (if j = 0 ∧ ¬ cs_n (cs_i zc, va_up (cs_n zc) 3 (cs_n zc 3 + 1), va_up (va_up (cs_I zc) 32 (va_up (cs_I zc 32) jt ((cs_I zc 32 jt) + 1))) 40 (va_up (cs_I zc 40) (cs_n zc 3) gd), va_up (cs_L zc) 3 (va_up (cs_L zc 3) jt ((cs_L zc 3 jt) + (tn.toInt64 * gd.toInt64))), va_up (cs_N zc) 4 (va_up (cs_N zc 4) (cs_n zc 3) (cs_N zc 3 jt)), cs_S zc, va_up (cs_X zc) 4 (va_up (cs_X zc 4) (cs_n zc 3) qk)) 4 = 0 then some (cAu (cs_i zc, va_up (cs_n zc) 3 (cs_n zc 3 + 1), va_up (va_up (cs_I zc) 32 (va_up (cs_I zc 32) jt ((cs_I zc 32 jt) + 1))) 40 (va_up (cs_I zc 40) (cs_n zc 3) gd), va_up (cs_L zc) 3 (va_up (cs_L zc 3) jt ((cs_L zc 3 jt) + (tn.toInt64 * gd.toInt64))), va_up (cs_N zc) 4 (va_up (cs_N zc 4) (cs_n zc 3) (cs_N zc 3 jt)), cs_S zc, va_up (cs_X zc) 4 (va_up (cs_X zc 4) (cs_n zc 3) qk))) else none) = if j = 0 ∧ ¬ cs_n zc 4 = 0 then some (cAu zc) else none
    simp [cAu, cs_i, cs_n, cs_I, cs_L, cs_N, cs_S, cs_X, va_up]
  · show (if j < 4 then some (cSh (cs_i zc, va_up (cs_n zc) 3 (cs_n zc 3 + 1), va_up (va_up (cs_I zc) 32 (va_up (cs_I zc 32) jt ((cs_I zc 32 jt) + 1))) 40 (va_up (cs_I zc 40) (cs_n zc 3) gd), va_up (cs_L zc) 3 (va_up (cs_L zc 3) jt ((cs_L zc 3 jt) + (tn.toInt64 * gd.toInt64))), va_up (cs_N zc) 4 (va_up (cs_N zc 4) (cs_n zc 3) (cs_N zc 3 jt)), cs_S zc, va_up (cs_X zc) 4 (va_up (cs_X zc 4) (cs_n zc 3) qk)) j) else none) = if j < 4 then some (cSh zc j) else none
    simp [cSh, cs_i, cs_n, cs_I, cs_L, cs_N, cs_S, cs_X, va_up]
  · show (if j < 4 then some (cSc cA (cs_i zc, va_up (cs_n zc) 3 (cs_n zc 3 + 1), va_up (va_up (cs_I zc) 32 (va_up (cs_I zc 32) jt ((cs_I zc 32 jt) + 1))) 40 (va_up (cs_I zc 40) (cs_n zc 3) gd), va_up (cs_L zc) 3 (va_up (cs_L zc 3) jt ((cs_L zc 3 jt) + (tn.toInt64 * gd.toInt64))), va_up (cs_N zc) 4 (va_up (cs_N zc 4) (cs_n zc 3) (cs_N zc 3 jt)), cs_S zc, va_up (cs_X zc) 4 (va_up (cs_X zc 4) (cs_n zc 3) qk)) j) else none) = if j < 4 then some (cSc cA zc j) else none
    simp [cSc, cs_i, cs_n, cs_I, cs_L, cs_N, cs_S, cs_X, va_up]
  · show (none : Option (Nat × va_E)) = none; rfl
set_option maxHeartbeats 4000000 in
set_option maxRecDepth 100000 in
theorem K_parcel (l : Launch) (dC : Nat → ClassId) (dI : Nat → Nat → Nat) (cA : Nat → ClassId) (sz : Nat) (zc : CS) (t : Int32) (tn : Int32) (gd : Int32) (hI : invC zc) : Met l yX10_parcel wsX10_parcel ({ frames := 2, cells := 1, slots := 2, locals := 60 }) (kw (dC, dI) (ctys cA) (cF cA zc) sz [.ref (cs_X zc 0 0), .int t, .int tn, .int gd]) (kQi (dC, dI) (ctys cA) (cF cA zc) sz (cF cA) (fun r u => (invC u ∧ cs_X u 0 0 = cs_X zc 0 0) ∧ pC_parcel zc t tn gd r u)) 1 2 (kA (cF cA zc) sz) := by
  refine kw_met (cc := cX10_parcel) (maxL := 5) (ret := (some .int)) (by decide) rfl (Nat.le_of_ble_eq_true rfl) ?_
  intro p e s m below meth c0 hx hb hr hml hown hlocks hnm hts hPk hKk hDk hN hsz ls hl
  subst hsz
  have hK : va_K (dC, dI) vwCl [(cA 0, .int), (cA 1, .object RX6), (cA 2, .object RX2), (cA 3, .object RX8), (cA 4, .object RX5), (cA 5, .object RX7)] s := hKk
  obtain ⟨⟨hn0, hn1, hn2, hn3, hn4, hn5⟩, hpi, hgk, htk, hpk, hsh⟩ := id hI
  have hl : lv_has ls 5 [(0, .ref (cs_X zc 0 0)), (1, .int t), (2, .int tn), (3, .int gd)] := hl
  have hiX10 : ∀ w ∈ wsX100, w ∈ wsX10_parcel := fun _ h => List.mem_cons_of_mem _ (List.mem_append_left _ (List.mem_append_right _ (h)))
  have hiX5 : ∀ w ∈ wsX50, w ∈ wsX10_parcel := fun _ h => List.mem_cons_of_mem _ (List.mem_append_right _ (h))
  have hiX8 : ∀ w ∈ wsX80, w ∈ wsX10_parcel := fun _ h => List.mem_cons_of_mem _ (List.mem_append_left _ (List.mem_append_left _ (List.mem_append_right _ (h))))
  generalize hQ : MQ _ _ _ _ _ _ _ = Q
  rcases ixd t (cs_n zc 2) with hnojt | ⟨jt, hjt, rfl⟩
  · skip
    have hks : kAll (cF cA zc) [(0, 0), (0, 8)] [cTP zc, cR8 cA zc] := ⟨(kF_tp (cA := cA) (z := zc)), (kF_r8 (cA := cA) (z := zc)), trivial⟩
    have hP : va_P (dC, dI) vwCl [cTP zc, cR8 cA zc] s.heap := kAll_P hPk hks
    have hD : va_D (va_A [cTP zc, cR8 cA zc] s.heap.size) [cTP zc, cR8 cA zc] := (kAll_D hDk hks (by simp)).self
    have hA : ∀ q : Nat, s.heap.size ≤ q → va_A [cTP zc, cR8 cA zc] s.heap.size q := fun q h => Or.inr h
    have hS : va_S (va_A [cTP zc, cR8 cA zc] s.heap.size) s.heap s.heap [] := va_S.rf
    refine lv_aload_n hx hb dX10_parcel_0 rfl (lv_at hl 0 rfl) ?_
    refine lv_iload_n hx hb dX10_parcel_1 rfl (lv_at hl 1 rfl) ?_
    have hPc := hP.sub (ws' := [cTP zc]) [0] rfl
    have hDc := hD.sub (ws' := [cTP zc]) [0] (by decide) rfl
    have hKc := hK.sub (tys' := []) [] rfl
    refine va_csq (va_Run.run (va_runV (As := [.int t]) (rest := []) ⟨hx, hb, hml, hown, hts⟩ (s_takeAt_no l dC dI  _ (cs_X zc 0 0) (.ref (cs_X zc 0 1)) (.ref (cs_X zc 0 6)) (.ref (cs_X zc 0 7)) (.ref (cs_X zc 0 8)) (.ref (cs_X zc 0 9)) (.ref (cs_X zc 0 10)) (.ref (cs_X zc 0 11)) (.int (nI (cs_n zc 0))) (.int (nI (cs_n zc 1))) (.int (nI (cs_n zc 3))) (va_rf (opN (cs_n zc 4) (fun _ => cs_X zc 5 0))) (.int (cs_i zc 2)) t (cs_n zc 2) (by omega) hnojt) (cwV 1 hts gX10_parcel_X10_takeAt rfl rfl rfl (by decide +kernel) ⟨Nat.le_of_ble_eq_true rfl, Nat.le_of_ble_eq_true rfl⟩) (pw_preV (va_recv hKc hPc (ci := 10) (q0 := 0) rfl rfl) hPc hKc hDc hN) rfl rfl hl.1 rfl (lv_room (Nat.le_of_ble_eq_true rfl)) dX10_parcel_2 ⟨Nat.le_of_ble_eq_true rfl, Nat.le_of_ble_eq_true rfl⟩)) (fun r1 hr1 => ?_)
    have hr1 : r1 = none := hr1
    subst hr1
    refine W.eq (g2 := F0 m 5 ls [.null]) rfl ?_
    refine lv_astoreN (lv' := [(4, .null), (0, .ref (cs_X zc 0 0)), (1, .int t), (2, .int tn), (3, .int gd)]) hx hb dX10_parcel_5 hl (by decide) rfl (fun ls hl => ?_)
    refine lv_aloadN hx hb dX10_parcel_7 (lv_at hl 0 rfl) ?_
    refine lv_ifnonnullN hx hb dX10_parcel_9 ?_
    refine lv_iconst (v := (-1)) hx hb dX10_parcel_12 (by decide) ?_
    subst hQ
    refine W.widen (k := 1) (n := 2) (Nat.le_of_ble_eq_true rfl) (Nat.le_of_ble_eq_true rfl) ?_
    exact W.iret (v := (-1)) hx hb hr (fun t ht hW => ⟨⟨(-1), zc, rfl, ⟨⟨hI, rfl⟩, (Or.inl ⟨hnojt, rfl, rfl⟩)⟩, (by rw [ht]; exact hPk), va_K.moved hW.alike hKk, kDA_self hDk⟩, (kw_same hPk ht).2⟩) (fun q h => absurd h List.not_mem_nil) dX10_parcel_13
  · skip
    have hks : kAll (cF cA zc) [(0, 0), (0, 8), (3, jt), (0, 9)] [cTP zc, cR8 cA zc, cTa zc jt, cR9 cA zc] := ⟨(kF_tp (cA := cA) (z := zc)), (kF_r8 (cA := cA) (z := zc)), (kF_ta (z := zc) hjt), (kF_r9 (cA := cA) (z := zc)), trivial⟩
    have hP : va_P (dC, dI) vwCl [cTP zc, cR8 cA zc, cTa zc jt, cR9 cA zc] s.heap := kAll_P hPk hks
    have hD : va_D (va_A [cTP zc, cR8 cA zc, cTa zc jt, cR9 cA zc] s.heap.size) [cTP zc, cR8 cA zc, cTa zc jt, cR9 cA zc] := (kAll_D hDk hks (by simp)).self
    have hA : ∀ q : Nat, s.heap.size ≤ q → va_A [cTP zc, cR8 cA zc, cTa zc jt, cR9 cA zc] s.heap.size q := fun q h => Or.inr h
    have hS : va_S (va_A [cTP zc, cR8 cA zc, cTa zc jt, cR9 cA zc] s.heap.size) s.heap s.heap [] := va_S.rf
    refine lv_aload_n hx hb dX10_parcel_0 rfl (lv_at hl 0 rfl) ?_
    refine lv_iload_n hx hb dX10_parcel_1 rfl (lv_at hl 1 rfl) ?_
    have hPc := hP.sub (ws' := [cTP zc, cR8 cA zc]) [0, 1] rfl
    have hDc := hD.sub (ws' := [cTP zc, cR8 cA zc]) [0, 1] (by decide) rfl
    have hKc := hK.sub (tys' := [(cA 3, .object RX8)]) [3] rfl
    refine va_csq (va_Run.run (va_runV (As := [.int (nI jt)]) (rest := []) ⟨hx, hb, hml, hown, hts⟩ (s_takeAt_yes l dC dI (cA 3) _ (cs_X zc 0 0) (.ref (cs_X zc 0 1)) (.ref (cs_X zc 0 6)) (.ref (cs_X zc 0 7)) (.ref (cs_X zc 0 9)) (.ref (cs_X zc 0 10)) (.ref (cs_X zc 0 11)) (.int (nI (cs_n zc 0))) (.int (nI (cs_n zc 1))) (.int (nI (cs_n zc 3))) (va_rf (opN (cs_n zc 4) (fun _ => cs_X zc 5 0))) (.int (cs_i zc 2)) (cs_X zc 0 8) jt (cs_n zc 2) (cs_X zc 3 jt) (rfN (cs_n zc 2) (cs_X zc 3)) hjt (by omega) (rfN_at hjt)) (cwV 1 hts gX10_parcel_X10_takeAt rfl rfl rfl (by decide +kernel) ⟨Nat.le_of_ble_eq_true rfl, Nat.le_of_ble_eq_true rfl⟩) (pw_preV (va_recv hKc hPc (ci := 10) (q0 := 0) rfl rfl) hPc hKc hDc hN) rfl rfl hl.1 rfl (lv_room (Nat.le_of_ble_eq_true rfl)) dX10_parcel_2 ⟨Nat.le_of_ble_eq_true rfl, Nat.le_of_ble_eq_true rfl⟩)) (fun r2 hr2 => ?_)
    have hr2 : r2 = some (cs_X zc 3 jt) := hr2
    subst hr2
    refine W.eq (g2 := F0 m 5 ls [.ref (cs_X zc 3 jt)]) rfl ?_
    refine lv_astore (lv' := [(4, .ref (cs_X zc 3 jt)), (0, .ref (cs_X zc 0 0)), (1, .int (nI jt)), (2, .int tn), (3, .int gd)]) hx hb dX10_parcel_5 hl (by decide) rfl (fun ls hl => ?_)
    refine lv_aload hx hb dX10_parcel_7 (lv_at hl 0 rfl) ?_
    refine lv_ifnonnull (tgt := 14) hx hb dX10_parcel_9 (by decide) ?_
    refine lv_iload_n hx hb dX10_parcel_14 rfl (lv_at hl 3 rfl) ?_
    refine lv_iconst (v := 1) hx hb dX10_parcel_15 (by decide) ?_
    refine lv_sipush (v := 1000) hx hb dX10_parcel_16 (by decide) ?_
    refine vp_callSi (va_Run.run (va_runS (As := [.int tn, .int 1, .int 1000]) (rest := []) ⟨hx, hb, hml, hown, hts⟩ (c_X10_isWithin l tn 1 1000 ) (va_cwS 3 hts gX10_parcel_X10_isWithin rfl rfl rfl (by decide +kernel) ⟨Nat.le_of_ble_eq_true rfl, Nat.le_of_ble_eq_true rfl⟩) (p0_preS hN) rfl rfl hl.1 rfl (lv_room (Nat.le_of_ble_eq_true rfl)) dX10_parcel_19 ⟨Nat.le_of_ble_eq_true rfl, Nat.le_of_ble_eq_true rfl⟩)) (fun r3 hr3 => ?_)
    have hr3 : r3 = if 1 ≤ tn ∧ tn ≤ 1000 then 1 else 0 := hr3
    refine lv_if_eq (tgt := 36) hx hb dX10_parcel_22 (by decide) (fun c4 => ?_) (fun c4 => ?_)
    · skip
      have c4 := (fa_bool_prop hr3).1.mp c4
      refine lv_bipush (v := (-2)) hx hb dX10_parcel_36 (by decide) ?_
      subst hQ
      refine W.widen (k := 1) (n := 2) (Nat.le_of_ble_eq_true rfl) (Nat.le_of_ble_eq_true rfl) ?_
      exact W.iret (v := (-2)) hx hb hr (fun t ht hW => ⟨⟨(-2), zc, rfl, ⟨⟨hI, rfl⟩, (Or.inr (Or.inl ⟨jt, rfl, hjt, c4, rfl, rfl⟩))⟩, (by rw [ht]; exact hPk), va_K.moved hW.alike hKk, kDA_self hDk⟩, (kw_same hPk ht).2⟩) (fun q h => absurd h List.not_mem_nil) dX10_parcel_38
    · skip
      have c4 := (fa_bool_prop hr3).2.mp c4
      refine lv_iload_n hx hb dX10_parcel_25 rfl (lv_at hl 4 rfl) ?_
      refine lv_iconst (v := 0) hx hb dX10_parcel_26 (by decide) ?_
      refine lv_sipush (v := 1000) hx hb dX10_parcel_27 (by decide) ?_
      refine vp_callSi (va_Run.run (va_runS (As := [.int gd, .int 0, .int 1000]) (rest := []) ⟨hx, hb, hml, hown, hts⟩ (c_X10_isWithin l gd 0 1000 ) (va_cwS 3 hts gX10_parcel_X10_isWithin rfl rfl rfl (by decide +kernel) ⟨Nat.le_of_ble_eq_true rfl, Nat.le_of_ble_eq_true rfl⟩) (p0_preS hN) rfl rfl hl.1 rfl (lv_room (Nat.le_of_ble_eq_true rfl)) dX10_parcel_30 ⟨Nat.le_of_ble_eq_true rfl, Nat.le_of_ble_eq_true rfl⟩)) (fun r5 hr5 => ?_)
      have hr5 : r5 = if 0 ≤ gd ∧ gd ≤ 1000 then 1 else 0 := hr5
      refine lv_if_ne (tgt := 39) hx hb dX10_parcel_33 (by decide) (fun c6 => ?_) (fun c6 => ?_)
      · skip
        have c6 := (fa_bool_prop hr5).2.mp c6
        refine lv_aload hx hb dX10_parcel_39 (lv_at hl 0 rfl) ?_
        refine va_get (D := (dC, dI)) (ci := 8) (v := .int (cs_I zc 33 jt)) (C := RX8) (T := TX8) (N := 12) hx hb hts hiX8 hown hK hP 2 rfl rfl 11 (by decide) (hts (.fieldLink RX10 238 "TributePitches$Take" "settled" "Z") (List.mem_of_getElem? (i := 1) rfl)) (fun _ h9 => h9) rfl dX10_parcel_41 ?_
        refine lv_if_eq (tgt := 50) hx hb dX10_parcel_44 (by decide) (fun c7 => ?_) (fun c7 => ?_)
        · skip
          refine lv_aload_n hx hb dX10_parcel_50 rfl (lv_at hl 1 rfl) ?_
          refine va_get (D := (dC, dI)) (ci := 10) (v := .int (nI (cs_n zc 3))) (C := RX10) (T := TX10) (N := 13) hx hb hts hiX10 hown hK hP 0 rfl rfl 10 (by decide) (hts (.fieldLink RX10 242 "TributePitches" "parcelCount" "I") (List.mem_of_getElem? (i := 2) rfl)) (fun _ h9 => h9) rfl dX10_parcel_51 ?_
          refine lv_bipush (v := 80) hx hb dX10_parcel_54 (by decide) ?_
          refine lv_icmp_lt (tgt := 62) hx hb dX10_parcel_56 (by decide) (fun c8 => ?_) (fun c8 => ?_)
          · skip
            have hk8 : cs_n zc 3 < 80 := nI_lt_of (b := 80) (by omega) (by omega) c8
            refine lv_aload_n hx hb dX10_parcel_62 rfl (lv_at hl 1 rfl) ?_
            refine va_get (D := (dC, dI)) (ci := 10) (v := .ref (cs_X zc 0 9)) (C := RX10) (T := TX10) (N := 13) hx hb hts hiX10 hown hK hP 0 rfl rfl 4 (by decide) (hts (.fieldLink RX10 38 "TributePitches" "parcels" "[LTributePitches$Parcel;") (List.mem_of_getElem? (i := 3) rfl)) (fun _ h9 => h9) rfl dX10_parcel_63 ?_
            refine lv_aload_n hx hb dX10_parcel_66 rfl (lv_at hl 1 rfl) ?_
            refine va_get (D := (dC, dI)) (ci := 10) (v := .int (nI (cs_n zc 3))) (C := RX10) (T := TX10) (N := 13) hx hb hts hiX10 hown hK hP 0 rfl rfl 10 (by decide) (hts (.fieldLink RX10 242 "TributePitches" "parcelCount" "I") (List.mem_of_getElem? (i := 2) rfl)) (fun _ h9 => h9) rfl dX10_parcel_67 ?_
            refine va_new (ci := 5) (fs := [.null, .int 0]) (C := RX5) (T := TX5) (N := 2) hx hb hts hiX5 tyX5 tyX5_ok hown (hts (.classLink RX10 36 RX5) (List.mem_of_getElem? (i := 4) rfl)) (hts (.instantiable RX5 2) (List.mem_of_getElem? (i := 5) rfl)) (hts (.initialized RX5) (List.mem_of_getElem? (i := 6) rfl)) hK hP hD hS hA rfl (fun j hj => by rcases (show j = 0 ∨ j = 1 by omega) with rfl | rfl <;> rfl) (Nat.le_of_ble_eq_true rfl) (Nat.le_of_ble_eq_true rfl) dX10_parcel_70 (fun qk H hP hD hS => ?_)
            have hP : va_P (dC, dI) vwCl [cTP zc, cR8 cA zc, cTa zc jt, cR9 cA zc, (qk, .inr (5, [.null, .int 0]))] H := hP
            have hD : va_D _ [cTP zc, cR8 cA zc, cTa zc jt, cR9 cA zc, (qk, .inr (5, [.null, .int 0]))] := hD
            refine lv_dup hx hb dX10_parcel_73 rfl ?_
            refine lv_aload hx hb dX10_parcel_74 (lv_at hl 0 rfl) ?_
            refine va_get (D := (dC, dI)) (ci := 8) (v := .ref (cs_X zc 1 (cs_N zc 3 jt))) (C := RX8) (T := TX8) (N := 12) hx hb hts hiX8 hown hK hP 2 rfl rfl 3 (by decide) (hts (.fieldLink RX10 245 "TributePitches$Take" "pitch" "LTributePitches$Pitch;") (List.mem_of_getElem? (i := 7) rfl)) (fun _ h9 => h9) rfl dX10_parcel_76 ?_
            refine lv_iload_n hx hb dX10_parcel_79 rfl (lv_at hl 4 rfl) ?_
            have hPc := hP.sub (ws' := [(qk, .inr (5, [.null, .int 0]))]) [4] rfl
            have hDc := hD.sub (ws' := [(qk, .inr (5, [.null, .int 0]))]) [4] (by decide) rfl
            have hKc := hK.sub (tys' := []) [] rfl
            have hFc := va_free (wc := [(qk, .inr (5, [.null, .int 0]))]) hD hS hA [4] rfl
            refine va_callv (va_runI (As := [.ref (cs_X zc 1 (cs_N zc 3 jt)), .int gd]) (rest := [.ref qk, .int (nI (cs_n zc 3)), .ref (cs_X zc 0 9)]) ⟨hx, hb, hml, hown, hts⟩ (s_X5_init l dC dI  _ qk (cs_X zc 1 (cs_N zc 3 jt)) gd ) (cwI 2 hts gX10_parcel_X5_init rfl rfl rfl (hts (.initialized RX5) (List.mem_of_getElem? (i := 6) rfl)) (hts (.methodLink RX10 246 yX5_init) (List.mem_of_getElem? (i := 20) rfl)) (hts (.instanceMethod yX5_init) (List.mem_of_getElem? (i := 21) rfl)) rfl (by decide +kernel) ⟨Nat.le_of_ble_eq_true rfl, Nat.le_of_ble_eq_true rfl⟩) (pw_preS hPc hKc hDc hN) rfl rfl hl.1 rfl (lv_room (Nat.le_of_ble_eq_true rfl)) dX10_parcel_80 ⟨Nat.le_of_ble_eq_true rfl, Nat.le_of_ble_eq_true rfl⟩) hS (fun q _ h => hFc q h) hFc (fun u t H1 locs ht hvm hw hB hz1 hk1 hS => ?_)
            obtain ⟨hP1, hK1, hD1⟩ := hB
            rw [ht] at hP1
            obtain ⟨hP, hD⟩ := va_join (wr := [cTP zc, cR8 cA zc, cTa zc jt, cR9 cA zc]) (w1 := [(qk, .inr (5, [.ref (cs_X zc 1 (cs_N zc 3 jt)), .int gd]))]) hP hD [4] [0, 1, 2, 3] rfl rfl (by decide) (by decide) hk1 hFc hP1 hD1
            generalize H1 = H at hP hS ⊢
            have hP : va_P (dC, dI) vwCl [cTP zc, cR8 cA zc, cTa zc jt, cR9 cA zc, (qk, .inr (5, [.ref (cs_X zc 1 (cs_N zc 3 jt)), .int gd]))] H := hP
            have hD : va_D _ [cTP zc, cR8 cA zc, cTa zc jt, cR9 cA zc, (qk, .inr (5, [.ref (cs_X zc 1 (cs_N zc 3 jt)), .int gd]))] := hD
            refine va_astq (r := (RX5, TX5, 2)) hx hb hK hP hD hS 3 4 4 5 rfl rfl rfl rfl (vp_in_nI (by omega) (by omega)) dX10_parcel_83 (fun H locs hP hD hS => ?_)
            have hP : va_P (dC, dI) vwCl [cTP zc, cR8 cA zc, cTa zc jt, (cs_X zc 0 9, .inl (cA 4, 80, .inr (.inr (.inr (.inr (va_up (rfN (cs_n zc 3) (cs_X zc 4)) (nI (cs_n zc 3)).toNatClampNeg (some qk))))))), (qk, .inr (5, [.ref (cs_X zc 1 (cs_N zc 3 jt)), .int gd]))] H := hP
            have hD : va_D _ [cTP zc, cR8 cA zc, cTa zc jt, (cs_X zc 0 9, .inl (cA 4, 80, .inr (.inr (.inr (.inr (va_up (rfN (cs_n zc 3) (cs_X zc 4)) (nI (cs_n zc 3)).toNatClampNeg (some qk))))))), (qk, .inr (5, [.ref (cs_X zc 1 (cs_N zc 3 jt)), .int gd]))] := hD
            refine lv_aload hx hb dX10_parcel_84 (lv_at hl 0 rfl) ?_
            refine lv_dup hx hb dX10_parcel_86 rfl ?_
            refine va_get (D := (dC, dI)) (ci := 8) (v := .int (cs_I zc 32 jt)) (C := RX8) (T := TX8) (N := 12) hx hb hts hiX8 hown hK hP 2 rfl rfl 10 (by decide) (hts (.fieldLink RX10 247 "TributePitches$Take" "parcels" "I") (List.mem_of_getElem? (i := 8) rfl)) (fun _ h9 => h9) rfl dX10_parcel_87 ?_
            refine lv_iconst (v := 1) hx hb dX10_parcel_90 (by decide) ?_
            refine lv_iadd hx hb dX10_parcel_91 ?_
            refine va_put (D := (dC, dI)) (ci := 8) (v := .int ((cs_I zc 32 jt) + 1)) (ty := .int) (C := RX8) (T := TX8) (N := 12) hx hb hts hiX8 tyX8 tyX8_ok nmX8 hown hK hP hD hS 2 rfl rfl 10 (by decide) (hts (.fieldLink RX10 247 "TributePitches$Take" "parcels" "I") (List.mem_of_getElem? (i := 8) rfl)) (fun _ h9 => h9) rfl (by decide +kernel) rfl rfl (Nat.le_of_ble_eq_true rfl) dX10_parcel_92 (fun H locs hP hD hS => ?_)
            have hP : va_P (dC, dI) vwCl [cTP zc, cR8 cA zc, (cs_X zc 3 jt, .inr (8, [.int (nI jt), .int (cs_I zc 31 jt), .ref (cs_X zc 2 (cs_N zc 2 jt)), .ref (cs_X zc 1 (cs_N zc 3 jt)), .long (cs_L zc 1 jt), .long (cs_L zc 2 jt), .long (cs_L zc 3 jt), .long (cs_L zc 4 jt), .long (cs_L zc 5 jt), .long (cs_L zc 6 jt), .int ((cs_I zc 32 jt) + 1), .int (cs_I zc 33 jt)])), (cs_X zc 0 9, .inl (cA 4, 80, .inr (.inr (.inr (.inr (va_up (rfN (cs_n zc 3) (cs_X zc 4)) (nI (cs_n zc 3)).toNatClampNeg (some qk))))))), (qk, .inr (5, [.ref (cs_X zc 1 (cs_N zc 3 jt)), .int gd]))] H := hP
            have hD : va_D _ [cTP zc, cR8 cA zc, (cs_X zc 3 jt, .inr (8, [.int (nI jt), .int (cs_I zc 31 jt), .ref (cs_X zc 2 (cs_N zc 2 jt)), .ref (cs_X zc 1 (cs_N zc 3 jt)), .long (cs_L zc 1 jt), .long (cs_L zc 2 jt), .long (cs_L zc 3 jt), .long (cs_L zc 4 jt), .long (cs_L zc 5 jt), .long (cs_L zc 6 jt), .int ((cs_I zc 32 jt) + 1), .int (cs_I zc 33 jt)])), (cs_X zc 0 9, .inl (cA 4, 80, .inr (.inr (.inr (.inr (va_up (rfN (cs_n zc 3) (cs_X zc 4)) (nI (cs_n zc 3)).toNatClampNeg (some qk))))))), (qk, .inr (5, [.ref (cs_X zc 1 (cs_N zc 3 jt)), .int gd]))] := hD
            refine lv_aload hx hb dX10_parcel_95 (lv_at hl 0 rfl) ?_
            refine lv_dup hx hb dX10_parcel_97 rfl ?_
            refine va_get (D := (dC, dI)) (ci := 8) (v := .long (cs_L zc 3 jt)) (C := RX8) (T := TX8) (N := 12) hx hb hts hiX8 hown hK hP 2 rfl rfl 6 (by decide) (hts (.fieldLink RX10 249 "TributePitches$Take" "worths" "J") (List.mem_of_getElem? (i := 9) rfl)) (fun _ h9 => h9) rfl dX10_parcel_98 ?_
            refine lv_iload_n hx hb dX10_parcel_101 rfl (lv_at hl 3 rfl) ?_
            refine lv_i2l (v := tn.toInt64) hx hb dX10_parcel_102 rfl ?_
            refine lv_iload_n hx hb dX10_parcel_103 rfl (lv_at hl 4 rfl) ?_
            refine lv_i2l (v := gd.toInt64) hx hb dX10_parcel_104 rfl ?_
            refine lv_lmul hx hb dX10_parcel_105 ?_
            refine lv_ladd hx hb dX10_parcel_106 ?_
            refine va_put (D := (dC, dI)) (ci := 8) (v := .long ((cs_L zc 3 jt) + (tn.toInt64 * gd.toInt64))) (ty := .long) (C := RX8) (T := TX8) (N := 12) hx hb hts hiX8 tyX8 tyX8_ok nmX8 hown hK hP hD hS 2 rfl rfl 6 (by decide) (hts (.fieldLink RX10 249 "TributePitches$Take" "worths" "J") (List.mem_of_getElem? (i := 9) rfl)) (fun _ h9 => h9) rfl (by decide +kernel) rfl rfl (Nat.le_of_ble_eq_true rfl) dX10_parcel_107 (fun H locs hP hD hS => ?_)
            have hP : va_P (dC, dI) vwCl [cTP zc, cR8 cA zc, (cs_X zc 3 jt, .inr (8, [.int (nI jt), .int (cs_I zc 31 jt), .ref (cs_X zc 2 (cs_N zc 2 jt)), .ref (cs_X zc 1 (cs_N zc 3 jt)), .long (cs_L zc 1 jt), .long (cs_L zc 2 jt), .long ((cs_L zc 3 jt) + (tn.toInt64 * gd.toInt64)), .long (cs_L zc 4 jt), .long (cs_L zc 5 jt), .long (cs_L zc 6 jt), .int ((cs_I zc 32 jt) + 1), .int (cs_I zc 33 jt)])), (cs_X zc 0 9, .inl (cA 4, 80, .inr (.inr (.inr (.inr (va_up (rfN (cs_n zc 3) (cs_X zc 4)) (nI (cs_n zc 3)).toNatClampNeg (some qk))))))), (qk, .inr (5, [.ref (cs_X zc 1 (cs_N zc 3 jt)), .int gd]))] H := hP
            have hD : va_D _ [cTP zc, cR8 cA zc, (cs_X zc 3 jt, .inr (8, [.int (nI jt), .int (cs_I zc 31 jt), .ref (cs_X zc 2 (cs_N zc 2 jt)), .ref (cs_X zc 1 (cs_N zc 3 jt)), .long (cs_L zc 1 jt), .long (cs_L zc 2 jt), .long ((cs_L zc 3 jt) + (tn.toInt64 * gd.toInt64)), .long (cs_L zc 4 jt), .long (cs_L zc 5 jt), .long (cs_L zc 6 jt), .int ((cs_I zc 32 jt) + 1), .int (cs_I zc 33 jt)])), (cs_X zc 0 9, .inl (cA 4, 80, .inr (.inr (.inr (.inr (va_up (rfN (cs_n zc 3) (cs_X zc 4)) (nI (cs_n zc 3)).toNatClampNeg (some qk))))))), (qk, .inr (5, [.ref (cs_X zc 1 (cs_N zc 3 jt)), .int gd]))] := hD
            refine lv_aload_n hx hb dX10_parcel_110 rfl (lv_at hl 1 rfl) ?_
            refine lv_dup hx hb dX10_parcel_111 rfl ?_
            refine va_get (D := (dC, dI)) (ci := 10) (v := .int (nI (cs_n zc 3))) (C := RX10) (T := TX10) (N := 13) hx hb hts hiX10 hown hK hP 0 rfl rfl 10 (by decide) (hts (.fieldLink RX10 242 "TributePitches" "parcelCount" "I") (List.mem_of_getElem? (i := 2) rfl)) (fun _ h9 => h9) rfl dX10_parcel_112 ?_
            refine lv_dup_x1 hx hb dX10_parcel_115 rfl rfl ?_
            refine lv_iconst (v := 1) hx hb dX10_parcel_116 (by decide) ?_
            refine lv_iadd hx hb dX10_parcel_117 ?_
            refine lv_topi (fun v117 ev117 => ?_)
            have ev117 : v117 = nI (cs_n zc 3 + 1) := by rw [ev117]; exact nI_1 _
            subst ev117
            refine va_put (D := (dC, dI)) (ci := 10) (v := .int (nI (cs_n zc 3 + 1))) (ty := .int) (C := RX10) (T := TX10) (N := 13) hx hb hts hiX10 tyX10 tyX10_ok nmX10 hown hK hP hD hS 0 rfl rfl 10 (by decide) (hts (.fieldLink RX10 242 "TributePitches" "parcelCount" "I") (List.mem_of_getElem? (i := 2) rfl)) (fun _ h9 => h9) rfl (by decide +kernel) rfl rfl (Nat.le_of_ble_eq_true rfl) dX10_parcel_118 (fun H locs hP hD hS => ?_)
            have hP : va_P (dC, dI) vwCl [(cs_X zc 0 0, .inr (10, [.ref (cs_X zc 0 1), .ref (cs_X zc 0 6), .ref (cs_X zc 0 7), .ref (cs_X zc 0 8), .ref (cs_X zc 0 9), .ref (cs_X zc 0 10), .ref (cs_X zc 0 11), .int (nI (cs_n zc 0)), .int (nI (cs_n zc 1)), .int (nI (cs_n zc 2)), .int (nI (cs_n zc 3 + 1)), va_rf (opN (cs_n zc 4) (fun _ => cs_X zc 5 0)), .int (cs_i zc 2)])), cR8 cA zc, (cs_X zc 3 jt, .inr (8, [.int (nI jt), .int (cs_I zc 31 jt), .ref (cs_X zc 2 (cs_N zc 2 jt)), .ref (cs_X zc 1 (cs_N zc 3 jt)), .long (cs_L zc 1 jt), .long (cs_L zc 2 jt), .long ((cs_L zc 3 jt) + (tn.toInt64 * gd.toInt64)), .long (cs_L zc 4 jt), .long (cs_L zc 5 jt), .long (cs_L zc 6 jt), .int ((cs_I zc 32 jt) + 1), .int (cs_I zc 33 jt)])), (cs_X zc 0 9, .inl (cA 4, 80, .inr (.inr (.inr (.inr (va_up (rfN (cs_n zc 3) (cs_X zc 4)) (nI (cs_n zc 3)).toNatClampNeg (some qk))))))), (qk, .inr (5, [.ref (cs_X zc 1 (cs_N zc 3 jt)), .int gd]))] H := hP
            have hD : va_D _ [(cs_X zc 0 0, .inr (10, [.ref (cs_X zc 0 1), .ref (cs_X zc 0 6), .ref (cs_X zc 0 7), .ref (cs_X zc 0 8), .ref (cs_X zc 0 9), .ref (cs_X zc 0 10), .ref (cs_X zc 0 11), .int (nI (cs_n zc 0)), .int (nI (cs_n zc 1)), .int (nI (cs_n zc 2)), .int (nI (cs_n zc 3 + 1)), va_rf (opN (cs_n zc 4) (fun _ => cs_X zc 5 0)), .int (cs_i zc 2)])), cR8 cA zc, (cs_X zc 3 jt, .inr (8, [.int (nI jt), .int (cs_I zc 31 jt), .ref (cs_X zc 2 (cs_N zc 2 jt)), .ref (cs_X zc 1 (cs_N zc 3 jt)), .long (cs_L zc 1 jt), .long (cs_L zc 2 jt), .long ((cs_L zc 3 jt) + (tn.toInt64 * gd.toInt64)), .long (cs_L zc 4 jt), .long (cs_L zc 5 jt), .long (cs_L zc 6 jt), .int ((cs_I zc 32 jt) + 1), .int (cs_I zc 33 jt)])), (cs_X zc 0 9, .inl (cA 4, 80, .inr (.inr (.inr (.inr (va_up (rfN (cs_n zc 3) (cs_X zc 4)) (nI (cs_n zc 3)).toNatClampNeg (some qk))))))), (qk, .inr (5, [.ref (cs_X zc 1 (cs_N zc 3 jt)), .int gd]))] := hD
            subst hQ
            have hP9 : va_P (dC, dI) vwCl [(cs_X zc 0 0, .inr (10, [.ref (cs_X zc 0 1), .ref (cs_X zc 0 6), .ref (cs_X zc 0 7), .ref (cs_X zc 0 8), .ref (cs_X zc 0 9), .ref (cs_X zc 0 10), .ref (cs_X zc 0 11), .int (nI (cs_n zc 0)), .int (nI (cs_n zc 1)), .int (nI (cs_n zc 2)), .int (nI (cs_n zc 3 + 1)), va_rf (opN (cs_n zc 4) (fun _ => cs_X zc 5 0)), .int (cs_i zc 2)])), cR8 cA zc, (cs_X zc 3 jt, .inr (8, [.int (nI jt), .int (cs_I zc 31 jt), .ref (cs_X zc 2 (cs_N zc 2 jt)), .ref (cs_X zc 1 (cs_N zc 3 jt)), .long (cs_L zc 1 jt), .long (cs_L zc 2 jt), .long ((cs_L zc 3 jt) + (tn.toInt64 * gd.toInt64)), .long (cs_L zc 4 jt), .long (cs_L zc 5 jt), .long (cs_L zc 6 jt), .int ((cs_I zc 32 jt) + 1), .int (cs_I zc 33 jt)])), (cs_X zc 0 9, .inl (cA 4, 80, .inr (.inr (.inr (.inr (va_up (rfN (cs_n zc 3) (cs_X zc 4)) (nI (cs_n zc 3)).toNatClampNeg (some qk))))))), (qk, .inr (5, [.ref (cs_X zc 1 (cs_N zc 3 jt)), .int gd]))] H := hP.sub [0, 1, 2, 3, 4] rfl
            have hD9 : va_D (va_A [cTP zc, cR8 cA zc, cTa zc jt, cR9 cA zc] s.heap.size) [(cs_X zc 0 0, .inr (10, [.ref (cs_X zc 0 1), .ref (cs_X zc 0 6), .ref (cs_X zc 0 7), .ref (cs_X zc 0 8), .ref (cs_X zc 0 9), .ref (cs_X zc 0 10), .ref (cs_X zc 0 11), .int (nI (cs_n zc 0)), .int (nI (cs_n zc 1)), .int (nI (cs_n zc 2)), .int (nI (cs_n zc 3 + 1)), va_rf (opN (cs_n zc 4) (fun _ => cs_X zc 5 0)), .int (cs_i zc 2)])), cR8 cA zc, (cs_X zc 3 jt, .inr (8, [.int (nI jt), .int (cs_I zc 31 jt), .ref (cs_X zc 2 (cs_N zc 2 jt)), .ref (cs_X zc 1 (cs_N zc 3 jt)), .long (cs_L zc 1 jt), .long (cs_L zc 2 jt), .long ((cs_L zc 3 jt) + (tn.toInt64 * gd.toInt64)), .long (cs_L zc 4 jt), .long (cs_L zc 5 jt), .long (cs_L zc 6 jt), .int ((cs_I zc 32 jt) + 1), .int (cs_I zc 33 jt)])), (cs_X zc 0 9, .inl (cA 4, 80, .inr (.inr (.inr (.inr (va_up (rfN (cs_n zc 3) (cs_X zc 4)) (nI (cs_n zc 3)).toNatClampNeg (some qk))))))), (qk, .inr (5, [.ref (cs_X zc 1 (cs_N zc 3 jt)), .int gd]))] := hD.sub [0, 1, 2, 3, 4] (by decide) rfl
            have hlf := lf_parcel_2 cA zc tn gd jt qk hjt c4 c6 c7 c8 hk8 hI
            exact W.iret (v := nI (cs_n zc 3)) hx hb hr (fun t ht hW => have hJ := kjoin hPk hDk hks rfl (hS.F ht) (by rw [ht]; exact hP9) hD9 hlf.2.1 hlf.2.2; ⟨⟨nI (cs_n zc 3), (cs_i zc, va_up (cs_n zc) 3 (cs_n zc 3 + 1), va_up (va_up (cs_I zc) 32 (va_up (cs_I zc 32) jt ((cs_I zc 32 jt) + 1))) 40 (va_up (cs_I zc 40) (cs_n zc 3) gd), va_up (cs_L zc) 3 (va_up (cs_L zc 3) jt ((cs_L zc 3 jt) + (tn.toInt64 * gd.toInt64))), va_up (cs_N zc) 4 (va_up (cs_N zc 4) (cs_n zc 3) (cs_N zc 3 jt)), cs_S zc, va_up (cs_X zc) 4 (va_up (cs_X zc 4) (cs_n zc 3) qk)), rfl, ⟨⟨hlf.1, rfl⟩, (Or.inr (Or.inr (Or.inl ⟨jt, rfl, hjt, c4, c6, c7, c8, hk8, qk, rfl, rfl⟩)))⟩, hJ.1, va_K.moved hW.alike hKk, hJ.2.1⟩, hJ.2.2⟩) (fun q h => kAll_A hks _ (hS.2.2 q h)) dX10_parcel_121
          · skip
            refine lv_bipush (v := (-4)) hx hb dX10_parcel_59 (by decide) ?_
            subst hQ
            refine W.widen (k := 1) (n := 2) (Nat.le_of_ble_eq_true rfl) (Nat.le_of_ble_eq_true rfl) ?_
            exact W.iret (v := (-4)) hx hb hr (fun t ht hW => ⟨⟨(-4), zc, rfl, ⟨⟨hI, rfl⟩, (Or.inr (Or.inr (Or.inr (Or.inl ⟨jt, rfl, hjt, c4, c6, c7, c8, rfl, rfl⟩))))⟩, (by rw [ht]; exact hPk), va_K.moved hW.alike hKk, kDA_self hDk⟩, (kw_same hPk ht).2⟩) (fun q h => absurd h List.not_mem_nil) dX10_parcel_61
        · skip
          refine lv_bipush (v := (-3)) hx hb dX10_parcel_47 (by decide) ?_
          subst hQ
          refine W.widen (k := 1) (n := 2) (Nat.le_of_ble_eq_true rfl) (Nat.le_of_ble_eq_true rfl) ?_
          exact W.iret (v := (-3)) hx hb hr (fun t ht hW => ⟨⟨(-3), zc, rfl, ⟨⟨hI, rfl⟩, (Or.inr (Or.inr (Or.inr (Or.inr (Or.inl ⟨jt, rfl, hjt, c4, c6, c7, rfl, rfl⟩)))))⟩, (by rw [ht]; exact hPk), va_K.moved hW.alike hKk, kDA_self hDk⟩, (kw_same hPk ht).2⟩) (fun q h => absurd h List.not_mem_nil) dX10_parcel_49
      · skip
        have c6 := (fa_bool_prop hr5).1.mp c6
        refine lv_bipush (v := (-2)) hx hb dX10_parcel_36 (by decide) ?_
        subst hQ
        refine W.widen (k := 1) (n := 2) (Nat.le_of_ble_eq_true rfl) (Nat.le_of_ble_eq_true rfl) ?_
        exact W.iret (v := (-2)) hx hb hr (fun t ht hW => ⟨⟨(-2), zc, rfl, ⟨⟨hI, rfl⟩, (Or.inr (Or.inr (Or.inr (Or.inr (Or.inr ⟨jt, rfl, hjt, c4, c6, rfl, rfl⟩)))))⟩, (by rw [ht]; exact hPk), va_K.moved hW.alike hKk, kDA_self hDk⟩, (kw_same hPk ht).2⟩) (fun q h => absurd h List.not_mem_nil) dX10_parcel_38
def pC_pitch (zc : CS) (x : Int32) (y : Int32) (xx : Int32) (yy : Int32) (tn : Int32) (r : Int32) (u : CS) : Prop :=
  ((¬ ((0 ≤ x ∧ x ≤ 7) ∧ (0 ≤ y ∧ y ≤ 5))) ∧ r = ((-1)) ∧ u = zc) ∨
  (((0 ≤ x ∧ x ≤ 7) ∧ (0 ≤ y ∧ y ≤ 5)) ∧ ((0 ≤ xx ∧ xx ≤ 7) ∧ (0 ≤ yy ∧ yy ≤ 5)) ∧ (xx < x) ∧ r = ((-2)) ∧ u = zc) ∨
  (((0 ≤ x ∧ x ≤ 7) ∧ (0 ≤ y ∧ y ≤ 5)) ∧ ((0 ≤ xx ∧ xx ≤ 7) ∧ (0 ≤ yy ∧ yy ≤ 5)) ∧ (¬ xx < x) ∧ (yy < y) ∧ r = ((-2)) ∧ u = zc) ∨
  (((0 ≤ x ∧ x ≤ 7) ∧ (0 ≤ y ∧ y ≤ 5)) ∧ ((0 ≤ xx ∧ xx ≤ 7) ∧ (0 ≤ yy ∧ yy ≤ 5)) ∧ (¬ xx < x) ∧ (¬ yy < y) ∧ (1 ≤ tn ∧ tn ≤ 100) ∧ (∀ p, p < cs_n zc 0 → ¬ (cs_I zc 11 p ≤ xx ∧ x ≤ cs_I zc 13 p ∧ cs_I zc 12 p ≤ yy ∧ y ≤ cs_I zc 14 p)) ∧ ((nI (cs_n zc 0)) < 12) ∧ (cs_n zc 0 < 12) ∧ ∃ qp : Nat, r = (nI (cs_n zc 0)) ∧ u = (cs_i zc, va_up (cs_n zc) 0 (cs_n zc 0 + 1), va_up (va_up (va_up (va_up (va_up (va_up (cs_I zc) 11 (va_up (cs_I zc 11) (cs_n zc 0) x)) 12 (va_up (cs_I zc 12) (cs_n zc 0) y)) 13 (va_up (cs_I zc 13) (cs_n zc 0) xx)) 14 (va_up (cs_I zc 14) (cs_n zc 0) yy)) 15 (va_up (cs_I zc 15) (cs_n zc 0) tn)) 16 (va_up (cs_I zc 16) (cs_n zc 0) 0), cs_L zc, va_up (cs_N zc) 0 (va_up (cs_N zc 0) (cs_n zc 0) 0), cs_S zc, va_up (cs_X zc) 1 (va_up (cs_X zc 1) (cs_n zc 0) qp))) ∨
  (((0 ≤ x ∧ x ≤ 7) ∧ (0 ≤ y ∧ y ≤ 5)) ∧ ((0 ≤ xx ∧ xx ≤ 7) ∧ (0 ≤ yy ∧ yy ≤ 5)) ∧ (¬ xx < x) ∧ (¬ yy < y) ∧ (1 ≤ tn ∧ tn ≤ 100) ∧ (∀ p, p < cs_n zc 0 → ¬ (cs_I zc 11 p ≤ xx ∧ x ≤ cs_I zc 13 p ∧ cs_I zc 12 p ≤ yy ∧ y ≤ cs_I zc 14 p)) ∧ (¬ (nI (cs_n zc 0)) < 12) ∧ r = ((-4)) ∧ u = zc) ∨
  (((0 ≤ x ∧ x ≤ 7) ∧ (0 ≤ y ∧ y ≤ 5)) ∧ ((0 ≤ xx ∧ xx ≤ 7) ∧ (0 ≤ yy ∧ yy ≤ 5)) ∧ (¬ xx < x) ∧ (¬ yy < y) ∧ (1 ≤ tn ∧ tn ≤ 100) ∧ (∃ p, p < cs_n zc 0 ∧ (cs_I zc 11 p ≤ xx ∧ x ≤ cs_I zc 13 p ∧ cs_I zc 12 p ≤ yy ∧ y ≤ cs_I zc 14 p)) ∧ r = ((-3)) ∧ u = zc) ∨
  (((0 ≤ x ∧ x ≤ 7) ∧ (0 ≤ y ∧ y ≤ 5)) ∧ ((0 ≤ xx ∧ xx ≤ 7) ∧ (0 ≤ yy ∧ yy ≤ 5)) ∧ (¬ xx < x) ∧ (¬ yy < y) ∧ (¬ (1 ≤ tn ∧ tn ≤ 100)) ∧ r = ((-2)) ∧ u = zc) ∨
  (((0 ≤ x ∧ x ≤ 7) ∧ (0 ≤ y ∧ y ≤ 5)) ∧ (¬ ((0 ≤ xx ∧ xx ≤ 7) ∧ (0 ≤ yy ∧ yy ≤ 5))) ∧ r = ((-1)) ∧ u = zc)
set_option maxHeartbeats 4000000 in
theorem lf_pitch_3 (cA : Nat → ClassId) (zc : CS) (x : Int32) (y : Int32) (xx : Int32) (yy : Int32) (tn : Int32) (qp : Nat) (c2 : (0 ≤ x ∧ x ≤ 7) ∧ (0 ≤ y ∧ y ≤ 5)) (c4 : (0 ≤ xx ∧ xx ≤ 7) ∧ (0 ≤ yy ∧ yy ≤ 5)) (c5 : ¬ xx < x) (c6 : ¬ yy < y) (c8 : 1 ≤ tn ∧ tn ≤ 100) (hanyr9 : ∀ p, p < cs_n zc 0 → ¬ (cs_I zc 11 p ≤ xx ∧ x ≤ cs_I zc 13 p ∧ cs_I zc 12 p ≤ yy ∧ y ≤ cs_I zc 14 p)) (c11 : (nI (cs_n zc 0)) < 12) (hp8 : cs_n zc 0 < 12) (hI : invC zc) : invC (cs_i zc, va_up (cs_n zc) 0 (cs_n zc 0 + 1), va_up (va_up (va_up (va_up (va_up (va_up (cs_I zc) 11 (va_up (cs_I zc 11) (cs_n zc 0) x)) 12 (va_up (cs_I zc 12) (cs_n zc 0) y)) 13 (va_up (cs_I zc 13) (cs_n zc 0) xx)) 14 (va_up (cs_I zc 14) (cs_n zc 0) yy)) 15 (va_up (cs_I zc 15) (cs_n zc 0) tn)) 16 (va_up (cs_I zc 16) (cs_n zc 0) 0), cs_L zc, va_up (cs_N zc) 0 (va_up (cs_N zc 0) (cs_n zc 0) 0), cs_S zc, va_up (cs_X zc) 1 (va_up (cs_X zc 1) (cs_n zc 0) qp)) ∧ kAll (cF cA (cs_i zc, va_up (cs_n zc) 0 (cs_n zc 0 + 1), va_up (va_up (va_up (va_up (va_up (va_up (cs_I zc) 11 (va_up (cs_I zc 11) (cs_n zc 0) x)) 12 (va_up (cs_I zc 12) (cs_n zc 0) y)) 13 (va_up (cs_I zc 13) (cs_n zc 0) xx)) 14 (va_up (cs_I zc 14) (cs_n zc 0) yy)) 15 (va_up (cs_I zc 15) (cs_n zc 0) tn)) 16 (va_up (cs_I zc 16) (cs_n zc 0) 0), cs_L zc, va_up (cs_N zc) 0 (va_up (cs_N zc 0) (cs_n zc 0) 0), cs_S zc, va_up (cs_X zc) 1 (va_up (cs_X zc 1) (cs_n zc 0) qp))) [(0, 0), (0, 6), (1, cs_n zc 0)] [(cs_X zc 0 0, .inr (10, [.ref (cs_X zc 0 1), .ref (cs_X zc 0 6), .ref (cs_X zc 0 7), .ref (cs_X zc 0 8), .ref (cs_X zc 0 9), .ref (cs_X zc 0 10), .ref (cs_X zc 0 11), .int (nI (cs_n zc 0 + 1)), .int (nI (cs_n zc 1)), .int (nI (cs_n zc 2)), .int (nI (cs_n zc 3)), va_rf (opN (cs_n zc 4) (fun _ => cs_X zc 5 0)), .int (cs_i zc 2)])), (cs_X zc 0 6, .inl (cA 1, 12, .inr (.inr (.inr (.inr (va_up (rfN (cs_n zc 0) (cs_X zc 1)) (nI (cs_n zc 0)).toNatClampNeg (some qp))))))), (qp, .inr (6, [.int (nI (cs_n zc 0)), .int x, .int y, .int xx, .int yy, .int tn, .int 0, .null]))] ∧ ∀ i j, (i, j) ∉ ([(0, 0), (0, 6), (1, cs_n zc 0)] : List (Nat × Nat)) → cF cA (cs_i zc, va_up (cs_n zc) 0 (cs_n zc 0 + 1), va_up (va_up (va_up (va_up (va_up (va_up (cs_I zc) 11 (va_up (cs_I zc 11) (cs_n zc 0) x)) 12 (va_up (cs_I zc 12) (cs_n zc 0) y)) 13 (va_up (cs_I zc 13) (cs_n zc 0) xx)) 14 (va_up (cs_I zc 14) (cs_n zc 0) yy)) 15 (va_up (cs_I zc 15) (cs_n zc 0) tn)) 16 (va_up (cs_I zc 16) (cs_n zc 0) 0), cs_L zc, va_up (cs_N zc) 0 (va_up (cs_N zc 0) (cs_n zc 0) 0), cs_S zc, va_up (cs_X zc) 1 (va_up (cs_X zc 1) (cs_n zc 0) qp)) i j = none ∨ ((i, j) ∉ ([(0, 0), (0, 6)] : List (Nat × Nat)) ∧ cF cA (cs_i zc, va_up (cs_n zc) 0 (cs_n zc 0 + 1), va_up (va_up (va_up (va_up (va_up (va_up (cs_I zc) 11 (va_up (cs_I zc 11) (cs_n zc 0) x)) 12 (va_up (cs_I zc 12) (cs_n zc 0) y)) 13 (va_up (cs_I zc 13) (cs_n zc 0) xx)) 14 (va_up (cs_I zc 14) (cs_n zc 0) yy)) 15 (va_up (cs_I zc 15) (cs_n zc 0) tn)) 16 (va_up (cs_I zc 16) (cs_n zc 0) 0), cs_L zc, va_up (cs_N zc) 0 (va_up (cs_N zc 0) (cs_n zc 0) 0), cs_S zc, va_up (cs_X zc) 1 (va_up (cs_X zc 1) (cs_n zc 0) qp)) i j = cF cA zc i j) := by
  obtain ⟨⟨hn0, hn1, hn2, hn3, hn4, hn5⟩, hpi, hgk, htk, hpk, hsh⟩ := id hI
  refine ⟨(by refine ⟨⟨(show cs_n zc 0 + 1 ≤ 12 by omega), hn1, hn2, hn3, (show cs_n zc 4 ≤ cs_n zc 0 + 1 by omega), hn5⟩, (fun p hp => ?_), hgk, (fun t ht => ⟨(htk t ht).1, Nat.lt_succ_of_lt (htk t ht).2⟩), (fun k hk => Nat.lt_succ_of_lt (hpk k hk)), hsh⟩; have hp : p < cs_n zc 0 + 1 := hp; show (0 ≤ (va_up (cs_I zc 11) (cs_n zc 0) x p).toInt ∧ (va_up (cs_I zc 11) (cs_n zc 0) x p).toInt ≤ (va_up (cs_I zc 13) (cs_n zc 0) xx p).toInt ∧ (va_up (cs_I zc 13) (cs_n zc 0) xx p).toInt ≤ 7) ∧ (0 ≤ (va_up (cs_I zc 12) (cs_n zc 0) y p).toInt ∧ (va_up (cs_I zc 12) (cs_n zc 0) y p).toInt ≤ (va_up (cs_I zc 14) (cs_n zc 0) yy p).toInt ∧ (va_up (cs_I zc 14) (cs_n zc 0) yy p).toInt ≤ 5) ∧ va_up (cs_N zc 0) (cs_n zc 0) 0 p ≤ cs_n zc 2; by_cases h9 : p = cs_n zc 0; (rw [h9, va_up_self, va_up_self, va_up_self, va_up_self, va_up_self]; exact rect_ok c2 c4 c5 c6); (rw [va_up_ne _ _ h9, va_up_ne _ _ h9, va_up_ne _ _ h9, va_up_ne _ _ h9, va_up_ne _ _ h9]; exact hpi p (by omega))), ⟨(by (rw [(kF_tp (cA := cA) (z := (cs_i zc, va_up (cs_n zc) 0 (cs_n zc 0 + 1), va_up (va_up (va_up (va_up (va_up (va_up (cs_I zc) 11 (va_up (cs_I zc 11) (cs_n zc 0) x)) 12 (va_up (cs_I zc 12) (cs_n zc 0) y)) 13 (va_up (cs_I zc 13) (cs_n zc 0) xx)) 14 (va_up (cs_I zc 14) (cs_n zc 0) yy)) 15 (va_up (cs_I zc 15) (cs_n zc 0) tn)) 16 (va_up (cs_I zc 16) (cs_n zc 0) 0), cs_L zc, va_up (cs_N zc) 0 (va_up (cs_N zc 0) (cs_n zc 0) 0), cs_S zc, va_up (cs_X zc) 1 (va_up (cs_X zc 1) (cs_n zc 0) qp))))]) <;> simp [cTP, cTPN, cTPA, cLo, cA2, cA3, cA4, cA5, cR6, cR7, cR8, cR9, cR10, cTr, cPi, cPiN, cPiT, cGa, cGaK, cTa, cPa, cAu, cAuN, cAuB, cSh, cSc, cs_i, cs_n, cs_I, cs_L, cs_N, cs_S, cs_X, va_up, upd, opN]), (by rw [(kF_r6 (cA := cA) (z := (cs_i zc, va_up (cs_n zc) 0 (cs_n zc 0 + 1), va_up (va_up (va_up (va_up (va_up (va_up (cs_I zc) 11 (va_up (cs_I zc 11) (cs_n zc 0) x)) 12 (va_up (cs_I zc 12) (cs_n zc 0) y)) 13 (va_up (cs_I zc 13) (cs_n zc 0) xx)) 14 (va_up (cs_I zc 14) (cs_n zc 0) yy)) 15 (va_up (cs_I zc 15) (cs_n zc 0) tn)) 16 (va_up (cs_I zc 16) (cs_n zc 0) 0), cs_L zc, va_up (cs_N zc) 0 (va_up (cs_N zc 0) (cs_n zc 0) 0), cs_S zc, va_up (cs_X zc) 1 (va_up (cs_X zc 1) (cs_n zc 0) qp))))]; simp only [cR6, cR7, cR8, cR9]; rw [nI_clamp (by omega), rfN_up]; simp [cs_n, cs_X, va_up]), (by (rw [(kF_piN (z := (cs_i zc, va_up (cs_n zc) 0 (cs_n zc 0 + 1), va_up (va_up (va_up (va_up (va_up (va_up (cs_I zc) 11 (va_up (cs_I zc 11) (cs_n zc 0) x)) 12 (va_up (cs_I zc 12) (cs_n zc 0) y)) 13 (va_up (cs_I zc 13) (cs_n zc 0) xx)) 14 (va_up (cs_I zc 14) (cs_n zc 0) yy)) 15 (va_up (cs_I zc 15) (cs_n zc 0) tn)) 16 (va_up (cs_I zc 16) (cs_n zc 0) 0), cs_L zc, va_up (cs_N zc) 0 (va_up (cs_N zc 0) (cs_n zc 0) 0), cs_S zc, va_up (cs_X zc) 1 (va_up (cs_X zc 1) (cs_n zc 0) qp))) (show cs_n zc 0 < cs_n zc 0 + 1 from Nat.lt_succ_self _) (by simp [cs_N, cs_n, va_up]))]) <;> simp [cTP, cTPN, cTPA, cLo, cA2, cA3, cA4, cA5, cR6, cR7, cR8, cR9, cR10, cTr, cPi, cPiN, cPiT, cGa, cGaK, cTa, cPa, cAu, cAuN, cAuB, cSh, cSc, cs_i, cs_n, cs_I, cs_L, cs_N, cs_S, cs_X, va_up, upd, opN]), trivial⟩, ?_⟩
  intro i j hij
  have hij0 : (i, j) ∉ ([(0, 0), (0, 6)] : List (Nat × Nat)) := by
    intro q
    simp only [List.mem_cons, Prod.mk.injEq, List.not_mem_nil, or_false] at q
    rcases q with ⟨rfl, rfl⟩ | ⟨rfl, rfl⟩
    · exact hij (by simp)
    · exact hij (by simp)
  refine Or.inr ⟨hij0, ?_⟩
  rcases i with _ | _ | _ | _ | _ | _ | _ | _ | i
  · rcases j with _ | _ | _ | _ | _ | _ | _ | _ | _ | _ | _ | _ | j
    · exact absurd (by simp) hij
    · show some (cLo (cs_i zc, va_up (cs_n zc) 0 (cs_n zc 0 + 1), va_up (va_up (va_up (va_up (va_up (va_up (cs_I zc) 11 (va_up (cs_I zc 11) (cs_n zc 0) x)) 12 (va_up (cs_I zc 12) (cs_n zc 0) y)) 13 (va_up (cs_I zc 13) (cs_n zc 0) xx)) 14 (va_up (cs_I zc 14) (cs_n zc 0) yy)) 15 (va_up (cs_I zc 15) (cs_n zc 0) tn)) 16 (va_up (cs_I zc 16) (cs_n zc 0) 0), cs_L zc, va_up (cs_N zc) 0 (va_up (cs_N zc 0) (cs_n zc 0) 0), cs_S zc, va_up (cs_X zc) 1 (va_up (cs_X zc 1) (cs_n zc 0) qp))) = some (cLo zc); simp [cLo, cs_i, cs_n, cs_I, cs_L, cs_N, cs_S, cs_X, va_up]
    · show some (cA2 cA (cs_i zc, va_up (cs_n zc) 0 (cs_n zc 0 + 1), va_up (va_up (va_up (va_up (va_up (va_up (cs_I zc) 11 (va_up (cs_I zc 11) (cs_n zc 0) x)) 12 (va_up (cs_I zc 12) (cs_n zc 0) y)) 13 (va_up (cs_I zc 13) (cs_n zc 0) xx)) 14 (va_up (cs_I zc 14) (cs_n zc 0) yy)) 15 (va_up (cs_I zc 15) (cs_n zc 0) tn)) 16 (va_up (cs_I zc 16) (cs_n zc 0) 0), cs_L zc, va_up (cs_N zc) 0 (va_up (cs_N zc 0) (cs_n zc 0) 0), cs_S zc, va_up (cs_X zc) 1 (va_up (cs_X zc 1) (cs_n zc 0) qp))) = some (cA2 cA zc); simp [cA2, cs_i, cs_n, cs_I, cs_L, cs_N, cs_S, cs_X, va_up]
    · show some (cA3 cA (cs_i zc, va_up (cs_n zc) 0 (cs_n zc 0 + 1), va_up (va_up (va_up (va_up (va_up (va_up (cs_I zc) 11 (va_up (cs_I zc 11) (cs_n zc 0) x)) 12 (va_up (cs_I zc 12) (cs_n zc 0) y)) 13 (va_up (cs_I zc 13) (cs_n zc 0) xx)) 14 (va_up (cs_I zc 14) (cs_n zc 0) yy)) 15 (va_up (cs_I zc 15) (cs_n zc 0) tn)) 16 (va_up (cs_I zc 16) (cs_n zc 0) 0), cs_L zc, va_up (cs_N zc) 0 (va_up (cs_N zc 0) (cs_n zc 0) 0), cs_S zc, va_up (cs_X zc) 1 (va_up (cs_X zc 1) (cs_n zc 0) qp))) = some (cA3 cA zc); simp [cA3, cs_i, cs_n, cs_I, cs_L, cs_N, cs_S, cs_X, va_up]
    · show some (cA4 cA (cs_i zc, va_up (cs_n zc) 0 (cs_n zc 0 + 1), va_up (va_up (va_up (va_up (va_up (va_up (cs_I zc) 11 (va_up (cs_I zc 11) (cs_n zc 0) x)) 12 (va_up (cs_I zc 12) (cs_n zc 0) y)) 13 (va_up (cs_I zc 13) (cs_n zc 0) xx)) 14 (va_up (cs_I zc 14) (cs_n zc 0) yy)) 15 (va_up (cs_I zc 15) (cs_n zc 0) tn)) 16 (va_up (cs_I zc 16) (cs_n zc 0) 0), cs_L zc, va_up (cs_N zc) 0 (va_up (cs_N zc 0) (cs_n zc 0) 0), cs_S zc, va_up (cs_X zc) 1 (va_up (cs_X zc 1) (cs_n zc 0) qp))) = some (cA4 cA zc); simp [cA4, cs_i, cs_n, cs_I, cs_L, cs_N, cs_S, cs_X, va_up]
    · show some (cA5 cA (cs_i zc, va_up (cs_n zc) 0 (cs_n zc 0 + 1), va_up (va_up (va_up (va_up (va_up (va_up (cs_I zc) 11 (va_up (cs_I zc 11) (cs_n zc 0) x)) 12 (va_up (cs_I zc 12) (cs_n zc 0) y)) 13 (va_up (cs_I zc 13) (cs_n zc 0) xx)) 14 (va_up (cs_I zc 14) (cs_n zc 0) yy)) 15 (va_up (cs_I zc 15) (cs_n zc 0) tn)) 16 (va_up (cs_I zc 16) (cs_n zc 0) 0), cs_L zc, va_up (cs_N zc) 0 (va_up (cs_N zc 0) (cs_n zc 0) 0), cs_S zc, va_up (cs_X zc) 1 (va_up (cs_X zc 1) (cs_n zc 0) qp))) = some (cA5 cA zc); simp [cA5, cs_i, cs_n, cs_I, cs_L, cs_N, cs_S, cs_X, va_up]
    · exact absurd (by simp) hij
    · show some (cR7 cA (cs_i zc, va_up (cs_n zc) 0 (cs_n zc 0 + 1), va_up (va_up (va_up (va_up (va_up (va_up (cs_I zc) 11 (va_up (cs_I zc 11) (cs_n zc 0) x)) 12 (va_up (cs_I zc 12) (cs_n zc 0) y)) 13 (va_up (cs_I zc 13) (cs_n zc 0) xx)) 14 (va_up (cs_I zc 14) (cs_n zc 0) yy)) 15 (va_up (cs_I zc 15) (cs_n zc 0) tn)) 16 (va_up (cs_I zc 16) (cs_n zc 0) 0), cs_L zc, va_up (cs_N zc) 0 (va_up (cs_N zc 0) (cs_n zc 0) 0), cs_S zc, va_up (cs_X zc) 1 (va_up (cs_X zc 1) (cs_n zc 0) qp))) = some (cR7 cA zc); simp [cR7, cs_i, cs_n, cs_I, cs_L, cs_N, cs_S, cs_X, va_up]
    · show some (cR8 cA (cs_i zc, va_up (cs_n zc) 0 (cs_n zc 0 + 1), va_up (va_up (va_up (va_up (va_up (va_up (cs_I zc) 11 (va_up (cs_I zc 11) (cs_n zc 0) x)) 12 (va_up (cs_I zc 12) (cs_n zc 0) y)) 13 (va_up (cs_I zc 13) (cs_n zc 0) xx)) 14 (va_up (cs_I zc 14) (cs_n zc 0) yy)) 15 (va_up (cs_I zc 15) (cs_n zc 0) tn)) 16 (va_up (cs_I zc 16) (cs_n zc 0) 0), cs_L zc, va_up (cs_N zc) 0 (va_up (cs_N zc 0) (cs_n zc 0) 0), cs_S zc, va_up (cs_X zc) 1 (va_up (cs_X zc 1) (cs_n zc 0) qp))) = some (cR8 cA zc); simp [cR8, cs_i, cs_n, cs_I, cs_L, cs_N, cs_S, cs_X, va_up]
    · show some (cR9 cA (cs_i zc, va_up (cs_n zc) 0 (cs_n zc 0 + 1), va_up (va_up (va_up (va_up (va_up (va_up (cs_I zc) 11 (va_up (cs_I zc 11) (cs_n zc 0) x)) 12 (va_up (cs_I zc 12) (cs_n zc 0) y)) 13 (va_up (cs_I zc 13) (cs_n zc 0) xx)) 14 (va_up (cs_I zc 14) (cs_n zc 0) yy)) 15 (va_up (cs_I zc 15) (cs_n zc 0) tn)) 16 (va_up (cs_I zc 16) (cs_n zc 0) 0), cs_L zc, va_up (cs_N zc) 0 (va_up (cs_N zc 0) (cs_n zc 0) 0), cs_S zc, va_up (cs_X zc) 1 (va_up (cs_X zc 1) (cs_n zc 0) qp))) = some (cR9 cA zc); simp [cR9, cs_i, cs_n, cs_I, cs_L, cs_N, cs_S, cs_X, va_up]
    · show some (cR10 cA (cs_i zc, va_up (cs_n zc) 0 (cs_n zc 0 + 1), va_up (va_up (va_up (va_up (va_up (va_up (cs_I zc) 11 (va_up (cs_I zc 11) (cs_n zc 0) x)) 12 (va_up (cs_I zc 12) (cs_n zc 0) y)) 13 (va_up (cs_I zc 13) (cs_n zc 0) xx)) 14 (va_up (cs_I zc 14) (cs_n zc 0) yy)) 15 (va_up (cs_I zc 15) (cs_n zc 0) tn)) 16 (va_up (cs_I zc 16) (cs_n zc 0) 0), cs_L zc, va_up (cs_N zc) 0 (va_up (cs_N zc 0) (cs_n zc 0) 0), cs_S zc, va_up (cs_X zc) 1 (va_up (cs_X zc 1) (cs_n zc 0) qp))) = some (cR10 cA zc); simp [cR10, cs_i, cs_n, cs_I, cs_L, cs_N, cs_S, cs_X, va_up]
    · show some (cTr (cs_i zc, va_up (cs_n zc) 0 (cs_n zc 0 + 1), va_up (va_up (va_up (va_up (va_up (va_up (cs_I zc) 11 (va_up (cs_I zc 11) (cs_n zc 0) x)) 12 (va_up (cs_I zc 12) (cs_n zc 0) y)) 13 (va_up (cs_I zc 13) (cs_n zc 0) xx)) 14 (va_up (cs_I zc 14) (cs_n zc 0) yy)) 15 (va_up (cs_I zc 15) (cs_n zc 0) tn)) 16 (va_up (cs_I zc 16) (cs_n zc 0) 0), cs_L zc, va_up (cs_N zc) 0 (va_up (cs_N zc 0) (cs_n zc 0) 0), cs_S zc, va_up (cs_X zc) 1 (va_up (cs_X zc 1) (cs_n zc 0) qp))) = some (cTr zc); simp [cTr, cs_i, cs_n, cs_I, cs_L, cs_N, cs_S, cs_X, va_up]
    · show (none : Option (Nat × va_E)) = none; rfl
  · have hne : j ≠ cs_n zc 0 := fun q => hij (by rw [q]; simp)
    have e9 : cPi (cs_i zc, va_up (cs_n zc) 0 (cs_n zc 0 + 1), va_up (va_up (va_up (va_up (va_up (va_up (cs_I zc) 11 (va_up (cs_I zc 11) (cs_n zc 0) x)) 12 (va_up (cs_I zc 12) (cs_n zc 0) y)) 13 (va_up (cs_I zc 13) (cs_n zc 0) xx)) 14 (va_up (cs_I zc 14) (cs_n zc 0) yy)) 15 (va_up (cs_I zc 15) (cs_n zc 0) tn)) 16 (va_up (cs_I zc 16) (cs_n zc 0) 0), cs_L zc, va_up (cs_N zc) 0 (va_up (cs_N zc 0) (cs_n zc 0) 0), cs_S zc, va_up (cs_X zc) 1 (va_up (cs_X zc 1) (cs_n zc 0) qp)) j = cPi zc j := by simp [cPi, cs_i, cs_n, cs_I, cs_L, cs_N, cs_S, cs_X, va_up, hne]
    show (if j < cs_n zc 0 + 1 then some (cPi (cs_i zc, va_up (cs_n zc) 0 (cs_n zc 0 + 1), va_up (va_up (va_up (va_up (va_up (va_up (cs_I zc) 11 (va_up (cs_I zc 11) (cs_n zc 0) x)) 12 (va_up (cs_I zc 12) (cs_n zc 0) y)) 13 (va_up (cs_I zc 13) (cs_n zc 0) xx)) 14 (va_up (cs_I zc 14) (cs_n zc 0) yy)) 15 (va_up (cs_I zc 15) (cs_n zc 0) tn)) 16 (va_up (cs_I zc 16) (cs_n zc 0) 0), cs_L zc, va_up (cs_N zc) 0 (va_up (cs_N zc 0) (cs_n zc 0) 0), cs_S zc, va_up (cs_X zc) 1 (va_up (cs_X zc 1) (cs_n zc 0) qp)) j) else none) = if j < cs_n zc 0 then some (cPi zc j) else none
    rw [e9]
    by_cases h9 : j < cs_n zc 0
    · rw [if_pos h9, if_pos (Nat.lt_succ_of_lt h9)]
    · rw [if_neg h9, if_neg (by omega)]
  · show (if j < cs_n (cs_i zc, va_up (cs_n zc) 0 (cs_n zc 0 + 1), va_up (va_up (va_up (va_up (va_up (va_up (cs_I zc) 11 (va_up (cs_I zc 11) (cs_n zc 0) x)) 12 (va_up (cs_I zc 12) (cs_n zc 0) y)) 13 (va_up (cs_I zc 13) (cs_n zc 0) xx)) 14 (va_up (cs_I zc 14) (cs_n zc 0) yy)) 15 (va_up (cs_I zc 15) (cs_n zc 0) tn)) 16 (va_up (cs_I zc 16) (cs_n zc 0) 0), cs_L zc, va_up (cs_N zc) 0 (va_up (cs_N zc 0) (cs_n zc 0) 0), cs_S zc, va_up (cs_X zc) 1 (va_up (cs_X zc 1) (cs_n zc 0) qp)) 1 then some (cGa (cs_i zc, va_up (cs_n zc) 0 (cs_n zc 0 + 1), va_up (va_up (va_up (va_up (va_up (va_up (cs_I zc) 11 (va_up (cs_I zc 11) (cs_n zc 0) x)) 12 (va_up (cs_I zc 12) (cs_n zc 0) y)) 13 (va_up (cs_I zc 13) (cs_n zc 0) xx)) 14 (va_up (cs_I zc 14) (cs_n zc 0) yy)) 15 (va_up (cs_I zc 15) (cs_n zc 0) tn)) 16 (va_up (cs_I zc 16) (cs_n zc 0) 0), cs_L zc, va_up (cs_N zc) 0 (va_up (cs_N zc 0) (cs_n zc 0) 0), cs_S zc, va_up (cs_X zc) 1 (va_up (cs_X zc 1) (cs_n zc 0) qp)) j) else none) = if j < cs_n zc 1 then some (cGa zc j) else none
    simp [cGa, cs_i, cs_n, cs_I, cs_L, cs_N, cs_S, cs_X, va_up]
  · show (if j < cs_n zc 2 then some (cTa (cs_i zc, va_up (cs_n zc) 0 (cs_n zc 0 + 1), va_up (va_up (va_up (va_up (va_up (va_up (cs_I zc) 11 (va_up (cs_I zc 11) (cs_n zc 0) x)) 12 (va_up (cs_I zc 12) (cs_n zc 0) y)) 13 (va_up (cs_I zc 13) (cs_n zc 0) xx)) 14 (va_up (cs_I zc 14) (cs_n zc 0) yy)) 15 (va_up (cs_I zc 15) (cs_n zc 0) tn)) 16 (va_up (cs_I zc 16) (cs_n zc 0) 0), cs_L zc, va_up (cs_N zc) 0 (va_up (cs_N zc 0) (cs_n zc 0) 0), cs_S zc, va_up (cs_X zc) 1 (va_up (cs_X zc 1) (cs_n zc 0) qp)) j) else none) = if j < cs_n zc 2 then some (cTa zc j) else none
    by_cases h9 : j < cs_n zc 2
    · rw [if_pos h9, if_pos h9]
      have hne : cs_N zc 3 j ≠ cs_n zc 0 := Nat.ne_of_lt (htk j h9).2
      simp [cTa, cs_i, cs_n, cs_I, cs_L, cs_N, cs_S, cs_X, va_up, hne]
    · rw [if_neg h9, if_neg h9]
  · show (if j < cs_n zc 3 then some (cPa (cs_i zc, va_up (cs_n zc) 0 (cs_n zc 0 + 1), va_up (va_up (va_up (va_up (va_up (va_up (cs_I zc) 11 (va_up (cs_I zc 11) (cs_n zc 0) x)) 12 (va_up (cs_I zc 12) (cs_n zc 0) y)) 13 (va_up (cs_I zc 13) (cs_n zc 0) xx)) 14 (va_up (cs_I zc 14) (cs_n zc 0) yy)) 15 (va_up (cs_I zc 15) (cs_n zc 0) tn)) 16 (va_up (cs_I zc 16) (cs_n zc 0) 0), cs_L zc, va_up (cs_N zc) 0 (va_up (cs_N zc 0) (cs_n zc 0) 0), cs_S zc, va_up (cs_X zc) 1 (va_up (cs_X zc 1) (cs_n zc 0) qp)) j) else none) = if j < cs_n zc 3 then some (cPa zc j) else none
    by_cases h9 : j < cs_n zc 3
    · rw [if_pos h9, if_pos h9]
      have hne : cs_N zc 4 j ≠ cs_n zc 0 := Nat.ne_of_lt (hpk j h9)
      simp [cPa, cs_i, cs_n, cs_I, cs_L, cs_N, cs_S, cs_X, va_up, hne]
    · rw [if_neg h9, if_neg h9]
  · show (if j = 0 ∧ ¬ cs_n zc 4 = 0 then some (cAu (cs_i zc, va_up (cs_n zc) 0 (cs_n zc 0 + 1), va_up (va_up (va_up (va_up (va_up (va_up (cs_I zc) 11 (va_up (cs_I zc 11) (cs_n zc 0) x)) 12 (va_up (cs_I zc 12) (cs_n zc 0) y)) 13 (va_up (cs_I zc 13) (cs_n zc 0) xx)) 14 (va_up (cs_I zc 14) (cs_n zc 0) yy)) 15 (va_up (cs_I zc 15) (cs_n zc 0) tn)) 16 (va_up (cs_I zc 16) (cs_n zc 0) 0), cs_L zc, va_up (cs_N zc) 0 (va_up (cs_N zc 0) (cs_n zc 0) 0), cs_S zc, va_up (cs_X zc) 1 (va_up (cs_X zc 1) (cs_n zc 0) qp))) else none) = if j = 0 ∧ ¬ cs_n zc 4 = 0 then some (cAu zc) else none
    by_cases h9 : j = 0 ∧ ¬ cs_n zc 4 = 0
    · rw [if_pos h9, if_pos h9]
      have hne : cs_n zc 4 - 1 ≠ cs_n zc 0 := by omega
      simp [cAu, cs_i, cs_n, cs_I, cs_L, cs_N, cs_S, cs_X, va_up, hne]
    · rw [if_neg h9, if_neg h9]
  · show (if j < 4 then some (cSh (cs_i zc, va_up (cs_n zc) 0 (cs_n zc 0 + 1), va_up (va_up (va_up (va_up (va_up (va_up (cs_I zc) 11 (va_up (cs_I zc 11) (cs_n zc 0) x)) 12 (va_up (cs_I zc 12) (cs_n zc 0) y)) 13 (va_up (cs_I zc 13) (cs_n zc 0) xx)) 14 (va_up (cs_I zc 14) (cs_n zc 0) yy)) 15 (va_up (cs_I zc 15) (cs_n zc 0) tn)) 16 (va_up (cs_I zc 16) (cs_n zc 0) 0), cs_L zc, va_up (cs_N zc) 0 (va_up (cs_N zc 0) (cs_n zc 0) 0), cs_S zc, va_up (cs_X zc) 1 (va_up (cs_X zc 1) (cs_n zc 0) qp)) j) else none) = if j < 4 then some (cSh zc j) else none
    simp [cSh, cs_i, cs_n, cs_I, cs_L, cs_N, cs_S, cs_X, va_up]
  · show (if j < 4 then some (cSc cA (cs_i zc, va_up (cs_n zc) 0 (cs_n zc 0 + 1), va_up (va_up (va_up (va_up (va_up (va_up (cs_I zc) 11 (va_up (cs_I zc 11) (cs_n zc 0) x)) 12 (va_up (cs_I zc 12) (cs_n zc 0) y)) 13 (va_up (cs_I zc 13) (cs_n zc 0) xx)) 14 (va_up (cs_I zc 14) (cs_n zc 0) yy)) 15 (va_up (cs_I zc 15) (cs_n zc 0) tn)) 16 (va_up (cs_I zc 16) (cs_n zc 0) 0), cs_L zc, va_up (cs_N zc) 0 (va_up (cs_N zc 0) (cs_n zc 0) 0), cs_S zc, va_up (cs_X zc) 1 (va_up (cs_X zc 1) (cs_n zc 0) qp)) j) else none) = if j < 4 then some (cSc cA zc j) else none
    simp [cSc, cs_i, cs_n, cs_I, cs_L, cs_N, cs_S, cs_X, va_up]
  · show (none : Option (Nat × va_E)) = none; rfl
set_option maxHeartbeats 4000000 in
set_option maxRecDepth 100000 in
theorem K_pitch (l : Launch) (dC : Nat → ClassId) (dI : Nat → Nat → Nat) (cA : Nat → ClassId) (sz : Nat) (zc : CS) (x : Int32) (y : Int32) (xx : Int32) (yy : Int32) (tn : Int32) (hI : invC zc) : Met l yX10_pitch wsX10_pitch ({ frames := 2, cells := 1, slots := 8, locals := 60 }) (kw (dC, dI) (ctys cA) (cF cA zc) sz [.ref (cs_X zc 0 0), .int x, .int y, .int xx, .int yy, .int tn]) (kQi (dC, dI) (ctys cA) (cF cA zc) sz (cF cA) (fun r u => (invC u ∧ cs_X u 0 0 = cs_X zc 0 0) ∧ pC_pitch zc x y xx yy tn r u)) 1 8 (kA (cF cA zc) sz) := by
  refine kw_met (cc := cX10_pitch) (maxL := 6) (ret := (some .int)) (by decide) rfl (Nat.le_of_ble_eq_true rfl) ?_
  intro p e s m below meth c0 hx hb hr hml hown hlocks hnm hts hPk hKk hDk hN hsz ls hl
  subst hsz
  have hK : va_K (dC, dI) vwCl [(cA 0, .int), (cA 1, .object RX6), (cA 2, .object RX2), (cA 3, .object RX8), (cA 4, .object RX5), (cA 5, .object RX7)] s := hKk
  obtain ⟨⟨hn0, hn1, hn2, hn3, hn4, hn5⟩, hpi, hgk, htk, hpk, hsh⟩ := id hI
  have hl : lv_has ls 6 [(0, .ref (cs_X zc 0 0)), (1, .int x), (2, .int y), (3, .int xx), (4, .int yy), (5, .int tn)] := hl
  have hiX10 : ∀ w ∈ wsX100, w ∈ wsX10_pitch := fun _ h => List.mem_cons_of_mem _ (List.mem_append_left _ (List.mem_append_right _ (h)))
  have hiX6 : ∀ w ∈ wsX60, w ∈ wsX10_pitch := fun _ h => List.mem_cons_of_mem _ (List.mem_append_right _ (h))
  generalize hQ : MQ _ _ _ _ _ _ _ = Q
  have hks : kAll (cF cA zc) [(0, 0), (0, 6)] [cTP zc, cR6 cA zc] := ⟨(kF_tp (cA := cA) (z := zc)), (kF_r6 (cA := cA) (z := zc)), trivial⟩
  have hP : va_P (dC, dI) vwCl [cTP zc, cR6 cA zc] s.heap := kAll_P hPk hks
  have hD : va_D (va_A [cTP zc, cR6 cA zc] s.heap.size) [cTP zc, cR6 cA zc] := (kAll_D hDk hks (by simp)).self
  have hA : ∀ q : Nat, s.heap.size ≤ q → va_A [cTP zc, cR6 cA zc] s.heap.size q := fun q h => Or.inr h
  have hS : va_S (va_A [cTP zc, cR6 cA zc] s.heap.size) s.heap s.heap [] := va_S.rf
  refine lv_iload_n hx hb dX10_pitch_0 rfl (lv_at hl 1 rfl) ?_
  refine lv_iload_n hx hb dX10_pitch_1 rfl (lv_at hl 2 rfl) ?_
  refine vp_callSi (va_Run.run (va_runS (As := [.int x, .int y]) (rest := []) ⟨hx, hb, hml, hown, hts⟩ (c_X3_hasSquare l x y ) (va_cwS 2 hts gX10_pitch_X3_hasSquare rfl rfl rfl (by decide +kernel) ⟨Nat.le_of_ble_eq_true rfl, Nat.le_of_ble_eq_true rfl⟩) (p0_preS hN) rfl rfl hl.1 rfl (lv_room (Nat.le_of_ble_eq_true rfl)) dX10_pitch_2 ⟨Nat.le_of_ble_eq_true rfl, Nat.le_of_ble_eq_true rfl⟩)) (fun r1 hr1 => ?_)
  have hr1 : r1 = if (0 ≤ x ∧ x ≤ 7) ∧ (0 ≤ y ∧ y ≤ 5) then 1 else 0 := hr1
  refine lv_if_eq (tgt := 17) hx hb dX10_pitch_5 (by decide) (fun c2 => ?_) (fun c2 => ?_)
  · skip
    have c2 := (fa_bool_prop hr1).1.mp c2
    refine lv_iconst (v := (-1)) hx hb dX10_pitch_17 (by decide) ?_
    subst hQ
    refine W.widen (k := 1) (n := 8) (Nat.le_of_ble_eq_true rfl) (Nat.le_of_ble_eq_true rfl) ?_
    exact W.iret (v := (-1)) hx hb hr (fun t ht hW => ⟨⟨(-1), zc, rfl, ⟨⟨hI, rfl⟩, (Or.inl ⟨c2, rfl, rfl⟩)⟩, (by rw [ht]; exact hPk), va_K.moved hW.alike hKk, kDA_self hDk⟩, (kw_same hPk ht).2⟩) (fun q h => absurd h List.not_mem_nil) dX10_pitch_18
  · skip
    have c2 := (fa_bool_prop hr1).2.mp c2
    refine lv_iload_n hx hb dX10_pitch_8 rfl (lv_at hl 3 rfl) ?_
    refine lv_iload hx hb dX10_pitch_9 (lv_at hl 4 rfl) ?_
    refine vp_callSi (va_Run.run (va_runS (As := [.int xx, .int yy]) (rest := []) ⟨hx, hb, hml, hown, hts⟩ (c_X3_hasSquare l xx yy ) (va_cwS 2 hts gX10_pitch_X3_hasSquare rfl rfl rfl (by decide +kernel) ⟨Nat.le_of_ble_eq_true rfl, Nat.le_of_ble_eq_true rfl⟩) (p0_preS hN) rfl rfl hl.1 rfl (lv_room (Nat.le_of_ble_eq_true rfl)) dX10_pitch_11 ⟨Nat.le_of_ble_eq_true rfl, Nat.le_of_ble_eq_true rfl⟩)) (fun r3 hr3 => ?_)
    have hr3 : r3 = if (0 ≤ xx ∧ xx ≤ 7) ∧ (0 ≤ yy ∧ yy ≤ 5) then 1 else 0 := hr3
    refine lv_if_ne (tgt := 19) hx hb dX10_pitch_14 (by decide) (fun c4 => ?_) (fun c4 => ?_)
    · skip
      have c4 := (fa_bool_prop hr3).2.mp c4
      refine lv_iload_n hx hb dX10_pitch_19 rfl (lv_at hl 1 rfl) ?_
      refine lv_iload_n hx hb dX10_pitch_20 rfl (lv_at hl 3 rfl) ?_
      refine lv_icmp_gt (tgt := 41) hx hb dX10_pitch_21 (by decide) (fun c5 => ?_) (fun c5 => ?_)
      · skip
        refine lv_bipush (v := (-2)) hx hb dX10_pitch_41 (by decide) ?_
        subst hQ
        refine W.widen (k := 1) (n := 8) (Nat.le_of_ble_eq_true rfl) (Nat.le_of_ble_eq_true rfl) ?_
        exact W.iret (v := (-2)) hx hb hr (fun t ht hW => ⟨⟨(-2), zc, rfl, ⟨⟨hI, rfl⟩, (Or.inr (Or.inl ⟨c2, c4, c5, rfl, rfl⟩))⟩, (by rw [ht]; exact hPk), va_K.moved hW.alike hKk, kDA_self hDk⟩, (kw_same hPk ht).2⟩) (fun q h => absurd h List.not_mem_nil) dX10_pitch_43
      · skip
        refine lv_iload_n hx hb dX10_pitch_24 rfl (lv_at hl 2 rfl) ?_
        refine lv_iload hx hb dX10_pitch_25 (lv_at hl 4 rfl) ?_
        refine lv_icmp_gt (tgt := 41) hx hb dX10_pitch_27 (by decide) (fun c6 => ?_) (fun c6 => ?_)
        · skip
          refine lv_bipush (v := (-2)) hx hb dX10_pitch_41 (by decide) ?_
          subst hQ
          refine W.widen (k := 1) (n := 8) (Nat.le_of_ble_eq_true rfl) (Nat.le_of_ble_eq_true rfl) ?_
          exact W.iret (v := (-2)) hx hb hr (fun t ht hW => ⟨⟨(-2), zc, rfl, ⟨⟨hI, rfl⟩, (Or.inr (Or.inr (Or.inl ⟨c2, c4, c5, c6, rfl, rfl⟩)))⟩, (by rw [ht]; exact hPk), va_K.moved hW.alike hKk, kDA_self hDk⟩, (kw_same hPk ht).2⟩) (fun q h => absurd h List.not_mem_nil) dX10_pitch_43
        · skip
          refine lv_iload hx hb dX10_pitch_30 (lv_at hl 5 rfl) ?_
          refine lv_iconst (v := 1) hx hb dX10_pitch_32 (by decide) ?_
          refine lv_bipush (v := 100) hx hb dX10_pitch_33 (by decide) ?_
          refine vp_callSi (va_Run.run (va_runS (As := [.int tn, .int 1, .int 100]) (rest := []) ⟨hx, hb, hml, hown, hts⟩ (c_X10_isWithin l tn 1 100 ) (va_cwS 3 hts gX10_pitch_X10_isWithin rfl rfl rfl (by decide +kernel) ⟨Nat.le_of_ble_eq_true rfl, Nat.le_of_ble_eq_true rfl⟩) (p0_preS hN) rfl rfl hl.1 rfl (lv_room (Nat.le_of_ble_eq_true rfl)) dX10_pitch_35 ⟨Nat.le_of_ble_eq_true rfl, Nat.le_of_ble_eq_true rfl⟩)) (fun r7 hr7 => ?_)
          have hr7 : r7 = if 1 ≤ tn ∧ tn ≤ 100 then 1 else 0 := hr7
          refine lv_if_ne (tgt := 44) hx hb dX10_pitch_38 (by decide) (fun c8 => ?_) (fun c8 => ?_)
          · skip
            have c8 := (fa_bool_prop hr7).2.mp c8
            refine lv_aload_n hx hb dX10_pitch_44 rfl (lv_at hl 0 rfl) ?_
            refine lv_iload_n hx hb dX10_pitch_45 rfl (lv_at hl 1 rfl) ?_
            refine lv_iload_n hx hb dX10_pitch_46 rfl (lv_at hl 2 rfl) ?_
            refine lv_iload_n hx hb dX10_pitch_47 rfl (lv_at hl 3 rfl) ?_
            refine lv_iload hx hb dX10_pitch_48 (lv_at hl 4 rfl) ?_
            refine vp_callSi (va_Run.run (va_runV (As := [.int x, .int y, .int xx, .int yy]) (rest := []) ⟨hx, hb, hml, hown, hts⟩ (P_isAnyPitched l dC dI cA _ zc x y xx yy hI) (cwV 4 hts gX10_pitch_X10_isAnyPitched rfl rfl rfl (by decide +kernel) ⟨Nat.le_of_ble_eq_true rfl, Nat.le_of_ble_eq_true rfl⟩) (kw_preV (va_recv hK hP (ci := 10) (q0 := 0) rfl rfl) hPk hKk hDk hN) rfl rfl hl.1 rfl (lv_room (Nat.le_of_ble_eq_true rfl)) dX10_pitch_50 ⟨Nat.le_of_ble_eq_true rfl, Nat.le_of_ble_eq_true rfl⟩)) (fun r9 hr9 => ?_)
            have hr9 : (r9 = 0 ∧ ∀ p, p < cs_n zc 0 → ¬ (cs_I zc 11 p ≤ xx ∧ x ≤ cs_I zc 13 p ∧ cs_I zc 12 p ≤ yy ∧ y ≤ cs_I zc 14 p)) ∨ (r9 = 1 ∧ ∃ p, p < cs_n zc 0 ∧ (cs_I zc 11 p ≤ xx ∧ x ≤ cs_I zc 13 p ∧ cs_I zc 12 p ≤ yy ∧ y ≤ cs_I zc 14 p)) := hr9
            rcases hr9 with ⟨er9, hanyr9⟩ | ⟨er9, hanyr9⟩
            · subst er9
              refine lv_if_eq (tgt := 59) hx hb dX10_pitch_53 (by decide) (fun c10 => ?_) (fun c10 => ?_)
              · skip
                refine lv_aload_n hx hb dX10_pitch_59 rfl (lv_at hl 0 rfl) ?_
                refine va_get (D := (dC, dI)) (ci := 10) (v := .int (nI (cs_n zc 0))) (C := RX10) (T := TX10) (N := 13) hx hb hts hiX10 hown hK hP 0 rfl rfl 7 (by decide) (hts (.fieldLink RX10 124 "TributePitches" "pitchCount" "I") (List.mem_of_getElem? (i := 1) rfl)) (fun _ h9 => h9) rfl dX10_pitch_60 ?_
                refine lv_bipush (v := 12) hx hb dX10_pitch_63 (by decide) ?_
                refine lv_icmp_lt (tgt := 71) hx hb dX10_pitch_65 (by decide) (fun c11 => ?_) (fun c11 => ?_)
                · skip
                  have hp8 : cs_n zc 0 < 12 := nI_lt_of (b := 12) (by omega) (by omega) c11
                  refine lv_aload_n hx hb dX10_pitch_71 rfl (lv_at hl 0 rfl) ?_
                  refine va_get (D := (dC, dI)) (ci := 10) (v := .ref (cs_X zc 0 6)) (C := RX10) (T := TX10) (N := 13) hx hb hts hiX10 hown hK hP 0 rfl rfl 1 (by decide) (hts (.fieldLink RX10 20 "TributePitches" "pitches" "[LTributePitches$Pitch;") (List.mem_of_getElem? (i := 2) rfl)) (fun _ h9 => h9) rfl dX10_pitch_72 ?_
                  refine lv_aload_n hx hb dX10_pitch_75 rfl (lv_at hl 0 rfl) ?_
                  refine va_get (D := (dC, dI)) (ci := 10) (v := .int (nI (cs_n zc 0))) (C := RX10) (T := TX10) (N := 13) hx hb hts hiX10 hown hK hP 0 rfl rfl 7 (by decide) (hts (.fieldLink RX10 124 "TributePitches" "pitchCount" "I") (List.mem_of_getElem? (i := 1) rfl)) (fun _ h9 => h9) rfl dX10_pitch_76 ?_
                  refine va_new (ci := 6) (fs := [.int 0, .int 0, .int 0, .int 0, .int 0, .int 0, .int 0, .null]) (C := RX6) (T := TX6) (N := 8) hx hb hts hiX6 tyX6 tyX6_ok hown (hts (.classLink RX10 18 RX6) (List.mem_of_getElem? (i := 3) rfl)) (hts (.instantiable RX6 8) (List.mem_of_getElem? (i := 4) rfl)) (hts (.initialized RX6) (List.mem_of_getElem? (i := 5) rfl)) hK hP hD hS hA rfl (fun j hj => by rcases (show j = 0 ∨ j = 1 ∨ j = 2 ∨ j = 3 ∨ j = 4 ∨ j = 5 ∨ j = 6 ∨ j = 7 by omega) with rfl | rfl | rfl | rfl | rfl | rfl | rfl | rfl <;> rfl) (Nat.le_of_ble_eq_true rfl) (Nat.le_of_ble_eq_true rfl) dX10_pitch_79 (fun qp H hP hD hS => ?_)
                  have hP : va_P (dC, dI) vwCl [cTP zc, cR6 cA zc, (qp, .inr (6, [.int 0, .int 0, .int 0, .int 0, .int 0, .int 0, .int 0, .null]))] H := hP
                  have hD : va_D _ [cTP zc, cR6 cA zc, (qp, .inr (6, [.int 0, .int 0, .int 0, .int 0, .int 0, .int 0, .int 0, .null]))] := hD
                  refine lv_dup hx hb dX10_pitch_82 rfl ?_
                  refine lv_aload_n hx hb dX10_pitch_83 rfl (lv_at hl 0 rfl) ?_
                  refine va_get (D := (dC, dI)) (ci := 10) (v := .int (nI (cs_n zc 0))) (C := RX10) (T := TX10) (N := 13) hx hb hts hiX10 hown hK hP 0 rfl rfl 7 (by decide) (hts (.fieldLink RX10 124 "TributePitches" "pitchCount" "I") (List.mem_of_getElem? (i := 1) rfl)) (fun _ h9 => h9) rfl dX10_pitch_84 ?_
                  refine lv_iload_n hx hb dX10_pitch_87 rfl (lv_at hl 1 rfl) ?_
                  refine lv_iload_n hx hb dX10_pitch_88 rfl (lv_at hl 2 rfl) ?_
                  refine lv_iload_n hx hb dX10_pitch_89 rfl (lv_at hl 3 rfl) ?_
                  refine lv_iload hx hb dX10_pitch_90 (lv_at hl 4 rfl) ?_
                  refine lv_iload hx hb dX10_pitch_92 (lv_at hl 5 rfl) ?_
                  have hPc := hP.sub (ws' := [(qp, .inr (6, [.int 0, .int 0, .int 0, .int 0, .int 0, .int 0, .int 0, .null]))]) [2] rfl
                  have hDc := hD.sub (ws' := [(qp, .inr (6, [.int 0, .int 0, .int 0, .int 0, .int 0, .int 0, .int 0, .null]))]) [2] (by decide) rfl
                  have hKc := hK.sub (tys' := []) [] rfl
                  have hFc := va_free (wc := [(qp, .inr (6, [.int 0, .int 0, .int 0, .int 0, .int 0, .int 0, .int 0, .null]))]) hD hS hA [2] rfl
                  refine va_callv (va_runI (As := [.int (nI (cs_n zc 0)), .int x, .int y, .int xx, .int yy, .int tn]) (rest := [.ref qp, .int (nI (cs_n zc 0)), .ref (cs_X zc 0 6)]) ⟨hx, hb, hml, hown, hts⟩ (c_X6_init l dC dI  _ qp (nI (cs_n zc 0)) x y xx yy tn ) (cwI 6 hts gX10_pitch_X6_init rfl rfl rfl (hts (.initialized RX6) (List.mem_of_getElem? (i := 5) rfl)) (hts (.methodLink RX10 127 yX6_init) (List.mem_of_getElem? (i := 26) rfl)) (hts (.instanceMethod yX6_init) (List.mem_of_getElem? (i := 27) rfl)) rfl (by decide +kernel) ⟨Nat.le_of_ble_eq_true rfl, Nat.le_of_ble_eq_true rfl⟩) (pw_preS hPc hKc hDc hN) rfl rfl hl.1 rfl (lv_room (Nat.le_of_ble_eq_true rfl)) dX10_pitch_94 ⟨Nat.le_of_ble_eq_true rfl, Nat.le_of_ble_eq_true rfl⟩) hS (fun q _ h => hFc q h) hFc (fun u t H1 locs ht hvm hw hB hz1 hk1 hS => ?_)
                  obtain ⟨hP1, hK1, hD1⟩ := hB
                  rw [ht] at hP1
                  obtain ⟨hP, hD⟩ := va_join (wr := [cTP zc, cR6 cA zc]) (w1 := [(qp, .inr (6, [.int (nI (cs_n zc 0)), .int x, .int y, .int xx, .int yy, .int tn, .int 0, .null]))]) hP hD [2] [0, 1] rfl rfl (by decide) (by decide) hk1 hFc hP1 hD1
                  generalize H1 = H at hP hS ⊢
                  have hP : va_P (dC, dI) vwCl [cTP zc, cR6 cA zc, (qp, .inr (6, [.int (nI (cs_n zc 0)), .int x, .int y, .int xx, .int yy, .int tn, .int 0, .null]))] H := hP
                  have hD : va_D _ [cTP zc, cR6 cA zc, (qp, .inr (6, [.int (nI (cs_n zc 0)), .int x, .int y, .int xx, .int yy, .int tn, .int 0, .null]))] := hD
                  refine va_astq (r := (RX6, TX6, 8)) hx hb hK hP hD hS 1 1 2 6 rfl rfl rfl rfl (vp_in_nI (by omega) (by omega)) dX10_pitch_97 (fun H locs hP hD hS => ?_)
                  have hP : va_P (dC, dI) vwCl [cTP zc, (cs_X zc 0 6, .inl (cA 1, 12, .inr (.inr (.inr (.inr (va_up (rfN (cs_n zc 0) (cs_X zc 1)) (nI (cs_n zc 0)).toNatClampNeg (some qp))))))), (qp, .inr (6, [.int (nI (cs_n zc 0)), .int x, .int y, .int xx, .int yy, .int tn, .int 0, .null]))] H := hP
                  have hD : va_D _ [cTP zc, (cs_X zc 0 6, .inl (cA 1, 12, .inr (.inr (.inr (.inr (va_up (rfN (cs_n zc 0) (cs_X zc 1)) (nI (cs_n zc 0)).toNatClampNeg (some qp))))))), (qp, .inr (6, [.int (nI (cs_n zc 0)), .int x, .int y, .int xx, .int yy, .int tn, .int 0, .null]))] := hD
                  refine lv_aload_n hx hb dX10_pitch_98 rfl (lv_at hl 0 rfl) ?_
                  refine lv_dup hx hb dX10_pitch_99 rfl ?_
                  refine va_get (D := (dC, dI)) (ci := 10) (v := .int (nI (cs_n zc 0))) (C := RX10) (T := TX10) (N := 13) hx hb hts hiX10 hown hK hP 0 rfl rfl 7 (by decide) (hts (.fieldLink RX10 124 "TributePitches" "pitchCount" "I") (List.mem_of_getElem? (i := 1) rfl)) (fun _ h9 => h9) rfl dX10_pitch_100 ?_
                  refine lv_dup_x1 hx hb dX10_pitch_103 rfl rfl ?_
                  refine lv_iconst (v := 1) hx hb dX10_pitch_104 (by decide) ?_
                  refine lv_iadd hx hb dX10_pitch_105 ?_
                  refine lv_topi (fun v105 ev105 => ?_)
                  have ev105 : v105 = nI (cs_n zc 0 + 1) := by rw [ev105]; exact nI_1 _
                  subst ev105
                  refine va_put (D := (dC, dI)) (ci := 10) (v := .int (nI (cs_n zc 0 + 1))) (ty := .int) (C := RX10) (T := TX10) (N := 13) hx hb hts hiX10 tyX10 tyX10_ok nmX10 hown hK hP hD hS 0 rfl rfl 7 (by decide) (hts (.fieldLink RX10 124 "TributePitches" "pitchCount" "I") (List.mem_of_getElem? (i := 1) rfl)) (fun _ h9 => h9) rfl (by decide +kernel) rfl rfl (Nat.le_of_ble_eq_true rfl) dX10_pitch_106 (fun H locs hP hD hS => ?_)
                  have hP : va_P (dC, dI) vwCl [(cs_X zc 0 0, .inr (10, [.ref (cs_X zc 0 1), .ref (cs_X zc 0 6), .ref (cs_X zc 0 7), .ref (cs_X zc 0 8), .ref (cs_X zc 0 9), .ref (cs_X zc 0 10), .ref (cs_X zc 0 11), .int (nI (cs_n zc 0 + 1)), .int (nI (cs_n zc 1)), .int (nI (cs_n zc 2)), .int (nI (cs_n zc 3)), va_rf (opN (cs_n zc 4) (fun _ => cs_X zc 5 0)), .int (cs_i zc 2)])), (cs_X zc 0 6, .inl (cA 1, 12, .inr (.inr (.inr (.inr (va_up (rfN (cs_n zc 0) (cs_X zc 1)) (nI (cs_n zc 0)).toNatClampNeg (some qp))))))), (qp, .inr (6, [.int (nI (cs_n zc 0)), .int x, .int y, .int xx, .int yy, .int tn, .int 0, .null]))] H := hP
                  have hD : va_D _ [(cs_X zc 0 0, .inr (10, [.ref (cs_X zc 0 1), .ref (cs_X zc 0 6), .ref (cs_X zc 0 7), .ref (cs_X zc 0 8), .ref (cs_X zc 0 9), .ref (cs_X zc 0 10), .ref (cs_X zc 0 11), .int (nI (cs_n zc 0 + 1)), .int (nI (cs_n zc 1)), .int (nI (cs_n zc 2)), .int (nI (cs_n zc 3)), va_rf (opN (cs_n zc 4) (fun _ => cs_X zc 5 0)), .int (cs_i zc 2)])), (cs_X zc 0 6, .inl (cA 1, 12, .inr (.inr (.inr (.inr (va_up (rfN (cs_n zc 0) (cs_X zc 1)) (nI (cs_n zc 0)).toNatClampNeg (some qp))))))), (qp, .inr (6, [.int (nI (cs_n zc 0)), .int x, .int y, .int xx, .int yy, .int tn, .int 0, .null]))] := hD
                  subst hQ
                  have hP9 : va_P (dC, dI) vwCl [(cs_X zc 0 0, .inr (10, [.ref (cs_X zc 0 1), .ref (cs_X zc 0 6), .ref (cs_X zc 0 7), .ref (cs_X zc 0 8), .ref (cs_X zc 0 9), .ref (cs_X zc 0 10), .ref (cs_X zc 0 11), .int (nI (cs_n zc 0 + 1)), .int (nI (cs_n zc 1)), .int (nI (cs_n zc 2)), .int (nI (cs_n zc 3)), va_rf (opN (cs_n zc 4) (fun _ => cs_X zc 5 0)), .int (cs_i zc 2)])), (cs_X zc 0 6, .inl (cA 1, 12, .inr (.inr (.inr (.inr (va_up (rfN (cs_n zc 0) (cs_X zc 1)) (nI (cs_n zc 0)).toNatClampNeg (some qp))))))), (qp, .inr (6, [.int (nI (cs_n zc 0)), .int x, .int y, .int xx, .int yy, .int tn, .int 0, .null]))] H := hP.sub [0, 1, 2] rfl
                  have hD9 : va_D (va_A [cTP zc, cR6 cA zc] s.heap.size) [(cs_X zc 0 0, .inr (10, [.ref (cs_X zc 0 1), .ref (cs_X zc 0 6), .ref (cs_X zc 0 7), .ref (cs_X zc 0 8), .ref (cs_X zc 0 9), .ref (cs_X zc 0 10), .ref (cs_X zc 0 11), .int (nI (cs_n zc 0 + 1)), .int (nI (cs_n zc 1)), .int (nI (cs_n zc 2)), .int (nI (cs_n zc 3)), va_rf (opN (cs_n zc 4) (fun _ => cs_X zc 5 0)), .int (cs_i zc 2)])), (cs_X zc 0 6, .inl (cA 1, 12, .inr (.inr (.inr (.inr (va_up (rfN (cs_n zc 0) (cs_X zc 1)) (nI (cs_n zc 0)).toNatClampNeg (some qp))))))), (qp, .inr (6, [.int (nI (cs_n zc 0)), .int x, .int y, .int xx, .int yy, .int tn, .int 0, .null]))] := hD.sub [0, 1, 2] (by decide) rfl
                  have hlf := lf_pitch_3 cA zc x y xx yy tn qp c2 c4 c5 c6 c8 hanyr9 c11 hp8 hI
                  exact W.iret (v := nI (cs_n zc 0)) hx hb hr (fun t ht hW => have hJ := kjoin hPk hDk hks rfl (hS.F ht) (by rw [ht]; exact hP9) hD9 hlf.2.1 hlf.2.2; ⟨⟨nI (cs_n zc 0), (cs_i zc, va_up (cs_n zc) 0 (cs_n zc 0 + 1), va_up (va_up (va_up (va_up (va_up (va_up (cs_I zc) 11 (va_up (cs_I zc 11) (cs_n zc 0) x)) 12 (va_up (cs_I zc 12) (cs_n zc 0) y)) 13 (va_up (cs_I zc 13) (cs_n zc 0) xx)) 14 (va_up (cs_I zc 14) (cs_n zc 0) yy)) 15 (va_up (cs_I zc 15) (cs_n zc 0) tn)) 16 (va_up (cs_I zc 16) (cs_n zc 0) 0), cs_L zc, va_up (cs_N zc) 0 (va_up (cs_N zc 0) (cs_n zc 0) 0), cs_S zc, va_up (cs_X zc) 1 (va_up (cs_X zc 1) (cs_n zc 0) qp)), rfl, ⟨⟨hlf.1, rfl⟩, (Or.inr (Or.inr (Or.inr (Or.inl ⟨c2, c4, c5, c6, c8, hanyr9, c11, hp8, qp, rfl, rfl⟩))))⟩, hJ.1, va_K.moved hW.alike hKk, hJ.2.1⟩, hJ.2.2⟩) (fun q h => kAll_A hks _ (hS.2.2 q h)) dX10_pitch_109
                · skip
                  refine lv_bipush (v := (-4)) hx hb dX10_pitch_68 (by decide) ?_
                  subst hQ
                  refine W.widen (k := 1) (n := 8) (Nat.le_of_ble_eq_true rfl) (Nat.le_of_ble_eq_true rfl) ?_
                  exact W.iret (v := (-4)) hx hb hr (fun t ht hW => ⟨⟨(-4), zc, rfl, ⟨⟨hI, rfl⟩, (Or.inr (Or.inr (Or.inr (Or.inr (Or.inl ⟨c2, c4, c5, c6, c8, hanyr9, c11, rfl, rfl⟩)))))⟩, (by rw [ht]; exact hPk), va_K.moved hW.alike hKk, kDA_self hDk⟩, (kw_same hPk ht).2⟩) (fun q h => absurd h List.not_mem_nil) dX10_pitch_70
              · exact absurd c10 (by decide)
            · subst er9
              refine lv_if_eq (tgt := 59) hx hb dX10_pitch_53 (by decide) (fun c13 => ?_) (fun c13 => ?_)
              · exact absurd c13 (by decide)
              · skip
                refine lv_bipush (v := (-3)) hx hb dX10_pitch_56 (by decide) ?_
                subst hQ
                refine W.widen (k := 1) (n := 8) (Nat.le_of_ble_eq_true rfl) (Nat.le_of_ble_eq_true rfl) ?_
                exact W.iret (v := (-3)) hx hb hr (fun t ht hW => ⟨⟨(-3), zc, rfl, ⟨⟨hI, rfl⟩, (Or.inr (Or.inr (Or.inr (Or.inr (Or.inr (Or.inl ⟨c2, c4, c5, c6, c8, hanyr9, rfl, rfl⟩))))))⟩, (by rw [ht]; exact hPk), va_K.moved hW.alike hKk, kDA_self hDk⟩, (kw_same hPk ht).2⟩) (fun q h => absurd h List.not_mem_nil) dX10_pitch_58
          · skip
            have c8 := (fa_bool_prop hr7).1.mp c8
            refine lv_bipush (v := (-2)) hx hb dX10_pitch_41 (by decide) ?_
            subst hQ
            refine W.widen (k := 1) (n := 8) (Nat.le_of_ble_eq_true rfl) (Nat.le_of_ble_eq_true rfl) ?_
            exact W.iret (v := (-2)) hx hb hr (fun t ht hW => ⟨⟨(-2), zc, rfl, ⟨⟨hI, rfl⟩, (Or.inr (Or.inr (Or.inr (Or.inr (Or.inr (Or.inr (Or.inl ⟨c2, c4, c5, c6, c8, rfl, rfl⟩)))))))⟩, (by rw [ht]; exact hPk), va_K.moved hW.alike hKk, kDA_self hDk⟩, (kw_same hPk ht).2⟩) (fun q h => absurd h List.not_mem_nil) dX10_pitch_43
    · skip
      have c4 := (fa_bool_prop hr3).1.mp c4
      refine lv_iconst (v := (-1)) hx hb dX10_pitch_17 (by decide) ?_
      subst hQ
      refine W.widen (k := 1) (n := 8) (Nat.le_of_ble_eq_true rfl) (Nat.le_of_ble_eq_true rfl) ?_
      exact W.iret (v := (-1)) hx hb hr (fun t ht hW => ⟨⟨(-1), zc, rfl, ⟨⟨hI, rfl⟩, (Or.inr (Or.inr (Or.inr (Or.inr (Or.inr (Or.inr (Or.inr ⟨c2, c4, rfl, rfl⟩)))))))⟩, (by rw [ht]; exact hPk), va_K.moved hW.alike hKk, kDA_self hDk⟩, (kw_same hPk ht).2⟩) (fun q h => absurd h List.not_mem_nil) dX10_pitch_18
def rXa (z : CS) (p : Nat) : Nat := (cs_I z 11 p).toNatClampNeg
def rWa (z : CS) (p : Nat) : Nat := (cs_I z 13 p).toNatClampNeg - (cs_I z 11 p).toNatClampNeg
def rYa (z : CS) (p : Nat) : Nat := (cs_I z 12 p).toNatClampNeg
def rHa (z : CS) (p : Nat) : Nat := (cs_I z 14 p).toNatClampNeg - (cs_I z 12 p).toNatClampNeg
theorem rectF {z : CS} {p : Nat} (hI : invC z) (hp : p < cs_n z 0) : cs_I z 11 p = nI (rXa z p) ∧ cs_I z 13 p = nI (rXa z p + rWa z p) ∧ cs_I z 12 p = nI (rYa z p) ∧ cs_I z 14 p = nI (rYa z p + rHa z p) ∧ rXa z p + rWa z p ≤ 7 ∧ rYa z p + rHa z p ≤ 5 := by
  obtain ⟨-, hpi, -⟩ := hI
  obtain ⟨h1, h2, -⟩ := hpi p hp
  obtain ⟨xa, wa, ya, ha, e1, e2, e3, e4, h5, h6⟩ := rect ⟨h1, h2⟩
  have q1 : rXa z p = xa := by unfold rXa; rw [e1, nI_clamp (by omega)]
  have q2 : rWa z p = wa := by unfold rWa; rw [e1, e2, nI_clamp (by omega), nI_clamp (by omega)]; omega
  have q3 : rYa z p = ya := by unfold rYa; rw [e3, nI_clamp (by omega)]
  have q4 : rHa z p = ha := by unfold rHa; rw [e3, e4, nI_clamp (by omega), nI_clamp (by omega)]; omega
  rw [q1, q2, q3, q4]
  exact ⟨e1, e2, e3, e4, h5, h6⟩
theorem shNo {k : Int32} (h : ∀ j, j < 4 → k ≠ nI j) : ¬ (0 ≤ k ∧ k ≤ 3) := fun q => by
  obtain ⟨a, ha, rfl⟩ := nI_of2 (x := k) (M := 3) (n := 3) (by decide) (Int32.not_lt.mpr q.1) q.2
  exact h a (by omega) rfl
theorem hold_nat {i n le : Int32} (h : 0 ≤ i ∧ 0 ≤ n ∧ i.toInt64 + n.toInt64 ≤ le.toInt64) (hl : le.toInt ≤ 48) : ∃ a b : Nat, i = nI a ∧ n = nI b ∧ a + b ≤ 48 ∧ ((a + b : Nat) : Int) ≤ le.toInt := by
  obtain ⟨a, ha, rfl⟩ := nI_of (x := i) (Int32.not_lt.mpr h.1)
  obtain ⟨b, hb, rfl⟩ := nI_of (x := n) (Int32.not_lt.mpr h.2.1)
  have h3 := Int64.le_iff_toInt_le.mp h.2.2
  rw [Int64.toInt_add, Int32.toInt_toInt64, Int32.toInt_toInt64, Int32.toInt_toInt64, nI_toInt ha, nI_toInt hb, Int.bmod_eq_of_le (by omega) (by omega)] at h3
  exact ⟨a, b, rfl, rfl, by omega, by omega⟩
theorem hold_in {i le : Int32} (h : 0 ≤ i ∧ 0 ≤ (1 : Int32) ∧ i.toInt64 + (1 : Int32).toInt64 ≤ le.toInt64) (hl : le.toInt ≤ 48) : vp_in i 48 := by
  obtain ⟨a, b, rfl, e, h1, h2⟩ := hold_nat h hl
  have hb : b = 1 := by
    rcases Nat.lt_or_ge b (2 ^ 31) with q | q
    · exact ((nI_eq (by decide) q).mp (show nI 1 = nI b from e)).symm
    · omega
  exact vp_in_nI (by omega) (by omega)
def pC_auction (zc : CS) (pp : Int32) (sv : Int32) (r : Int32) (u : CS) : Prop :=
  ((∀ j, j < cs_n zc 0 → pp ≠ nI j) ∧ r = ((-1)) ∧ u = zc) ∨
  (∃ jp : Nat, pp = nI jp ∧ (jp < cs_n zc 0) ∧ (cs_N zc 0 jp = 0) ∧ (cs_n zc 4 = 0) ∧ (1 ≤ sv ∧ sv ≤ 240) ∧ ∃ qa : Nat, r = (1) ∧ u = (va_up (va_up (cs_i zc) 3 sv) 4 0, va_up (va_up (cs_n zc) 4 (jp + 1)) 5 0, cs_I zc, cs_L zc, cs_N zc, cs_S zc, va_up (cs_X zc) 5 (va_up (cs_X zc 5) 0 qa))) ∨
  (∃ jp : Nat, pp = nI jp ∧ (jp < cs_n zc 0) ∧ (cs_N zc 0 jp = 0) ∧ (cs_n zc 4 = 0) ∧ (¬ (1 ≤ sv ∧ sv ≤ 240)) ∧ r = ((-2)) ∧ u = zc) ∨
  (∃ jp : Nat, pp = nI jp ∧ (jp < cs_n zc 0) ∧ (cs_N zc 0 jp = 0) ∧ (¬ cs_n zc 4 = 0) ∧ (1 ≤ sv ∧ sv ≤ 240) ∧ r = ((-3)) ∧ u = zc) ∨
  (∃ jp : Nat, pp = nI jp ∧ (jp < cs_n zc 0) ∧ (cs_N zc 0 jp = 0) ∧ (¬ cs_n zc 4 = 0) ∧ (¬ (1 ≤ sv ∧ sv ≤ 240)) ∧ r = ((-2)) ∧ u = zc) ∨
  (∃ jp : Nat, pp = nI jp ∧ (jp < cs_n zc 0) ∧ (¬ cs_N zc 0 jp = 0) ∧ (1 ≤ sv ∧ sv ≤ 240) ∧ r = ((-3)) ∧ u = zc) ∨
  (∃ jp : Nat, pp = nI jp ∧ (jp < cs_n zc 0) ∧ (¬ cs_N zc 0 jp = 0) ∧ (¬ (1 ≤ sv ∧ sv ≤ 240)) ∧ r = ((-2)) ∧ u = zc)
set_option maxHeartbeats 4000000 in
theorem lf_auction_1 (cA : Nat → ClassId) (zc : CS) (sv : Int32) (jp : Nat) (qa : Nat) (hjp : jp < cs_n zc 0) (h0t : cs_N zc 0 jp = 0) (hcur : cs_n zc 4 = 0) (c4 : 1 ≤ sv ∧ sv ≤ 240) (hI : invC zc) : invC (va_up (va_up (cs_i zc) 3 sv) 4 0, va_up (va_up (cs_n zc) 4 (jp + 1)) 5 0, cs_I zc, cs_L zc, cs_N zc, cs_S zc, va_up (cs_X zc) 5 (va_up (cs_X zc 5) 0 qa)) ∧ kAll (cF cA (va_up (va_up (cs_i zc) 3 sv) 4 0, va_up (va_up (cs_n zc) 4 (jp + 1)) 5 0, cs_I zc, cs_L zc, cs_N zc, cs_S zc, va_up (cs_X zc) 5 (va_up (cs_X zc 5) 0 qa))) [(0, 0), (0, 6), (1, jp), (5, 0)] [(cs_X zc 0 0, .inr (10, [.ref (cs_X zc 0 1), .ref (cs_X zc 0 6), .ref (cs_X zc 0 7), .ref (cs_X zc 0 8), .ref (cs_X zc 0 9), .ref (cs_X zc 0 10), .ref (cs_X zc 0 11), .int (nI (cs_n zc 0)), .int (nI (cs_n zc 1)), .int (nI (cs_n zc 2)), .int (nI (cs_n zc 3)), .ref qa, .int (cs_i zc 2)])), cR6 cA zc, cPiN zc jp, (qa, .inr (0, [.ref (cs_X zc 1 jp), .int sv, .int 0, .null]))] ∧ ∀ i j, (i, j) ∉ ([(0, 0), (0, 6), (1, jp), (5, 0)] : List (Nat × Nat)) → cF cA (va_up (va_up (cs_i zc) 3 sv) 4 0, va_up (va_up (cs_n zc) 4 (jp + 1)) 5 0, cs_I zc, cs_L zc, cs_N zc, cs_S zc, va_up (cs_X zc) 5 (va_up (cs_X zc 5) 0 qa)) i j = none ∨ ((i, j) ∉ ([(0, 0), (0, 6), (1, jp)] : List (Nat × Nat)) ∧ cF cA (va_up (va_up (cs_i zc) 3 sv) 4 0, va_up (va_up (cs_n zc) 4 (jp + 1)) 5 0, cs_I zc, cs_L zc, cs_N zc, cs_S zc, va_up (cs_X zc) 5 (va_up (cs_X zc 5) 0 qa)) i j = cF cA zc i j) := by
  obtain ⟨⟨hn0, hn1, hn2, hn3, hn4, hn5⟩, hpi, hgk, htk, hpk, hsh⟩ := id hI
  refine ⟨(by refine ⟨⟨hn0, hn1, hn2, hn3, (show jp + 1 ≤ cs_n zc 0 from hjp), Nat.zero_le _⟩, hpi, hgk, htk, hpk, hsh⟩), ⟨(by (rw [(kF_tpA (z := (va_up (va_up (cs_i zc) 3 sv) 4 0, va_up (va_up (cs_n zc) 4 (jp + 1)) 5 0, cs_I zc, cs_L zc, cs_N zc, cs_S zc, va_up (cs_X zc) 5 (va_up (cs_X zc 5) 0 qa))) (Nat.succ_ne_zero _))]) <;> simp [cTP, cTPN, cTPA, cLo, cA2, cA3, cA4, cA5, cR6, cR7, cR8, cR9, cR10, cTr, cPi, cPiN, cPiT, cGa, cGaK, cTa, cPa, cAu, cAuN, cAuB, cSh, cSc, cs_i, cs_n, cs_I, cs_L, cs_N, cs_S, cs_X, va_up, upd, opN]), (by (rw [(kF_r6 (cA := cA) (z := (va_up (va_up (cs_i zc) 3 sv) 4 0, va_up (va_up (cs_n zc) 4 (jp + 1)) 5 0, cs_I zc, cs_L zc, cs_N zc, cs_S zc, va_up (cs_X zc) 5 (va_up (cs_X zc 5) 0 qa))))]) <;> simp [cTP, cTPN, cTPA, cLo, cA2, cA3, cA4, cA5, cR6, cR7, cR8, cR9, cR10, cTr, cPi, cPiN, cPiT, cGa, cGaK, cTa, cPa, cAu, cAuN, cAuB, cSh, cSc, cs_i, cs_n, cs_I, cs_L, cs_N, cs_S, cs_X, va_up, upd, opN]), (by (rw [(kF_piN (z := (va_up (va_up (cs_i zc) 3 sv) 4 0, va_up (va_up (cs_n zc) 4 (jp + 1)) 5 0, cs_I zc, cs_L zc, cs_N zc, cs_S zc, va_up (cs_X zc) 5 (va_up (cs_X zc 5) 0 qa))) (j := jp) hjp h0t)]) <;> simp [cTP, cTPN, cTPA, cLo, cA2, cA3, cA4, cA5, cR6, cR7, cR8, cR9, cR10, cTr, cPi, cPiN, cPiT, cGa, cGaK, cTa, cPa, cAu, cAuN, cAuB, cSh, cSc, cs_i, cs_n, cs_I, cs_L, cs_N, cs_S, cs_X, va_up, upd, opN]), (by (rw [(kF_auN (z := (va_up (va_up (cs_i zc) 3 sv) 4 0, va_up (va_up (cs_n zc) 4 (jp + 1)) 5 0, cs_I zc, cs_L zc, cs_N zc, cs_S zc, va_up (cs_X zc) 5 (va_up (cs_X zc 5) 0 qa))) (Nat.succ_ne_zero _) rfl)]) <;> simp [cTP, cTPN, cTPA, cLo, cA2, cA3, cA4, cA5, cR6, cR7, cR8, cR9, cR10, cTr, cPi, cPiN, cPiT, cGa, cGaK, cTa, cPa, cAu, cAuN, cAuB, cSh, cSc, cs_i, cs_n, cs_I, cs_L, cs_N, cs_S, cs_X, va_up, upd, opN]), trivial⟩, ?_⟩
  intro i j hij
  have hij0 : (i, j) ∉ ([(0, 0), (0, 6), (1, jp)] : List (Nat × Nat)) := by
    intro q
    simp only [List.mem_cons, Prod.mk.injEq, List.not_mem_nil, or_false] at q
    rcases q with ⟨rfl, rfl⟩ | ⟨rfl, rfl⟩ | ⟨rfl, rfl⟩
    · exact hij (by simp)
    · exact hij (by simp)
    · exact hij (by simp)
  refine Or.inr ⟨hij0, ?_⟩
  rcases i with _ | _ | _ | _ | _ | _ | _ | _ | i
  · rcases j with _ | _ | _ | _ | _ | _ | _ | _ | _ | _ | _ | _ | j
    · exact absurd (by simp) hij
    · show some (cLo (va_up (va_up (cs_i zc) 3 sv) 4 0, va_up (va_up (cs_n zc) 4 (jp + 1)) 5 0, cs_I zc, cs_L zc, cs_N zc, cs_S zc, va_up (cs_X zc) 5 (va_up (cs_X zc 5) 0 qa))) = some (cLo zc); simp [cLo, cs_i, cs_n, cs_I, cs_L, cs_N, cs_S, cs_X, va_up]
    · show some (cA2 cA (va_up (va_up (cs_i zc) 3 sv) 4 0, va_up (va_up (cs_n zc) 4 (jp + 1)) 5 0, cs_I zc, cs_L zc, cs_N zc, cs_S zc, va_up (cs_X zc) 5 (va_up (cs_X zc 5) 0 qa))) = some (cA2 cA zc); simp [cA2, cs_i, cs_n, cs_I, cs_L, cs_N, cs_S, cs_X, va_up]
    · show some (cA3 cA (va_up (va_up (cs_i zc) 3 sv) 4 0, va_up (va_up (cs_n zc) 4 (jp + 1)) 5 0, cs_I zc, cs_L zc, cs_N zc, cs_S zc, va_up (cs_X zc) 5 (va_up (cs_X zc 5) 0 qa))) = some (cA3 cA zc); simp [cA3, cs_i, cs_n, cs_I, cs_L, cs_N, cs_S, cs_X, va_up]
    · show some (cA4 cA (va_up (va_up (cs_i zc) 3 sv) 4 0, va_up (va_up (cs_n zc) 4 (jp + 1)) 5 0, cs_I zc, cs_L zc, cs_N zc, cs_S zc, va_up (cs_X zc) 5 (va_up (cs_X zc 5) 0 qa))) = some (cA4 cA zc); simp [cA4, cs_i, cs_n, cs_I, cs_L, cs_N, cs_S, cs_X, va_up]
    · show some (cA5 cA (va_up (va_up (cs_i zc) 3 sv) 4 0, va_up (va_up (cs_n zc) 4 (jp + 1)) 5 0, cs_I zc, cs_L zc, cs_N zc, cs_S zc, va_up (cs_X zc) 5 (va_up (cs_X zc 5) 0 qa))) = some (cA5 cA zc); simp [cA5, cs_i, cs_n, cs_I, cs_L, cs_N, cs_S, cs_X, va_up]
    · exact absurd (by simp) hij
    · show some (cR7 cA (va_up (va_up (cs_i zc) 3 sv) 4 0, va_up (va_up (cs_n zc) 4 (jp + 1)) 5 0, cs_I zc, cs_L zc, cs_N zc, cs_S zc, va_up (cs_X zc) 5 (va_up (cs_X zc 5) 0 qa))) = some (cR7 cA zc); simp [cR7, cs_i, cs_n, cs_I, cs_L, cs_N, cs_S, cs_X, va_up]
    · show some (cR8 cA (va_up (va_up (cs_i zc) 3 sv) 4 0, va_up (va_up (cs_n zc) 4 (jp + 1)) 5 0, cs_I zc, cs_L zc, cs_N zc, cs_S zc, va_up (cs_X zc) 5 (va_up (cs_X zc 5) 0 qa))) = some (cR8 cA zc); simp [cR8, cs_i, cs_n, cs_I, cs_L, cs_N, cs_S, cs_X, va_up]
    · show some (cR9 cA (va_up (va_up (cs_i zc) 3 sv) 4 0, va_up (va_up (cs_n zc) 4 (jp + 1)) 5 0, cs_I zc, cs_L zc, cs_N zc, cs_S zc, va_up (cs_X zc) 5 (va_up (cs_X zc 5) 0 qa))) = some (cR9 cA zc); simp [cR9, cs_i, cs_n, cs_I, cs_L, cs_N, cs_S, cs_X, va_up]
    · show some (cR10 cA (va_up (va_up (cs_i zc) 3 sv) 4 0, va_up (va_up (cs_n zc) 4 (jp + 1)) 5 0, cs_I zc, cs_L zc, cs_N zc, cs_S zc, va_up (cs_X zc) 5 (va_up (cs_X zc 5) 0 qa))) = some (cR10 cA zc); simp [cR10, cs_i, cs_n, cs_I, cs_L, cs_N, cs_S, cs_X, va_up]
    · show some (cTr (va_up (va_up (cs_i zc) 3 sv) 4 0, va_up (va_up (cs_n zc) 4 (jp + 1)) 5 0, cs_I zc, cs_L zc, cs_N zc, cs_S zc, va_up (cs_X zc) 5 (va_up (cs_X zc 5) 0 qa))) = some (cTr zc); simp [cTr, cs_i, cs_n, cs_I, cs_L, cs_N, cs_S, cs_X, va_up]
    · show (none : Option (Nat × va_E)) = none; rfl
  · show (if j < cs_n (va_up (va_up (cs_i zc) 3 sv) 4 0, va_up (va_up (cs_n zc) 4 (jp + 1)) 5 0, cs_I zc, cs_L zc, cs_N zc, cs_S zc, va_up (cs_X zc) 5 (va_up (cs_X zc 5) 0 qa)) 0 then some (cPi (va_up (va_up (cs_i zc) 3 sv) 4 0, va_up (va_up (cs_n zc) 4 (jp + 1)) 5 0, cs_I zc, cs_L zc, cs_N zc, cs_S zc, va_up (cs_X zc) 5 (va_up (cs_X zc 5) 0 qa)) j) else none) = if j < cs_n zc 0 then some (cPi zc j) else none
    simp [cPi, cs_i, cs_n, cs_I, cs_L, cs_N, cs_S, cs_X, va_up]
  · show (if j < cs_n (va_up (va_up (cs_i zc) 3 sv) 4 0, va_up (va_up (cs_n zc) 4 (jp + 1)) 5 0, cs_I zc, cs_L zc, cs_N zc, cs_S zc, va_up (cs_X zc) 5 (va_up (cs_X zc 5) 0 qa)) 1 then some (cGa (va_up (va_up (cs_i zc) 3 sv) 4 0, va_up (va_up (cs_n zc) 4 (jp + 1)) 5 0, cs_I zc, cs_L zc, cs_N zc, cs_S zc, va_up (cs_X zc) 5 (va_up (cs_X zc 5) 0 qa)) j) else none) = if j < cs_n zc 1 then some (cGa zc j) else none
    simp [cGa, cs_i, cs_n, cs_I, cs_L, cs_N, cs_S, cs_X, va_up]
  · show (if j < cs_n (va_up (va_up (cs_i zc) 3 sv) 4 0, va_up (va_up (cs_n zc) 4 (jp + 1)) 5 0, cs_I zc, cs_L zc, cs_N zc, cs_S zc, va_up (cs_X zc) 5 (va_up (cs_X zc 5) 0 qa)) 2 then some (cTa (va_up (va_up (cs_i zc) 3 sv) 4 0, va_up (va_up (cs_n zc) 4 (jp + 1)) 5 0, cs_I zc, cs_L zc, cs_N zc, cs_S zc, va_up (cs_X zc) 5 (va_up (cs_X zc 5) 0 qa)) j) else none) = if j < cs_n zc 2 then some (cTa zc j) else none
    simp [cTa, cs_i, cs_n, cs_I, cs_L, cs_N, cs_S, cs_X, va_up]
  · show (if j < cs_n (va_up (va_up (cs_i zc) 3 sv) 4 0, va_up (va_up (cs_n zc) 4 (jp + 1)) 5 0, cs_I zc, cs_L zc, cs_N zc, cs_S zc, va_up (cs_X zc) 5 (va_up (cs_X zc 5) 0 qa)) 3 then some (cPa (va_up (va_up (cs_i zc) 3 sv) 4 0, va_up (va_up (cs_n zc) 4 (jp + 1)) 5 0, cs_I zc, cs_L zc, cs_N zc, cs_S zc, va_up (cs_X zc) 5 (va_up (cs_X zc 5) 0 qa)) j) else none) = if j < cs_n zc 3 then some (cPa zc j) else none
    simp [cPa, cs_i, cs_n, cs_I, cs_L, cs_N, cs_S, cs_X, va_up]
  · have hne0 : j ≠ 0 := fun q => hij (by rw [q]; simp)
    show (if j = 0 ∧ ¬ cs_n (va_up (va_up (cs_i zc) 3 sv) 4 0, va_up (va_up (cs_n zc) 4 (jp + 1)) 5 0, cs_I zc, cs_L zc, cs_N zc, cs_S zc, va_up (cs_X zc) 5 (va_up (cs_X zc 5) 0 qa)) 4 = 0 then some (cAu (va_up (va_up (cs_i zc) 3 sv) 4 0, va_up (va_up (cs_n zc) 4 (jp + 1)) 5 0, cs_I zc, cs_L zc, cs_N zc, cs_S zc, va_up (cs_X zc) 5 (va_up (cs_X zc 5) 0 qa))) else none) = (if j = 0 ∧ ¬ cs_n zc 4 = 0 then some (cAu zc) else none)
    rw [if_neg (fun q => hne0 q.1), if_neg (fun q => hne0 q.1)]
  · show (if j < 4 then some (cSh (va_up (va_up (cs_i zc) 3 sv) 4 0, va_up (va_up (cs_n zc) 4 (jp + 1)) 5 0, cs_I zc, cs_L zc, cs_N zc, cs_S zc, va_up (cs_X zc) 5 (va_up (cs_X zc 5) 0 qa)) j) else none) = if j < 4 then some (cSh zc j) else none
    simp [cSh, cs_i, cs_n, cs_I, cs_L, cs_N, cs_S, cs_X, va_up]
  · show (if j < 4 then some (cSc cA (va_up (va_up (cs_i zc) 3 sv) 4 0, va_up (va_up (cs_n zc) 4 (jp + 1)) 5 0, cs_I zc, cs_L zc, cs_N zc, cs_S zc, va_up (cs_X zc) 5 (va_up (cs_X zc 5) 0 qa)) j) else none) = if j < 4 then some (cSc cA zc j) else none
    simp [cSc, cs_i, cs_n, cs_I, cs_L, cs_N, cs_S, cs_X, va_up]
  · show (none : Option (Nat × va_E)) = none; rfl
set_option maxHeartbeats 4000000 in
set_option maxRecDepth 100000 in
theorem K_auction (l : Launch) (dC : Nat → ClassId) (dI : Nat → Nat → Nat) (cA : Nat → ClassId) (sz : Nat) (zc : CS) (pp : Int32) (sv : Int32) (hI : invC zc) : Met l yX10_auction wsX10_auction ({ frames := 2, cells := 1, slots := 4, locals := 60 }) (kw (dC, dI) (ctys cA) (cF cA zc) sz [.ref (cs_X zc 0 0), .int pp, .int sv]) (kQi (dC, dI) (ctys cA) (cF cA zc) sz (cF cA) (fun r u => (invC u ∧ cs_X u 0 0 = cs_X zc 0 0) ∧ pC_auction zc pp sv r u)) 1 4 (kA (cF cA zc) sz) := by
  refine kw_met (cc := cX10_auction) (maxL := 4) (ret := (some .int)) (by decide) rfl (Nat.le_of_ble_eq_true rfl) ?_
  intro p e s m below meth c0 hx hb hr hml hown hlocks hnm hts hPk hKk hDk hN hsz ls hl
  subst hsz
  have hK : va_K (dC, dI) vwCl [(cA 0, .int), (cA 1, .object RX6), (cA 2, .object RX2), (cA 3, .object RX8), (cA 4, .object RX5), (cA 5, .object RX7)] s := hKk
  obtain ⟨⟨hn0, hn1, hn2, hn3, hn4, hn5⟩, hpi, hgk, htk, hpk, hsh⟩ := id hI
  have hl : lv_has ls 4 [(0, .ref (cs_X zc 0 0)), (1, .int pp), (2, .int sv)] := hl
  have hiX0 : ∀ w ∈ wsX00, w ∈ wsX10_auction := fun _ h => List.mem_cons_of_mem _ (List.mem_append_right _ (h))
  have hiX10 : ∀ w ∈ wsX100, w ∈ wsX10_auction := fun _ h => List.mem_cons_of_mem _ (List.mem_append_left _ (List.mem_append_right _ (h)))
  have hiX6 : ∀ w ∈ wsX60, w ∈ wsX10_auction := fun _ h => List.mem_cons_of_mem _ (List.mem_append_left _ (List.mem_append_left _ (List.mem_append_right _ (h))))
  generalize hQ : MQ _ _ _ _ _ _ _ = Q
  rcases ixd pp (cs_n zc 0) with hnojp | ⟨jp, hjp, rfl⟩
  · skip
    have hks : kAll (cF cA zc) [(0, 0), (0, 6)] [cTP zc, cR6 cA zc] := ⟨(kF_tp (cA := cA) (z := zc)), (kF_r6 (cA := cA) (z := zc)), trivial⟩
    have hP : va_P (dC, dI) vwCl [cTP zc, cR6 cA zc] s.heap := kAll_P hPk hks
    have hD : va_D (va_A [cTP zc, cR6 cA zc] s.heap.size) [cTP zc, cR6 cA zc] := (kAll_D hDk hks (by simp)).self
    have hA : ∀ q : Nat, s.heap.size ≤ q → va_A [cTP zc, cR6 cA zc] s.heap.size q := fun q h => Or.inr h
    have hS : va_S (va_A [cTP zc, cR6 cA zc] s.heap.size) s.heap s.heap [] := va_S.rf
    refine lv_aload_n hx hb dX10_auction_0 rfl (lv_at hl 0 rfl) ?_
    refine lv_iload_n hx hb dX10_auction_1 rfl (lv_at hl 1 rfl) ?_
    have hPc := hP.sub (ws' := [cTP zc]) [0] rfl
    have hDc := hD.sub (ws' := [cTP zc]) [0] (by decide) rfl
    have hKc := hK.sub (tys' := []) [] rfl
    refine va_csq (va_Run.run (va_runV (As := [.int pp]) (rest := []) ⟨hx, hb, hml, hown, hts⟩ (s_pitchAt_no l dC dI  _ (cs_X zc 0 0) (.ref (cs_X zc 0 1)) (.ref (cs_X zc 0 6)) (.ref (cs_X zc 0 7)) (.ref (cs_X zc 0 8)) (.ref (cs_X zc 0 9)) (.ref (cs_X zc 0 10)) (.ref (cs_X zc 0 11)) (.int (nI (cs_n zc 1))) (.int (nI (cs_n zc 2))) (.int (nI (cs_n zc 3))) (va_rf (opN (cs_n zc 4) (fun _ => cs_X zc 5 0))) (.int (cs_i zc 2)) pp (cs_n zc 0) (by omega) hnojp) (cwV 1 hts gX10_auction_X10_pitchAt rfl rfl rfl (by decide +kernel) ⟨Nat.le_of_ble_eq_true rfl, Nat.le_of_ble_eq_true rfl⟩) (pw_preV (va_recv hKc hPc (ci := 10) (q0 := 0) rfl rfl) hPc hKc hDc hN) rfl rfl hl.1 rfl (lv_room (Nat.le_of_ble_eq_true rfl)) dX10_auction_2 ⟨Nat.le_of_ble_eq_true rfl, Nat.le_of_ble_eq_true rfl⟩)) (fun r1 hr1 => ?_)
    have hr1 : r1 = none := hr1
    subst hr1
    refine W.eq (g2 := F0 m 5 ls [.null]) rfl ?_
    refine lv_astore_nN (lv' := [(3, .null), (0, .ref (cs_X zc 0 0)), (1, .int pp), (2, .int sv)]) hx hb dX10_auction_5 rfl hl (by decide) rfl (fun ls hl => ?_)
    refine lv_aload_nN hx hb dX10_auction_6 rfl (lv_at hl 0 rfl) ?_
    refine lv_ifnonnullN hx hb dX10_auction_7 ?_
    refine lv_iconst (v := (-1)) hx hb dX10_auction_10 (by decide) ?_
    subst hQ
    refine W.widen (k := 1) (n := 4) (Nat.le_of_ble_eq_true rfl) (Nat.le_of_ble_eq_true rfl) ?_
    exact W.iret (v := (-1)) hx hb hr (fun t ht hW => ⟨⟨(-1), zc, rfl, ⟨⟨hI, rfl⟩, (Or.inl ⟨hnojp, rfl, rfl⟩)⟩, (by rw [ht]; exact hPk), va_K.moved hW.alike hKk, kDA_self hDk⟩, (kw_same hPk ht).2⟩) (fun q h => absurd h List.not_mem_nil) dX10_auction_11
  · skip
    by_cases h0t : cs_N zc 0 jp = 0
    · skip
      by_cases hcur : cs_n zc 4 = 0
      · skip
        have hks : kAll (cF cA zc) [(0, 0), (0, 6), (1, jp)] [cTPN zc, cR6 cA zc, cPiN zc jp] := ⟨(kF_tpN (z := zc) hcur), (kF_r6 (cA := cA) (z := zc)), (kF_piN (z := zc) (j := jp) hjp h0t), trivial⟩
        have hP : va_P (dC, dI) vwCl [cTPN zc, cR6 cA zc, cPiN zc jp] s.heap := kAll_P hPk hks
        have hD : va_D (va_A [cTPN zc, cR6 cA zc, cPiN zc jp] s.heap.size) [cTPN zc, cR6 cA zc, cPiN zc jp] := (kAll_D hDk hks (by simp)).self
        have hA : ∀ q : Nat, s.heap.size ≤ q → va_A [cTPN zc, cR6 cA zc, cPiN zc jp] s.heap.size q := fun q h => Or.inr h
        have hS : va_S (va_A [cTPN zc, cR6 cA zc, cPiN zc jp] s.heap.size) s.heap s.heap [] := va_S.rf
        refine lv_aload_n hx hb dX10_auction_0 rfl (lv_at hl 0 rfl) ?_
        refine lv_iload_n hx hb dX10_auction_1 rfl (lv_at hl 1 rfl) ?_
        have hPc := hP.sub (ws' := [cTPN zc, cR6 cA zc]) [0, 1] rfl
        have hDc := hD.sub (ws' := [cTPN zc, cR6 cA zc]) [0, 1] (by decide) rfl
        have hKc := hK.sub (tys' := [(cA 1, .object RX6)]) [1] rfl
        refine va_csq (va_Run.run (va_runV (As := [.int (nI jp)]) (rest := []) ⟨hx, hb, hml, hown, hts⟩ (s_pitchAt_yes l dC dI (cA 1) _ (cs_X zc 0 0) (.ref (cs_X zc 0 1)) (.ref (cs_X zc 0 7)) (.ref (cs_X zc 0 8)) (.ref (cs_X zc 0 9)) (.ref (cs_X zc 0 10)) (.ref (cs_X zc 0 11)) (.int (nI (cs_n zc 1))) (.int (nI (cs_n zc 2))) (.int (nI (cs_n zc 3))) .null (.int (cs_i zc 2)) (cs_X zc 0 6) jp (cs_n zc 0) (cs_X zc 1 jp) (rfN (cs_n zc 0) (cs_X zc 1)) hjp (by omega) (rfN_at hjp)) (cwV 1 hts gX10_auction_X10_pitchAt rfl rfl rfl (by decide +kernel) ⟨Nat.le_of_ble_eq_true rfl, Nat.le_of_ble_eq_true rfl⟩) (pw_preV (va_recv hKc hPc (ci := 10) (q0 := 0) rfl rfl) hPc hKc hDc hN) rfl rfl hl.1 rfl (lv_room (Nat.le_of_ble_eq_true rfl)) dX10_auction_2 ⟨Nat.le_of_ble_eq_true rfl, Nat.le_of_ble_eq_true rfl⟩)) (fun r2 hr2 => ?_)
        have hr2 : r2 = some (cs_X zc 1 jp) := hr2
        subst hr2
        refine W.eq (g2 := F0 m 5 ls [.ref (cs_X zc 1 jp)]) rfl ?_
        refine lv_astore_n (lv' := [(3, .ref (cs_X zc 1 jp)), (0, .ref (cs_X zc 0 0)), (1, .int (nI jp)), (2, .int sv)]) hx hb dX10_auction_5 rfl hl (by decide) rfl (fun ls hl => ?_)
        refine lv_aload_n hx hb dX10_auction_6 rfl (lv_at hl 0 rfl) ?_
        refine lv_ifnonnull (tgt := 12) hx hb dX10_auction_7 (by decide) ?_
        refine lv_iload_n hx hb dX10_auction_12 rfl (lv_at hl 3 rfl) ?_
        refine lv_iconst (v := 1) hx hb dX10_auction_13 (by decide) ?_
        refine lv_sipush (v := 240) hx hb dX10_auction_14 (by decide) ?_
        refine vp_callSi (va_Run.run (va_runS (As := [.int sv, .int 1, .int 240]) (rest := []) ⟨hx, hb, hml, hown, hts⟩ (c_X10_isWithin l sv 1 240 ) (va_cwS 3 hts gX10_auction_X10_isWithin rfl rfl rfl (by decide +kernel) ⟨Nat.le_of_ble_eq_true rfl, Nat.le_of_ble_eq_true rfl⟩) (p0_preS hN) rfl rfl hl.1 rfl (lv_room (Nat.le_of_ble_eq_true rfl)) dX10_auction_17 ⟨Nat.le_of_ble_eq_true rfl, Nat.le_of_ble_eq_true rfl⟩)) (fun r3 hr3 => ?_)
        have hr3 : r3 = if 1 ≤ sv ∧ sv ≤ 240 then 1 else 0 := hr3
        refine lv_if_ne (tgt := 26) hx hb dX10_auction_20 (by decide) (fun c4 => ?_) (fun c4 => ?_)
        · skip
          have c4 := (fa_bool_prop hr3).2.mp c4
          refine lv_aload_n hx hb dX10_auction_26 rfl (lv_at hl 0 rfl) ?_
          refine va_get (D := (dC, dI)) (ci := 6) (v := .null) (C := RX6) (T := TX6) (N := 8) hx hb hts hiX6 hown hK hP 2 rfl rfl 7 (by decide) (hts (.fieldLink RX10 159 "TributePitches$Pitch" "take" "LTributePitches$Take;") (List.mem_of_getElem? (i := 1) rfl)) (fun _ h9 => h9) rfl dX10_auction_27 ?_
          refine lv_ifnonnullN hx hb dX10_auction_30 ?_
          refine lv_aload_n hx hb dX10_auction_33 rfl (lv_at hl 1 rfl) ?_
          refine va_get (D := (dC, dI)) (ci := 10) (v := .null) (C := RX10) (T := TX10) (N := 13) hx hb hts hiX10 hown hK hP 0 rfl rfl 11 (by decide) (hts (.fieldLink RX10 163 "TributePitches" "current" "LTributePitches$Auction;") (List.mem_of_getElem? (i := 2) rfl)) (fun _ h9 => h9) rfl dX10_auction_34 ?_
          refine lv_ifnullN (tgt := 43) hx hb dX10_auction_37 (by decide) ?_
          refine lv_aload_n hx hb dX10_auction_43 rfl (lv_at hl 1 rfl) ?_
          refine va_new (ci := 0) (fs := [.null, .int 0, .int 0, .null]) (C := RX0) (T := TX0) (N := 4) hx hb hts hiX0 tyX0 tyX0_ok hown (hts (.classLink RX10 167 RX0) (List.mem_of_getElem? (i := 3) rfl)) (hts (.instantiable RX0 4) (List.mem_of_getElem? (i := 4) rfl)) (hts (.initialized RX0) (List.mem_of_getElem? (i := 5) rfl)) hK hP hD hS hA rfl (fun j hj => by rcases (show j = 0 ∨ j = 1 ∨ j = 2 ∨ j = 3 by omega) with rfl | rfl | rfl | rfl <;> rfl) (Nat.le_of_ble_eq_true rfl) (Nat.le_of_ble_eq_true rfl) dX10_auction_44 (fun qa H hP hD hS => ?_)
          have hP : va_P (dC, dI) vwCl [cTPN zc, cR6 cA zc, cPiN zc jp, (qa, .inr (0, [.null, .int 0, .int 0, .null]))] H := hP
          have hD : va_D _ [cTPN zc, cR6 cA zc, cPiN zc jp, (qa, .inr (0, [.null, .int 0, .int 0, .null]))] := hD
          refine lv_dup hx hb dX10_auction_47 rfl ?_
          refine lv_aload_n hx hb dX10_auction_48 rfl (lv_at hl 0 rfl) ?_
          refine lv_iload_n hx hb dX10_auction_49 rfl (lv_at hl 3 rfl) ?_
          have hPc := hP.sub (ws' := [(qa, .inr (0, [.null, .int 0, .int 0, .null]))]) [3] rfl
          have hDc := hD.sub (ws' := [(qa, .inr (0, [.null, .int 0, .int 0, .null]))]) [3] (by decide) rfl
          have hKc := hK.sub (tys' := []) [] rfl
          have hFc := va_free (wc := [(qa, .inr (0, [.null, .int 0, .int 0, .null]))]) hD hS hA [3] rfl
          refine va_callv (va_runI (As := [.ref (cs_X zc 1 jp), .int sv]) (rest := [.ref qa, .ref (cs_X zc 0 0)]) ⟨hx, hb, hml, hown, hts⟩ (s_X0_init l dC dI  _ qa (cs_X zc 1 jp) sv ) (cwI 2 hts gX10_auction_X0_init rfl rfl rfl (hts (.initialized RX0) (List.mem_of_getElem? (i := 5) rfl)) (hts (.methodLink RX10 169 yX0_init) (List.mem_of_getElem? (i := 16) rfl)) (hts (.instanceMethod yX0_init) (List.mem_of_getElem? (i := 17) rfl)) rfl (by decide +kernel) ⟨Nat.le_of_ble_eq_true rfl, Nat.le_of_ble_eq_true rfl⟩) (pw_preS hPc hKc hDc hN) rfl rfl hl.1 rfl (lv_room (Nat.le_of_ble_eq_true rfl)) dX10_auction_50 ⟨Nat.le_of_ble_eq_true rfl, Nat.le_of_ble_eq_true rfl⟩) hS (fun q _ h => hFc q h) hFc (fun u t H1 locs ht hvm hw hB hz1 hk1 hS => ?_)
          obtain ⟨hP1, hK1, hD1⟩ := hB
          rw [ht] at hP1
          obtain ⟨hP, hD⟩ := va_join (wr := [cTPN zc, cR6 cA zc, cPiN zc jp]) (w1 := [(qa, .inr (0, [.ref (cs_X zc 1 jp), .int sv, .int 0, .null]))]) hP hD [3] [0, 1, 2] rfl rfl (by decide) (by decide) hk1 hFc hP1 hD1
          generalize H1 = H at hP hS ⊢
          have hP : va_P (dC, dI) vwCl [cTPN zc, cR6 cA zc, cPiN zc jp, (qa, .inr (0, [.ref (cs_X zc 1 jp), .int sv, .int 0, .null]))] H := hP
          have hD : va_D _ [cTPN zc, cR6 cA zc, cPiN zc jp, (qa, .inr (0, [.ref (cs_X zc 1 jp), .int sv, .int 0, .null]))] := hD
          refine va_put (D := (dC, dI)) (ci := 10) (v := .ref qa) (ty := .object "TributePitches$Auction") (C := RX10) (T := TX10) (N := 13) hx hb hts hiX10 tyX10 tyX10_ok nmX10 hown hK hP hD hS 0 rfl rfl 11 (by decide) (hts (.fieldLink RX10 163 "TributePitches" "current" "LTributePitches$Auction;") (List.mem_of_getElem? (i := 2) rfl)) (fun _ h9 => h9) rfl (by decide +kernel) rfl rfl (Nat.le_of_ble_eq_true rfl) dX10_auction_53 (fun H locs hP hD hS => ?_)
          have hP : va_P (dC, dI) vwCl [(cs_X zc 0 0, .inr (10, [.ref (cs_X zc 0 1), .ref (cs_X zc 0 6), .ref (cs_X zc 0 7), .ref (cs_X zc 0 8), .ref (cs_X zc 0 9), .ref (cs_X zc 0 10), .ref (cs_X zc 0 11), .int (nI (cs_n zc 0)), .int (nI (cs_n zc 1)), .int (nI (cs_n zc 2)), .int (nI (cs_n zc 3)), .ref qa, .int (cs_i zc 2)])), cR6 cA zc, cPiN zc jp, (qa, .inr (0, [.ref (cs_X zc 1 jp), .int sv, .int 0, .null]))] H := hP
          have hD : va_D _ [(cs_X zc 0 0, .inr (10, [.ref (cs_X zc 0 1), .ref (cs_X zc 0 6), .ref (cs_X zc 0 7), .ref (cs_X zc 0 8), .ref (cs_X zc 0 9), .ref (cs_X zc 0 10), .ref (cs_X zc 0 11), .int (nI (cs_n zc 0)), .int (nI (cs_n zc 1)), .int (nI (cs_n zc 2)), .int (nI (cs_n zc 3)), .ref qa, .int (cs_i zc 2)])), cR6 cA zc, cPiN zc jp, (qa, .inr (0, [.ref (cs_X zc 1 jp), .int sv, .int 0, .null]))] := hD
          refine lv_iconst (v := 1) hx hb dX10_auction_56 (by decide) ?_
          subst hQ
          have hP9 : va_P (dC, dI) vwCl [(cs_X zc 0 0, .inr (10, [.ref (cs_X zc 0 1), .ref (cs_X zc 0 6), .ref (cs_X zc 0 7), .ref (cs_X zc 0 8), .ref (cs_X zc 0 9), .ref (cs_X zc 0 10), .ref (cs_X zc 0 11), .int (nI (cs_n zc 0)), .int (nI (cs_n zc 1)), .int (nI (cs_n zc 2)), .int (nI (cs_n zc 3)), .ref qa, .int (cs_i zc 2)])), cR6 cA zc, cPiN zc jp, (qa, .inr (0, [.ref (cs_X zc 1 jp), .int sv, .int 0, .null]))] H := hP.sub [0, 1, 2, 3] rfl
          have hD9 : va_D (va_A [cTPN zc, cR6 cA zc, cPiN zc jp] s.heap.size) [(cs_X zc 0 0, .inr (10, [.ref (cs_X zc 0 1), .ref (cs_X zc 0 6), .ref (cs_X zc 0 7), .ref (cs_X zc 0 8), .ref (cs_X zc 0 9), .ref (cs_X zc 0 10), .ref (cs_X zc 0 11), .int (nI (cs_n zc 0)), .int (nI (cs_n zc 1)), .int (nI (cs_n zc 2)), .int (nI (cs_n zc 3)), .ref qa, .int (cs_i zc 2)])), cR6 cA zc, cPiN zc jp, (qa, .inr (0, [.ref (cs_X zc 1 jp), .int sv, .int 0, .null]))] := hD.sub [0, 1, 2, 3] (by decide) rfl
          have hlf := lf_auction_1 cA zc sv jp qa hjp h0t hcur c4 hI
          exact W.iret (v := 1) hx hb hr (fun t ht hW => have hJ := kjoin hPk hDk hks rfl (hS.F ht) (by rw [ht]; exact hP9) hD9 hlf.2.1 hlf.2.2; ⟨⟨1, (va_up (va_up (cs_i zc) 3 sv) 4 0, va_up (va_up (cs_n zc) 4 (jp + 1)) 5 0, cs_I zc, cs_L zc, cs_N zc, cs_S zc, va_up (cs_X zc) 5 (va_up (cs_X zc 5) 0 qa)), rfl, ⟨⟨hlf.1, rfl⟩, (Or.inr (Or.inl ⟨jp, rfl, hjp, h0t, hcur, c4, qa, rfl, rfl⟩))⟩, hJ.1, va_K.moved hW.alike hKk, hJ.2.1⟩, hJ.2.2⟩) (fun q h => kAll_A hks _ (hS.2.2 q h)) dX10_auction_57
        · skip
          have c4 := (fa_bool_prop hr3).1.mp c4
          refine lv_bipush (v := (-2)) hx hb dX10_auction_23 (by decide) ?_
          subst hQ
          refine W.widen (k := 1) (n := 4) (Nat.le_of_ble_eq_true rfl) (Nat.le_of_ble_eq_true rfl) ?_
          exact W.iret (v := (-2)) hx hb hr (fun t ht hW => ⟨⟨(-2), zc, rfl, ⟨⟨hI, rfl⟩, (Or.inr (Or.inr (Or.inl ⟨jp, rfl, hjp, h0t, hcur, c4, rfl, rfl⟩)))⟩, (by rw [ht]; exact hPk), va_K.moved hW.alike hKk, kDA_self hDk⟩, (kw_same hPk ht).2⟩) (fun q h => absurd h List.not_mem_nil) dX10_auction_25
      · skip
        have hks : kAll (cF cA zc) [(0, 0), (0, 6), (1, jp)] [cTPA zc, cR6 cA zc, cPiN zc jp] := ⟨(kF_tpA (z := zc) hcur), (kF_r6 (cA := cA) (z := zc)), (kF_piN (z := zc) (j := jp) hjp h0t), trivial⟩
        have hP : va_P (dC, dI) vwCl [cTPA zc, cR6 cA zc, cPiN zc jp] s.heap := kAll_P hPk hks
        have hD : va_D (va_A [cTPA zc, cR6 cA zc, cPiN zc jp] s.heap.size) [cTPA zc, cR6 cA zc, cPiN zc jp] := (kAll_D hDk hks (by simp)).self
        have hA : ∀ q : Nat, s.heap.size ≤ q → va_A [cTPA zc, cR6 cA zc, cPiN zc jp] s.heap.size q := fun q h => Or.inr h
        have hS : va_S (va_A [cTPA zc, cR6 cA zc, cPiN zc jp] s.heap.size) s.heap s.heap [] := va_S.rf
        refine lv_aload_n hx hb dX10_auction_0 rfl (lv_at hl 0 rfl) ?_
        refine lv_iload_n hx hb dX10_auction_1 rfl (lv_at hl 1 rfl) ?_
        have hPc := hP.sub (ws' := [cTPA zc, cR6 cA zc]) [0, 1] rfl
        have hDc := hD.sub (ws' := [cTPA zc, cR6 cA zc]) [0, 1] (by decide) rfl
        have hKc := hK.sub (tys' := [(cA 1, .object RX6)]) [1] rfl
        refine va_csq (va_Run.run (va_runV (As := [.int (nI jp)]) (rest := []) ⟨hx, hb, hml, hown, hts⟩ (s_pitchAt_yes l dC dI (cA 1) _ (cs_X zc 0 0) (.ref (cs_X zc 0 1)) (.ref (cs_X zc 0 7)) (.ref (cs_X zc 0 8)) (.ref (cs_X zc 0 9)) (.ref (cs_X zc 0 10)) (.ref (cs_X zc 0 11)) (.int (nI (cs_n zc 1))) (.int (nI (cs_n zc 2))) (.int (nI (cs_n zc 3))) (.ref (cs_X zc 5 0)) (.int (cs_i zc 2)) (cs_X zc 0 6) jp (cs_n zc 0) (cs_X zc 1 jp) (rfN (cs_n zc 0) (cs_X zc 1)) hjp (by omega) (rfN_at hjp)) (cwV 1 hts gX10_auction_X10_pitchAt rfl rfl rfl (by decide +kernel) ⟨Nat.le_of_ble_eq_true rfl, Nat.le_of_ble_eq_true rfl⟩) (pw_preV (va_recv hKc hPc (ci := 10) (q0 := 0) rfl rfl) hPc hKc hDc hN) rfl rfl hl.1 rfl (lv_room (Nat.le_of_ble_eq_true rfl)) dX10_auction_2 ⟨Nat.le_of_ble_eq_true rfl, Nat.le_of_ble_eq_true rfl⟩)) (fun r6 hr6 => ?_)
        have hr6 : r6 = some (cs_X zc 1 jp) := hr6
        subst hr6
        refine W.eq (g2 := F0 m 5 ls [.ref (cs_X zc 1 jp)]) rfl ?_
        refine lv_astore_n (lv' := [(3, .ref (cs_X zc 1 jp)), (0, .ref (cs_X zc 0 0)), (1, .int (nI jp)), (2, .int sv)]) hx hb dX10_auction_5 rfl hl (by decide) rfl (fun ls hl => ?_)
        refine lv_aload_n hx hb dX10_auction_6 rfl (lv_at hl 0 rfl) ?_
        refine lv_ifnonnull (tgt := 12) hx hb dX10_auction_7 (by decide) ?_
        refine lv_iload_n hx hb dX10_auction_12 rfl (lv_at hl 3 rfl) ?_
        refine lv_iconst (v := 1) hx hb dX10_auction_13 (by decide) ?_
        refine lv_sipush (v := 240) hx hb dX10_auction_14 (by decide) ?_
        refine vp_callSi (va_Run.run (va_runS (As := [.int sv, .int 1, .int 240]) (rest := []) ⟨hx, hb, hml, hown, hts⟩ (c_X10_isWithin l sv 1 240 ) (va_cwS 3 hts gX10_auction_X10_isWithin rfl rfl rfl (by decide +kernel) ⟨Nat.le_of_ble_eq_true rfl, Nat.le_of_ble_eq_true rfl⟩) (p0_preS hN) rfl rfl hl.1 rfl (lv_room (Nat.le_of_ble_eq_true rfl)) dX10_auction_17 ⟨Nat.le_of_ble_eq_true rfl, Nat.le_of_ble_eq_true rfl⟩)) (fun r7 hr7 => ?_)
        have hr7 : r7 = if 1 ≤ sv ∧ sv ≤ 240 then 1 else 0 := hr7
        refine lv_if_ne (tgt := 26) hx hb dX10_auction_20 (by decide) (fun c8 => ?_) (fun c8 => ?_)
        · skip
          have c8 := (fa_bool_prop hr7).2.mp c8
          refine lv_aload_n hx hb dX10_auction_26 rfl (lv_at hl 0 rfl) ?_
          refine va_get (D := (dC, dI)) (ci := 6) (v := .null) (C := RX6) (T := TX6) (N := 8) hx hb hts hiX6 hown hK hP 2 rfl rfl 7 (by decide) (hts (.fieldLink RX10 159 "TributePitches$Pitch" "take" "LTributePitches$Take;") (List.mem_of_getElem? (i := 1) rfl)) (fun _ h9 => h9) rfl dX10_auction_27 ?_
          refine lv_ifnonnullN hx hb dX10_auction_30 ?_
          refine lv_aload_n hx hb dX10_auction_33 rfl (lv_at hl 1 rfl) ?_
          refine va_get (D := (dC, dI)) (ci := 10) (v := .ref (cs_X zc 5 0)) (C := RX10) (T := TX10) (N := 13) hx hb hts hiX10 hown hK hP 0 rfl rfl 11 (by decide) (hts (.fieldLink RX10 163 "TributePitches" "current" "LTributePitches$Auction;") (List.mem_of_getElem? (i := 2) rfl)) (fun _ h9 => h9) rfl dX10_auction_34 ?_
          refine lv_ifnull hx hb dX10_auction_37 ?_
          refine lv_bipush (v := (-3)) hx hb dX10_auction_40 (by decide) ?_
          subst hQ
          refine W.widen (k := 1) (n := 4) (Nat.le_of_ble_eq_true rfl) (Nat.le_of_ble_eq_true rfl) ?_
          exact W.iret (v := (-3)) hx hb hr (fun t ht hW => ⟨⟨(-3), zc, rfl, ⟨⟨hI, rfl⟩, (Or.inr (Or.inr (Or.inr (Or.inl ⟨jp, rfl, hjp, h0t, hcur, c8, rfl, rfl⟩))))⟩, (by rw [ht]; exact hPk), va_K.moved hW.alike hKk, kDA_self hDk⟩, (kw_same hPk ht).2⟩) (fun q h => absurd h List.not_mem_nil) dX10_auction_42
        · skip
          have c8 := (fa_bool_prop hr7).1.mp c8
          refine lv_bipush (v := (-2)) hx hb dX10_auction_23 (by decide) ?_
          subst hQ
          refine W.widen (k := 1) (n := 4) (Nat.le_of_ble_eq_true rfl) (Nat.le_of_ble_eq_true rfl) ?_
          exact W.iret (v := (-2)) hx hb hr (fun t ht hW => ⟨⟨(-2), zc, rfl, ⟨⟨hI, rfl⟩, (Or.inr (Or.inr (Or.inr (Or.inr (Or.inl ⟨jp, rfl, hjp, h0t, hcur, c8, rfl, rfl⟩)))))⟩, (by rw [ht]; exact hPk), va_K.moved hW.alike hKk, kDA_self hDk⟩, (kw_same hPk ht).2⟩) (fun q h => absurd h List.not_mem_nil) dX10_auction_25
    · skip
      have hks : kAll (cF cA zc) [(0, 0), (0, 6), (1, jp)] [cTP zc, cR6 cA zc, cPiT zc jp] := ⟨(kF_tp (cA := cA) (z := zc)), (kF_r6 (cA := cA) (z := zc)), (kF_piT (z := zc) (j := jp) hjp h0t), trivial⟩
      have hP : va_P (dC, dI) vwCl [cTP zc, cR6 cA zc, cPiT zc jp] s.heap := kAll_P hPk hks
      have hD : va_D (va_A [cTP zc, cR6 cA zc, cPiT zc jp] s.heap.size) [cTP zc, cR6 cA zc, cPiT zc jp] := (kAll_D hDk hks (by simp)).self
      have hA : ∀ q : Nat, s.heap.size ≤ q → va_A [cTP zc, cR6 cA zc, cPiT zc jp] s.heap.size q := fun q h => Or.inr h
      have hS : va_S (va_A [cTP zc, cR6 cA zc, cPiT zc jp] s.heap.size) s.heap s.heap [] := va_S.rf
      refine lv_aload_n hx hb dX10_auction_0 rfl (lv_at hl 0 rfl) ?_
      refine lv_iload_n hx hb dX10_auction_1 rfl (lv_at hl 1 rfl) ?_
      have hPc := hP.sub (ws' := [cTP zc, cR6 cA zc]) [0, 1] rfl
      have hDc := hD.sub (ws' := [cTP zc, cR6 cA zc]) [0, 1] (by decide) rfl
      have hKc := hK.sub (tys' := [(cA 1, .object RX6)]) [1] rfl
      refine va_csq (va_Run.run (va_runV (As := [.int (nI jp)]) (rest := []) ⟨hx, hb, hml, hown, hts⟩ (s_pitchAt_yes l dC dI (cA 1) _ (cs_X zc 0 0) (.ref (cs_X zc 0 1)) (.ref (cs_X zc 0 7)) (.ref (cs_X zc 0 8)) (.ref (cs_X zc 0 9)) (.ref (cs_X zc 0 10)) (.ref (cs_X zc 0 11)) (.int (nI (cs_n zc 1))) (.int (nI (cs_n zc 2))) (.int (nI (cs_n zc 3))) (va_rf (opN (cs_n zc 4) (fun _ => cs_X zc 5 0))) (.int (cs_i zc 2)) (cs_X zc 0 6) jp (cs_n zc 0) (cs_X zc 1 jp) (rfN (cs_n zc 0) (cs_X zc 1)) hjp (by omega) (rfN_at hjp)) (cwV 1 hts gX10_auction_X10_pitchAt rfl rfl rfl (by decide +kernel) ⟨Nat.le_of_ble_eq_true rfl, Nat.le_of_ble_eq_true rfl⟩) (pw_preV (va_recv hKc hPc (ci := 10) (q0 := 0) rfl rfl) hPc hKc hDc hN) rfl rfl hl.1 rfl (lv_room (Nat.le_of_ble_eq_true rfl)) dX10_auction_2 ⟨Nat.le_of_ble_eq_true rfl, Nat.le_of_ble_eq_true rfl⟩)) (fun r9 hr9 => ?_)
      have hr9 : r9 = some (cs_X zc 1 jp) := hr9
      subst hr9
      refine W.eq (g2 := F0 m 5 ls [.ref (cs_X zc 1 jp)]) rfl ?_
      refine lv_astore_n (lv' := [(3, .ref (cs_X zc 1 jp)), (0, .ref (cs_X zc 0 0)), (1, .int (nI jp)), (2, .int sv)]) hx hb dX10_auction_5 rfl hl (by decide) rfl (fun ls hl => ?_)
      refine lv_aload_n hx hb dX10_auction_6 rfl (lv_at hl 0 rfl) ?_
      refine lv_ifnonnull (tgt := 12) hx hb dX10_auction_7 (by decide) ?_
      refine lv_iload_n hx hb dX10_auction_12 rfl (lv_at hl 3 rfl) ?_
      refine lv_iconst (v := 1) hx hb dX10_auction_13 (by decide) ?_
      refine lv_sipush (v := 240) hx hb dX10_auction_14 (by decide) ?_
      refine vp_callSi (va_Run.run (va_runS (As := [.int sv, .int 1, .int 240]) (rest := []) ⟨hx, hb, hml, hown, hts⟩ (c_X10_isWithin l sv 1 240 ) (va_cwS 3 hts gX10_auction_X10_isWithin rfl rfl rfl (by decide +kernel) ⟨Nat.le_of_ble_eq_true rfl, Nat.le_of_ble_eq_true rfl⟩) (p0_preS hN) rfl rfl hl.1 rfl (lv_room (Nat.le_of_ble_eq_true rfl)) dX10_auction_17 ⟨Nat.le_of_ble_eq_true rfl, Nat.le_of_ble_eq_true rfl⟩)) (fun r10 hr10 => ?_)
      have hr10 : r10 = if 1 ≤ sv ∧ sv ≤ 240 then 1 else 0 := hr10
      refine lv_if_ne (tgt := 26) hx hb dX10_auction_20 (by decide) (fun c11 => ?_) (fun c11 => ?_)
      · skip
        have c11 := (fa_bool_prop hr10).2.mp c11
        refine lv_aload_n hx hb dX10_auction_26 rfl (lv_at hl 0 rfl) ?_
        refine va_get (D := (dC, dI)) (ci := 6) (v := .ref (cs_X zc 3 (cs_N zc 0 jp - 1))) (C := RX6) (T := TX6) (N := 8) hx hb hts hiX6 hown hK hP 2 rfl rfl 7 (by decide) (hts (.fieldLink RX10 159 "TributePitches$Pitch" "take" "LTributePitches$Take;") (List.mem_of_getElem? (i := 1) rfl)) (fun _ h9 => h9) rfl dX10_auction_27 ?_
        refine lv_ifnonnull (tgt := 40) hx hb dX10_auction_30 (by decide) ?_
        refine lv_bipush (v := (-3)) hx hb dX10_auction_40 (by decide) ?_
        subst hQ
        refine W.widen (k := 1) (n := 4) (Nat.le_of_ble_eq_true rfl) (Nat.le_of_ble_eq_true rfl) ?_
        exact W.iret (v := (-3)) hx hb hr (fun t ht hW => ⟨⟨(-3), zc, rfl, ⟨⟨hI, rfl⟩, (Or.inr (Or.inr (Or.inr (Or.inr (Or.inr (Or.inl ⟨jp, rfl, hjp, h0t, c11, rfl, rfl⟩))))))⟩, (by rw [ht]; exact hPk), va_K.moved hW.alike hKk, kDA_self hDk⟩, (kw_same hPk ht).2⟩) (fun q h => absurd h List.not_mem_nil) dX10_auction_42
      · skip
        have c11 := (fa_bool_prop hr10).1.mp c11
        refine lv_bipush (v := (-2)) hx hb dX10_auction_23 (by decide) ?_
        subst hQ
        refine W.widen (k := 1) (n := 4) (Nat.le_of_ble_eq_true rfl) (Nat.le_of_ble_eq_true rfl) ?_
        exact W.iret (v := (-2)) hx hb hr (fun t ht hW => ⟨⟨(-2), zc, rfl, ⟨⟨hI, rfl⟩, (Or.inr (Or.inr (Or.inr (Or.inr (Or.inr (Or.inr ⟨jp, rfl, hjp, h0t, c11, rfl, rfl⟩))))))⟩, (by rw [ht]; exact hPk), va_K.moved hW.alike hKk, kDA_self hDk⟩, (kw_same hPk ht).2⟩) (fun q h => absurd h List.not_mem_nil) dX10_auction_25
