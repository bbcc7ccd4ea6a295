def pC_bid (zc : CS) (g : Int32) (sv : Int32) (r : Int32) (u : CS) : Prop :=
  ((∀ j, j < cs_n zc 1 → g ≠ nI j) ∧ r = ((-1)) ∧ u = zc) ∨
  (∃ jg : Nat, g = nI jg ∧ (jg < cs_n zc 1) ∧ (cs_n zc 4 = 0) ∧ r = ((-3)) ∧ u = zc) ∨
  (∃ jg : Nat, g = nI jg ∧ (jg < cs_n zc 1) ∧ (¬ cs_n zc 4 = 0) ∧ (cs_n zc 5 = 0) ∧ (cs_N zc 1 jg = 1) ∧ (1 ≤ sv ∧ sv ≤ (if (cs_i zc 4) = 0 then (cs_i zc 3) else (cs_i zc 3) - 1)) ∧ (¬ none = (some (cs_X zc 2 jg))) ∧ ((cs_I zc 22 jg) < 3) ∧ ((cs_i zc 4) < 20) ∧ r = ((cs_i zc 4) + 1) ∧ u = (va_up (va_up (cs_i zc) 3 sv) 4 ((cs_i zc 4) + 1), va_up (cs_n zc) 5 (jg + 1), cs_I zc, cs_L zc, cs_N zc, cs_S zc, cs_X zc)) ∨
  (∃ jg : Nat, g = nI jg ∧ (jg < cs_n zc 1) ∧ (¬ cs_n zc 4 = 0) ∧ (cs_n zc 5 = 0) ∧ (cs_N zc 1 jg = 1) ∧ (1 ≤ sv ∧ sv ≤ (if (cs_i zc 4) = 0 then (cs_i zc 3) else (cs_i zc 3) - 1)) ∧ (¬ none = (some (cs_X zc 2 jg))) ∧ ((cs_I zc 22 jg) < 3) ∧ (¬ (cs_i zc 4) < 20) ∧ r = ((-4)) ∧ u = zc) ∨
  (∃ jg : Nat, g = nI jg ∧ (jg < cs_n zc 1) ∧ (¬ cs_n zc 4 = 0) ∧ (cs_n zc 5 = 0) ∧ (cs_N zc 1 jg = 1) ∧ (1 ≤ sv ∧ sv ≤ (if (cs_i zc 4) = 0 then (cs_i zc 3) else (cs_i zc 3) - 1)) ∧ (¬ none = (some (cs_X zc 2 jg))) ∧ (¬ (cs_I zc 22 jg) < 3) ∧ r = ((-3)) ∧ u = zc) ∨
  (∃ jg : Nat, g = nI jg ∧ (jg < cs_n zc 1) ∧ (¬ cs_n zc 4 = 0) ∧ (cs_n zc 5 = 0) ∧ (cs_N zc 1 jg = 1) ∧ (¬ (1 ≤ sv ∧ sv ≤ (if (cs_i zc 4) = 0 then (cs_i zc 3) else (cs_i zc 3) - 1))) ∧ r = ((-2)) ∧ u = zc) ∨
  (∃ jg : Nat, g = nI jg ∧ (jg < cs_n zc 1) ∧ (¬ cs_n zc 4 = 0) ∧ (cs_n zc 5 = 0) ∧ (cs_N zc 1 jg = 2) ∧ (1 ≤ sv ∧ sv ≤ (if (cs_i zc 4) = 0 then (cs_i zc 3) else (cs_i zc 3) - 1)) ∧ (¬ none = (some (cs_X zc 2 jg))) ∧ ((cs_I zc 22 jg) < 3) ∧ ((cs_i zc 4) < 20) ∧ r = ((cs_i zc 4) + 1) ∧ u = (va_up (va_up (cs_i zc) 3 sv) 4 ((cs_i zc 4) + 1), va_up (cs_n zc) 5 (jg + 1), cs_I zc, cs_L zc, cs_N zc, cs_S zc, cs_X zc)) ∨
  (∃ jg : Nat, g = nI jg ∧ (jg < cs_n zc 1) ∧ (¬ cs_n zc 4 = 0) ∧ (cs_n zc 5 = 0) ∧ (cs_N zc 1 jg = 2) ∧ (1 ≤ sv ∧ sv ≤ (if (cs_i zc 4) = 0 then (cs_i zc 3) else (cs_i zc 3) - 1)) ∧ (¬ none = (some (cs_X zc 2 jg))) ∧ ((cs_I zc 22 jg) < 3) ∧ (¬ (cs_i zc 4) < 20) ∧ r = ((-4)) ∧ u = zc) ∨
  (∃ jg : Nat, g = nI jg ∧ (jg < cs_n zc 1) ∧ (¬ cs_n zc 4 = 0) ∧ (cs_n zc 5 = 0) ∧ (cs_N zc 1 jg = 2) ∧ (1 ≤ sv ∧ sv ≤ (if (cs_i zc 4) = 0 then (cs_i zc 3) else (cs_i zc 3) - 1)) ∧ (¬ none = (some (cs_X zc 2 jg))) ∧ (¬ (cs_I zc 22 jg) < 3) ∧ r = ((-3)) ∧ u = zc) ∨
  (∃ jg : Nat, g = nI jg ∧ (jg < cs_n zc 1) ∧ (¬ cs_n zc 4 = 0) ∧ (cs_n zc 5 = 0) ∧ (cs_N zc 1 jg = 2) ∧ (¬ (1 ≤ sv ∧ sv ≤ (if (cs_i zc 4) = 0 then (cs_i zc 3) else (cs_i zc 3) - 1))) ∧ r = ((-2)) ∧ u = zc) ∨
  (∃ jg : Nat, g = nI jg ∧ (jg < cs_n zc 1) ∧ (¬ cs_n zc 4 = 0) ∧ (cs_n zc 5 = 0) ∧ (cs_N zc 1 jg = 4) ∧ (1 ≤ sv ∧ sv ≤ (if (cs_i zc 4) = 0 then (cs_i zc 3) else (cs_i zc 3) - 1)) ∧ (¬ none = (some (cs_X zc 2 jg))) ∧ ((cs_I zc 22 jg) < 3) ∧ ((cs_i zc 4) < 20) ∧ r = ((cs_i zc 4) + 1) ∧ u = (va_up (va_up (cs_i zc) 3 sv) 4 ((cs_i zc 4) + 1), va_up (cs_n zc) 5 (jg + 1), cs_I zc, cs_L zc, cs_N zc, cs_S zc, cs_X zc)) ∨
  (∃ jg : Nat, g = nI jg ∧ (jg < cs_n zc 1) ∧ (¬ cs_n zc 4 = 0) ∧ (cs_n zc 5 = 0) ∧ (cs_N zc 1 jg = 4) ∧ (1 ≤ sv ∧ sv ≤ (if (cs_i zc 4) = 0 then (cs_i zc 3) else (cs_i zc 3) - 1)) ∧ (¬ none = (some (cs_X zc 2 jg))) ∧ ((cs_I zc 22 jg) < 3) ∧ (¬ (cs_i zc 4) < 20) ∧ r = ((-4)) ∧ u = zc) ∨
  (∃ jg : Nat, g = nI jg ∧ (jg < cs_n zc 1) ∧ (¬ cs_n zc 4 = 0) ∧ (cs_n zc 5 = 0) ∧ (cs_N zc 1 jg = 4) ∧ (1 ≤ sv ∧ sv ≤ (if (cs_i zc 4) = 0 then (cs_i zc 3) else (cs_i zc 3) - 1)) ∧ (¬ none = (some (cs_X zc 2 jg))) ∧ (¬ (cs_I zc 22 jg) < 3) ∧ r = ((-3)) ∧ u = zc) ∨
  (∃ jg : Nat, g = nI jg ∧ (jg < cs_n zc 1) ∧ (¬ cs_n zc 4 = 0) ∧ (cs_n zc 5 = 0) ∧ (cs_N zc 1 jg = 4) ∧ (¬ (1 ≤ sv ∧ sv ≤ (if (cs_i zc 4) = 0 then (cs_i zc 3) else (cs_i zc 3) - 1))) ∧ r = ((-2)) ∧ u = zc) ∨
  (∃ jg : Nat, g = nI jg ∧ (jg < cs_n zc 1) ∧ (¬ cs_n zc 4 = 0) ∧ (¬ cs_n zc 5 = 0) ∧ (cs_N zc 1 jg = 1) ∧ (1 ≤ sv ∧ sv ≤ (if (cs_i zc 4) = 0 then (cs_i zc 3) else (cs_i zc 3) - 1)) ∧ (cs_n zc 5 - 1 = jg) ∧ r = ((-3)) ∧ u = zc) ∨
  (∃ jg : Nat, g = nI jg ∧ (jg < cs_n zc 1) ∧ (¬ cs_n zc 4 = 0) ∧ (¬ cs_n zc 5 = 0) ∧ (cs_N zc 1 jg = 1) ∧ (1 ≤ sv ∧ sv ≤ (if (cs_i zc 4) = 0 then (cs_i zc 3) else (cs_i zc 3) - 1)) ∧ (¬ cs_n zc 5 - 1 = jg) ∧ ((cs_I zc 22 jg) < 3) ∧ ((cs_i zc 4) < 20) ∧ r = ((cs_i zc 4) + 1) ∧ u = (va_up (va_up (cs_i zc) 3 sv) 4 ((cs_i zc 4) + 1), va_up (cs_n zc) 5 (jg + 1), cs_I zc, cs_L zc, cs_N zc, cs_S zc, cs_X zc)) ∨
  (∃ jg : Nat, g = nI jg ∧ (jg < cs_n zc 1) ∧ (¬ cs_n zc 4 = 0) ∧ (¬ cs_n zc 5 = 0) ∧ (cs_N zc 1 jg = 1) ∧ (1 ≤ sv ∧ sv ≤ (if (cs_i zc 4) = 0 then (cs_i zc 3) else (cs_i zc 3) - 1)) ∧ (¬ cs_n zc 5 - 1 = jg) ∧ ((cs_I zc 22 jg) < 3) ∧ (¬ (cs_i zc 4) < 20) ∧ r = ((-4)) ∧ u = zc) ∨
  (∃ jg : Nat, g = nI jg ∧ (jg < cs_n zc 1) ∧ (¬ cs_n zc 4 = 0) ∧ (¬ cs_n zc 5 = 0) ∧ (cs_N zc 1 jg = 1) ∧ (1 ≤ sv ∧ sv ≤ (if (cs_i zc 4) = 0 then (cs_i zc 3) else (cs_i zc 3) - 1)) ∧ (¬ cs_n zc 5 - 1 = jg) ∧ (¬ (cs_I zc 22 jg) < 3) ∧ r = ((-3)) ∧ u = zc) ∨
  (∃ jg : Nat, g = nI jg ∧ (jg < cs_n zc 1) ∧ (¬ cs_n zc 4 = 0) ∧ (¬ cs_n zc 5 = 0) ∧ (cs_N zc 1 jg = 1) ∧ (¬ (1 ≤ sv ∧ sv ≤ (if (cs_i zc 4) = 0 then (cs_i zc 3) else (cs_i zc 3) - 1))) ∧ r = ((-2)) ∧ u = zc) ∨
  (∃ jg : Nat, g = nI jg ∧ (jg < cs_n zc 1) ∧ (¬ cs_n zc 4 = 0) ∧ (¬ cs_n zc 5 = 0) ∧ (cs_N zc 1 jg = 2) ∧ (1 ≤ sv ∧ sv ≤ (if (cs_i zc 4) = 0 then (cs_i zc 3) else (cs_i zc 3) - 1)) ∧ (cs_n zc 5 - 1 = jg) ∧ r = ((-3)) ∧ u = zc) ∨
  (∃ jg : Nat, g = nI jg ∧ (jg < cs_n zc 1) ∧ (¬ cs_n zc 4 = 0) ∧ (¬ cs_n zc 5 = 0) ∧ (cs_N zc 1 jg = 2) ∧ (1 ≤ sv ∧ sv ≤ (if (cs_i zc 4) = 0 then (cs_i zc 3) else (cs_i zc 3) - 1)) ∧ (¬ cs_n zc 5 - 1 = jg) ∧ ((cs_I zc 22 jg) < 3) ∧ ((cs_i zc 4) < 20) ∧ r = ((cs_i zc 4) + 1) ∧ u = (va_up (va_up (cs_i zc) 3 sv) 4 ((cs_i zc 4) + 1), va_up (cs_n zc) 5 (jg + 1), cs_I zc, cs_L zc, cs_N zc, cs_S zc, cs_X zc)) ∨
  (∃ jg : Nat, g = nI jg ∧ (jg < cs_n zc 1) ∧ (¬ cs_n zc 4 = 0) ∧ (¬ cs_n zc 5 = 0) ∧ (cs_N zc 1 jg = 2) ∧ (1 ≤ sv ∧ sv ≤ (if (cs_i zc 4) = 0 then (cs_i zc 3) else (cs_i zc 3) - 1)) ∧ (¬ cs_n zc 5 - 1 = jg) ∧ ((cs_I zc 22 jg) < 3) ∧ (¬ (cs_i zc 4) < 20) ∧ r = ((-4)) ∧ u = zc) ∨
  (∃ jg : Nat, g = nI jg ∧ (jg < cs_n zc 1) ∧ (¬ cs_n zc 4 = 0) ∧ (¬ cs_n zc 5 = 0) ∧ (cs_N zc 1 jg = 2) ∧ (1 ≤ sv ∧ sv ≤ (if (cs_i zc 4) = 0 then (cs_i zc 3) else (cs_i zc 3) - 1)) ∧ (¬ cs_n zc 5 - 1 = jg) ∧ (¬ (cs_I zc 22 jg) < 3) ∧ r = ((-3)) ∧ u = zc) ∨
  (∃ jg : Nat, g = nI jg ∧ (jg < cs_n zc 1) ∧ (¬ cs_n zc 4 = 0) ∧ (¬ cs_n zc 5 = 0) ∧ (cs_N zc 1 jg = 2) ∧ (¬ (1 ≤ sv ∧ sv ≤ (if (cs_i zc 4) = 0 then (cs_i zc 3) else (cs_i zc 3) - 1))) ∧ r = ((-2)) ∧ u = zc) ∨
  (∃ jg : Nat, g = nI jg ∧ (jg < cs_n zc 1) ∧ (¬ cs_n zc 4 = 0) ∧ (¬ cs_n zc 5 = 0) ∧ (cs_N zc 1 jg = 4) ∧ (1 ≤ sv ∧ sv ≤ (if (cs_i zc 4) = 0 then (cs_i zc 3) else (cs_i zc 3) - 1)) ∧ (cs_n zc 5 - 1 = jg) ∧ r = ((-3)) ∧ u = zc) ∨
  (∃ jg : Nat, g = nI jg ∧ (jg < cs_n zc 1) ∧ (¬ cs_n zc 4 = 0) ∧ (¬ cs_n zc 5 = 0) ∧ (cs_N zc 1 jg = 4) ∧ (1 ≤ sv ∧ sv ≤ (if (cs_i zc 4) = 0 then (cs_i zc 3) else (cs_i zc 3) - 1)) ∧ (¬ cs_n zc 5 - 1 = jg) ∧ ((cs_I zc 22 jg) < 3) ∧ ((cs_i zc 4) < 20) ∧ r = ((cs_i zc 4) + 1) ∧ u = (va_up (va_up (cs_i zc) 3 sv) 4 ((cs_i zc 4) + 1), va_up (cs_n zc) 5 (jg + 1), cs_I zc, cs_L zc, cs_N zc, cs_S zc, cs_X zc)) ∨
  (∃ jg : Nat, g = nI jg ∧ (jg < cs_n zc 1) ∧ (¬ cs_n zc 4 = 0) ∧ (¬ cs_n zc 5 = 0) ∧ (cs_N zc 1 jg = 4) ∧ (1 ≤ sv ∧ sv ≤ (if (cs_i zc 4) = 0 then (cs_i zc 3) else (cs_i zc 3) - 1)) ∧ (¬ cs_n zc 5 - 1 = jg) ∧ ((cs_I zc 22 jg) < 3) ∧ (¬ (cs_i zc 4) < 20) ∧ r = ((-4)) ∧ u = zc) ∨
  (∃ jg : Nat, g = nI jg ∧ (jg < cs_n zc 1) ∧ (¬ cs_n zc 4 = 0) ∧ (¬ cs_n zc 5 = 0) ∧ (cs_N zc 1 jg = 4) ∧ (1 ≤ sv ∧ sv ≤ (if (cs_i zc 4) = 0 then (cs_i zc 3) else (cs_i zc 3) - 1)) ∧ (¬ cs_n zc 5 - 1 = jg) ∧ (¬ (cs_I zc 22 jg) < 3) ∧ r = ((-3)) ∧ u = zc) ∨
  (∃ jg : Nat, g = nI jg ∧ (jg < cs_n zc 1) ∧ (¬ cs_n zc 4 = 0) ∧ (¬ cs_n zc 5 = 0) ∧ (cs_N zc 1 jg = 4) ∧ (¬ (1 ≤ sv ∧ sv ≤ (if (cs_i zc 4) = 0 then (cs_i zc 3) else (cs_i zc 3) - 1))) ∧ r = ((-2)) ∧ u = zc)
set_option maxHeartbeats 4000000 in
theorem lf_bid_2 (cA : Nat → ClassId) (zc : CS) (sv : Int32) (jg : Nat) (hjg : jg < cs_n zc 1) (hcur : ¬ cs_n zc 4 = 0) (hbd : cs_n zc 5 = 0) (hk : cs_N zc 1 jg = 1) (c6 : 1 ≤ sv ∧ sv ≤ (if (cs_i zc 4) = 0 then (cs_i zc 3) else (cs_i zc 3) - 1)) (c7 : ¬ none = (some (cs_X zc 2 jg))) (c8 : (cs_I zc 22 jg) < 3) (c9 : (cs_i zc 4) < 20) (hI : invC zc) : invC (va_up (va_up (cs_i zc) 3 sv) 4 ((cs_i zc 4) + 1), va_up (cs_n zc) 5 (jg + 1), cs_I zc, cs_L zc, cs_N zc, cs_S zc, cs_X zc) ∧ kAll (cF cA (va_up (va_up (cs_i zc) 3 sv) 4 ((cs_i zc 4) + 1), va_up (cs_n zc) 5 (jg + 1), cs_I zc, cs_L zc, cs_N zc, cs_S zc, cs_X zc)) [(0, 0), (0, 7), (2, jg), (5, 0)] [cTPA zc, cR7 cA zc, cGaK zc jg 1, (cs_X zc 5 0, .inr (0, [.ref (cs_X zc 1 (cs_n zc 4 - 1)), .int sv, .int ((cs_i zc 4) + 1), .ref (cs_X zc 2 jg)]))] ∧ ∀ i j, (i, j) ∉ ([(0, 0), (0, 7), (2, jg), (5, 0)] : List (Nat × Nat)) → cF cA (va_up (va_up (cs_i zc) 3 sv) 4 ((cs_i zc 4) + 1), va_up (cs_n zc) 5 (jg + 1), cs_I zc, cs_L zc, cs_N zc, cs_S zc, cs_X zc) i j = none ∨ ((i, j) ∉ ([(0, 0), (0, 7), (2, jg), (5, 0)] : List (Nat × Nat)) ∧ cF cA (va_up (va_up (cs_i zc) 3 sv) 4 ((cs_i zc 4) + 1), va_up (cs_n zc) 5 (jg + 1), cs_I zc, cs_L zc, cs_N zc, cs_S zc, cs_X zc) i j = cF cA zc i j) := by
  obtain ⟨⟨hn0, hn1, hn2, hn3, hn4, hn5⟩, hpi, hgk, htk, hpk, hsh⟩ := id hI
  refine ⟨(by refine ⟨⟨hn0, hn1, hn2, hn3, hn4, (show jg + 1 ≤ cs_n zc 1 from hjg)⟩, hpi, hgk, htk, hpk, hsh⟩), ⟨(by (rw [(kF_tpA (z := (va_up (va_up (cs_i zc) 3 sv) 4 ((cs_i zc 4) + 1), va_up (cs_n zc) 5 (jg + 1), cs_I zc, cs_L zc, cs_N zc, cs_S zc, cs_X zc)) hcur)]) <;> simp [cTP, cTPN, cTPA, cLo, cA2, cA3, cA4, cA5, cR6, cR7, cR8, cR9, cR10, cTr, cPi, cPiN, cPiT, cGa, cGaK, cTa, cPa, cAu, cAuN, cAuB, cSh, cSc, cs_i, cs_n, cs_I, cs_L, cs_N, cs_S, cs_X, va_up, upd, opN]), (by (rw [(kF_r7 (cA := cA) (z := (va_up (va_up (cs_i zc) 3 sv) 4 ((cs_i zc 4) + 1), va_up (cs_n zc) 5 (jg + 1), cs_I zc, cs_L zc, cs_N zc, cs_S zc, cs_X zc)))]) <;> simp [cTP, cTPN, cTPA, cLo, cA2, cA3, cA4, cA5, cR6, cR7, cR8, cR9, cR10, cTr, cPi, cPiN, cPiT, cGa, cGaK, cTa, cPa, cAu, cAuN, cAuB, cSh, cSc, cs_i, cs_n, cs_I, cs_L, cs_N, cs_S, cs_X, va_up, upd, opN]), (by (rw [(kF_gaK (z := (va_up (va_up (cs_i zc) 3 sv) 4 ((cs_i zc 4) + 1), va_up (cs_n zc) 5 (jg + 1), cs_I zc, cs_L zc, cs_N zc, cs_S zc, cs_X zc)) (j := jg) hjg hk)]) <;> simp [cTP, cTPN, cTPA, cLo, cA2, cA3, cA4, cA5, cR6, cR7, cR8, cR9, cR10, cTr, cPi, cPiN, cPiT, cGa, cGaK, cTa, cPa, cAu, cAuN, cAuB, cSh, cSc, cs_i, cs_n, cs_I, cs_L, cs_N, cs_S, cs_X, va_up, upd, opN]), (by (rw [(kF_auB (z := (va_up (va_up (cs_i zc) 3 sv) 4 ((cs_i zc 4) + 1), va_up (cs_n zc) 5 (jg + 1), cs_I zc, cs_L zc, cs_N zc, cs_S zc, cs_X zc)) hcur (Nat.succ_ne_zero _))]) <;> simp [cTP, cTPN, cTPA, cLo, cA2, cA3, cA4, cA5, cR6, cR7, cR8, cR9, cR10, cTr, cPi, cPiN, cPiT, cGa, cGaK, cTa, cPa, cAu, cAuN, cAuB, cSh, cSc, cs_i, cs_n, cs_I, cs_L, cs_N, cs_S, cs_X, va_up, upd, opN]), trivial⟩, ?_⟩
  intro i j hij
  refine Or.inr ⟨hij, ?_⟩
  rcases i with _ | _ | _ | _ | _ | _ | _ | _ | i
  · rcases j with _ | _ | _ | _ | _ | _ | _ | _ | _ | _ | _ | _ | j
    · exact absurd (by simp) hij
    · show some (cLo (va_up (va_up (cs_i zc) 3 sv) 4 ((cs_i zc 4) + 1), va_up (cs_n zc) 5 (jg + 1), cs_I zc, cs_L zc, cs_N zc, cs_S zc, cs_X zc)) = some (cLo zc); simp [cLo, cs_i, cs_n, cs_I, cs_L, cs_N, cs_S, cs_X, va_up]
    · show some (cA2 cA (va_up (va_up (cs_i zc) 3 sv) 4 ((cs_i zc 4) + 1), va_up (cs_n zc) 5 (jg + 1), cs_I zc, cs_L zc, cs_N zc, cs_S zc, cs_X zc)) = some (cA2 cA zc); simp [cA2, cs_i, cs_n, cs_I, cs_L, cs_N, cs_S, cs_X, va_up]
    · show some (cA3 cA (va_up (va_up (cs_i zc) 3 sv) 4 ((cs_i zc 4) + 1), va_up (cs_n zc) 5 (jg + 1), cs_I zc, cs_L zc, cs_N zc, cs_S zc, cs_X zc)) = some (cA3 cA zc); simp [cA3, cs_i, cs_n, cs_I, cs_L, cs_N, cs_S, cs_X, va_up]
    · show some (cA4 cA (va_up (va_up (cs_i zc) 3 sv) 4 ((cs_i zc 4) + 1), va_up (cs_n zc) 5 (jg + 1), cs_I zc, cs_L zc, cs_N zc, cs_S zc, cs_X zc)) = some (cA4 cA zc); simp [cA4, cs_i, cs_n, cs_I, cs_L, cs_N, cs_S, cs_X, va_up]
    · show some (cA5 cA (va_up (va_up (cs_i zc) 3 sv) 4 ((cs_i zc 4) + 1), va_up (cs_n zc) 5 (jg + 1), cs_I zc, cs_L zc, cs_N zc, cs_S zc, cs_X zc)) = some (cA5 cA zc); simp [cA5, cs_i, cs_n, cs_I, cs_L, cs_N, cs_S, cs_X, va_up]
    · show some (cR6 cA (va_up (va_up (cs_i zc) 3 sv) 4 ((cs_i zc 4) + 1), va_up (cs_n zc) 5 (jg + 1), cs_I zc, cs_L zc, cs_N zc, cs_S zc, cs_X zc)) = some (cR6 cA zc); simp [cR6, cs_i, cs_n, cs_I, cs_L, cs_N, cs_S, cs_X, va_up]
    · exact absurd (by simp) hij
    · show some (cR8 cA (va_up (va_up (cs_i zc) 3 sv) 4 ((cs_i zc 4) + 1), va_up (cs_n zc) 5 (jg + 1), cs_I zc, cs_L zc, cs_N zc, cs_S zc, cs_X zc)) = some (cR8 cA zc); simp [cR8, cs_i, cs_n, cs_I, cs_L, cs_N, cs_S, cs_X, va_up]
    · show some (cR9 cA (va_up (va_up (cs_i zc) 3 sv) 4 ((cs_i zc 4) + 1), va_up (cs_n zc) 5 (jg + 1), cs_I zc, cs_L zc, cs_N zc, cs_S zc, cs_X zc)) = some (cR9 cA zc); simp [cR9, cs_i, cs_n, cs_I, cs_L, cs_N, cs_S, cs_X, va_up]
    · show some (cR10 cA (va_up (va_up (cs_i zc) 3 sv) 4 ((cs_i zc 4) + 1), va_up (cs_n zc) 5 (jg + 1), cs_I zc, cs_L zc, cs_N zc, cs_S zc, cs_X zc)) = some (cR10 cA zc); simp [cR10, cs_i, cs_n, cs_I, cs_L, cs_N, cs_S, cs_X, va_up]
    · show some (cTr (va_up (va_up (cs_i zc) 3 sv) 4 ((cs_i zc 4) + 1), va_up (cs_n zc) 5 (jg + 1), cs_I zc, cs_L zc, cs_N zc, cs_S zc, cs_X zc)) = some (cTr zc); simp [cTr, cs_i, cs_n, cs_I, cs_L, cs_N, cs_S, cs_X, va_up]
    · show (none : Option (Nat × va_E)) = none; rfl
  · show (if j < cs_n (va_up (va_up (cs_i zc) 3 sv) 4 ((cs_i zc 4) + 1), va_up (cs_n zc) 5 (jg + 1), cs_I zc, cs_L zc, cs_N zc, cs_S zc, cs_X zc) 0 then some (cPi (va_up (va_up (cs_i zc) 3 sv) 4 ((cs_i zc 4) + 1), va_up (cs_n zc) 5 (jg + 1), cs_I zc, cs_L zc, cs_N zc, cs_S zc, cs_X zc) j) else none) = if j < cs_n zc 0 then some (cPi zc j) else none
    simp [cPi, cs_i, cs_n, cs_I, cs_L, cs_N, cs_S, cs_X, va_up]
  · show (if j < cs_n (va_up (va_up (cs_i zc) 3 sv) 4 ((cs_i zc 4) + 1), va_up (cs_n zc) 5 (jg + 1), cs_I zc, cs_L zc, cs_N zc, cs_S zc, cs_X zc) 1 then some (cGa (va_up (va_up (cs_i zc) 3 sv) 4 ((cs_i zc 4) + 1), va_up (cs_n zc) 5 (jg + 1), cs_I zc, cs_L zc, cs_N zc, cs_S zc, cs_X zc) j) else none) = if j < cs_n zc 1 then some (cGa zc j) else none
    simp [cGa, cs_i, cs_n, cs_I, cs_L, cs_N, cs_S, cs_X, va_up]
  · show (if j < cs_n (va_up (va_up (cs_i zc) 3 sv) 4 ((cs_i zc 4) + 1), va_up (cs_n zc) 5 (jg + 1), cs_I zc, cs_L zc, cs_N zc, cs_S zc, cs_X zc) 2 then some (cTa (va_up (va_up (cs_i zc) 3 sv) 4 ((cs_i zc 4) + 1), va_up (cs_n zc) 5 (jg + 1), cs_I zc, cs_L zc, cs_N zc, cs_S zc, cs_X zc) j) else none) = if j < cs_n zc 2 then some (cTa zc j) else none
    simp [cTa, cs_i, cs_n, cs_I, cs_L, cs_N, cs_S, cs_X, va_up]
  · show (if j < cs_n (va_up (va_up (cs_i zc) 3 sv) 4 ((cs_i zc 4) + 1), va_up (cs_n zc) 5 (jg + 1), cs_I zc, cs_L zc, cs_N zc, cs_S zc, cs_X zc) 3 then some (cPa (va_up (va_up (cs_i zc) 3 sv) 4 ((cs_i zc 4) + 1), va_up (cs_n zc) 5 (jg + 1), cs_I zc, cs_L zc, cs_N zc, cs_S zc, cs_X zc) j) else none) = if j < cs_n zc 3 then some (cPa zc j) else none
    simp [cPa, cs_i, cs_n, cs_I, cs_L, cs_N, cs_S, cs_X, va_up]
  · have hne0 : j ≠ 0 := fun q => hij (by rw [q]; simp)
    show (if j = 0 ∧ ¬ cs_n (va_up (va_up (cs_i zc) 3 sv) 4 ((cs_i zc 4) + 1), va_up (cs_n zc) 5 (jg + 1), cs_I zc, cs_L zc, cs_N zc, cs_S zc, cs_X zc) 4 = 0 then some (cAu (va_up (va_up (cs_i zc) 3 sv) 4 ((cs_i zc 4) + 1), va_up (cs_n zc) 5 (jg + 1), cs_I zc, cs_L zc, cs_N zc, cs_S zc, cs_X zc)) else none) = (if j = 0 ∧ ¬ cs_n zc 4 = 0 then some (cAu zc) else none)
    rw [if_neg (fun q => hne0 q.1), if_neg (fun q => hne0 q.1)]
  · show (if j < 4 then some (cSh (va_up (va_up (cs_i zc) 3 sv) 4 ((cs_i zc 4) + 1), va_up (cs_n zc) 5 (jg + 1), cs_I zc, cs_L zc, cs_N zc, cs_S zc, cs_X zc) j) else none) = if j < 4 then some (cSh zc j) else none
    simp [cSh, cs_i, cs_n, cs_I, cs_L, cs_N, cs_S, cs_X, va_up]
  · show (if j < 4 then some (cSc cA (va_up (va_up (cs_i zc) 3 sv) 4 ((cs_i zc 4) + 1), va_up (cs_n zc) 5 (jg + 1), cs_I zc, cs_L zc, cs_N zc, cs_S zc, cs_X zc) j) else none) = if j < 4 then some (cSc cA zc j) else none
    simp [cSc, cs_i, cs_n, cs_I, cs_L, cs_N, cs_S, cs_X, va_up]
  · show (none : Option (Nat × va_E)) = none; rfl
set_option maxHeartbeats 4000000 in
theorem lf_bid_6 (cA : Nat → ClassId) (zc : CS) (sv : Int32) (jg : Nat) (hjg : jg < cs_n zc 1) (hcur : ¬ cs_n zc 4 = 0) (hbd : cs_n zc 5 = 0) (hk : cs_N zc 1 jg = 2) (c13 : 1 ≤ sv ∧ sv ≤ (if (cs_i zc 4) = 0 then (cs_i zc 3) else (cs_i zc 3) - 1)) (c14 : ¬ none = (some (cs_X zc 2 jg))) (c15 : (cs_I zc 22 jg) < 3) (c16 : (cs_i zc 4) < 20) (hI : invC zc) : invC (va_up (va_up (cs_i zc) 3 sv) 4 ((cs_i zc 4) + 1), va_up (cs_n zc) 5 (jg + 1), cs_I zc, cs_L zc, cs_N zc, cs_S zc, cs_X zc) ∧ kAll (cF cA (va_up (va_up (cs_i zc) 3 sv) 4 ((cs_i zc 4) + 1), va_up (cs_n zc) 5 (jg + 1), cs_I zc, cs_L zc, cs_N zc, cs_S zc, cs_X zc)) [(0, 0), (0, 7), (2, jg), (5, 0)] [cTPA zc, cR7 cA zc, cGaK zc jg 2, (cs_X zc 5 0, .inr (0, [.ref (cs_X zc 1 (cs_n zc 4 - 1)), .int sv, .int ((cs_i zc 4) + 1), .ref (cs_X zc 2 jg)]))] ∧ ∀ i j, (i, j) ∉ ([(0, 0), (0, 7), (2, jg), (5, 0)] : List (Nat × Nat)) → cF cA (va_up (va_up (cs_i zc) 3 sv) 4 ((cs_i zc 4) + 1), va_up (cs_n zc) 5 (jg + 1), cs_I zc, cs_L zc, cs_N zc, cs_S zc, cs_X zc) i j = none ∨ ((i, j) ∉ ([(0, 0), (0, 7), (2, jg), (5, 0)] : List (Nat × Nat)) ∧ cF cA (va_up (va_up (cs_i zc) 3 sv) 4 ((cs_i zc 4) + 1), va_up (cs_n zc) 5 (jg + 1), cs_I zc, cs_L zc, cs_N zc, cs_S zc, cs_X zc) i j = cF cA zc i j) := by
  obtain ⟨⟨hn0, hn1, hn2, hn3, hn4, hn5⟩, hpi, hgk, htk, hpk, hsh⟩ := id hI
  refine ⟨(by refine ⟨⟨hn0, hn1, hn2, hn3, hn4, (show jg + 1 ≤ cs_n zc 1 from hjg)⟩, hpi, hgk, htk, hpk, hsh⟩), ⟨(by (rw [(kF_tpA (z := (va_up (va_up (cs_i zc) 3 sv) 4 ((cs_i zc 4) + 1), va_up (cs_n zc) 5 (jg + 1), cs_I zc, cs_L zc, cs_N zc, cs_S zc, cs_X zc)) hcur)]) <;> simp [cTP, cTPN, cTPA, cLo, cA2, cA3, cA4, cA5, cR6, cR7, cR8, cR9, cR10, cTr, cPi, cPiN, cPiT, cGa, cGaK, cTa, cPa, cAu, cAuN, cAuB, cSh, cSc, cs_i, cs_n, cs_I, cs_L, cs_N, cs_S, cs_X, va_up, upd, opN]), (by (rw [(kF_r7 (cA := cA) (z := (va_up (va_up (cs_i zc) 3 sv) 4 ((cs_i zc 4) + 1), va_up (cs_n zc) 5 (jg + 1), cs_I zc, cs_L zc, cs_N zc, cs_S zc, cs_X zc)))]) <;> simp [cTP, cTPN, cTPA, cLo, cA2, cA3, cA4, cA5, cR6, cR7, cR8, cR9, cR10, cTr, cPi, cPiN, cPiT, cGa, cGaK, cTa, cPa, cAu, cAuN, cAuB, cSh, cSc, cs_i, cs_n, cs_I, cs_L, cs_N, cs_S, cs_X, va_up, upd, opN]), (by (rw [(kF_gaK (z := (va_up (va_up (cs_i zc) 3 sv) 4 ((cs_i zc 4) + 1), va_up (cs_n zc) 5 (jg + 1), cs_I zc, cs_L zc, cs_N zc, cs_S zc, cs_X zc)) (j := jg) hjg hk)]) <;> simp [cTP, cTPN, cTPA, cLo, cA2, cA3, cA4, cA5, cR6, cR7, cR8, cR9, cR10, cTr, cPi, cPiN, cPiT, cGa, cGaK, cTa, cPa, cAu, cAuN, cAuB, cSh, cSc, cs_i, cs_n, cs_I, cs_L, cs_N, cs_S, cs_X, va_up, upd, opN]), (by (rw [(kF_auB (z := (va_up (va_up (cs_i zc) 3 sv) 4 ((cs_i zc 4) + 1), va_up (cs_n zc) 5 (jg + 1), cs_I zc, cs_L zc, cs_N zc, cs_S zc, cs_X zc)) hcur (Nat.succ_ne_zero _))]) <;> simp [cTP, cTPN, cTPA, cLo, cA2, cA3, cA4, cA5, cR6, cR7, cR8, cR9, cR10, cTr, cPi, cPiN, cPiT, cGa, cGaK, cTa, cPa, cAu, cAuN, cAuB, cSh, cSc, cs_i, cs_n, cs_I, cs_L, cs_N, cs_S, cs_X, va_up, upd, opN]), trivial⟩, ?_⟩
  intro i j hij
  refine Or.inr ⟨hij, ?_⟩
  rcases i with _ | _ | _ | _ | _ | _ | _ | _ | i
  · rcases j with _ | _ | _ | _ | _ | _ | _ | _ | _ | _ | _ | _ | j
    · exact absurd (by simp) hij
    · show some (cLo (va_up (va_up (cs_i zc) 3 sv) 4 ((cs_i zc 4) + 1), va_up (cs_n zc) 5 (jg + 1), cs_I zc, cs_L zc, cs_N zc, cs_S zc, cs_X zc)) = some (cLo zc); simp [cLo, cs_i, cs_n, cs_I, cs_L, cs_N, cs_S, cs_X, va_up]
    · show some (cA2 cA (va_up (va_up (cs_i zc) 3 sv) 4 ((cs_i zc 4) + 1), va_up (cs_n zc) 5 (jg + 1), cs_I zc, cs_L zc, cs_N zc, cs_S zc, cs_X zc)) = some (cA2 cA zc); simp [cA2, cs_i, cs_n, cs_I, cs_L, cs_N, cs_S, cs_X, va_up]
    · show some (cA3 cA (va_up (va_up (cs_i zc) 3 sv) 4 ((cs_i zc 4) + 1), va_up (cs_n zc) 5 (jg + 1), cs_I zc, cs_L zc, cs_N zc, cs_S zc, cs_X zc)) = some (cA3 cA zc); simp [cA3, cs_i, cs_n, cs_I, cs_L, cs_N, cs_S, cs_X, va_up]
    · show some (cA4 cA (va_up (va_up (cs_i zc) 3 sv) 4 ((cs_i zc 4) + 1), va_up (cs_n zc) 5 (jg + 1), cs_I zc, cs_L zc, cs_N zc, cs_S zc, cs_X zc)) = some (cA4 cA zc); simp [cA4, cs_i, cs_n, cs_I, cs_L, cs_N, cs_S, cs_X, va_up]
    · show some (cA5 cA (va_up (va_up (cs_i zc) 3 sv) 4 ((cs_i zc 4) + 1), va_up (cs_n zc) 5 (jg + 1), cs_I zc, cs_L zc, cs_N zc, cs_S zc, cs_X zc)) = some (cA5 cA zc); simp [cA5, cs_i, cs_n, cs_I, cs_L, cs_N, cs_S, cs_X, va_up]
    · show some (cR6 cA (va_up (va_up (cs_i zc) 3 sv) 4 ((cs_i zc 4) + 1), va_up (cs_n zc) 5 (jg + 1), cs_I zc, cs_L zc, cs_N zc, cs_S zc, cs_X zc)) = some (cR6 cA zc); simp [cR6, cs_i, cs_n, cs_I, cs_L, cs_N, cs_S, cs_X, va_up]
    · exact absurd (by simp) hij
    · show some (cR8 cA (va_up (va_up (cs_i zc) 3 sv) 4 ((cs_i zc 4) + 1), va_up (cs_n zc) 5 (jg + 1), cs_I zc, cs_L zc, cs_N zc, cs_S zc, cs_X zc)) = some (cR8 cA zc); simp [cR8, cs_i, cs_n, cs_I, cs_L, cs_N, cs_S, cs_X, va_up]
    · show some (cR9 cA (va_up (va_up (cs_i zc) 3 sv) 4 ((cs_i zc 4) + 1), va_up (cs_n zc) 5 (jg + 1), cs_I zc, cs_L zc, cs_N zc, cs_S zc, cs_X zc)) = some (cR9 cA zc); simp [cR9, cs_i, cs_n, cs_I, cs_L, cs_N, cs_S, cs_X, va_up]
    · show some (cR10 cA (va_up (va_up (cs_i zc) 3 sv) 4 ((cs_i zc 4) + 1), va_up (cs_n zc) 5 (jg + 1), cs_I zc, cs_L zc, cs_N zc, cs_S zc, cs_X zc)) = some (cR10 cA zc); simp [cR10, cs_i, cs_n, cs_I, cs_L, cs_N, cs_S, cs_X, va_up]
    · show some (cTr (va_up (va_up (cs_i zc) 3 sv) 4 ((cs_i zc 4) + 1), va_up (cs_n zc) 5 (jg + 1), cs_I zc, cs_L zc, cs_N zc, cs_S zc, cs_X zc)) = some (cTr zc); simp [cTr, cs_i, cs_n, cs_I, cs_L, cs_N, cs_S, cs_X, va_up]
    · show (none : Option (Nat × va_E)) = none; rfl
  · show (if j < cs_n (va_up (va_up (cs_i zc) 3 sv) 4 ((cs_i zc 4) + 1), va_up (cs_n zc) 5 (jg + 1), cs_I zc, cs_L zc, cs_N zc, cs_S zc, cs_X zc) 0 then some (cPi (va_up (va_up (cs_i zc) 3 sv) 4 ((cs_i zc 4) + 1), va_up (cs_n zc) 5 (jg + 1), cs_I zc, cs_L zc, cs_N zc, cs_S zc, cs_X zc) j) else none) = if j < cs_n zc 0 then some (cPi zc j) else none
    simp [cPi, cs_i, cs_n, cs_I, cs_L, cs_N, cs_S, cs_X, va_up]
  · show (if j < cs_n (va_up (va_up (cs_i zc) 3 sv) 4 ((cs_i zc 4) + 1), va_up (cs_n zc) 5 (jg + 1), cs_I zc, cs_L zc, cs_N zc, cs_S zc, cs_X zc) 1 then some (cGa (va_up (va_up (cs_i zc) 3 sv) 4 ((cs_i zc 4) + 1), va_up (cs_n zc) 5 (jg + 1), cs_I zc, cs_L zc, cs_N zc, cs_S zc, cs_X zc) j) else none) = if j < cs_n zc 1 then some (cGa zc j) else none
    simp [cGa, cs_i, cs_n, cs_I, cs_L, cs_N, cs_S, cs_X, va_up]
  · show (if j < cs_n (va_up (va_up (cs_i zc) 3 sv) 4 ((cs_i zc 4) + 1), va_up (cs_n zc) 5 (jg + 1), cs_I zc, cs_L zc, cs_N zc, cs_S zc, cs_X zc) 2 then some (cTa (va_up (va_up (cs_i zc) 3 sv) 4 ((cs_i zc 4) + 1), va_up (cs_n zc) 5 (jg + 1), cs_I zc, cs_L zc, cs_N zc, cs_S zc, cs_X zc) j) else none) = if j < cs_n zc 2 then some (cTa zc j) else none
    simp [cTa, cs_i, cs_n, cs_I, cs_L, cs_N, cs_S, cs_X, va_up]
  · show (if j < cs_n (va_up (va_up (cs_i zc) 3 sv) 4 ((cs_i zc 4) + 1), va_up (cs_n zc) 5 (jg + 1), cs_I zc, cs_L zc, cs_N zc, cs_S zc, cs_X zc) 3 then some (cPa (va_up (va_up (cs_i zc) 3 sv) 4 ((cs_i zc 4) + 1), va_up (cs_n zc) 5 (jg + 1), cs_I zc, cs_L zc, cs_N zc, cs_S zc, cs_X zc) j) else none) = if j < cs_n zc 3 then some (cPa zc j) else none
    simp [cPa, cs_i, cs_n, cs_I, cs_L, cs_N, cs_S, cs_X, va_up]
  · have hne0 : j ≠ 0 := fun q => hij (by rw [q]; simp)
    show (if j = 0 ∧ ¬ cs_n (va_up (va_up (cs_i zc) 3 sv) 4 ((cs_i zc 4) + 1), va_up (cs_n zc) 5 (jg + 1), cs_I zc, cs_L zc, cs_N zc, cs_S zc, cs_X zc) 4 = 0 then some (cAu (va_up (va_up (cs_i zc) 3 sv) 4 ((cs_i zc 4) + 1), va_up (cs_n zc) 5 (jg + 1), cs_I zc, cs_L zc, cs_N zc, cs_S zc, cs_X zc)) else none) = (if j = 0 ∧ ¬ cs_n zc 4 = 0 then some (cAu zc) else none)
    rw [if_neg (fun q => hne0 q.1), if_neg (fun q => hne0 q.1)]
  · show (if j < 4 then some (cSh (va_up (va_up (cs_i zc) 3 sv) 4 ((cs_i zc 4) + 1), va_up (cs_n zc) 5 (jg + 1), cs_I zc, cs_L zc, cs_N zc, cs_S zc, cs_X zc) j) else none) = if j < 4 then some (cSh zc j) else none
    simp [cSh, cs_i, cs_n, cs_I, cs_L, cs_N, cs_S, cs_X, va_up]
  · show (if j < 4 then some (cSc cA (va_up (va_up (cs_i zc) 3 sv) 4 ((cs_i zc 4) + 1), va_up (cs_n zc) 5 (jg + 1), cs_I zc, cs_L zc, cs_N zc, cs_S zc, cs_X zc) j) else none) = if j < 4 then some (cSc cA zc j) else none
    simp [cSc, cs_i, cs_n, cs_I, cs_L, cs_N, cs_S, cs_X, va_up]
  · show (none : Option (Nat × va_E)) = none; rfl
set_option maxHeartbeats 4000000 in
theorem lf_bid_10 (cA : Nat → ClassId) (zc : CS) (sv : Int32) (jg : Nat) (hjg : jg < cs_n zc 1) (hcur : ¬ cs_n zc 4 = 0) (hbd : cs_n zc 5 = 0) (hk : cs_N zc 1 jg = 4) (c20 : 1 ≤ sv ∧ sv ≤ (if (cs_i zc 4) = 0 then (cs_i zc 3) else (cs_i zc 3) - 1)) (c21 : ¬ none = (some (cs_X zc 2 jg))) (c22 : (cs_I zc 22 jg) < 3) (c23 : (cs_i zc 4) < 20) (hI : invC zc) : invC (va_up (va_up (cs_i zc) 3 sv) 4 ((cs_i zc 4) + 1), va_up (cs_n zc) 5 (jg + 1), cs_I zc, cs_L zc, cs_N zc, cs_S zc, cs_X zc) ∧ kAll (cF cA (va_up (va_up (cs_i zc) 3 sv) 4 ((cs_i zc 4) + 1), va_up (cs_n zc) 5 (jg + 1), cs_I zc, cs_L zc, cs_N zc, cs_S zc, cs_X zc)) [(0, 0), (0, 7), (2, jg), (5, 0)] [cTPA zc, cR7 cA zc, cGaK zc jg 4, (cs_X zc 5 0, .inr (0, [.ref (cs_X zc 1 (cs_n zc 4 - 1)), .int sv, .int ((cs_i zc 4) + 1), .ref (cs_X zc 2 jg)]))] ∧ ∀ i j, (i, j) ∉ ([(0, 0), (0, 7), (2, jg), (5, 0)] : List (Nat × Nat)) → cF cA (va_up (va_up (cs_i zc) 3 sv) 4 ((cs_i zc 4) + 1), va_up (cs_n zc) 5 (jg + 1), cs_I zc, cs_L zc, cs_N zc, cs_S zc, cs_X zc) i j = none ∨ ((i, j) ∉ ([(0, 0), (0, 7), (2, jg), (5, 0)] : List (Nat × Nat)) ∧ cF cA (va_up (va_up (cs_i zc) 3 sv) 4 ((cs_i zc 4) + 1), va_up (cs_n zc) 5 (jg + 1), cs_I zc, cs_L zc, cs_N zc, cs_S zc, cs_X zc) i j = cF cA zc i j) := by
  obtain ⟨⟨hn0, hn1, hn2, hn3, hn4, hn5⟩, hpi, hgk, htk, hpk, hsh⟩ := id hI
  refine ⟨(by refine ⟨⟨hn0, hn1, hn2, hn3, hn4, (show jg + 1 ≤ cs_n zc 1 from hjg)⟩, hpi, hgk, htk, hpk, hsh⟩), ⟨(by (rw [(kF_tpA (z := (va_up (va_up (cs_i zc) 3 sv) 4 ((cs_i zc 4) + 1), va_up (cs_n zc) 5 (jg + 1), cs_I zc, cs_L zc, cs_N zc, cs_S zc, cs_X zc)) hcur)]) <;> simp [cTP, cTPN, cTPA, cLo, cA2, cA3, cA4, cA5, cR6, cR7, cR8, cR9, cR10, cTr, cPi, cPiN, cPiT, cGa, cGaK, cTa, cPa, cAu, cAuN, cAuB, cSh, cSc, cs_i, cs_n, cs_I, cs_L, cs_N, cs_S, cs_X, va_up, upd, opN]), (by (rw [(kF_r7 (cA := cA) (z := (va_up (va_up (cs_i zc) 3 sv) 4 ((cs_i zc 4) + 1), va_up (cs_n zc) 5 (jg + 1), cs_I zc, cs_L zc, cs_N zc, cs_S zc, cs_X zc)))]) <;> simp [cTP, cTPN, cTPA, cLo, cA2, cA3, cA4, cA5, cR6, cR7, cR8, cR9, cR10, cTr, cPi, cPiN, cPiT, cGa, cGaK, cTa, cPa, cAu, cAuN, cAuB, cSh, cSc, cs_i, cs_n, cs_I, cs_L, cs_N, cs_S, cs_X, va_up, upd, opN]), (by (rw [(kF_gaK (z := (va_up (va_up (cs_i zc) 3 sv) 4 ((cs_i zc 4) + 1), va_up (cs_n zc) 5 (jg + 1), cs_I zc, cs_L zc, cs_N zc, cs_S zc, cs_X zc)) (j := jg) hjg hk)]) <;> simp [cTP, cTPN, cTPA, cLo, cA2, cA3, cA4, cA5, cR6, cR7, cR8, cR9, cR10, cTr, cPi, cPiN, cPiT, cGa, cGaK, cTa, cPa, cAu, cAuN, cAuB, cSh, cSc, cs_i, cs_n, cs_I, cs_L, cs_N, cs_S, cs_X, va_up, upd, opN]), (by (rw [(kF_auB (z := (va_up (va_up (cs_i zc) 3 sv) 4 ((cs_i zc 4) + 1), va_up (cs_n zc) 5 (jg + 1), cs_I zc, cs_L zc, cs_N zc, cs_S zc, cs_X zc)) hcur (Nat.succ_ne_zero _))]) <;> simp [cTP, cTPN, cTPA, cLo, cA2, cA3, cA4, cA5, cR6, cR7, cR8, cR9, cR10, cTr, cPi, cPiN, cPiT, cGa, cGaK, cTa, cPa, cAu, cAuN, cAuB, cSh, cSc, cs_i, cs_n, cs_I, cs_L, cs_N, cs_S, cs_X, va_up, upd, opN]), trivial⟩, ?_⟩
  intro i j hij
  refine Or.inr ⟨hij, ?_⟩
  rcases i with _ | _ | _ | _ | _ | _ | _ | _ | i
  · rcases j with _ | _ | _ | _ | _ | _ | _ | _ | _ | _ | _ | _ | j
    · exact absurd (by simp) hij
    · show some (cLo (va_up (va_up (cs_i zc) 3 sv) 4 ((cs_i zc 4) + 1), va_up (cs_n zc) 5 (jg + 1), cs_I zc, cs_L zc, cs_N zc, cs_S zc, cs_X zc)) = some (cLo zc); simp [cLo, cs_i, cs_n, cs_I, cs_L, cs_N, cs_S, cs_X, va_up]
    · show some (cA2 cA (va_up (va_up (cs_i zc) 3 sv) 4 ((cs_i zc 4) + 1), va_up (cs_n zc) 5 (jg + 1), cs_I zc, cs_L zc, cs_N zc, cs_S zc, cs_X zc)) = some (cA2 cA zc); simp [cA2, cs_i, cs_n, cs_I, cs_L, cs_N, cs_S, cs_X, va_up]
    · show some (cA3 cA (va_up (va_up (cs_i zc) 3 sv) 4 ((cs_i zc 4) + 1), va_up (cs_n zc) 5 (jg + 1), cs_I zc, cs_L zc, cs_N zc, cs_S zc, cs_X zc)) = some (cA3 cA zc); simp [cA3, cs_i, cs_n, cs_I, cs_L, cs_N, cs_S, cs_X, va_up]
    · show some (cA4 cA (va_up (va_up (cs_i zc) 3 sv) 4 ((cs_i zc 4) + 1), va_up (cs_n zc) 5 (jg + 1), cs_I zc, cs_L zc, cs_N zc, cs_S zc, cs_X zc)) = some (cA4 cA zc); simp [cA4, cs_i, cs_n, cs_I, cs_L, cs_N, cs_S, cs_X, va_up]
    · show some (cA5 cA (va_up (va_up (cs_i zc) 3 sv) 4 ((cs_i zc 4) + 1), va_up (cs_n zc) 5 (jg + 1), cs_I zc, cs_L zc, cs_N zc, cs_S zc, cs_X zc)) = some (cA5 cA zc); simp [cA5, cs_i, cs_n, cs_I, cs_L, cs_N, cs_S, cs_X, va_up]
    · show some (cR6 cA (va_up (va_up (cs_i zc) 3 sv) 4 ((cs_i zc 4) + 1), va_up (cs_n zc) 5 (jg + 1), cs_I zc, cs_L zc, cs_N zc, cs_S zc, cs_X zc)) = some (cR6 cA zc); simp [cR6, cs_i, cs_n, cs_I, cs_L, cs_N, cs_S, cs_X, va_up]
    · exact absurd (by simp) hij
    · show some (cR8 cA (va_up (va_up (cs_i zc) 3 sv) 4 ((cs_i zc 4) + 1), va_up (cs_n zc) 5 (jg + 1), cs_I zc, cs_L zc, cs_N zc, cs_S zc, cs_X zc)) = some (cR8 cA zc); simp [cR8, cs_i, cs_n, cs_I, cs_L, cs_N, cs_S, cs_X, va_up]
    · show some (cR9 cA (va_up (va_up (cs_i zc) 3 sv) 4 ((cs_i zc 4) + 1), va_up (cs_n zc) 5 (jg + 1), cs_I zc, cs_L zc, cs_N zc, cs_S zc, cs_X zc)) = some (cR9 cA zc); simp [cR9, cs_i, cs_n, cs_I, cs_L, cs_N, cs_S, cs_X, va_up]
    · show some (cR10 cA (va_up (va_up (cs_i zc) 3 sv) 4 ((cs_i zc 4) + 1), va_up (cs_n zc) 5 (jg + 1), cs_I zc, cs_L zc, cs_N zc, cs_S zc, cs_X zc)) = some (cR10 cA zc); simp [cR10, cs_i, cs_n, cs_I, cs_L, cs_N, cs_S, cs_X, va_up]
    · show some (cTr (va_up (va_up (cs_i zc) 3 sv) 4 ((cs_i zc 4) + 1), va_up (cs_n zc) 5 (jg + 1), cs_I zc, cs_L zc, cs_N zc, cs_S zc, cs_X zc)) = some (cTr zc); simp [cTr, cs_i, cs_n, cs_I, cs_L, cs_N, cs_S, cs_X, va_up]
    · show (none : Option (Nat × va_E)) = none; rfl
  · show (if j < cs_n (va_up (va_up (cs_i zc) 3 sv) 4 ((cs_i zc 4) + 1), va_up (cs_n zc) 5 (jg + 1), cs_I zc, cs_L zc, cs_N zc, cs_S zc, cs_X zc) 0 then some (cPi (va_up (va_up (cs_i zc) 3 sv) 4 ((cs_i zc 4) + 1), va_up (cs_n zc) 5 (jg + 1), cs_I zc, cs_L zc, cs_N zc, cs_S zc, cs_X zc) j) else none) = if j < cs_n zc 0 then some (cPi zc j) else none
    simp [cPi, cs_i, cs_n, cs_I, cs_L, cs_N, cs_S, cs_X, va_up]
  · show (if j < cs_n (va_up (va_up (cs_i zc) 3 sv) 4 ((cs_i zc 4) + 1), va_up (cs_n zc) 5 (jg + 1), cs_I zc, cs_L zc, cs_N zc, cs_S zc, cs_X zc) 1 then some (cGa (va_up (va_up (cs_i zc) 3 sv) 4 ((cs_i zc 4) + 1), va_up (cs_n zc) 5 (jg + 1), cs_I zc, cs_L zc, cs_N zc, cs_S zc, cs_X zc) j) else none) = if j < cs_n zc 1 then some (cGa zc j) else none
    simp [cGa, cs_i, cs_n, cs_I, cs_L, cs_N, cs_S, cs_X, va_up]
  · show (if j < cs_n (va_up (va_up (cs_i zc) 3 sv) 4 ((cs_i zc 4) + 1), va_up (cs_n zc) 5 (jg + 1), cs_I zc, cs_L zc, cs_N zc, cs_S zc, cs_X zc) 2 then some (cTa (va_up (va_up (cs_i zc) 3 sv) 4 ((cs_i zc 4) + 1), va_up (cs_n zc) 5 (jg + 1), cs_I zc, cs_L zc, cs_N zc, cs_S zc, cs_X zc) j) else none) = if j < cs_n zc 2 then some (cTa zc j) else none
    simp [cTa, cs_i, cs_n, cs_I, cs_L, cs_N, cs_S, cs_X, va_up]
  · show (if j < cs_n (va_up (va_up (cs_i zc) 3 sv) 4 ((cs_i zc 4) + 1), va_up (cs_n zc) 5 (jg + 1), cs_I zc, cs_L zc, cs_N zc, cs_S zc, cs_X zc) 3 then some (cPa (va_up (va_up (cs_i zc) 3 sv) 4 ((cs_i zc 4) + 1), va_up (cs_n zc) 5 (jg + 1), cs_I zc, cs_L zc, cs_N zc, cs_S zc, cs_X zc) j) else none) = if j < cs_n zc 3 then some (cPa zc j) else none
    simp [cPa, cs_i, cs_n, cs_I, cs_L, cs_N, cs_S, cs_X, va_up]
  · have hne0 : j ≠ 0 := fun q => hij (by rw [q]; simp)
    show (if j = 0 ∧ ¬ cs_n (va_up (va_up (cs_i zc) 3 sv) 4 ((cs_i zc 4) + 1), va_up (cs_n zc) 5 (jg + 1), cs_I zc, cs_L zc, cs_N zc, cs_S zc, cs_X zc) 4 = 0 then some (cAu (va_up (va_up (cs_i zc) 3 sv) 4 ((cs_i zc 4) + 1), va_up (cs_n zc) 5 (jg + 1), cs_I zc, cs_L zc, cs_N zc, cs_S zc, cs_X zc)) else none) = (if j = 0 ∧ ¬ cs_n zc 4 = 0 then some (cAu zc) else none)
    rw [if_neg (fun q => hne0 q.1), if_neg (fun q => hne0 q.1)]
  · show (if j < 4 then some (cSh (va_up (va_up (cs_i zc) 3 sv) 4 ((cs_i zc 4) + 1), va_up (cs_n zc) 5 (jg + 1), cs_I zc, cs_L zc, cs_N zc, cs_S zc, cs_X zc) j) else none) = if j < 4 then some (cSh zc j) else none
    simp [cSh, cs_i, cs_n, cs_I, cs_L, cs_N, cs_S, cs_X, va_up]
  · show (if j < 4 then some (cSc cA (va_up (va_up (cs_i zc) 3 sv) 4 ((cs_i zc 4) + 1), va_up (cs_n zc) 5 (jg + 1), cs_I zc, cs_L zc, cs_N zc, cs_S zc, cs_X zc) j) else none) = if j < 4 then some (cSc cA zc j) else none
    simp [cSc, cs_i, cs_n, cs_I, cs_L, cs_N, cs_S, cs_X, va_up]
  · show (none : Option (Nat × va_E)) = none; rfl
set_option maxHeartbeats 4000000 in
theorem lf_bid_15 (cA : Nat → ClassId) (zc : CS) (sv : Int32) (jg : Nat) (hjg : jg < cs_n zc 1) (hcur : ¬ cs_n zc 4 = 0) (hbd : ¬ cs_n zc 5 = 0) (hk : cs_N zc 1 jg = 1) (c27 : 1 ≤ sv ∧ sv ≤ (if (cs_i zc 4) = 0 then (cs_i zc 3) else (cs_i zc 3) - 1)) (c28 : ¬ cs_n zc 5 - 1 = jg) (c29 : (cs_I zc 22 jg) < 3) (c30 : (cs_i zc 4) < 20) (hI : invC zc) : invC (va_up (va_up (cs_i zc) 3 sv) 4 ((cs_i zc 4) + 1), va_up (cs_n zc) 5 (jg + 1), cs_I zc, cs_L zc, cs_N zc, cs_S zc, cs_X zc) ∧ kAll (cF cA (va_up (va_up (cs_i zc) 3 sv) 4 ((cs_i zc 4) + 1), va_up (cs_n zc) 5 (jg + 1), cs_I zc, cs_L zc, cs_N zc, cs_S zc, cs_X zc)) [(0, 0), (0, 7), (2, jg), (5, 0)] [cTPA zc, cR7 cA zc, cGaK zc jg 1, (cs_X zc 5 0, .inr (0, [.ref (cs_X zc 1 (cs_n zc 4 - 1)), .int sv, .int ((cs_i zc 4) + 1), .ref (cs_X zc 2 jg)]))] ∧ ∀ i j, (i, j) ∉ ([(0, 0), (0, 7), (2, jg), (5, 0)] : List (Nat × Nat)) → cF cA (va_up (va_up (cs_i zc) 3 sv) 4 ((cs_i zc 4) + 1), va_up (cs_n zc) 5 (jg + 1), cs_I zc, cs_L zc, cs_N zc, cs_S zc, cs_X zc) i j = none ∨ ((i, j) ∉ ([(0, 0), (0, 7), (2, jg), (5, 0)] : List (Nat × Nat)) ∧ cF cA (va_up (va_up (cs_i zc) 3 sv) 4 ((cs_i zc 4) + 1), va_up (cs_n zc) 5 (jg + 1), cs_I zc, cs_L zc, cs_N zc, cs_S zc, cs_X zc) i j = cF cA zc i j) := by
  obtain ⟨⟨hn0, hn1, hn2, hn3, hn4, hn5⟩, hpi, hgk, htk, hpk, hsh⟩ := id hI
  refine ⟨(by refine ⟨⟨hn0, hn1, hn2, hn3, hn4, (show jg + 1 ≤ cs_n zc 1 from hjg)⟩, hpi, hgk, htk, hpk, hsh⟩), ⟨(by (rw [(kF_tpA (z := (va_up (va_up (cs_i zc) 3 sv) 4 ((cs_i zc 4) + 1), va_up (cs_n zc) 5 (jg + 1), cs_I zc, cs_L zc, cs_N zc, cs_S zc, cs_X zc)) hcur)]) <;> simp [cTP, cTPN, cTPA, cLo, cA2, cA3, cA4, cA5, cR6, cR7, cR8, cR9, cR10, cTr, cPi, cPiN, cPiT, cGa, cGaK, cTa, cPa, cAu, cAuN, cAuB, cSh, cSc, cs_i, cs_n, cs_I, cs_L, cs_N, cs_S, cs_X, va_up, upd, opN]), (by (rw [(kF_r7 (cA := cA) (z := (va_up (va_up (cs_i zc) 3 sv) 4 ((cs_i zc 4) + 1), va_up (cs_n zc) 5 (jg + 1), cs_I zc, cs_L zc, cs_N zc, cs_S zc, cs_X zc)))]) <;> simp [cTP, cTPN, cTPA, cLo, cA2, cA3, cA4, cA5, cR6, cR7, cR8, cR9, cR10, cTr, cPi, cPiN, cPiT, cGa, cGaK, cTa, cPa, cAu, cAuN, cAuB, cSh, cSc, cs_i, cs_n, cs_I, cs_L, cs_N, cs_S, cs_X, va_up, upd, opN]), (by (rw [(kF_gaK (z := (va_up (va_up (cs_i zc) 3 sv) 4 ((cs_i zc 4) + 1), va_up (cs_n zc) 5 (jg + 1), cs_I zc, cs_L zc, cs_N zc, cs_S zc, cs_X zc)) (j := jg) hjg hk)]) <;> simp [cTP, cTPN, cTPA, cLo, cA2, cA3, cA4, cA5, cR6, cR7, cR8, cR9, cR10, cTr, cPi, cPiN, cPiT, cGa, cGaK, cTa, cPa, cAu, cAuN, cAuB, cSh, cSc, cs_i, cs_n, cs_I, cs_L, cs_N, cs_S, cs_X, va_up, upd, opN]), (by (rw [(kF_auB (z := (va_up (va_up (cs_i zc) 3 sv) 4 ((cs_i zc 4) + 1), va_up (cs_n zc) 5 (jg + 1), cs_I zc, cs_L zc, cs_N zc, cs_S zc, cs_X zc)) hcur (Nat.succ_ne_zero _))]) <;> simp [cTP, cTPN, cTPA, cLo, cA2, cA3, cA4, cA5, cR6, cR7, cR8, cR9, cR10, cTr, cPi, cPiN, cPiT, cGa, cGaK, cTa, cPa, cAu, cAuN, cAuB, cSh, cSc, cs_i, cs_n, cs_I, cs_L, cs_N, cs_S, cs_X, va_up, upd, opN]), trivial⟩, ?_⟩
  intro i j hij
  refine Or.inr ⟨hij, ?_⟩
  rcases i with _ | _ | _ | _ | _ | _ | _ | _ | i
  · rcases j with _ | _ | _ | _ | _ | _ | _ | _ | _ | _ | _ | _ | j
    · exact absurd (by simp) hij
    · show some (cLo (va_up (va_up (cs_i zc) 3 sv) 4 ((cs_i zc 4) + 1), va_up (cs_n zc) 5 (jg + 1), cs_I zc, cs_L zc, cs_N zc, cs_S zc, cs_X zc)) = some (cLo zc); simp [cLo, cs_i, cs_n, cs_I, cs_L, cs_N, cs_S, cs_X, va_up]
    · show some (cA2 cA (va_up (va_up (cs_i zc) 3 sv) 4 ((cs_i zc 4) + 1), va_up (cs_n zc) 5 (jg + 1), cs_I zc, cs_L zc, cs_N zc, cs_S zc, cs_X zc)) = some (cA2 cA zc); simp [cA2, cs_i, cs_n, cs_I, cs_L, cs_N, cs_S, cs_X, va_up]
    · show some (cA3 cA (va_up (va_up (cs_i zc) 3 sv) 4 ((cs_i zc 4) + 1), va_up (cs_n zc) 5 (jg + 1), cs_I zc, cs_L zc, cs_N zc, cs_S zc, cs_X zc)) = some (cA3 cA zc); simp [cA3, cs_i, cs_n, cs_I, cs_L, cs_N, cs_S, cs_X, va_up]
    · show some (cA4 cA (va_up (va_up (cs_i zc) 3 sv) 4 ((cs_i zc 4) + 1), va_up (cs_n zc) 5 (jg + 1), cs_I zc, cs_L zc, cs_N zc, cs_S zc, cs_X zc)) = some (cA4 cA zc); simp [cA4, cs_i, cs_n, cs_I, cs_L, cs_N, cs_S, cs_X, va_up]
    · show some (cA5 cA (va_up (va_up (cs_i zc) 3 sv) 4 ((cs_i zc 4) + 1), va_up (cs_n zc) 5 (jg + 1), cs_I zc, cs_L zc, cs_N zc, cs_S zc, cs_X zc)) = some (cA5 cA zc); simp [cA5, cs_i, cs_n, cs_I, cs_L, cs_N, cs_S, cs_X, va_up]
    · show some (cR6 cA (va_up (va_up (cs_i zc) 3 sv) 4 ((cs_i zc 4) + 1), va_up (cs_n zc) 5 (jg + 1), cs_I zc, cs_L zc, cs_N zc, cs_S zc, cs_X zc)) = some (cR6 cA zc); simp [cR6, cs_i, cs_n, cs_I, cs_L, cs_N, cs_S, cs_X, va_up]
    · exact absurd (by simp) hij
    · show some (cR8 cA (va_up (va_up (cs_i zc) 3 sv) 4 ((cs_i zc 4) + 1), va_up (cs_n zc) 5 (jg + 1), cs_I zc, cs_L zc, cs_N zc, cs_S zc, cs_X zc)) = some (cR8 cA zc); simp [cR8, cs_i, cs_n, cs_I, cs_L, cs_N, cs_S, cs_X, va_up]
    · show some (cR9 cA (va_up (va_up (cs_i zc) 3 sv) 4 ((cs_i zc 4) + 1), va_up (cs_n zc) 5 (jg + 1), cs_I zc, cs_L zc, cs_N zc, cs_S zc, cs_X zc)) = some (cR9 cA zc); simp [cR9, cs_i, cs_n, cs_I, cs_L, cs_N, cs_S, cs_X, va_up]
    · show some (cR10 cA (va_up (va_up (cs_i zc) 3 sv) 4 ((cs_i zc 4) + 1), va_up (cs_n zc) 5 (jg + 1), cs_I zc, cs_L zc, cs_N zc, cs_S zc, cs_X zc)) = some (cR10 cA zc); simp [cR10, cs_i, cs_n, cs_I, cs_L, cs_N, cs_S, cs_X, va_up]
    · show some (cTr (va_up (va_up (cs_i zc) 3 sv) 4 ((cs_i zc 4) + 1), va_up (cs_n zc) 5 (jg + 1), cs_I zc, cs_L zc, cs_N zc, cs_S zc, cs_X zc)) = some (cTr zc); simp [cTr, cs_i, cs_n, cs_I, cs_L, cs_N, cs_S, cs_X, va_up]
    · show (none : Option (Nat × va_E)) = none; rfl
  · show (if j < cs_n (va_up (va_up (cs_i zc) 3 sv) 4 ((cs_i zc 4) + 1), va_up (cs_n zc) 5 (jg + 1), cs_I zc, cs_L zc, cs_N zc, cs_S zc, cs_X zc) 0 then some (cPi (va_up (va_up (cs_i zc) 3 sv) 4 ((cs_i zc 4) + 1), va_up (cs_n zc) 5 (jg + 1), cs_I zc, cs_L zc, cs_N zc, cs_S zc, cs_X zc) j) else none) = if j < cs_n zc 0 then some (cPi zc j) else none
    simp [cPi, cs_i, cs_n, cs_I, cs_L, cs_N, cs_S, cs_X, va_up]
  · show (if j < cs_n (va_up (va_up (cs_i zc) 3 sv) 4 ((cs_i zc 4) + 1), va_up (cs_n zc) 5 (jg + 1), cs_I zc, cs_L zc, cs_N zc, cs_S zc, cs_X zc) 1 then some (cGa (va_up (va_up (cs_i zc) 3 sv) 4 ((cs_i zc 4) + 1), va_up (cs_n zc) 5 (jg + 1), cs_I zc, cs_L zc, cs_N zc, cs_S zc, cs_X zc) j) else none) = if j < cs_n zc 1 then some (cGa zc j) else none
    simp [cGa, cs_i, cs_n, cs_I, cs_L, cs_N, cs_S, cs_X, va_up]
  · show (if j < cs_n (va_up (va_up (cs_i zc) 3 sv) 4 ((cs_i zc 4) + 1), va_up (cs_n zc) 5 (jg + 1), cs_I zc, cs_L zc, cs_N zc, cs_S zc, cs_X zc) 2 then some (cTa (va_up (va_up (cs_i zc) 3 sv) 4 ((cs_i zc 4) + 1), va_up (cs_n zc) 5 (jg + 1), cs_I zc, cs_L zc, cs_N zc, cs_S zc, cs_X zc) j) else none) = if j < cs_n zc 2 then some (cTa zc j) else none
    simp [cTa, cs_i, cs_n, cs_I, cs_L, cs_N, cs_S, cs_X, va_up]
  · show (if j < cs_n (va_up (va_up (cs_i zc) 3 sv) 4 ((cs_i zc 4) + 1), va_up (cs_n zc) 5 (jg + 1), cs_I zc, cs_L zc, cs_N zc, cs_S zc, cs_X zc) 3 then some (cPa (va_up (va_up (cs_i zc) 3 sv) 4 ((cs_i zc 4) + 1), va_up (cs_n zc) 5 (jg + 1), cs_I zc, cs_L zc, cs_N zc, cs_S zc, cs_X zc) j) else none) = if j < cs_n zc 3 then some (cPa zc j) else none
    simp [cPa, cs_i, cs_n, cs_I, cs_L, cs_N, cs_S, cs_X, va_up]
  · have hne0 : j ≠ 0 := fun q => hij (by rw [q]; simp)
    show (if j = 0 ∧ ¬ cs_n (va_up (va_up (cs_i zc) 3 sv) 4 ((cs_i zc 4) + 1), va_up (cs_n zc) 5 (jg + 1), cs_I zc, cs_L zc, cs_N zc, cs_S zc, cs_X zc) 4 = 0 then some (cAu (va_up (va_up (cs_i zc) 3 sv) 4 ((cs_i zc 4) + 1), va_up (cs_n zc) 5 (jg + 1), cs_I zc, cs_L zc, cs_N zc, cs_S zc, cs_X zc)) else none) = (if j = 0 ∧ ¬ cs_n zc 4 = 0 then some (cAu zc) else none)
    rw [if_neg (fun q => hne0 q.1), if_neg (fun q => hne0 q.1)]
  · show (if j < 4 then some (cSh (va_up (va_up (cs_i zc) 3 sv) 4 ((cs_i zc 4) + 1), va_up (cs_n zc) 5 (jg + 1), cs_I zc, cs_L zc, cs_N zc, cs_S zc, cs_X zc) j) else none) = if j < 4 then some (cSh zc j) else none
    simp [cSh, cs_i, cs_n, cs_I, cs_L, cs_N, cs_S, cs_X, va_up]
  · show (if j < 4 then some (cSc cA (va_up (va_up (cs_i zc) 3 sv) 4 ((cs_i zc 4) + 1), va_up (cs_n zc) 5 (jg + 1), cs_I zc, cs_L zc, cs_N zc, cs_S zc, cs_X zc) j) else none) = if j < 4 then some (cSc cA zc j) else none
    simp [cSc, cs_i, cs_n, cs_I, cs_L, cs_N, cs_S, cs_X, va_up]
  · show (none : Option (Nat × va_E)) = none; rfl
set_option maxHeartbeats 4000000 in
theorem lf_bid_20 (cA : Nat → ClassId) (zc : CS) (sv : Int32) (jg : Nat) (hjg : jg < cs_n zc 1) (hcur : ¬ cs_n zc 4 = 0) (hbd : ¬ cs_n zc 5 = 0) (hk : cs_N zc 1 jg = 2) (c34 : 1 ≤ sv ∧ sv ≤ (if (cs_i zc 4) = 0 then (cs_i zc 3) else (cs_i zc 3) - 1)) (c35 : ¬ cs_n zc 5 - 1 = jg) (c36 : (cs_I zc 22 jg) < 3) (c37 : (cs_i zc 4) < 20) (hI : invC zc) : invC (va_up (va_up (cs_i zc) 3 sv) 4 ((cs_i zc 4) + 1), va_up (cs_n zc) 5 (jg + 1), cs_I zc, cs_L zc, cs_N zc, cs_S zc, cs_X zc) ∧ kAll (cF cA (va_up (va_up (cs_i zc) 3 sv) 4 ((cs_i zc 4) + 1), va_up (cs_n zc) 5 (jg + 1), cs_I zc, cs_L zc, cs_N zc, cs_S zc, cs_X zc)) [(0, 0), (0, 7), (2, jg), (5, 0)] [cTPA zc, cR7 cA zc, cGaK zc jg 2, (cs_X zc 5 0, .inr (0, [.ref (cs_X zc 1 (cs_n zc 4 - 1)), .int sv, .int ((cs_i zc 4) + 1), .ref (cs_X zc 2 jg)]))] ∧ ∀ i j, (i, j) ∉ ([(0, 0), (0, 7), (2, jg), (5, 0)] : List (Nat × Nat)) → cF cA (va_up (va_up (cs_i zc) 3 sv) 4 ((cs_i zc 4) + 1), va_up (cs_n zc) 5 (jg + 1), cs_I zc, cs_L zc, cs_N zc, cs_S zc, cs_X zc) i j = none ∨ ((i, j) ∉ ([(0, 0), (0, 7), (2, jg), (5, 0)] : List (Nat × Nat)) ∧ cF cA (va_up (va_up (cs_i zc) 3 sv) 4 ((cs_i zc 4) + 1), va_up (cs_n zc) 5 (jg + 1), cs_I zc, cs_L zc, cs_N zc, cs_S zc, cs_X zc) i j = cF cA zc i j) := by
  obtain ⟨⟨hn0, hn1, hn2, hn3, hn4, hn5⟩, hpi, hgk, htk, hpk, hsh⟩ := id hI
  refine ⟨(by refine ⟨⟨hn0, hn1, hn2, hn3, hn4, (show jg + 1 ≤ cs_n zc 1 from hjg)⟩, hpi, hgk, htk, hpk, hsh⟩), ⟨(by (rw [(kF_tpA (z := (va_up (va_up (cs_i zc) 3 sv) 4 ((cs_i zc 4) + 1), va_up (cs_n zc) 5 (jg + 1), cs_I zc, cs_L zc, cs_N zc, cs_S zc, cs_X zc)) hcur)]) <;> simp [cTP, cTPN, cTPA, cLo, cA2, cA3, cA4, cA5, cR6, cR7, cR8, cR9, cR10, cTr, cPi, cPiN, cPiT, cGa, cGaK, cTa, cPa, cAu, cAuN, cAuB, cSh, cSc, cs_i, cs_n, cs_I, cs_L, cs_N, cs_S, cs_X, va_up, upd, opN]), (by (rw [(kF_r7 (cA := cA) (z := (va_up (va_up (cs_i zc) 3 sv) 4 ((cs_i zc 4) + 1), va_up (cs_n zc) 5 (jg + 1), cs_I zc, cs_L zc, cs_N zc, cs_S zc, cs_X zc)))]) <;> simp [cTP, cTPN, cTPA, cLo, cA2, cA3, cA4, cA5, cR6, cR7, cR8, cR9, cR10, cTr, cPi, cPiN, cPiT, cGa, cGaK, cTa, cPa, cAu, cAuN, cAuB, cSh, cSc, cs_i, cs_n, cs_I, cs_L, cs_N, cs_S, cs_X, va_up, upd, opN]), (by (rw [(kF_gaK (z := (va_up (va_up (cs_i zc) 3 sv) 4 ((cs_i zc 4) + 1), va_up (cs_n zc) 5 (jg + 1), cs_I zc, cs_L zc, cs_N zc, cs_S zc, cs_X zc)) (j := jg) hjg hk)]) <;> simp [cTP, cTPN, cTPA, cLo, cA2, cA3, cA4, cA5, cR6, cR7, cR8, cR9, cR10, cTr, cPi, cPiN, cPiT, cGa, cGaK, cTa, cPa, cAu, cAuN, cAuB, cSh, cSc, cs_i, cs_n, cs_I, cs_L, cs_N, cs_S, cs_X, va_up, upd, opN]), (by (rw [(kF_auB (z := (va_up (va_up (cs_i zc) 3 sv) 4 ((cs_i zc 4) + 1), va_up (cs_n zc) 5 (jg + 1), cs_I zc, cs_L zc, cs_N zc, cs_S zc, cs_X zc)) hcur (Nat.succ_ne_zero _))]) <;> simp [cTP, cTPN, cTPA, cLo, cA2, cA3, cA4, cA5, cR6, cR7, cR8, cR9, cR10, cTr, cPi, cPiN, cPiT, cGa, cGaK, cTa, cPa, cAu, cAuN, cAuB, cSh, cSc, cs_i, cs_n, cs_I, cs_L, cs_N, cs_S, cs_X, va_up, upd, opN]), trivial⟩, ?_⟩
  intro i j hij
  refine Or.inr ⟨hij, ?_⟩
  rcases i with _ | _ | _ | _ | _ | _ | _ | _ | i
  · rcases j with _ | _ | _ | _ | _ | _ | _ | _ | _ | _ | _ | _ | j
    · exact absurd (by simp) hij
    · show some (cLo (va_up (va_up (cs_i zc) 3 sv) 4 ((cs_i zc 4) + 1), va_up (cs_n zc) 5 (jg + 1), cs_I zc, cs_L zc, cs_N zc, cs_S zc, cs_X zc)) = some (cLo zc); simp [cLo, cs_i, cs_n, cs_I, cs_L, cs_N, cs_S, cs_X, va_up]
    · show some (cA2 cA (va_up (va_up (cs_i zc) 3 sv) 4 ((cs_i zc 4) + 1), va_up (cs_n zc) 5 (jg + 1), cs_I zc, cs_L zc, cs_N zc, cs_S zc, cs_X zc)) = some (cA2 cA zc); simp [cA2, cs_i, cs_n, cs_I, cs_L, cs_N, cs_S, cs_X, va_up]
    · show some (cA3 cA (va_up (va_up (cs_i zc) 3 sv) 4 ((cs_i zc 4) + 1), va_up (cs_n zc) 5 (jg + 1), cs_I zc, cs_L zc, cs_N zc, cs_S zc, cs_X zc)) = some (cA3 cA zc); simp [cA3, cs_i, cs_n, cs_I, cs_L, cs_N, cs_S, cs_X, va_up]
    · show some (cA4 cA (va_up (va_up (cs_i zc) 3 sv) 4 ((cs_i zc 4) + 1), va_up (cs_n zc) 5 (jg + 1), cs_I zc, cs_L zc, cs_N zc, cs_S zc, cs_X zc)) = some (cA4 cA zc); simp [cA4, cs_i, cs_n, cs_I, cs_L, cs_N, cs_S, cs_X, va_up]
    · show some (cA5 cA (va_up (va_up (cs_i zc) 3 sv) 4 ((cs_i zc 4) + 1), va_up (cs_n zc) 5 (jg + 1), cs_I zc, cs_L zc, cs_N zc, cs_S zc, cs_X zc)) = some (cA5 cA zc); simp [cA5, cs_i, cs_n, cs_I, cs_L, cs_N, cs_S, cs_X, va_up]
    · show some (cR6 cA (va_up (va_up (cs_i zc) 3 sv) 4 ((cs_i zc 4) + 1), va_up (cs_n zc) 5 (jg + 1), cs_I zc, cs_L zc, cs_N zc, cs_S zc, cs_X zc)) = some (cR6 cA zc); simp [cR6, cs_i, cs_n, cs_I, cs_L, cs_N, cs_S, cs_X, va_up]
    · exact absurd (by simp) hij
    · show some (cR8 cA (va_up (va_up (cs_i zc) 3 sv) 4 ((cs_i zc 4) + 1), va_up (cs_n zc) 5 (jg + 1), cs_I zc, cs_L zc, cs_N zc, cs_S zc, cs_X zc)) = some (cR8 cA zc); simp [cR8, cs_i, cs_n, cs_I, cs_L, cs_N, cs_S, cs_X, va_up]
    · show some (cR9 cA (va_up (va_up (cs_i zc) 3 sv) 4 ((cs_i zc 4) + 1), va_up (cs_n zc) 5 (jg + 1), cs_I zc, cs_L zc, cs_N zc, cs_S zc, cs_X zc)) = some (cR9 cA zc); simp [cR9, cs_i, cs_n, cs_I, cs_L, cs_N, cs_S, cs_X, va_up]
    · show some (cR10 cA (va_up (va_up (cs_i zc) 3 sv) 4 ((cs_i zc 4) + 1), va_up (cs_n zc) 5 (jg + 1), cs_I zc, cs_L zc, cs_N zc, cs_S zc, cs_X zc)) = some (cR10 cA zc); simp [cR10, cs_i, cs_n, cs_I, cs_L, cs_N, cs_S, cs_X, va_up]
    · show some (cTr (va_up (va_up (cs_i zc) 3 sv) 4 ((cs_i zc 4) + 1), va_up (cs_n zc) 5 (jg + 1), cs_I zc, cs_L zc, cs_N zc, cs_S zc, cs_X zc)) = some (cTr zc); simp [cTr, cs_i, cs_n, cs_I, cs_L, cs_N, cs_S, cs_X, va_up]
    · show (none : Option (Nat × va_E)) = none; rfl
  · show (if j < cs_n (va_up (va_up (cs_i zc) 3 sv) 4 ((cs_i zc 4) + 1), va_up (cs_n zc) 5 (jg + 1), cs_I zc, cs_L zc, cs_N zc, cs_S zc, cs_X zc) 0 then some (cPi (va_up (va_up (cs_i zc) 3 sv) 4 ((cs_i zc 4) + 1), va_up (cs_n zc) 5 (jg + 1), cs_I zc, cs_L zc, cs_N zc, cs_S zc, cs_X zc) j) else none) = if j < cs_n zc 0 then some (cPi zc j) else none
    simp [cPi, cs_i, cs_n, cs_I, cs_L, cs_N, cs_S, cs_X, va_up]
  · show (if j < cs_n (va_up (va_up (cs_i zc) 3 sv) 4 ((cs_i zc 4) + 1), va_up (cs_n zc) 5 (jg + 1), cs_I zc, cs_L zc, cs_N zc, cs_S zc, cs_X zc) 1 then some (cGa (va_up (va_up (cs_i zc) 3 sv) 4 ((cs_i zc 4) + 1), va_up (cs_n zc) 5 (jg + 1), cs_I zc, cs_L zc, cs_N zc, cs_S zc, cs_X zc) j) else none) = if j < cs_n zc 1 then some (cGa zc j) else none
    simp [cGa, cs_i, cs_n, cs_I, cs_L, cs_N, cs_S, cs_X, va_up]
  · show (if j < cs_n (va_up (va_up (cs_i zc) 3 sv) 4 ((cs_i zc 4) + 1), va_up (cs_n zc) 5 (jg + 1), cs_I zc, cs_L zc, cs_N zc, cs_S zc, cs_X zc) 2 then some (cTa (va_up (va_up (cs_i zc) 3 sv) 4 ((cs_i zc 4) + 1), va_up (cs_n zc) 5 (jg + 1), cs_I zc, cs_L zc, cs_N zc, cs_S zc, cs_X zc) j) else none) = if j < cs_n zc 2 then some (cTa zc j) else none
    simp [cTa, cs_i, cs_n, cs_I, cs_L, cs_N, cs_S, cs_X, va_up]
  · show (if j < cs_n (va_up (va_up (cs_i zc) 3 sv) 4 ((cs_i zc 4) + 1), va_up (cs_n zc) 5 (jg + 1), cs_I zc, cs_L zc, cs_N zc, cs_S zc, cs_X zc) 3 then some (cPa (va_up (va_up (cs_i zc) 3 sv) 4 ((cs_i zc 4) + 1), va_up (cs_n zc) 5 (jg + 1), cs_I zc, cs_L zc, cs_N zc, cs_S zc, cs_X zc) j) else none) = if j < cs_n zc 3 then some (cPa zc j) else none
    simp [cPa, cs_i, cs_n, cs_I, cs_L, cs_N, cs_S, cs_X, va_up]
  · have hne0 : j ≠ 0 := fun q => hij (by rw [q]; simp)
    show (if j = 0 ∧ ¬ cs_n (va_up (va_up (cs_i zc) 3 sv) 4 ((cs_i zc 4) + 1), va_up (cs_n zc) 5 (jg + 1), cs_I zc, cs_L zc, cs_N zc, cs_S zc, cs_X zc) 4 = 0 then some (cAu (va_up (va_up (cs_i zc) 3 sv) 4 ((cs_i zc 4) + 1), va_up (cs_n zc) 5 (jg + 1), cs_I zc, cs_L zc, cs_N zc, cs_S zc, cs_X zc)) else none) = (if j = 0 ∧ ¬ cs_n zc 4 = 0 then some (cAu zc) else none)
    rw [if_neg (fun q => hne0 q.1), if_neg (fun q => hne0 q.1)]
  · show (if j < 4 then some (cSh (va_up (va_up (cs_i zc) 3 sv) 4 ((cs_i zc 4) + 1), va_up (cs_n zc) 5 (jg + 1), cs_I zc, cs_L zc, cs_N zc, cs_S zc, cs_X zc) j) else none) = if j < 4 then some (cSh zc j) else none
    simp [cSh, cs_i, cs_n, cs_I, cs_L, cs_N, cs_S, cs_X, va_up]
  · show (if j < 4 then some (cSc cA (va_up (va_up (cs_i zc) 3 sv) 4 ((cs_i zc 4) + 1), va_up (cs_n zc) 5 (jg + 1), cs_I zc, cs_L zc, cs_N zc, cs_S zc, cs_X zc) j) else none) = if j < 4 then some (cSc cA zc j) else none
    simp [cSc, cs_i, cs_n, cs_I, cs_L, cs_N, cs_S, cs_X, va_up]
  · show (none : Option (Nat × va_E)) = none; rfl
set_option maxHeartbeats 4000000 in
theorem lf_bid_25 (cA : Nat → ClassId) (zc : CS) (sv : Int32) (jg : Nat) (hjg : jg < cs_n zc 1) (hcur : ¬ cs_n zc 4 = 0) (hbd : ¬ cs_n zc 5 = 0) (hk : cs_N zc 1 jg = 4) (c41 : 1 ≤ sv ∧ sv ≤ (if (cs_i zc 4) = 0 then (cs_i zc 3) else (cs_i zc 3) - 1)) (c42 : ¬ cs_n zc 5 - 1 = jg) (c43 : (cs_I zc 22 jg) < 3) (c44 : (cs_i zc 4) < 20) (hI : invC zc) : invC (va_up (va_up (cs_i zc) 3 sv) 4 ((cs_i zc 4) + 1), va_up (cs_n zc) 5 (jg + 1), cs_I zc, cs_L zc, cs_N zc, cs_S zc, cs_X zc) ∧ kAll (cF cA (va_up (va_up (cs_i zc) 3 sv) 4 ((cs_i zc 4) + 1), va_up (cs_n zc) 5 (jg + 1), cs_I zc, cs_L zc, cs_N zc, cs_S zc, cs_X zc)) [(0, 0), (0, 7), (2, jg), (5, 0)] [cTPA zc, cR7 cA zc, cGaK zc jg 4, (cs_X zc 5 0, .inr (0, [.ref (cs_X zc 1 (cs_n zc 4 - 1)), .int sv, .int ((cs_i zc 4) + 1), .ref (cs_X zc 2 jg)]))] ∧ ∀ i j, (i, j) ∉ ([(0, 0), (0, 7), (2, jg), (5, 0)] : List (Nat × Nat)) → cF cA (va_up (va_up (cs_i zc) 3 sv) 4 ((cs_i zc 4) + 1), va_up (cs_n zc) 5 (jg + 1), cs_I zc, cs_L zc, cs_N zc, cs_S zc, cs_X zc) i j = none ∨ ((i, j) ∉ ([(0, 0), (0, 7), (2, jg), (5, 0)] : List (Nat × Nat)) ∧ cF cA (va_up (va_up (cs_i zc) 3 sv) 4 ((cs_i zc 4) + 1), va_up (cs_n zc) 5 (jg + 1), cs_I zc, cs_L zc, cs_N zc, cs_S zc, cs_X zc) i j = cF cA zc i j) := by
  obtain ⟨⟨hn0, hn1, hn2, hn3, hn4, hn5⟩, hpi, hgk, htk, hpk, hsh⟩ := id hI
  refine ⟨(by refine ⟨⟨hn0, hn1, hn2, hn3, hn4, (show jg + 1 ≤ cs_n zc 1 from hjg)⟩, hpi, hgk, htk, hpk, hsh⟩), ⟨(by (rw [(kF_tpA (z := (va_up (va_up (cs_i zc) 3 sv) 4 ((cs_i zc 4) + 1), va_up (cs_n zc) 5 (jg + 1), cs_I zc, cs_L zc, cs_N zc, cs_S zc, cs_X zc)) hcur)]) <;> simp [cTP, cTPN, cTPA, cLo, cA2, cA3, cA4, cA5, cR6, cR7, cR8, cR9, cR10, cTr, cPi, cPiN, cPiT, cGa, cGaK, cTa, cPa, cAu, cAuN, cAuB, cSh, cSc, cs_i, cs_n, cs_I, cs_L, cs_N, cs_S, cs_X, va_up, upd, opN]), (by (rw [(kF_r7 (cA := cA) (z := (va_up (va_up (cs_i zc) 3 sv) 4 ((cs_i zc 4) + 1), va_up (cs_n zc) 5 (jg + 1), cs_I zc, cs_L zc, cs_N zc, cs_S zc, cs_X zc)))]) <;> simp [cTP, cTPN, cTPA, cLo, cA2, cA3, cA4, cA5, cR6, cR7, cR8, cR9, cR10, cTr, cPi, cPiN, cPiT, cGa, cGaK, cTa, cPa, cAu, cAuN, cAuB, cSh, cSc, cs_i, cs_n, cs_I, cs_L, cs_N, cs_S, cs_X, va_up, upd, opN]), (by (rw [(kF_gaK (z := (va_up (va_up (cs_i zc) 3 sv) 4 ((cs_i zc 4) + 1), va_up (cs_n zc) 5 (jg + 1), cs_I zc, cs_L zc, cs_N zc, cs_S zc, cs_X zc)) (j := jg) hjg hk)]) <;> simp [cTP, cTPN, cTPA, cLo, cA2, cA3, cA4, cA5, cR6, cR7, cR8, cR9, cR10, cTr, cPi, cPiN, cPiT, cGa, cGaK, cTa, cPa, cAu, cAuN, cAuB, cSh, cSc, cs_i, cs_n, cs_I, cs_L, cs_N, cs_S, cs_X, va_up, upd, opN]), (by (rw [(kF_auB (z := (va_up (va_up (cs_i zc) 3 sv) 4 ((cs_i zc 4) + 1), va_up (cs_n zc) 5 (jg + 1), cs_I zc, cs_L zc, cs_N zc, cs_S zc, cs_X zc)) hcur (Nat.succ_ne_zero _))]) <;> simp [cTP, cTPN, cTPA, cLo, cA2, cA3, cA4, cA5, cR6, cR7, cR8, cR9, cR10, cTr, cPi, cPiN, cPiT, cGa, cGaK, cTa, cPa, cAu, cAuN, cAuB, cSh, cSc, cs_i, cs_n, cs_I, cs_L, cs_N, cs_S, cs_X, va_up, upd, opN]), trivial⟩, ?_⟩
  intro i j hij
  refine Or.inr ⟨hij, ?_⟩
  rcases i with _ | _ | _ | _ | _ | _ | _ | _ | i
  · rcases j with _ | _ | _ | _ | _ | _ | _ | _ | _ | _ | _ | _ | j
    · exact absurd (by simp) hij
    · show some (cLo (va_up (va_up (cs_i zc) 3 sv) 4 ((cs_i zc 4) + 1), va_up (cs_n zc) 5 (jg + 1), cs_I zc, cs_L zc, cs_N zc, cs_S zc, cs_X zc)) = some (cLo zc); simp [cLo, cs_i, cs_n, cs_I, cs_L, cs_N, cs_S, cs_X, va_up]
    · show some (cA2 cA (va_up (va_up (cs_i zc) 3 sv) 4 ((cs_i zc 4) + 1), va_up (cs_n zc) 5 (jg + 1), cs_I zc, cs_L zc, cs_N zc, cs_S zc, cs_X zc)) = some (cA2 cA zc); simp [cA2, cs_i, cs_n, cs_I, cs_L, cs_N, cs_S, cs_X, va_up]
    · show some (cA3 cA (va_up (va_up (cs_i zc) 3 sv) 4 ((cs_i zc 4) + 1), va_up (cs_n zc) 5 (jg + 1), cs_I zc, cs_L zc, cs_N zc, cs_S zc, cs_X zc)) = some (cA3 cA zc); simp [cA3, cs_i, cs_n, cs_I, cs_L, cs_N, cs_S, cs_X, va_up]
    · show some (cA4 cA (va_up (va_up (cs_i zc) 3 sv) 4 ((cs_i zc 4) + 1), va_up (cs_n zc) 5 (jg + 1), cs_I zc, cs_L zc, cs_N zc, cs_S zc, cs_X zc)) = some (cA4 cA zc); simp [cA4, cs_i, cs_n, cs_I, cs_L, cs_N, cs_S, cs_X, va_up]
    · show some (cA5 cA (va_up (va_up (cs_i zc) 3 sv) 4 ((cs_i zc 4) + 1), va_up (cs_n zc) 5 (jg + 1), cs_I zc, cs_L zc, cs_N zc, cs_S zc, cs_X zc)) = some (cA5 cA zc); simp [cA5, cs_i, cs_n, cs_I, cs_L, cs_N, cs_S, cs_X, va_up]
    · show some (cR6 cA (va_up (va_up (cs_i zc) 3 sv) 4 ((cs_i zc 4) + 1), va_up (cs_n zc) 5 (jg + 1), cs_I zc, cs_L zc, cs_N zc, cs_S zc, cs_X zc)) = some (cR6 cA zc); simp [cR6, cs_i, cs_n, cs_I, cs_L, cs_N, cs_S, cs_X, va_up]
    · exact absurd (by simp) hij
    · show some (cR8 cA (va_up (va_up (cs_i zc) 3 sv) 4 ((cs_i zc 4) + 1), va_up (cs_n zc) 5 (jg + 1), cs_I zc, cs_L zc, cs_N zc, cs_S zc, cs_X zc)) = some (cR8 cA zc); simp [cR8, cs_i, cs_n, cs_I, cs_L, cs_N, cs_S, cs_X, va_up]
    · show some (cR9 cA (va_up (va_up (cs_i zc) 3 sv) 4 ((cs_i zc 4) + 1), va_up (cs_n zc) 5 (jg + 1), cs_I zc, cs_L zc, cs_N zc, cs_S zc, cs_X zc)) = some (cR9 cA zc); simp [cR9, cs_i, cs_n, cs_I, cs_L, cs_N, cs_S, cs_X, va_up]
    · show some (cR10 cA (va_up (va_up (cs_i zc) 3 sv) 4 ((cs_i zc 4) + 1), va_up (cs_n zc) 5 (jg + 1), cs_I zc, cs_L zc, cs_N zc, cs_S zc, cs_X zc)) = some (cR10 cA zc); simp [cR10, cs_i, cs_n, cs_I, cs_L, cs_N, cs_S, cs_X, va_up]
    · show some (cTr (va_up (va_up (cs_i zc) 3 sv) 4 ((cs_i zc 4) + 1), va_up (cs_n zc) 5 (jg + 1), cs_I zc, cs_L zc, cs_N zc, cs_S zc, cs_X zc)) = some (cTr zc); simp [cTr, cs_i, cs_n, cs_I, cs_L, cs_N, cs_S, cs_X, va_up]
    · show (none : Option (Nat × va_E)) = none; rfl
  · show (if j < cs_n (va_up (va_up (cs_i zc) 3 sv) 4 ((cs_i zc 4) + 1), va_up (cs_n zc) 5 (jg + 1), cs_I zc, cs_L zc, cs_N zc, cs_S zc, cs_X zc) 0 then some (cPi (va_up (va_up (cs_i zc) 3 sv) 4 ((cs_i zc 4) + 1), va_up (cs_n zc) 5 (jg + 1), cs_I zc, cs_L zc, cs_N zc, cs_S zc, cs_X zc) j) else none) = if j < cs_n zc 0 then some (cPi zc j) else none
    simp [cPi, cs_i, cs_n, cs_I, cs_L, cs_N, cs_S, cs_X, va_up]
  · show (if j < cs_n (va_up (va_up (cs_i zc) 3 sv) 4 ((cs_i zc 4) + 1), va_up (cs_n zc) 5 (jg + 1), cs_I zc, cs_L zc, cs_N zc, cs_S zc, cs_X zc) 1 then some (cGa (va_up (va_up (cs_i zc) 3 sv) 4 ((cs_i zc 4) + 1), va_up (cs_n zc) 5 (jg + 1), cs_I zc, cs_L zc, cs_N zc, cs_S zc, cs_X zc) j) else none) = if j < cs_n zc 1 then some (cGa zc j) else none
    simp [cGa, cs_i, cs_n, cs_I, cs_L, cs_N, cs_S, cs_X, va_up]
  · show (if j < cs_n (va_up (va_up (cs_i zc) 3 sv) 4 ((cs_i zc 4) + 1), va_up (cs_n zc) 5 (jg + 1), cs_I zc, cs_L zc, cs_N zc, cs_S zc, cs_X zc) 2 then some (cTa (va_up (va_up (cs_i zc) 3 sv) 4 ((cs_i zc 4) + 1), va_up (cs_n zc) 5 (jg + 1), cs_I zc, cs_L zc, cs_N zc, cs_S zc, cs_X zc) j) else none) = if j < cs_n zc 2 then some (cTa zc j) else none
    simp [cTa, cs_i, cs_n, cs_I, cs_L, cs_N, cs_S, cs_X, va_up]
  · show (if j < cs_n (va_up (va_up (cs_i zc) 3 sv) 4 ((cs_i zc 4) + 1), va_up (cs_n zc) 5 (jg + 1), cs_I zc, cs_L zc, cs_N zc, cs_S zc, cs_X zc) 3 then some (cPa (va_up (va_up (cs_i zc) 3 sv) 4 ((cs_i zc 4) + 1), va_up (cs_n zc) 5 (jg + 1), cs_I zc, cs_L zc, cs_N zc, cs_S zc, cs_X zc) j) else none) = if j < cs_n zc 3 then some (cPa zc j) else none
    simp [cPa, cs_i, cs_n, cs_I, cs_L, cs_N, cs_S, cs_X, va_up]
  · have hne0 : j ≠ 0 := fun q => hij (by rw [q]; simp)
    show (if j = 0 ∧ ¬ cs_n (va_up (va_up (cs_i zc) 3 sv) 4 ((cs_i zc 4) + 1), va_up (cs_n zc) 5 (jg + 1), cs_I zc, cs_L zc, cs_N zc, cs_S zc, cs_X zc) 4 = 0 then some (cAu (va_up (va_up (cs_i zc) 3 sv) 4 ((cs_i zc 4) + 1), va_up (cs_n zc) 5 (jg + 1), cs_I zc, cs_L zc, cs_N zc, cs_S zc, cs_X zc)) else none) = (if j = 0 ∧ ¬ cs_n zc 4 = 0 then some (cAu zc) else none)
    rw [if_neg (fun q => hne0 q.1), if_neg (fun q => hne0 q.1)]
  · show (if j < 4 then some (cSh (va_up (va_up (cs_i zc) 3 sv) 4 ((cs_i zc 4) + 1), va_up (cs_n zc) 5 (jg + 1), cs_I zc, cs_L zc, cs_N zc, cs_S zc, cs_X zc) j) else none) = if j < 4 then some (cSh zc j) else none
    simp [cSh, cs_i, cs_n, cs_I, cs_L, cs_N, cs_S, cs_X, va_up]
  · show (if j < 4 then some (cSc cA (va_up (va_up (cs_i zc) 3 sv) 4 ((cs_i zc 4) + 1), va_up (cs_n zc) 5 (jg + 1), cs_I zc, cs_L zc, cs_N zc, cs_S zc, cs_X zc) j) else none) = if j < 4 then some (cSc cA zc j) else none
    simp [cSc, cs_i, cs_n, cs_I, cs_L, cs_N, cs_S, cs_X, va_up]
  · show (none : Option (Nat × va_E)) = none; rfl
set_option maxHeartbeats 4000000 in
set_option maxRecDepth 100000 in
theorem K_bid (l : Launch) (dC : Nat → ClassId) (dI : Nat → Nat → Nat) (cA : Nat → ClassId) (sz : Nat) (zc : CS) (g : Int32) (sv : Int32) (hI : invC zc) : Met l yX10_bid wsX10_bid ({ frames := 2, cells := 0, slots := 0, locals := 60 }) (kw (dC, dI) (ctys cA) (cF cA zc) sz [.ref (cs_X zc 0 0), .int g, .int sv]) (kQi (dC, dI) (ctys cA) (cF cA zc) sz (cF cA) (fun r u => (invC u ∧ cs_X u 0 0 = cs_X zc 0 0) ∧ pC_bid zc g sv r u)) 0 0 (kA (cF cA zc) sz) := by
  refine kw_met (cc := cX10_bid) (maxL := 4) (ret := (some .int)) (by decide) rfl (Nat.le_of_ble_eq_true rfl) ?_
  intro p e s m below meth c0 hx hb hr hml hown hlocks hnm hts hPk hKk hDk hN hsz ls hl
  subst hsz
  have hK : va_K (dC, dI) vwCl [(cA 0, .int), (cA 1, .object RX6), (cA 2, .object RX2), (cA 3, .object RX8), (cA 4, .object RX5), (cA 5, .object RX7)] s := hKk
  obtain ⟨⟨hn0, hn1, hn2, hn3, hn4, hn5⟩, hpi, hgk, htk, hpk, hsh⟩ := id hI
  have hl : lv_has ls 4 [(0, .ref (cs_X zc 0 0)), (1, .int g), (2, .int sv)] := hl
  have hiX0 : ∀ w ∈ wsX00, w ∈ wsX10_bid := fun _ h => List.mem_cons_of_mem _ (List.mem_append_left _ (List.mem_append_left _ (List.mem_append_left _ (List.mem_append_right _ (h)))))
  have hiX1 : ∀ w ∈ wsX10, w ∈ wsX10_bid := fun _ h => List.mem_cons_of_mem _ (List.mem_append_left _ (List.mem_append_left _ (List.mem_append_right _ (h))))
  have hiX10 : ∀ w ∈ wsX100, w ∈ wsX10_bid := fun _ h => List.mem_cons_of_mem _ (List.mem_append_left _ (List.mem_append_left _ (List.mem_append_left _ (List.mem_append_left _ (List.mem_append_right _ (h))))))
  have hiX2 : ∀ w ∈ wsX20, w ∈ wsX10_bid := fun _ h => List.mem_cons_of_mem _ (List.mem_append_left _ (List.mem_append_right _ (h)))
  have hiX4 : ∀ w ∈ wsX40, w ∈ wsX10_bid := fun _ h => List.mem_cons_of_mem _ (List.mem_append_right _ (h))
  generalize hQ : MQ _ _ _ _ _ _ _ = Q
  rcases ixd g (cs_n zc 1) with hnojg | ⟨jg, hjg, rfl⟩
  · skip
    have hks : kAll (cF cA zc) [(0, 0), (0, 7)] [cTP zc, cR7 cA zc] := ⟨(kF_tp (cA := cA) (z := zc)), (kF_r7 (cA := cA) (z := zc)), trivial⟩
    have hP : va_P (dC, dI) vwCl [cTP zc, cR7 cA zc] s.heap := kAll_P hPk hks
    have hD : va_D (va_A [cTP zc, cR7 cA zc] s.heap.size) [cTP zc, cR7 cA zc] := (kAll_D hDk hks (by simp)).self
    have hA : ∀ q : Nat, s.heap.size ≤ q → va_A [cTP zc, cR7 cA zc] s.heap.size q := fun q h => Or.inr h
    have hS : va_S (va_A [cTP zc, cR7 cA zc] s.heap.size) s.heap s.heap [] := va_S.rf
    refine lv_aload_n hx hb dX10_bid_0 rfl (lv_at hl 0 rfl) ?_
    refine lv_iload_n hx hb dX10_bid_1 rfl (lv_at hl 1 rfl) ?_
    have hPc := hP.sub (ws' := [cTP zc]) [0] rfl
    have hDc := hD.sub (ws' := [cTP zc]) [0] (by decide) rfl
    have hKc := hK.sub (tys' := []) [] rfl
    refine va_csq (va_Run.run (va_runV (As := [.int g]) (rest := []) ⟨hx, hb, hml, hown, hts⟩ (s_gangAt_no l dC dI  _ (cs_X zc 0 0) (.ref (cs_X zc 0 1)) (.ref (cs_X zc 0 6)) (.ref (cs_X zc 0 7)) (.ref (cs_X zc 0 8)) (.ref (cs_X zc 0 9)) (.ref (cs_X zc 0 10)) (.ref (cs_X zc 0 11)) (.int (nI (cs_n zc 0))) (.int (nI (cs_n zc 2))) (.int (nI (cs_n zc 3))) (va_rf (opN (cs_n zc 4) (fun _ => cs_X zc 5 0))) (.int (cs_i zc 2)) g (cs_n zc 1) (by omega) hnojg) (cwV 1 hts gX10_bid_X10_gangAt rfl rfl rfl (by decide +kernel) ⟨Nat.le_of_ble_eq_true rfl, Nat.le_of_ble_eq_true rfl⟩) (pw_preV (va_recv hKc hPc (ci := 10) (q0 := 0) rfl rfl) hPc hKc hDc hN) rfl rfl hl.1 rfl (lv_room (Nat.le_of_ble_eq_true rfl)) dX10_bid_2 ⟨Nat.le_of_ble_eq_true rfl, Nat.le_of_ble_eq_true rfl⟩)) (fun r1 hr1 => ?_)
    have hr1 : r1 = none := hr1
    subst hr1
    refine W.eq (g2 := F0 m 5 ls [.null]) rfl ?_
    refine lv_astore_nN (lv' := [(3, .null), (0, .ref (cs_X zc 0 0)), (1, .int g), (2, .int sv)]) hx hb dX10_bid_5 rfl hl (by decide) rfl (fun ls hl => ?_)
    refine lv_aload_nN hx hb dX10_bid_6 rfl (lv_at hl 0 rfl) ?_
    refine lv_ifnonnullN hx hb dX10_bid_7 ?_
    refine lv_iconst (v := (-1)) hx hb dX10_bid_10 (by decide) ?_
    subst hQ
    exact W.iret (v := (-1)) hx hb hr (fun t ht hW => ⟨⟨(-1), zc, rfl, ⟨⟨hI, rfl⟩, (Or.inl ⟨hnojg, rfl, rfl⟩)⟩, (by rw [ht]; exact hPk), va_K.moved hW.alike hKk, kDA_self hDk⟩, (kw_same hPk ht).2⟩) (fun q h => absurd h List.not_mem_nil) dX10_bid_11
  · skip
    by_cases hcur : cs_n zc 4 = 0
    · skip
      have hks : kAll (cF cA zc) [(0, 0), (0, 7)] [cTPN zc, cR7 cA zc] := ⟨(kF_tpN (z := zc) hcur), (kF_r7 (cA := cA) (z := zc)), trivial⟩
      have hP : va_P (dC, dI) vwCl [cTPN zc, cR7 cA zc] s.heap := kAll_P hPk hks
      have hD : va_D (va_A [cTPN zc, cR7 cA zc] s.heap.size) [cTPN zc, cR7 cA zc] := (kAll_D hDk hks (by simp)).self
      have hA : ∀ q : Nat, s.heap.size ≤ q → va_A [cTPN zc, cR7 cA zc] s.heap.size q := fun q h => Or.inr h
      have hS : va_S (va_A [cTPN zc, cR7 cA zc] s.heap.size) s.heap s.heap [] := va_S.rf
      refine lv_aload_n hx hb dX10_bid_0 rfl (lv_at hl 0 rfl) ?_
      refine lv_iload_n hx hb dX10_bid_1 rfl (lv_at hl 1 rfl) ?_
      have hPc := hP.sub (ws' := [cTPN zc, cR7 cA zc]) [0, 1] rfl
      have hDc := hD.sub (ws' := [cTPN zc, cR7 cA zc]) [0, 1] (by decide) rfl
      have hKc := hK.sub (tys' := [(cA 2, .object RX2)]) [2] rfl
      refine va_csq (va_Run.run (va_runV (As := [.int (nI jg)]) (rest := []) ⟨hx, hb, hml, hown, hts⟩ (s_gangAt_yes l dC dI (cA 2) _ (cs_X zc 0 0) (.ref (cs_X zc 0 1)) (.ref (cs_X zc 0 6)) (.ref (cs_X zc 0 8)) (.ref (cs_X zc 0 9)) (.ref (cs_X zc 0 10)) (.ref (cs_X zc 0 11)) (.int (nI (cs_n zc 0))) (.int (nI (cs_n zc 2))) (.int (nI (cs_n zc 3))) .null (.int (cs_i zc 2)) (cs_X zc 0 7) jg (cs_n zc 1) (cs_X zc 2 jg) (rfN (cs_n zc 1) (cs_X zc 2)) hjg (by omega) (rfN_at hjg)) (cwV 1 hts gX10_bid_X10_gangAt rfl rfl rfl (by decide +kernel) ⟨Nat.le_of_ble_eq_true rfl, Nat.le_of_ble_eq_true rfl⟩) (pw_preV (va_recv hKc hPc (ci := 10) (q0 := 0) rfl rfl) hPc hKc hDc hN) rfl rfl hl.1 rfl (lv_room (Nat.le_of_ble_eq_true rfl)) dX10_bid_2 ⟨Nat.le_of_ble_eq_true rfl, Nat.le_of_ble_eq_true rfl⟩)) (fun r2 hr2 => ?_)
      have hr2 : r2 = some (cs_X zc 2 jg) := hr2
      subst hr2
      refine W.eq (g2 := F0 m 5 ls [.ref (cs_X zc 2 jg)]) rfl ?_
      refine lv_astore_n (lv' := [(3, .ref (cs_X zc 2 jg)), (0, .ref (cs_X zc 0 0)), (1, .int (nI jg)), (2, .int sv)]) hx hb dX10_bid_5 rfl hl (by decide) rfl (fun ls hl => ?_)
      refine lv_aload_n hx hb dX10_bid_6 rfl (lv_at hl 0 rfl) ?_
      refine lv_ifnonnull (tgt := 12) hx hb dX10_bid_7 (by decide) ?_
      refine lv_aload_n hx hb dX10_bid_12 rfl (lv_at hl 1 rfl) ?_
      refine va_get (D := (dC, dI)) (ci := 10) (v := .null) (C := RX10) (T := TX10) (N := 13) hx hb hts hiX10 hown hK hP 0 rfl rfl 11 (by decide) (hts (.fieldLink RX10 163 "TributePitches" "current" "LTributePitches$Auction;") (List.mem_of_getElem? (i := 1) rfl)) (fun _ h9 => h9) rfl dX10_bid_13 ?_
      refine lv_ifnonnullN hx hb dX10_bid_16 ?_
      refine lv_bipush (v := (-3)) hx hb dX10_bid_19 (by decide) ?_
      subst hQ
      exact W.iret (v := (-3)) hx hb hr (fun t ht hW => ⟨⟨(-3), zc, rfl, ⟨⟨hI, rfl⟩, (Or.inr (Or.inl ⟨jg, rfl, hjg, hcur, rfl, rfl⟩))⟩, (by rw [ht]; exact hPk), va_K.moved hW.alike hKk, kDA_self hDk⟩, (kw_same hPk ht).2⟩) (fun q h => absurd h List.not_mem_nil) dX10_bid_21
    · skip
      by_cases hbd : cs_n zc 5 = 0
      · skip
        rcases (hgk jg hjg) with hk | hk | hk
        · skip
          have hks : kAll (cF cA zc) [(0, 0), (0, 7), (2, jg), (5, 0)] [cTPA zc, cR7 cA zc, cGaK zc jg 1, cAuN zc] := ⟨(kF_tpA (z := zc) hcur), (kF_r7 (cA := cA) (z := zc)), (kF_gaK (z := zc) (j := jg) hjg hk), (kF_auN (z := zc) hcur hbd), trivial⟩
          have hP : va_P (dC, dI) vwCl [cTPA zc, cR7 cA zc, cGaK zc jg 1, cAuN zc] s.heap := kAll_P hPk hks
          have hD : va_D (va_A [cTPA zc, cR7 cA zc, cGaK zc jg 1, cAuN zc] s.heap.size) [cTPA zc, cR7 cA zc, cGaK zc jg 1, cAuN zc] := (kAll_D hDk hks (by simp)).self
          have hA : ∀ q : Nat, s.heap.size ≤ q → va_A [cTPA zc, cR7 cA zc, cGaK zc jg 1, cAuN zc] s.heap.size q := fun q h => Or.inr h
          have hS : va_S (va_A [cTPA zc, cR7 cA zc, cGaK zc jg 1, cAuN zc] s.heap.size) s.heap s.heap [] := va_S.rf
          refine lv_aload_n hx hb dX10_bid_0 rfl (lv_at hl 0 rfl) ?_
          refine lv_iload_n hx hb dX10_bid_1 rfl (lv_at hl 1 rfl) ?_
          have hPc := hP.sub (ws' := [cTPA zc, cR7 cA zc]) [0, 1] rfl
          have hDc := hD.sub (ws' := [cTPA zc, cR7 cA zc]) [0, 1] (by decide) rfl
          have hKc := hK.sub (tys' := [(cA 2, .object RX2)]) [2] rfl
          refine va_csq (va_Run.run (va_runV (As := [.int (nI jg)]) (rest := []) ⟨hx, hb, hml, hown, hts⟩ (s_gangAt_yes l dC dI (cA 2) _ (cs_X zc 0 0) (.ref (cs_X zc 0 1)) (.ref (cs_X zc 0 6)) (.ref (cs_X zc 0 8)) (.ref (cs_X zc 0 9)) (.ref (cs_X zc 0 10)) (.ref (cs_X zc 0 11)) (.int (nI (cs_n zc 0))) (.int (nI (cs_n zc 2))) (.int (nI (cs_n zc 3))) (.ref (cs_X zc 5 0)) (.int (cs_i zc 2)) (cs_X zc 0 7) jg (cs_n zc 1) (cs_X zc 2 jg) (rfN (cs_n zc 1) (cs_X zc 2)) hjg (by omega) (rfN_at hjg)) (cwV 1 hts gX10_bid_X10_gangAt rfl rfl rfl (by decide +kernel) ⟨Nat.le_of_ble_eq_true rfl, Nat.le_of_ble_eq_true rfl⟩) (pw_preV (va_recv hKc hPc (ci := 10) (q0 := 0) rfl rfl) hPc hKc hDc hN) rfl rfl hl.1 rfl (lv_room (Nat.le_of_ble_eq_true rfl)) dX10_bid_2 ⟨Nat.le_of_ble_eq_true rfl, Nat.le_of_ble_eq_true rfl⟩)) (fun r3 hr3 => ?_)
          have hr3 : r3 = some (cs_X zc 2 jg) := hr3
          subst hr3
          refine W.eq (g2 := F0 m 5 ls [.ref (cs_X zc 2 jg)]) rfl ?_
          refine lv_astore_n (lv' := [(3, .ref (cs_X zc 2 jg)), (0, .ref (cs_X zc 0 0)), (1, .int (nI jg)), (2, .int sv)]) hx hb dX10_bid_5 rfl hl (by decide) rfl (fun ls hl => ?_)
          refine lv_aload_n hx hb dX10_bid_6 rfl (lv_at hl 0 rfl) ?_
          refine lv_ifnonnull (tgt := 12) hx hb dX10_bid_7 (by decide) ?_
          refine lv_aload_n hx hb dX10_bid_12 rfl (lv_at hl 1 rfl) ?_
          refine va_get (D := (dC, dI)) (ci := 10) (v := .ref (cs_X zc 5 0)) (C := RX10) (T := TX10) (N := 13) hx hb hts hiX10 hown hK hP 0 rfl rfl 11 (by decide) (hts (.fieldLink RX10 163 "TributePitches" "current" "LTributePitches$Auction;") (List.mem_of_getElem? (i := 1) rfl)) (fun _ h9 => h9) rfl dX10_bid_13 ?_
          refine lv_ifnonnull (tgt := 22) hx hb dX10_bid_16 (by decide) ?_
          refine lv_iload_n hx hb dX10_bid_22 rfl (lv_at hl 3 rfl) ?_
          refine lv_iconst (v := 1) hx hb dX10_bid_23 (by decide) ?_
          refine lv_aload_n hx hb dX10_bid_24 rfl (lv_at hl 1 rfl) ?_
          refine va_get (D := (dC, dI)) (ci := 10) (v := .ref (cs_X zc 5 0)) (C := RX10) (T := TX10) (N := 13) hx hb hts hiX10 hown hK hP 0 rfl rfl 11 (by decide) (hts (.fieldLink RX10 163 "TributePitches" "current" "LTributePitches$Auction;") (List.mem_of_getElem? (i := 1) rfl)) (fun _ h9 => h9) rfl dX10_bid_25 ?_
          have hPc := hP.sub (ws' := [cAuN zc]) [3] rfl
          have hDc := hD.sub (ws' := [cAuN zc]) [3] (by decide) rfl
          have hKc := hK.sub (tys' := []) [] rfl
          refine vp_callSi (va_Run.run (va_runV (As := []) (rest := [.int 1, .int sv]) ⟨hx, hb, hml, hown, hts⟩ (s_mostShare l dC dI  _ (cs_X zc 5 0) (.ref (cs_X zc 1 (cs_n zc 4 - 1))) .null (cs_i zc 3) (cs_i zc 4) ) (cwV 0 hts gX10_bid_X0_mostShare rfl rfl rfl (by decide +kernel) ⟨Nat.le_of_ble_eq_true rfl, Nat.le_of_ble_eq_true rfl⟩) (pw_preV (va_recv hKc hPc (ci := 0) (q0 := 0) rfl rfl) hPc hKc hDc hN) rfl rfl hl.1 rfl (lv_room (Nat.le_of_ble_eq_true rfl)) dX10_bid_28 ⟨Nat.le_of_ble_eq_true rfl, Nat.le_of_ble_eq_true rfl⟩)) (fun r4 hr4 => ?_)
          have hr4 : r4 = if (cs_i zc 4) = 0 then (cs_i zc 3) else (cs_i zc 3) - 1 := hr4
          have hr4 := hr4.symm
          subst hr4
          refine W.eq (g2 := F0 m 31 ls [.int (if (cs_i zc 4) = 0 then (cs_i zc 3) else (cs_i zc 3) - 1), .int 1, .int sv]) rfl ?_
          refine vp_callSi (va_Run.run (va_runS (As := [.int sv, .int 1, .int (if (cs_i zc 4) = 0 then (cs_i zc 3) else (cs_i zc 3) - 1)]) (rest := []) ⟨hx, hb, hml, hown, hts⟩ (c_X10_isWithin l sv 1 (if (cs_i zc 4) = 0 then (cs_i zc 3) else (cs_i zc 3) - 1) ) (va_cwS 3 hts gX10_bid_X10_isWithin rfl rfl rfl (by decide +kernel) ⟨Nat.le_of_ble_eq_true rfl, Nat.le_of_ble_eq_true rfl⟩) (p0_preS hN) rfl rfl hl.1 rfl (lv_room (Nat.le_of_ble_eq_true rfl)) dX10_bid_31 ⟨Nat.le_of_ble_eq_true rfl, Nat.le_of_ble_eq_true rfl⟩)) (fun r5 hr5 => ?_)
          have hr5 : r5 = if 1 ≤ sv ∧ sv ≤ (if (cs_i zc 4) = 0 then (cs_i zc 3) else (cs_i zc 3) - 1) then 1 else 0 := hr5
          refine lv_if_ne (tgt := 40) hx hb dX10_bid_34 (by decide) (fun c6 => ?_) (fun c6 => ?_)
          · skip
            have c6 := (fa_bool_prop hr5).2.mp c6
            refine lv_aload_n hx hb dX10_bid_40 rfl (lv_at hl 1 rfl) ?_
            refine va_get (D := (dC, dI)) (ci := 10) (v := .ref (cs_X zc 5 0)) (C := RX10) (T := TX10) (N := 13) hx hb hts hiX10 hown hK hP 0 rfl rfl 11 (by decide) (hts (.fieldLink RX10 163 "TributePitches" "current" "LTributePitches$Auction;") (List.mem_of_getElem? (i := 1) rfl)) (fun _ h9 => h9) rfl dX10_bid_41 ?_
            refine va_get (D := (dC, dI)) (ci := 0) (v := .null) (C := RX0) (T := TX0) (N := 4) hx hb hts hiX0 hown hK hP 3 rfl rfl 3 (by decide) (hts (.fieldLink RX10 180 "TributePitches$Auction" "bidder" "LTributePitches$Gang;") (List.mem_of_getElem? (i := 2) rfl)) (fun _ h9 => h9) rfl dX10_bid_44 ?_
            refine lv_aload_n hx hb dX10_bid_47 rfl (lv_at hl 0 rfl) ?_
            refine lv_acmp_eq (rx := none) (ry := (some (cs_X zc 2 jg))) (tgt := 59) hx hb dX10_bid_48 (by decide) (fun c7 => ?_) (fun c7 => ?_)
            · exact absurd c7 (by simp)
            · skip
              refine lv_aload_n hx hb dX10_bid_51 rfl (lv_at hl 0 rfl) ?_
              refine va_get (D := (dC, dI)) (ci := 1) (v := .int (cs_I zc 22 jg)) (C := RX1) (T := TX1) (N := 4) hx hb hts hiX1 hown hK hP 2 rfl rfl 2 (by decide) (hts (.fieldLink RX10 184 "TributePitches$Gang" "letPitches" "I") (List.mem_of_getElem? (i := 3) rfl)) (fun _ h9 => h9) rfl dX10_bid_52 ?_
              refine lv_iconst (v := 3) hx hb dX10_bid_55 (by decide) ?_
              refine lv_icmp_lt (tgt := 62) hx hb dX10_bid_56 (by decide) (fun c8 => ?_) (fun c8 => ?_)
              · skip
                refine lv_aload_n hx hb dX10_bid_62 rfl (lv_at hl 1 rfl) ?_
                refine va_get (D := (dC, dI)) (ci := 10) (v := .ref (cs_X zc 5 0)) (C := RX10) (T := TX10) (N := 13) hx hb hts hiX10 hown hK hP 0 rfl rfl 11 (by decide) (hts (.fieldLink RX10 163 "TributePitches" "current" "LTributePitches$Auction;") (List.mem_of_getElem? (i := 1) rfl)) (fun _ h9 => h9) rfl dX10_bid_63 ?_
                refine va_get (D := (dC, dI)) (ci := 0) (v := .int (cs_i zc 4)) (C := RX0) (T := TX0) (N := 4) hx hb hts hiX0 hown hK hP 3 rfl rfl 2 (by decide) (hts (.fieldLink RX10 187 "TributePitches$Auction" "bids" "I") (List.mem_of_getElem? (i := 4) rfl)) (fun _ h9 => h9) rfl dX10_bid_66 ?_
                refine lv_bipush (v := 20) hx hb dX10_bid_69 (by decide) ?_
                refine lv_icmp_lt (tgt := 77) hx hb dX10_bid_71 (by decide) (fun c9 => ?_) (fun c9 => ?_)
                · skip
                  refine lv_aload_n hx hb dX10_bid_77 rfl (lv_at hl 1 rfl) ?_
                  refine va_get (D := (dC, dI)) (ci := 10) (v := .ref (cs_X zc 5 0)) (C := RX10) (T := TX10) (N := 13) hx hb hts hiX10 hown hK hP 0 rfl rfl 11 (by decide) (hts (.fieldLink RX10 163 "TributePitches" "current" "LTributePitches$Auction;") (List.mem_of_getElem? (i := 1) rfl)) (fun _ h9 => h9) rfl dX10_bid_78 ?_
                  refine lv_aload_n hx hb dX10_bid_81 rfl (lv_at hl 0 rfl) ?_
                  refine va_put (D := (dC, dI)) (ci := 0) (v := .ref (cs_X zc 2 jg)) (ty := .object "TributePitches$Gang") (C := RX0) (T := TX0) (N := 4) hx hb hts hiX0 tyX0 tyX0_ok nmX0 hown hK hP hD hS 3 rfl rfl 3 (by decide) (hts (.fieldLink RX10 180 "TributePitches$Auction" "bidder" "LTributePitches$Gang;") (List.mem_of_getElem? (i := 2) rfl)) (fun _ h9 => h9) rfl (by decide +kernel) rfl rfl (Nat.le_of_ble_eq_true rfl) dX10_bid_82 (fun H locs hP hD hS => ?_)
                  have hP : va_P (dC, dI) vwCl [cTPA zc, cR7 cA zc, cGaK zc jg 1, (cs_X zc 5 0, .inr (0, [.ref (cs_X zc 1 (cs_n zc 4 - 1)), .int (cs_i zc 3), .int (cs_i zc 4), .ref (cs_X zc 2 jg)]))] H := hP
                  have hD : va_D _ [cTPA zc, cR7 cA zc, cGaK zc jg 1, (cs_X zc 5 0, .inr (0, [.ref (cs_X zc 1 (cs_n zc 4 - 1)), .int (cs_i zc 3), .int (cs_i zc 4), .ref (cs_X zc 2 jg)]))] := hD
                  refine lv_aload_n hx hb dX10_bid_85 rfl (lv_at hl 1 rfl) ?_
                  refine va_get (D := (dC, dI)) (ci := 10) (v := .ref (cs_X zc 5 0)) (C := RX10) (T := TX10) (N := 13) hx hb hts hiX10 hown hK hP 0 rfl rfl 11 (by decide) (hts (.fieldLink RX10 163 "TributePitches" "current" "LTributePitches$Auction;") (List.mem_of_getElem? (i := 1) rfl)) (fun _ h9 => h9) rfl dX10_bid_86 ?_
                  refine lv_iload_n hx hb dX10_bid_89 rfl (lv_at hl 3 rfl) ?_
                  refine va_put (D := (dC, dI)) (ci := 0) (v := .int sv) (ty := .int) (C := RX0) (T := TX0) (N := 4) hx hb hts hiX0 tyX0 tyX0_ok nmX0 hown hK hP hD hS 3 rfl rfl 1 (by decide) (hts (.fieldLink RX10 190 "TributePitches$Auction" "share" "I") (List.mem_of_getElem? (i := 5) rfl)) (fun _ h9 => h9) rfl (by decide +kernel) rfl rfl (Nat.le_of_ble_eq_true rfl) dX10_bid_90 (fun H locs hP hD hS => ?_)
                  have hP : va_P (dC, dI) vwCl [cTPA zc, cR7 cA zc, cGaK zc jg 1, (cs_X zc 5 0, .inr (0, [.ref (cs_X zc 1 (cs_n zc 4 - 1)), .int sv, .int (cs_i zc 4), .ref (cs_X zc 2 jg)]))] H := hP
                  have hD : va_D _ [cTPA zc, cR7 cA zc, cGaK zc jg 1, (cs_X zc 5 0, .inr (0, [.ref (cs_X zc 1 (cs_n zc 4 - 1)), .int sv, .int (cs_i zc 4), .ref (cs_X zc 2 jg)]))] := hD
                  refine lv_aload_n hx hb dX10_bid_93 rfl (lv_at hl 1 rfl) ?_
                  refine va_get (D := (dC, dI)) (ci := 10) (v := .ref (cs_X zc 5 0)) (C := RX10) (T := TX10) (N := 13) hx hb hts hiX10 hown hK hP 0 rfl rfl 11 (by decide) (hts (.fieldLink RX10 163 "TributePitches" "current" "LTributePitches$Auction;") (List.mem_of_getElem? (i := 1) rfl)) (fun _ h9 => h9) rfl dX10_bid_94 ?_
                  refine lv_dup hx hb dX10_bid_97 rfl ?_
                  refine va_get (D := (dC, dI)) (ci := 0) (v := .int (cs_i zc 4)) (C := RX0) (T := TX0) (N := 4) hx hb hts hiX0 hown hK hP 3 rfl rfl 2 (by decide) (hts (.fieldLink RX10 187 "TributePitches$Auction" "bids" "I") (List.mem_of_getElem? (i := 4) rfl)) (fun _ h9 => h9) rfl dX10_bid_98 ?_
                  refine lv_iconst (v := 1) hx hb dX10_bid_101 (by decide) ?_
                  refine lv_iadd hx hb dX10_bid_102 ?_
                  refine va_put (D := (dC, dI)) (ci := 0) (v := .int ((cs_i zc 4) + 1)) (ty := .int) (C := RX0) (T := TX0) (N := 4) hx hb hts hiX0 tyX0 tyX0_ok nmX0 hown hK hP hD hS 3 rfl rfl 2 (by decide) (hts (.fieldLink RX10 187 "TributePitches$Auction" "bids" "I") (List.mem_of_getElem? (i := 4) rfl)) (fun _ h9 => h9) rfl (by decide +kernel) rfl rfl (Nat.le_of_ble_eq_true rfl) dX10_bid_103 (fun H locs hP hD hS => ?_)
                  have hP : va_P (dC, dI) vwCl [cTPA zc, cR7 cA zc, cGaK zc jg 1, (cs_X zc 5 0, .inr (0, [.ref (cs_X zc 1 (cs_n zc 4 - 1)), .int sv, .int ((cs_i zc 4) + 1), .ref (cs_X zc 2 jg)]))] H := hP
                  have hD : va_D _ [cTPA zc, cR7 cA zc, cGaK zc jg 1, (cs_X zc 5 0, .inr (0, [.ref (cs_X zc 1 (cs_n zc 4 - 1)), .int sv, .int ((cs_i zc 4) + 1), .ref (cs_X zc 2 jg)]))] := hD
                  refine lv_aload_n hx hb dX10_bid_106 rfl (lv_at hl 1 rfl) ?_
                  refine va_get (D := (dC, dI)) (ci := 10) (v := .ref (cs_X zc 5 0)) (C := RX10) (T := TX10) (N := 13) hx hb hts hiX10 hown hK hP 0 rfl rfl 11 (by decide) (hts (.fieldLink RX10 163 "TributePitches" "current" "LTributePitches$Auction;") (List.mem_of_getElem? (i := 1) rfl)) (fun _ h9 => h9) rfl dX10_bid_107 ?_
                  refine va_get (D := (dC, dI)) (ci := 0) (v := .int ((cs_i zc 4) + 1)) (C := RX0) (T := TX0) (N := 4) hx hb hts hiX0 hown hK hP 3 rfl rfl 2 (by decide) (hts (.fieldLink RX10 187 "TributePitches$Auction" "bids" "I") (List.mem_of_getElem? (i := 4) rfl)) (fun _ h9 => h9) rfl dX10_bid_110 ?_
                  subst hQ
                  have hP9 : va_P (dC, dI) vwCl [cTPA zc, cR7 cA zc, cGaK zc jg 1, (cs_X zc 5 0, .inr (0, [.ref (cs_X zc 1 (cs_n zc 4 - 1)), .int sv, .int ((cs_i zc 4) + 1), .ref (cs_X zc 2 jg)]))] H := hP.sub [0, 1, 2, 3] rfl
                  have hD9 : va_D (va_A [cTPA zc, cR7 cA zc, cGaK zc jg 1, cAuN zc] s.heap.size) [cTPA zc, cR7 cA zc, cGaK zc jg 1, (cs_X zc 5 0, .inr (0, [.ref (cs_X zc 1 (cs_n zc 4 - 1)), .int sv, .int ((cs_i zc 4) + 1), .ref (cs_X zc 2 jg)]))] := hD.sub [0, 1, 2, 3] (by decide) rfl
                  have hlf := lf_bid_2 cA zc sv jg hjg hcur hbd hk c6 c7 c8 c9 hI
                  exact W.iret (v := (cs_i zc 4) + 1) hx hb hr (fun t ht hW => have hJ := kjoin hPk hDk hks rfl (hS.F ht) (by rw [ht]; exact hP9) hD9 hlf.2.1 hlf.2.2; ⟨⟨(cs_i zc 4) + 1, (va_up (va_up (cs_i zc) 3 sv) 4 ((cs_i zc 4) + 1), va_up (cs_n zc) 5 (jg + 1), cs_I zc, cs_L zc, cs_N zc, cs_S zc, cs_X zc), rfl, ⟨⟨hlf.1, rfl⟩, (Or.inr (Or.inr (Or.inl ⟨jg, rfl, hjg, hcur, hbd, hk, c6, c7, c8, c9, rfl, rfl⟩)))⟩, hJ.1, va_K.moved hW.alike hKk, hJ.2.1⟩, hJ.2.2⟩) (fun q h => kAll_A hks _ (hS.2.2 q h)) dX10_bid_113
                · skip
                  refine lv_bipush (v := (-4)) hx hb dX10_bid_74 (by decide) ?_
                  subst hQ
                  exact W.iret (v := (-4)) hx hb hr (fun t ht hW => ⟨⟨(-4), zc, rfl, ⟨⟨hI, rfl⟩, (Or.inr (Or.inr (Or.inr (Or.inl ⟨jg, rfl, hjg, hcur, hbd, hk, c6, c7, c8, c9, rfl, rfl⟩))))⟩, (by rw [ht]; exact hPk), va_K.moved hW.alike hKk, kDA_self hDk⟩, (kw_same hPk ht).2⟩) (fun q h => absurd h List.not_mem_nil) dX10_bid_76
              · skip
                refine lv_bipush (v := (-3)) hx hb dX10_bid_59 (by decide) ?_
                subst hQ
                exact W.iret (v := (-3)) hx hb hr (fun t ht hW => ⟨⟨(-3), zc, rfl, ⟨⟨hI, rfl⟩, (Or.inr (Or.inr (Or.inr (Or.inr (Or.inl ⟨jg, rfl, hjg, hcur, hbd, hk, c6, c7, c8, rfl, rfl⟩)))))⟩, (by rw [ht]; exact hPk), va_K.moved hW.alike hKk, kDA_self hDk⟩, (kw_same hPk ht).2⟩) (fun q h => absurd h List.not_mem_nil) dX10_bid_61
          · skip
            have c6 := (fa_bool_prop hr5).1.mp c6
            refine lv_bipush (v := (-2)) hx hb dX10_bid_37 (by decide) ?_
            subst hQ
            exact W.iret (v := (-2)) hx hb hr (fun t ht hW => ⟨⟨(-2), zc, rfl, ⟨⟨hI, rfl⟩, (Or.inr (Or.inr (Or.inr (Or.inr (Or.inr (Or.inl ⟨jg, rfl, hjg, hcur, hbd, hk, c6, rfl, rfl⟩))))))⟩, (by rw [ht]; exact hPk), va_K.moved hW.alike hKk, kDA_self hDk⟩, (kw_same hPk ht).2⟩) (fun q h => absurd h List.not_mem_nil) dX10_bid_39
        · skip
          have hks : kAll (cF cA zc) [(0, 0), (0, 7), (2, jg), (5, 0)] [cTPA zc, cR7 cA zc, cGaK zc jg 2, cAuN zc] := ⟨(kF_tpA (z := zc) hcur), (kF_r7 (cA := cA) (z := zc)), (kF_gaK (z := zc) (j := jg) hjg hk), (kF_auN (z := zc) hcur hbd), trivial⟩
          have hP : va_P (dC, dI) vwCl [cTPA zc, cR7 cA zc, cGaK zc jg 2, cAuN zc] s.heap := kAll_P hPk hks
          have hD : va_D (va_A [cTPA zc, cR7 cA zc, cGaK zc jg 2, cAuN zc] s.heap.size) [cTPA zc, cR7 cA zc, cGaK zc jg 2, cAuN zc] := (kAll_D hDk hks (by simp)).self
          have hA : ∀ q : Nat, s.heap.size ≤ q → va_A [cTPA zc, cR7 cA zc, cGaK zc jg 2, cAuN zc] s.heap.size q := fun q h => Or.inr h
          have hS : va_S (va_A [cTPA zc, cR7 cA zc, cGaK zc jg 2, cAuN zc] s.heap.size) s.heap s.heap [] := va_S.rf
          refine lv_aload_n hx hb dX10_bid_0 rfl (lv_at hl 0 rfl) ?_
          refine lv_iload_n hx hb dX10_bid_1 rfl (lv_at hl 1 rfl) ?_
          have hPc := hP.sub (ws' := [cTPA zc, cR7 cA zc]) [0, 1] rfl
          have hDc := hD.sub (ws' := [cTPA zc, cR7 cA zc]) [0, 1] (by decide) rfl
          have hKc := hK.sub (tys' := [(cA 2, .object RX2)]) [2] rfl
          refine va_csq (va_Run.run (va_runV (As := [.int (nI jg)]) (rest := []) ⟨hx, hb, hml, hown, hts⟩ (s_gangAt_yes l dC dI (cA 2) _ (cs_X zc 0 0) (.ref (cs_X zc 0 1)) (.ref (cs_X zc 0 6)) (.ref (cs_X zc 0 8)) (.ref (cs_X zc 0 9)) (.ref (cs_X zc 0 10)) (.ref (cs_X zc 0 11)) (.int (nI (cs_n zc 0))) (.int (nI (cs_n zc 2))) (.int (nI (cs_n zc 3))) (.ref (cs_X zc 5 0)) (.int (cs_i zc 2)) (cs_X zc 0 7) jg (cs_n zc 1) (cs_X zc 2 jg) (rfN (cs_n zc 1) (cs_X zc 2)) hjg (by omega) (rfN_at hjg)) (cwV 1 hts gX10_bid_X10_gangAt rfl rfl rfl (by decide +kernel) ⟨Nat.le_of_ble_eq_true rfl, Nat.le_of_ble_eq_true rfl⟩) (pw_preV (va_recv hKc hPc (ci := 10) (q0 := 0) rfl rfl) hPc hKc hDc hN) rfl rfl hl.1 rfl (lv_room (Nat.le_of_ble_eq_true rfl)) dX10_bid_2 ⟨Nat.le_of_ble_eq_true rfl, Nat.le_of_ble_eq_true rfl⟩)) (fun r10 hr10 => ?_)
          have hr10 : r10 = some (cs_X zc 2 jg) := hr10
          subst hr10
          refine W.eq (g2 := F0 m 5 ls [.ref (cs_X zc 2 jg)]) rfl ?_
          refine lv_astore_n (lv' := [(3, .ref (cs_X zc 2 jg)), (0, .ref (cs_X zc 0 0)), (1, .int (nI jg)), (2, .int sv)]) hx hb dX10_bid_5 rfl hl (by decide) rfl (fun ls hl => ?_)
          refine lv_aload_n hx hb dX10_bid_6 rfl (lv_at hl 0 rfl) ?_
          refine lv_ifnonnull (tgt := 12) hx hb dX10_bid_7 (by decide) ?_
          refine lv_aload_n hx hb dX10_bid_12 rfl (lv_at hl 1 rfl) ?_
          refine va_get (D := (dC, dI)) (ci := 10) (v := .ref (cs_X zc 5 0)) (C := RX10) (T := TX10) (N := 13) hx hb hts hiX10 hown hK hP 0 rfl rfl 11 (by decide) (hts (.fieldLink RX10 163 "TributePitches" "current" "LTributePitches$Auction;") (List.mem_of_getElem? (i := 1) rfl)) (fun _ h9 => h9) rfl dX10_bid_13 ?_
          refine lv_ifnonnull (tgt := 22) hx hb dX10_bid_16 (by decide) ?_
          refine lv_iload_n hx hb dX10_bid_22 rfl (lv_at hl 3 rfl) ?_
          refine lv_iconst (v := 1) hx hb dX10_bid_23 (by decide) ?_
          refine lv_aload_n hx hb dX10_bid_24 rfl (lv_at hl 1 rfl) ?_
          refine va_get (D := (dC, dI)) (ci := 10) (v := .ref (cs_X zc 5 0)) (C := RX10) (T := TX10) (N := 13) hx hb hts hiX10 hown hK hP 0 rfl rfl 11 (by decide) (hts (.fieldLink RX10 163 "TributePitches" "current" "LTributePitches$Auction;") (List.mem_of_getElem? (i := 1) rfl)) (fun _ h9 => h9) rfl dX10_bid_25 ?_
          have hPc := hP.sub (ws' := [cAuN zc]) [3] rfl
          have hDc := hD.sub (ws' := [cAuN zc]) [3] (by decide) rfl
          have hKc := hK.sub (tys' := []) [] rfl
          refine vp_callSi (va_Run.run (va_runV (As := []) (rest := [.int 1, .int sv]) ⟨hx, hb, hml, hown, hts⟩ (s_mostShare l dC dI  _ (cs_X zc 5 0) (.ref (cs_X zc 1 (cs_n zc 4 - 1))) .null (cs_i zc 3) (cs_i zc 4) ) (cwV 0 hts gX10_bid_X0_mostShare rfl rfl rfl (by decide +kernel) ⟨Nat.le_of_ble_eq_true rfl, Nat.le_of_ble_eq_true rfl⟩) (pw_preV (va_recv hKc hPc (ci := 0) (q0 := 0) rfl rfl) hPc hKc hDc hN) rfl rfl hl.1 rfl (lv_room (Nat.le_of_ble_eq_true rfl)) dX10_bid_28 ⟨Nat.le_of_ble_eq_true rfl, Nat.le_of_ble_eq_true rfl⟩)) (fun r11 hr11 => ?_)
          have hr11 : r11 = if (cs_i zc 4) = 0 then (cs_i zc 3) else (cs_i zc 3) - 1 := hr11
          have hr11 := hr11.symm
          subst hr11
          refine W.eq (g2 := F0 m 31 ls [.int (if (cs_i zc 4) = 0 then (cs_i zc 3) else (cs_i zc 3) - 1), .int 1, .int sv]) rfl ?_
          refine vp_callSi (va_Run.run (va_runS (As := [.int sv, .int 1, .int (if (cs_i zc 4) = 0 then (cs_i zc 3) else (cs_i zc 3) - 1)]) (rest := []) ⟨hx, hb, hml, hown, hts⟩ (c_X10_isWithin l sv 1 (if (cs_i zc 4) = 0 then (cs_i zc 3) else (cs_i zc 3) - 1) ) (va_cwS 3 hts gX10_bid_X10_isWithin rfl rfl rfl (by decide +kernel) ⟨Nat.le_of_ble_eq_true rfl, Nat.le_of_ble_eq_true rfl⟩) (p0_preS hN) rfl rfl hl.1 rfl (lv_room (Nat.le_of_ble_eq_true rfl)) dX10_bid_31 ⟨Nat.le_of_ble_eq_true rfl, Nat.le_of_ble_eq_true rfl⟩)) (fun r12 hr12 => ?_)
          have hr12 : r12 = if 1 ≤ sv ∧ sv ≤ (if (cs_i zc 4) = 0 then (cs_i zc 3) else (cs_i zc 3) - 1) then 1 else 0 := hr12
          refine lv_if_ne (tgt := 40) hx hb dX10_bid_34 (by decide) (fun c13 => ?_) (fun c13 => ?_)
          · skip
            have c13 := (fa_bool_prop hr12).2.mp c13
            refine lv_aload_n hx hb dX10_bid_40 rfl (lv_at hl 1 rfl) ?_
            refine va_get (D := (dC, dI)) (ci := 10) (v := .ref (cs_X zc 5 0)) (C := RX10) (T := TX10) (N := 13) hx hb hts hiX10 hown hK hP 0 rfl rfl 11 (by decide) (hts (.fieldLink RX10 163 "TributePitches" "current" "LTributePitches$Auction;") (List.mem_of_getElem? (i := 1) rfl)) (fun _ h9 => h9) rfl dX10_bid_41 ?_
            refine va_get (D := (dC, dI)) (ci := 0) (v := .null) (C := RX0) (T := TX0) (N := 4) hx hb hts hiX0 hown hK hP 3 rfl rfl 3 (by decide) (hts (.fieldLink RX10 180 "TributePitches$Auction" "bidder" "LTributePitches$Gang;") (List.mem_of_getElem? (i := 2) rfl)) (fun _ h9 => h9) rfl dX10_bid_44 ?_
            refine lv_aload_n hx hb dX10_bid_47 rfl (lv_at hl 0 rfl) ?_
            refine lv_acmp_eq (rx := none) (ry := (some (cs_X zc 2 jg))) (tgt := 59) hx hb dX10_bid_48 (by decide) (fun c14 => ?_) (fun c14 => ?_)
            · exact absurd c14 (by simp)
            · skip
              refine lv_aload_n hx hb dX10_bid_51 rfl (lv_at hl 0 rfl) ?_
              refine va_get (D := (dC, dI)) (ci := 2) (v := .int (cs_I zc 22 jg)) (C := RX2) (T := TX2) (N := 4) hx hb hts hiX2 hown hK hP 2 rfl rfl 2 (by decide) (hts (.fieldLink RX10 184 "TributePitches$Gang" "letPitches" "I") (List.mem_of_getElem? (i := 3) rfl)) (fun _ h9 => h9) rfl dX10_bid_52 ?_
              refine lv_iconst (v := 3) hx hb dX10_bid_55 (by decide) ?_
              refine lv_icmp_lt (tgt := 62) hx hb dX10_bid_56 (by decide) (fun c15 => ?_) (fun c15 => ?_)
              · skip
                refine lv_aload_n hx hb dX10_bid_62 rfl (lv_at hl 1 rfl) ?_
                refine va_get (D := (dC, dI)) (ci := 10) (v := .ref (cs_X zc 5 0)) (C := RX10) (T := TX10) (N := 13) hx hb hts hiX10 hown hK hP 0 rfl rfl 11 (by decide) (hts (.fieldLink RX10 163 "TributePitches" "current" "LTributePitches$Auction;") (List.mem_of_getElem? (i := 1) rfl)) (fun _ h9 => h9) rfl dX10_bid_63 ?_
                refine va_get (D := (dC, dI)) (ci := 0) (v := .int (cs_i zc 4)) (C := RX0) (T := TX0) (N := 4) hx hb hts hiX0 hown hK hP 3 rfl rfl 2 (by decide) (hts (.fieldLink RX10 187 "TributePitches$Auction" "bids" "I") (List.mem_of_getElem? (i := 4) rfl)) (fun _ h9 => h9) rfl dX10_bid_66 ?_
                refine lv_bipush (v := 20) hx hb dX10_bid_69 (by decide) ?_
                refine lv_icmp_lt (tgt := 77) hx hb dX10_bid_71 (by decide) (fun c16 => ?_) (fun c16 => ?_)
                · skip
                  refine lv_aload_n hx hb dX10_bid_77 rfl (lv_at hl 1 rfl) ?_
                  refine va_get (D := (dC, dI)) (ci := 10) (v := .ref (cs_X zc 5 0)) (C := RX10) (T := TX10) (N := 13) hx hb hts hiX10 hown hK hP 0 rfl rfl 11 (by decide) (hts (.fieldLink RX10 163 "TributePitches" "current" "LTributePitches$Auction;") (List.mem_of_getElem? (i := 1) rfl)) (fun _ h9 => h9) rfl dX10_bid_78 ?_
                  refine lv_aload_n hx hb dX10_bid_81 rfl (lv_at hl 0 rfl) ?_
                  refine va_put (D := (dC, dI)) (ci := 0) (v := .ref (cs_X zc 2 jg)) (ty := .object "TributePitches$Gang") (C := RX0) (T := TX0) (N := 4) hx hb hts hiX0 tyX0 tyX0_ok nmX0 hown hK hP hD hS 3 rfl rfl 3 (by decide) (hts (.fieldLink RX10 180 "TributePitches$Auction" "bidder" "LTributePitches$Gang;") (List.mem_of_getElem? (i := 2) rfl)) (fun _ h9 => h9) rfl (by decide +kernel) rfl rfl (Nat.le_of_ble_eq_true rfl) dX10_bid_82 (fun H locs hP hD hS => ?_)
                  have hP : va_P (dC, dI) vwCl [cTPA zc, cR7 cA zc, cGaK zc jg 2, (cs_X zc 5 0, .inr (0, [.ref (cs_X zc 1 (cs_n zc 4 - 1)), .int (cs_i zc 3), .int (cs_i zc 4), .ref (cs_X zc 2 jg)]))] H := hP
                  have hD : va_D _ [cTPA zc, cR7 cA zc, cGaK zc jg 2, (cs_X zc 5 0, .inr (0, [.ref (cs_X zc 1 (cs_n zc 4 - 1)), .int (cs_i zc 3), .int (cs_i zc 4), .ref (cs_X zc 2 jg)]))] := hD
                  refine lv_aload_n hx hb dX10_bid_85 rfl (lv_at hl 1 rfl) ?_
                  refine va_get (D := (dC, dI)) (ci := 10) (v := .ref (cs_X zc 5 0)) (C := RX10) (T := TX10) (N := 13) hx hb hts hiX10 hown hK hP 0 rfl rfl 11 (by decide) (hts (.fieldLink RX10 163 "TributePitches" "current" "LTributePitches$Auction;") (List.mem_of_getElem? (i := 1) rfl)) (fun _ h9 => h9) rfl dX10_bid_86 ?_
                  refine lv_iload_n hx hb dX10_bid_89 rfl (lv_at hl 3 rfl) ?_
                  refine va_put (D := (dC, dI)) (ci := 0) (v := .int sv) (ty := .int) (C := RX0) (T := TX0) (N := 4) hx hb hts hiX0 tyX0 tyX0_ok nmX0 hown hK hP hD hS 3 rfl rfl 1 (by decide) (hts (.fieldLink RX10 190 "TributePitches$Auction" "share" "I") (List.mem_of_getElem? (i := 5) rfl)) (fun _ h9 => h9) rfl (by decide +kernel) rfl rfl (Nat.le_of_ble_eq_true rfl) dX10_bid_90 (fun H locs hP hD hS => ?_)
                  have hP : va_P (dC, dI) vwCl [cTPA zc, cR7 cA zc, cGaK zc jg 2, (cs_X zc 5 0, .inr (0, [.ref (cs_X zc 1 (cs_n zc 4 - 1)), .int sv, .int (cs_i zc 4), .ref (cs_X zc 2 jg)]))] H := hP
                  have hD : va_D _ [cTPA zc, cR7 cA zc, cGaK zc jg 2, (cs_X zc 5 0, .inr (0, [.ref (cs_X zc 1 (cs_n zc 4 - 1)), .int sv, .int (cs_i zc 4), .ref (cs_X zc 2 jg)]))] := hD
                  refine lv_aload_n hx hb dX10_bid_93 rfl (lv_at hl 1 rfl) ?_
                  refine va_get (D := (dC, dI)) (ci := 10) (v := .ref (cs_X zc 5 0)) (C := RX10) (T := TX10) (N := 13) hx hb hts hiX10 hown hK hP 0 rfl rfl 11 (by decide) (hts (.fieldLink RX10 163 "TributePitches" "current" "LTributePitches$Auction;") (List.mem_of_getElem? (i := 1) rfl)) (fun _ h9 => h9) rfl dX10_bid_94 ?_
                  refine lv_dup hx hb dX10_bid_97 rfl ?_
                  refine va_get (D := (dC, dI)) (ci := 0) (v := .int (cs_i zc 4)) (C := RX0) (T := TX0) (N := 4) hx hb hts hiX0 hown hK hP 3 rfl rfl 2 (by decide) (hts (.fieldLink RX10 187 "TributePitches$Auction" "bids" "I") (List.mem_of_getElem? (i := 4) rfl)) (fun _ h9 => h9) rfl dX10_bid_98 ?_
                  refine lv_iconst (v := 1) hx hb dX10_bid_101 (by decide) ?_
                  refine lv_iadd hx hb dX10_bid_102 ?_
                  refine va_put (D := (dC, dI)) (ci := 0) (v := .int ((cs_i zc 4) + 1)) (ty := .int) (C := RX0) (T := TX0) (N := 4) hx hb hts hiX0 tyX0 tyX0_ok nmX0 hown hK hP hD hS 3 rfl rfl 2 (by decide) (hts (.fieldLink RX10 187 "TributePitches$Auction" "bids" "I") (List.mem_of_getElem? (i := 4) rfl)) (fun _ h9 => h9) rfl (by decide +kernel) rfl rfl (Nat.le_of_ble_eq_true rfl) dX10_bid_103 (fun H locs hP hD hS => ?_)
                  have hP : va_P (dC, dI) vwCl [cTPA zc, cR7 cA zc, cGaK zc jg 2, (cs_X zc 5 0, .inr (0, [.ref (cs_X zc 1 (cs_n zc 4 - 1)), .int sv, .int ((cs_i zc 4) + 1), .ref (cs_X zc 2 jg)]))] H := hP
                  have hD : va_D _ [cTPA zc, cR7 cA zc, cGaK zc jg 2, (cs_X zc 5 0, .inr (0, [.ref (cs_X zc 1 (cs_n zc 4 - 1)), .int sv, .int ((cs_i zc 4) + 1), .ref (cs_X zc 2 jg)]))] := hD
                  refine lv_aload_n hx hb dX10_bid_106 rfl (lv_at hl 1 rfl) ?_
                  refine va_get (D := (dC, dI)) (ci := 10) (v := .ref (cs_X zc 5 0)) (C := RX10) (T := TX10) (N := 13) hx hb hts hiX10 hown hK hP 0 rfl rfl 11 (by decide) (hts (.fieldLink RX10 163 "TributePitches" "current" "LTributePitches$Auction;") (List.mem_of_getElem? (i := 1) rfl)) (fun _ h9 => h9) rfl dX10_bid_107 ?_
                  refine va_get (D := (dC, dI)) (ci := 0) (v := .int ((cs_i zc 4) + 1)) (C := RX0) (T := TX0) (N := 4) hx hb hts hiX0 hown hK hP 3 rfl rfl 2 (by decide) (hts (.fieldLink RX10 187 "TributePitches$Auction" "bids" "I") (List.mem_of_getElem? (i := 4) rfl)) (fun _ h9 => h9) rfl dX10_bid_110 ?_
                  subst hQ
                  have hP9 : va_P (dC, dI) vwCl [cTPA zc, cR7 cA zc, cGaK zc jg 2, (cs_X zc 5 0, .inr (0, [.ref (cs_X zc 1 (cs_n zc 4 - 1)), .int sv, .int ((cs_i zc 4) + 1), .ref (cs_X zc 2 jg)]))] H := hP.sub [0, 1, 2, 3] rfl
                  have hD9 : va_D (va_A [cTPA zc, cR7 cA zc, cGaK zc jg 2, cAuN zc] s.heap.size) [cTPA zc, cR7 cA zc, cGaK zc jg 2, (cs_X zc 5 0, .inr (0, [.ref (cs_X zc 1 (cs_n zc 4 - 1)), .int sv, .int ((cs_i zc 4) + 1), .ref (cs_X zc 2 jg)]))] := hD.sub [0, 1, 2, 3] (by decide) rfl
                  have hlf := lf_bid_6 cA zc sv jg hjg hcur hbd hk c13 c14 c15 c16 hI
                  exact W.iret (v := (cs_i zc 4) + 1) hx hb hr (fun t ht hW => have hJ := kjoin hPk hDk hks rfl (hS.F ht) (by rw [ht]; exact hP9) hD9 hlf.2.1 hlf.2.2; ⟨⟨(cs_i zc 4) + 1, (va_up (va_up (cs_i zc) 3 sv) 4 ((cs_i zc 4) + 1), va_up (cs_n zc) 5 (jg + 1), cs_I zc, cs_L zc, cs_N zc, cs_S zc, cs_X zc), rfl, ⟨⟨hlf.1, rfl⟩, (Or.inr (Or.inr (Or.inr (Or.inr (Or.inr (Or.inr (Or.inl ⟨jg, rfl, hjg, hcur, hbd, hk, c13, c14, c15, c16, rfl, rfl⟩)))))))⟩, hJ.1, va_K.moved hW.alike hKk, hJ.2.1⟩, hJ.2.2⟩) (fun q h => kAll_A hks _ (hS.2.2 q h)) dX10_bid_113
                · skip
                  refine lv_bipush (v := (-4)) hx hb dX10_bid_74 (by decide) ?_
                  subst hQ
                  exact W.iret (v := (-4)) hx hb hr (fun t ht hW => ⟨⟨(-4), zc, rfl, ⟨⟨hI, rfl⟩, (Or.inr (Or.inr (Or.inr (Or.inr (Or.inr (Or.inr (Or.inr (Or.inl ⟨jg, rfl, hjg, hcur, hbd, hk, c13, c14, c15, c16, rfl, rfl⟩))))))))⟩, (by rw [ht]; exact hPk), va_K.moved hW.alike hKk, kDA_self hDk⟩, (kw_same hPk ht).2⟩) (fun q h => absurd h List.not_mem_nil) dX10_bid_76
              · skip
                refine lv_bipush (v := (-3)) hx hb dX10_bid_59 (by decide) ?_
                subst hQ
                exact W.iret (v := (-3)) hx hb hr (fun t ht hW => ⟨⟨(-3), zc, rfl, ⟨⟨hI, rfl⟩, (Or.inr (Or.inr (Or.inr (Or.inr (Or.inr (Or.inr (Or.inr (Or.inr (Or.inl ⟨jg, rfl, hjg, hcur, hbd, hk, c13, c14, c15, rfl, rfl⟩)))))))))⟩, (by rw [ht]; exact hPk), va_K.moved hW.alike hKk, kDA_self hDk⟩, (kw_same hPk ht).2⟩) (fun q h => absurd h List.not_mem_nil) dX10_bid_61
          · skip
            have c13 := (fa_bool_prop hr12).1.mp c13
            refine lv_bipush (v := (-2)) hx hb dX10_bid_37 (by decide) ?_
            subst hQ
            exact W.iret (v := (-2)) hx hb hr (fun t ht hW => ⟨⟨(-2), zc, rfl, ⟨⟨hI, rfl⟩, (Or.inr (Or.inr (Or.inr (Or.inr (Or.inr (Or.inr (Or.inr (Or.inr (Or.inr (Or.inl ⟨jg, rfl, hjg, hcur, hbd, hk, c13, rfl, rfl⟩))))))))))⟩, (by rw [ht]; exact hPk), va_K.moved hW.alike hKk, kDA_self hDk⟩, (kw_same hPk ht).2⟩) (fun q h => absurd h List.not_mem_nil) dX10_bid_39
        · skip
          have hks : kAll (cF cA zc) [(0, 0), (0, 7), (2, jg), (5, 0)] [cTPA zc, cR7 cA zc, cGaK zc jg 4, cAuN zc] := ⟨(kF_tpA (z := zc) hcur), (kF_r7 (cA := cA) (z := zc)), (kF_gaK (z := zc) (j := jg) hjg hk), (kF_auN (z := zc) hcur hbd), trivial⟩
          have hP : va_P (dC, dI) vwCl [cTPA zc, cR7 cA zc, cGaK zc jg 4, cAuN zc] s.heap := kAll_P hPk hks
          have hD : va_D (va_A [cTPA zc, cR7 cA zc, cGaK zc jg 4, cAuN zc] s.heap.size) [cTPA zc, cR7 cA zc, cGaK zc jg 4, cAuN zc] := (kAll_D hDk hks (by simp)).self
          have hA : ∀ q : Nat, s.heap.size ≤ q → va_A [cTPA zc, cR7 cA zc, cGaK zc jg 4, cAuN zc] s.heap.size q := fun q h => Or.inr h
          have hS : va_S (va_A [cTPA zc, cR7 cA zc, cGaK zc jg 4, cAuN zc] s.heap.size) s.heap s.heap [] := va_S.rf
          refine lv_aload_n hx hb dX10_bid_0 rfl (lv_at hl 0 rfl) ?_
          refine lv_iload_n hx hb dX10_bid_1 rfl (lv_at hl 1 rfl) ?_
          have hPc := hP.sub (ws' := [cTPA zc, cR7 cA zc]) [0, 1] rfl
          have hDc := hD.sub (ws' := [cTPA zc, cR7 cA zc]) [0, 1] (by decide) rfl
          have hKc := hK.sub (tys' := [(cA 2, .object RX2)]) [2] rfl
          refine va_csq (va_Run.run (va_runV (As := [.int (nI jg)]) (rest := []) ⟨hx, hb, hml, hown, hts⟩ (s_gangAt_yes l dC dI (cA 2) _ (cs_X zc 0 0) (.ref (cs_X zc 0 1)) (.ref (cs_X zc 0 6)) (.ref (cs_X zc 0 8)) (.ref (cs_X zc 0 9)) (.ref (cs_X zc 0 10)) (.ref (cs_X zc 0 11)) (.int (nI (cs_n zc 0))) (.int (nI (cs_n zc 2))) (.int (nI (cs_n zc 3))) (.ref (cs_X zc 5 0)) (.int (cs_i zc 2)) (cs_X zc 0 7) jg (cs_n zc 1) (cs_X zc 2 jg) (rfN (cs_n zc 1) (cs_X zc 2)) hjg (by omega) (rfN_at hjg)) (cwV 1 hts gX10_bid_X10_gangAt rfl rfl rfl (by decide +kernel) ⟨Nat.le_of_ble_eq_true rfl, Nat.le_of_ble_eq_true rfl⟩) (pw_preV (va_recv hKc hPc (ci := 10) (q0 := 0) rfl rfl) hPc hKc hDc hN) rfl rfl hl.1 rfl (lv_room (Nat.le_of_ble_eq_true rfl)) dX10_bid_2 ⟨Nat.le_of_ble_eq_true rfl, Nat.le_of_ble_eq_true rfl⟩)) (fun r17 hr17 => ?_)
          have hr17 : r17 = some (cs_X zc 2 jg) := hr17
          subst hr17
          refine W.eq (g2 := F0 m 5 ls [.ref (cs_X zc 2 jg)]) rfl ?_
          refine lv_astore_n (lv' := [(3, .ref (cs_X zc 2 jg)), (0, .ref (cs_X zc 0 0)), (1, .int (nI jg)), (2, .int sv)]) hx hb dX10_bid_5 rfl hl (by decide) rfl (fun ls hl => ?_)
          refine lv_aload_n hx hb dX10_bid_6 rfl (lv_at hl 0 rfl) ?_
          refine lv_ifnonnull (tgt := 12) hx hb dX10_bid_7 (by decide) ?_
          refine lv_aload_n hx hb dX10_bid_12 rfl (lv_at hl 1 rfl) ?_
          refine va_get (D := (dC, dI)) (ci := 10) (v := .ref (cs_X zc 5 0)) (C := RX10) (T := TX10) (N := 13) hx hb hts hiX10 hown hK hP 0 rfl rfl 11 (by decide) (hts (.fieldLink RX10 163 "TributePitches" "current" "LTributePitches$Auction;") (List.mem_of_getElem? (i := 1) rfl)) (fun _ h9 => h9) rfl dX10_bid_13 ?_
          refine lv_ifnonnull (tgt := 22) hx hb dX10_bid_16 (by decide) ?_
          refine lv_iload_n hx hb dX10_bid_22 rfl (lv_at hl 3 rfl) ?_
          refine lv_iconst (v := 1) hx hb dX10_bid_23 (by decide) ?_
          refine lv_aload_n hx hb dX10_bid_24 rfl (lv_at hl 1 rfl) ?_
          refine va_get (D := (dC, dI)) (ci := 10) (v := .ref (cs_X zc 5 0)) (C := RX10) (T := TX10) (N := 13) hx hb hts hiX10 hown hK hP 0 rfl rfl 11 (by decide) (hts (.fieldLink RX10 163 "TributePitches" "current" "LTributePitches$Auction;") (List.mem_of_getElem? (i := 1) rfl)) (fun _ h9 => h9) rfl dX10_bid_25 ?_
          have hPc := hP.sub (ws' := [cAuN zc]) [3] rfl
          have hDc := hD.sub (ws' := [cAuN zc]) [3] (by decide) rfl
          have hKc := hK.sub (tys' := []) [] rfl
          refine vp_callSi (va_Run.run (va_runV (As := []) (rest := [.int 1, .int sv]) ⟨hx, hb, hml, hown, hts⟩ (s_mostShare l dC dI  _ (cs_X zc 5 0) (.ref (cs_X zc 1 (cs_n zc 4 - 1))) .null (cs_i zc 3) (cs_i zc 4) ) (cwV 0 hts gX10_bid_X0_mostShare rfl rfl rfl (by decide +kernel) ⟨Nat.le_of_ble_eq_true rfl, Nat.le_of_ble_eq_true rfl⟩) (pw_preV (va_recv hKc hPc (ci := 0) (q0 := 0) rfl rfl) hPc hKc hDc hN) rfl rfl hl.1 rfl (lv_room (Nat.le_of_ble_eq_true rfl)) dX10_bid_28 ⟨Nat.le_of_ble_eq_true rfl, Nat.le_of_ble_eq_true rfl⟩)) (fun r18 hr18 => ?_)
          have hr18 : r18 = if (cs_i zc 4) = 0 then (cs_i zc 3) else (cs_i zc 3) - 1 := hr18
          have hr18 := hr18.symm
          subst hr18
          refine W.eq (g2 := F0 m 31 ls [.int (if (cs_i zc 4) = 0 then (cs_i zc 3) else (cs_i zc 3) - 1), .int 1, .int sv]) rfl ?_
          refine vp_callSi (va_Run.run (va_runS (As := [.int sv, .int 1, .int (if (cs_i zc 4) = 0 then (cs_i zc 3) else (cs_i zc 3) - 1)]) (rest := []) ⟨hx, hb, hml, hown, hts⟩ (c_X10_isWithin l sv 1 (if (cs_i zc 4) = 0 then (cs_i zc 3) else (cs_i zc 3) - 1) ) (va_cwS 3 hts gX10_bid_X10_isWithin rfl rfl rfl (by decide +kernel) ⟨Nat.le_of_ble_eq_true rfl, Nat.le_of_ble_eq_true rfl⟩) (p0_preS hN) rfl rfl hl.1 rfl (lv_room (Nat.le_of_ble_eq_true rfl)) dX10_bid_31 ⟨Nat.le_of_ble_eq_true rfl, Nat.le_of_ble_eq_true rfl⟩)) (fun r19 hr19 => ?_)
          have hr19 : r19 = if 1 ≤ sv ∧ sv ≤ (if (cs_i zc 4) = 0 then (cs_i zc 3) else (cs_i zc 3) - 1) then 1 else 0 := hr19
          refine lv_if_ne (tgt := 40) hx hb dX10_bid_34 (by decide) (fun c20 => ?_) (fun c20 => ?_)
          · skip
            have c20 := (fa_bool_prop hr19).2.mp c20
            refine lv_aload_n hx hb dX10_bid_40 rfl (lv_at hl 1 rfl) ?_
            refine va_get (D := (dC, dI)) (ci := 10) (v := .ref (cs_X zc 5 0)) (C := RX10) (T := TX10) (N := 13) hx hb hts hiX10 hown hK hP 0 rfl rfl 11 (by decide) (hts (.fieldLink RX10 163 "TributePitches" "current" "LTributePitches$Auction;") (List.mem_of_getElem? (i := 1) rfl)) (fun _ h9 => h9) rfl dX10_bid_41 ?_
            refine va_get (D := (dC, dI)) (ci := 0) (v := .null) (C := RX0) (T := TX0) (N := 4) hx hb hts hiX0 hown hK hP 3 rfl rfl 3 (by decide) (hts (.fieldLink RX10 180 "TributePitches$Auction" "bidder" "LTributePitches$Gang;") (List.mem_of_getElem? (i := 2) rfl)) (fun _ h9 => h9) rfl dX10_bid_44 ?_
            refine lv_aload_n hx hb dX10_bid_47 rfl (lv_at hl 0 rfl) ?_
            refine lv_acmp_eq (rx := none) (ry := (some (cs_X zc 2 jg))) (tgt := 59) hx hb dX10_bid_48 (by decide) (fun c21 => ?_) (fun c21 => ?_)
            · exact absurd c21 (by simp)
            · skip
              refine lv_aload_n hx hb dX10_bid_51 rfl (lv_at hl 0 rfl) ?_
              refine va_get (D := (dC, dI)) (ci := 4) (v := .int (cs_I zc 22 jg)) (C := RX4) (T := TX4) (N := 4) hx hb hts hiX4 hown hK hP 2 rfl rfl 2 (by decide) (hts (.fieldLink RX10 184 "TributePitches$Gang" "letPitches" "I") (List.mem_of_getElem? (i := 3) rfl)) (fun _ h9 => h9) rfl dX10_bid_52 ?_
              refine lv_iconst (v := 3) hx hb dX10_bid_55 (by decide) ?_
              refine lv_icmp_lt (tgt := 62) hx hb dX10_bid_56 (by decide) (fun c22 => ?_) (fun c22 => ?_)
              · skip
                refine lv_aload_n hx hb dX10_bid_62 rfl (lv_at hl 1 rfl) ?_
                refine va_get (D := (dC, dI)) (ci := 10) (v := .ref (cs_X zc 5 0)) (C := RX10) (T := TX10) (N := 13) hx hb hts hiX10 hown hK hP 0 rfl rfl 11 (by decide) (hts (.fieldLink RX10 163 "TributePitches" "current" "LTributePitches$Auction;") (List.mem_of_getElem? (i := 1) rfl)) (fun _ h9 => h9) rfl dX10_bid_63 ?_
                refine va_get (D := (dC, dI)) (ci := 0) (v := .int (cs_i zc 4)) (C := RX0) (T := TX0) (N := 4) hx hb hts hiX0 hown hK hP 3 rfl rfl 2 (by decide) (hts (.fieldLink RX10 187 "TributePitches$Auction" "bids" "I") (List.mem_of_getElem? (i := 4) rfl)) (fun _ h9 => h9) rfl dX10_bid_66 ?_
                refine lv_bipush (v := 20) hx hb dX10_bid_69 (by decide) ?_
                refine lv_icmp_lt (tgt := 77) hx hb dX10_bid_71 (by decide) (fun c23 => ?_) (fun c23 => ?_)
                · skip
                  refine lv_aload_n hx hb dX10_bid_77 rfl (lv_at hl 1 rfl) ?_
                  refine va_get (D := (dC, dI)) (ci := 10) (v := .ref (cs_X zc 5 0)) (C := RX10) (T := TX10) (N := 13) hx hb hts hiX10 hown hK hP 0 rfl rfl 11 (by decide) (hts (.fieldLink RX10 163 "TributePitches" "current" "LTributePitches$Auction;") (List.mem_of_getElem? (i := 1) rfl)) (fun _ h9 => h9) rfl dX10_bid_78 ?_
                  refine lv_aload_n hx hb dX10_bid_81 rfl (lv_at hl 0 rfl) ?_
                  refine va_put (D := (dC, dI)) (ci := 0) (v := .ref (cs_X zc 2 jg)) (ty := .object "TributePitches$Gang") (C := RX0) (T := TX0) (N := 4) hx hb hts hiX0 tyX0 tyX0_ok nmX0 hown hK hP hD hS 3 rfl rfl 3 (by decide) (hts (.fieldLink RX10 180 "TributePitches$Auction" "bidder" "LTributePitches$Gang;") (List.mem_of_getElem? (i := 2) rfl)) (fun _ h9 => h9) rfl (by decide +kernel) rfl rfl (Nat.le_of_ble_eq_true rfl) dX10_bid_82 (fun H locs hP hD hS => ?_)
                  have hP : va_P (dC, dI) vwCl [cTPA zc, cR7 cA zc, cGaK zc jg 4, (cs_X zc 5 0, .inr (0, [.ref (cs_X zc 1 (cs_n zc 4 - 1)), .int (cs_i zc 3), .int (cs_i zc 4), .ref (cs_X zc 2 jg)]))] H := hP
                  have hD : va_D _ [cTPA zc, cR7 cA zc, cGaK zc jg 4, (cs_X zc 5 0, .inr (0, [.ref (cs_X zc 1 (cs_n zc 4 - 1)), .int (cs_i zc 3), .int (cs_i zc 4), .ref (cs_X zc 2 jg)]))] := hD
                  refine lv_aload_n hx hb dX10_bid_85 rfl (lv_at hl 1 rfl) ?_
                  refine va_get (D := (dC, dI)) (ci := 10) (v := .ref (cs_X zc 5 0)) (C := RX10) (T := TX10) (N := 13) hx hb hts hiX10 hown hK hP 0 rfl rfl 11 (by decide) (hts (.fieldLink RX10 163 "TributePitches" "current" "LTributePitches$Auction;") (List.mem_of_getElem? (i := 1) rfl)) (fun _ h9 => h9) rfl dX10_bid_86 ?_
                  refine lv_iload_n hx hb dX10_bid_89 rfl (lv_at hl 3 rfl) ?_
                  refine va_put (D := (dC, dI)) (ci := 0) (v := .int sv) (ty := .int) (C := RX0) (T := TX0) (N := 4) hx hb hts hiX0 tyX0 tyX0_ok nmX0 hown hK hP hD hS 3 rfl rfl 1 (by decide) (hts (.fieldLink RX10 190 "TributePitches$Auction" "share" "I") (List.mem_of_getElem? (i := 5) rfl)) (fun _ h9 => h9) rfl (by decide +kernel) rfl rfl (Nat.le_of_ble_eq_true rfl) dX10_bid_90 (fun H locs hP hD hS => ?_)
                  have hP : va_P (dC, dI) vwCl [cTPA zc, cR7 cA zc, cGaK zc jg 4, (cs_X zc 5 0, .inr (0, [.ref (cs_X zc 1 (cs_n zc 4 - 1)), .int sv, .int (cs_i zc 4), .ref (cs_X zc 2 jg)]))] H := hP
                  have hD : va_D _ [cTPA zc, cR7 cA zc, cGaK zc jg 4, (cs_X zc 5 0, .inr (0, [.ref (cs_X zc 1 (cs_n zc 4 - 1)), .int sv, .int (cs_i zc 4), .ref (cs_X zc 2 jg)]))] := hD
                  refine lv_aload_n hx hb dX10_bid_93 rfl (lv_at hl 1 rfl) ?_
                  refine va_get (D := (dC, dI)) (ci := 10) (v := .ref (cs_X zc 5 0)) (C := RX10) (T := TX10) (N := 13) hx hb hts hiX10 hown hK hP 0 rfl rfl 11 (by decide) (hts (.fieldLink RX10 163 "TributePitches" "current" "LTributePitches$Auction;") (List.mem_of_getElem? (i := 1) rfl)) (fun _ h9 => h9) rfl dX10_bid_94 ?_
                  refine lv_dup hx hb dX10_bid_97 rfl ?_
                  refine va_get (D := (dC, dI)) (ci := 0) (v := .int (cs_i zc 4)) (C := RX0) (T := TX0) (N := 4) hx hb hts hiX0 hown hK hP 3 rfl rfl 2 (by decide) (hts (.fieldLink RX10 187 "TributePitches$Auction" "bids" "I") (List.mem_of_getElem? (i := 4) rfl)) (fun _ h9 => h9) rfl dX10_bid_98 ?_
                  refine lv_iconst (v := 1) hx hb dX10_bid_101 (by decide) ?_
                  refine lv_iadd hx hb dX10_bid_102 ?_
                  refine va_put (D := (dC, dI)) (ci := 0) (v := .int ((cs_i zc 4) + 1)) (ty := .int) (C := RX0) (T := TX0) (N := 4) hx hb hts hiX0 tyX0 tyX0_ok nmX0 hown hK hP hD hS 3 rfl rfl 2 (by decide) (hts (.fieldLink RX10 187 "TributePitches$Auction" "bids" "I") (List.mem_of_getElem? (i := 4) rfl)) (fun _ h9 => h9) rfl (by decide +kernel) rfl rfl (Nat.le_of_ble_eq_true rfl) dX10_bid_103 (fun H locs hP hD hS => ?_)
                  have hP : va_P (dC, dI) vwCl [cTPA zc, cR7 cA zc, cGaK zc jg 4, (cs_X zc 5 0, .inr (0, [.ref (cs_X zc 1 (cs_n zc 4 - 1)), .int sv, .int ((cs_i zc 4) + 1), .ref (cs_X zc 2 jg)]))] H := hP
                  have hD : va_D _ [cTPA zc, cR7 cA zc, cGaK zc jg 4, (cs_X zc 5 0, .inr (0, [.ref (cs_X zc 1 (cs_n zc 4 - 1)), .int sv, .int ((cs_i zc 4) + 1), .ref (cs_X zc 2 jg)]))] := hD
                  refine lv_aload_n hx hb dX10_bid_106 rfl (lv_at hl 1 rfl) ?_
                  refine va_get (D := (dC, dI)) (ci := 10) (v := .ref (cs_X zc 5 0)) (C := RX10) (T := TX10) (N := 13) hx hb hts hiX10 hown hK hP 0 rfl rfl 11 (by decide) (hts (.fieldLink RX10 163 "TributePitches" "current" "LTributePitches$Auction;") (List.mem_of_getElem? (i := 1) rfl)) (fun _ h9 => h9) rfl dX10_bid_107 ?_
                  refine va_get (D := (dC, dI)) (ci := 0) (v := .int ((cs_i zc 4) + 1)) (C := RX0) (T := TX0) (N := 4) hx hb hts hiX0 hown hK hP 3 rfl rfl 2 (by decide) (hts (.fieldLink RX10 187 "TributePitches$Auction" "bids" "I") (List.mem_of_getElem? (i := 4) rfl)) (fun _ h9 => h9) rfl dX10_bid_110 ?_
                  subst hQ
                  have hP9 : va_P (dC, dI) vwCl [cTPA zc, cR7 cA zc, cGaK zc jg 4, (cs_X zc 5 0, .inr (0, [.ref (cs_X zc 1 (cs_n zc 4 - 1)), .int sv, .int ((cs_i zc 4) + 1), .ref (cs_X zc 2 jg)]))] H := hP.sub [0, 1, 2, 3] rfl
                  have hD9 : va_D (va_A [cTPA zc, cR7 cA zc, cGaK zc jg 4, cAuN zc] s.heap.size) [cTPA zc, cR7 cA zc, cGaK zc jg 4, (cs_X zc 5 0, .inr (0, [.ref (cs_X zc 1 (cs_n zc 4 - 1)), .int sv, .int ((cs_i zc 4) + 1), .ref (cs_X zc 2 jg)]))] := hD.sub [0, 1, 2, 3] (by decide) rfl
                  have hlf := lf_bid_10 cA zc sv jg hjg hcur hbd hk c20 c21 c22 c23 hI
                  exact W.iret (v := (cs_i zc 4) + 1) hx hb hr (fun t ht hW => have hJ := kjoin hPk hDk hks rfl (hS.F ht) (by rw [ht]; exact hP9) hD9 hlf.2.1 hlf.2.2; ⟨⟨(cs_i zc 4) + 1, (va_up (va_up (cs_i zc) 3 sv) 4 ((cs_i zc 4) + 1), va_up (cs_n zc) 5 (jg + 1), cs_I zc, cs_L zc, cs_N zc, cs_S zc, cs_X zc), rfl, ⟨⟨hlf.1, rfl⟩, (Or.inr (Or.inr (Or.inr (Or.inr (Or.inr (Or.inr (Or.inr (Or.inr (Or.inr (Or.inr (Or.inl ⟨jg, rfl, hjg, hcur, hbd, hk, c20, c21, c22, c23, rfl, rfl⟩)))))))))))⟩, hJ.1, va_K.moved hW.alike hKk, hJ.2.1⟩, hJ.2.2⟩) (fun q h => kAll_A hks _ (hS.2.2 q h)) dX10_bid_113
                · skip
                  refine lv_bipush (v := (-4)) hx hb dX10_bid_74 (by decide) ?_
                  subst hQ
                  exact W.iret (v := (-4)) hx hb hr (fun t ht hW => ⟨⟨(-4), zc, rfl, ⟨⟨hI, rfl⟩, (Or.inr (Or.inr (Or.inr (Or.inr (Or.inr (Or.inr (Or.inr (Or.inr (Or.inr (Or.inr (Or.inr (Or.inl ⟨jg, rfl, hjg, hcur, hbd, hk, c20, c21, c22, c23, rfl, rfl⟩))))))))))))⟩, (by rw [ht]; exact hPk), va_K.moved hW.alike hKk, kDA_self hDk⟩, (kw_same hPk ht).2⟩) (fun q h => absurd h List.not_mem_nil) dX10_bid_76
              · skip
                refine lv_bipush (v := (-3)) hx hb dX10_bid_59 (by decide) ?_
                subst hQ
                exact W.iret (v := (-3)) hx hb hr (fun t ht hW => ⟨⟨(-3), zc, rfl, ⟨⟨hI, rfl⟩, (Or.inr (Or.inr (Or.inr (Or.inr (Or.inr (Or.inr (Or.inr (Or.inr (Or.inr (Or.inr (Or.inr (Or.inr (Or.inl ⟨jg, rfl, hjg, hcur, hbd, hk, c20, c21, c22, rfl, rfl⟩)))))))))))))⟩, (by rw [ht]; exact hPk), va_K.moved hW.alike hKk, kDA_self hDk⟩, (kw_same hPk ht).2⟩) (fun q h => absurd h List.not_mem_nil) dX10_bid_61
          · skip
            have c20 := (fa_bool_prop hr19).1.mp c20
            refine lv_bipush (v := (-2)) hx hb dX10_bid_37 (by decide) ?_
            subst hQ
            exact W.iret (v := (-2)) hx hb hr (fun t ht hW => ⟨⟨(-2), zc, rfl, ⟨⟨hI, rfl⟩, (Or.inr (Or.inr (Or.inr (Or.inr (Or.inr (Or.inr (Or.inr (Or.inr (Or.inr (Or.inr (Or.inr (Or.inr (Or.inr (Or.inl ⟨jg, rfl, hjg, hcur, hbd, hk, c20, rfl, rfl⟩))))))))))))))⟩, (by rw [ht]; exact hPk), va_K.moved hW.alike hKk, kDA_self hDk⟩, (kw_same hPk ht).2⟩) (fun q h => absurd h List.not_mem_nil) dX10_bid_39
      · skip
        rcases (hgk jg hjg) with hk | hk | hk
        · skip
          have hks : kAll (cF cA zc) [(0, 0), (0, 7), (2, jg), (5, 0)] [cTPA zc, cR7 cA zc, cGaK zc jg 1, cAuB zc] := ⟨(kF_tpA (z := zc) hcur), (kF_r7 (cA := cA) (z := zc)), (kF_gaK (z := zc) (j := jg) hjg hk), (kF_auB (z := zc) hcur hbd), trivial⟩
          have hP : va_P (dC, dI) vwCl [cTPA zc, cR7 cA zc, cGaK zc jg 1, cAuB zc] s.heap := kAll_P hPk hks
          have hD : va_D (va_A [cTPA zc, cR7 cA zc, cGaK zc jg 1, cAuB zc] s.heap.size) [cTPA zc, cR7 cA zc, cGaK zc jg 1, cAuB zc] := (kAll_D hDk hks (by simp)).self
          have hA : ∀ q : Nat, s.heap.size ≤ q → va_A [cTPA zc, cR7 cA zc, cGaK zc jg 1, cAuB zc] s.heap.size q := fun q h => Or.inr h
          have hS : va_S (va_A [cTPA zc, cR7 cA zc, cGaK zc jg 1, cAuB zc] s.heap.size) s.heap s.heap [] := va_S.rf
          refine lv_aload_n hx hb dX10_bid_0 rfl (lv_at hl 0 rfl) ?_
          refine lv_iload_n hx hb dX10_bid_1 rfl (lv_at hl 1 rfl) ?_
          have hPc := hP.sub (ws' := [cTPA zc, cR7 cA zc]) [0, 1] rfl
          have hDc := hD.sub (ws' := [cTPA zc, cR7 cA zc]) [0, 1] (by decide) rfl
          have hKc := hK.sub (tys' := [(cA 2, .object RX2)]) [2] rfl
          refine va_csq (va_Run.run (va_runV (As := [.int (nI jg)]) (rest := []) ⟨hx, hb, hml, hown, hts⟩ (s_gangAt_yes l dC dI (cA 2) _ (cs_X zc 0 0) (.ref (cs_X zc 0 1)) (.ref (cs_X zc 0 6)) (.ref (cs_X zc 0 8)) (.ref (cs_X zc 0 9)) (.ref (cs_X zc 0 10)) (.ref (cs_X zc 0 11)) (.int (nI (cs_n zc 0))) (.int (nI (cs_n zc 2))) (.int (nI (cs_n zc 3))) (.ref (cs_X zc 5 0)) (.int (cs_i zc 2)) (cs_X zc 0 7) jg (cs_n zc 1) (cs_X zc 2 jg) (rfN (cs_n zc 1) (cs_X zc 2)) hjg (by omega) (rfN_at hjg)) (cwV 1 hts gX10_bid_X10_gangAt rfl rfl rfl (by decide +kernel) ⟨Nat.le_of_ble_eq_true rfl, Nat.le_of_ble_eq_true rfl⟩) (pw_preV (va_recv hKc hPc (ci := 10) (q0 := 0) rfl rfl) hPc hKc hDc hN) rfl rfl hl.1 rfl (lv_room (Nat.le_of_ble_eq_true rfl)) dX10_bid_2 ⟨Nat.le_of_ble_eq_true rfl, Nat.le_of_ble_eq_true rfl⟩)) (fun r24 hr24 => ?_)
          have hr24 : r24 = some (cs_X zc 2 jg) := hr24
          subst hr24
          refine W.eq (g2 := F0 m 5 ls [.ref (cs_X zc 2 jg)]) rfl ?_
          refine lv_astore_n (lv' := [(3, .ref (cs_X zc 2 jg)), (0, .ref (cs_X zc 0 0)), (1, .int (nI jg)), (2, .int sv)]) hx hb dX10_bid_5 rfl hl (by decide) rfl (fun ls hl => ?_)
          refine lv_aload_n hx hb dX10_bid_6 rfl (lv_at hl 0 rfl) ?_
          refine lv_ifnonnull (tgt := 12) hx hb dX10_bid_7 (by decide) ?_
          refine lv_aload_n hx hb dX10_bid_12 rfl (lv_at hl 1 rfl) ?_
          refine va_get (D := (dC, dI)) (ci := 10) (v := .ref (cs_X zc 5 0)) (C := RX10) (T := TX10) (N := 13) hx hb hts hiX10 hown hK hP 0 rfl rfl 11 (by decide) (hts (.fieldLink RX10 163 "TributePitches" "current" "LTributePitches$Auction;") (List.mem_of_getElem? (i := 1) rfl)) (fun _ h9 => h9) rfl dX10_bid_13 ?_
          refine lv_ifnonnull (tgt := 22) hx hb dX10_bid_16 (by decide) ?_
          refine lv_iload_n hx hb dX10_bid_22 rfl (lv_at hl 3 rfl) ?_
          refine lv_iconst (v := 1) hx hb dX10_bid_23 (by decide) ?_
          refine lv_aload_n hx hb dX10_bid_24 rfl (lv_at hl 1 rfl) ?_
          refine va_get (D := (dC, dI)) (ci := 10) (v := .ref (cs_X zc 5 0)) (C := RX10) (T := TX10) (N := 13) hx hb hts hiX10 hown hK hP 0 rfl rfl 11 (by decide) (hts (.fieldLink RX10 163 "TributePitches" "current" "LTributePitches$Auction;") (List.mem_of_getElem? (i := 1) rfl)) (fun _ h9 => h9) rfl dX10_bid_25 ?_
          have hPc := hP.sub (ws' := [cAuB zc]) [3] rfl
          have hDc := hD.sub (ws' := [cAuB zc]) [3] (by decide) rfl
          have hKc := hK.sub (tys' := []) [] rfl
          refine vp_callSi (va_Run.run (va_runV (As := []) (rest := [.int 1, .int sv]) ⟨hx, hb, hml, hown, hts⟩ (s_mostShare l dC dI  _ (cs_X zc 5 0) (.ref (cs_X zc 1 (cs_n zc 4 - 1))) (.ref (cs_X zc 2 (cs_n zc 5 - 1))) (cs_i zc 3) (cs_i zc 4) ) (cwV 0 hts gX10_bid_X0_mostShare rfl rfl rfl (by decide +kernel) ⟨Nat.le_of_ble_eq_true rfl, Nat.le_of_ble_eq_true rfl⟩) (pw_preV (va_recv hKc hPc (ci := 0) (q0 := 0) rfl rfl) hPc hKc hDc hN) rfl rfl hl.1 rfl (lv_room (Nat.le_of_ble_eq_true rfl)) dX10_bid_28 ⟨Nat.le_of_ble_eq_true rfl, Nat.le_of_ble_eq_true rfl⟩)) (fun r25 hr25 => ?_)
          have hr25 : r25 = if (cs_i zc 4) = 0 then (cs_i zc 3) else (cs_i zc 3) - 1 := hr25
          have hr25 := hr25.symm
          subst hr25
          refine W.eq (g2 := F0 m 31 ls [.int (if (cs_i zc 4) = 0 then (cs_i zc 3) else (cs_i zc 3) - 1), .int 1, .int sv]) rfl ?_
          refine vp_callSi (va_Run.run (va_runS (As := [.int sv, .int 1, .int (if (cs_i zc 4) = 0 then (cs_i zc 3) else (cs_i zc 3) - 1)]) (rest := []) ⟨hx, hb, hml, hown, hts⟩ (c_X10_isWithin l sv 1 (if (cs_i zc 4) = 0 then (cs_i zc 3) else (cs_i zc 3) - 1) ) (va_cwS 3 hts gX10_bid_X10_isWithin rfl rfl rfl (by decide +kernel) ⟨Nat.le_of_ble_eq_true rfl, Nat.le_of_ble_eq_true rfl⟩) (p0_preS hN) rfl rfl hl.1 rfl (lv_room (Nat.le_of_ble_eq_true rfl)) dX10_bid_31 ⟨Nat.le_of_ble_eq_true rfl, Nat.le_of_ble_eq_true rfl⟩)) (fun r26 hr26 => ?_)
          have hr26 : r26 = if 1 ≤ sv ∧ sv ≤ (if (cs_i zc 4) = 0 then (cs_i zc 3) else (cs_i zc 3) - 1) then 1 else 0 := hr26
          refine lv_if_ne (tgt := 40) hx hb dX10_bid_34 (by decide) (fun c27 => ?_) (fun c27 => ?_)
          · skip
            have c27 := (fa_bool_prop hr26).2.mp c27
            refine lv_aload_n hx hb dX10_bid_40 rfl (lv_at hl 1 rfl) ?_
            refine va_get (D := (dC, dI)) (ci := 10) (v := .ref (cs_X zc 5 0)) (C := RX10) (T := TX10) (N := 13) hx hb hts hiX10 hown hK hP 0 rfl rfl 11 (by decide) (hts (.fieldLink RX10 163 "TributePitches" "current" "LTributePitches$Auction;") (List.mem_of_getElem? (i := 1) rfl)) (fun _ h9 => h9) rfl dX10_bid_41 ?_
            refine va_get (D := (dC, dI)) (ci := 0) (v := .ref (cs_X zc 2 (cs_n zc 5 - 1))) (C := RX0) (T := TX0) (N := 4) hx hb hts hiX0 hown hK hP 3 rfl rfl 3 (by decide) (hts (.fieldLink RX10 180 "TributePitches$Auction" "bidder" "LTributePitches$Gang;") (List.mem_of_getElem? (i := 2) rfl)) (fun _ h9 => h9) rfl dX10_bid_44 ?_
            refine lv_aload_n hx hb dX10_bid_47 rfl (lv_at hl 0 rfl) ?_
            refine lv_acmp_eq (rx := (some (cs_X zc 2 (cs_n zc 5 - 1)))) (ry := (some (cs_X zc 2 jg))) (tgt := 59) hx hb dX10_bid_48 (by decide) (fun c28 => ?_) (fun c28 => ?_)
            · skip
              have c28 : cs_n zc 5 - 1 = jg := (hDk 2 _ 2 _ _ _ (kF_ga (cA := cA) (z := zc) (j := cs_n zc 5 - 1) (by omega)) (kF_ga (cA := cA) (z := zc) (j := jg) hjg) (Option.some.inj c28)).2
              refine lv_bipush (v := (-3)) hx hb dX10_bid_59 (by decide) ?_
              subst hQ
              exact W.iret (v := (-3)) hx hb hr (fun t ht hW => ⟨⟨(-3), zc, rfl, ⟨⟨hI, rfl⟩, (Or.inr (Or.inr (Or.inr (Or.inr (Or.inr (Or.inr (Or.inr (Or.inr (Or.inr (Or.inr (Or.inr (Or.inr (Or.inr (Or.inr (Or.inl ⟨jg, rfl, hjg, hcur, hbd, hk, c27, c28, rfl, rfl⟩)))))))))))))))⟩, (by rw [ht]; exact hPk), va_K.moved hW.alike hKk, kDA_self hDk⟩, (kw_same hPk ht).2⟩) (fun q h => absurd h List.not_mem_nil) dX10_bid_61
            · skip
              have c28 : ¬ cs_n zc 5 - 1 = jg := fun q => c28 (by rw [q])
              refine lv_aload_n hx hb dX10_bid_51 rfl (lv_at hl 0 rfl) ?_
              refine va_get (D := (dC, dI)) (ci := 1) (v := .int (cs_I zc 22 jg)) (C := RX1) (T := TX1) (N := 4) hx hb hts hiX1 hown hK hP 2 rfl rfl 2 (by decide) (hts (.fieldLink RX10 184 "TributePitches$Gang" "letPitches" "I") (List.mem_of_getElem? (i := 3) rfl)) (fun _ h9 => h9) rfl dX10_bid_52 ?_
              refine lv_iconst (v := 3) hx hb dX10_bid_55 (by decide) ?_
              refine lv_icmp_lt (tgt := 62) hx hb dX10_bid_56 (by decide) (fun c29 => ?_) (fun c29 => ?_)
              · skip
                refine lv_aload_n hx hb dX10_bid_62 rfl (lv_at hl 1 rfl) ?_
                refine va_get (D := (dC, dI)) (ci := 10) (v := .ref (cs_X zc 5 0)) (C := RX10) (T := TX10) (N := 13) hx hb hts hiX10 hown hK hP 0 rfl rfl 11 (by decide) (hts (.fieldLink RX10 163 "TributePitches" "current" "LTributePitches$Auction;") (List.mem_of_getElem? (i := 1) rfl)) (fun _ h9 => h9) rfl dX10_bid_63 ?_
                refine va_get (D := (dC, dI)) (ci := 0) (v := .int (cs_i zc 4)) (C := RX0) (T := TX0) (N := 4) hx hb hts hiX0 hown hK hP 3 rfl rfl 2 (by decide) (hts (.fieldLink RX10 187 "TributePitches$Auction" "bids" "I") (List.mem_of_getElem? (i := 4) rfl)) (fun _ h9 => h9) rfl dX10_bid_66 ?_
                refine lv_bipush (v := 20) hx hb dX10_bid_69 (by decide) ?_
                refine lv_icmp_lt (tgt := 77) hx hb dX10_bid_71 (by decide) (fun c30 => ?_) (fun c30 => ?_)
                · skip
                  refine lv_aload_n hx hb dX10_bid_77 rfl (lv_at hl 1 rfl) ?_
                  refine va_get (D := (dC, dI)) (ci := 10) (v := .ref (cs_X zc 5 0)) (C := RX10) (T := TX10) (N := 13) hx hb hts hiX10 hown hK hP 0 rfl rfl 11 (by decide) (hts (.fieldLink RX10 163 "TributePitches" "current" "LTributePitches$Auction;") (List.mem_of_getElem? (i := 1) rfl)) (fun _ h9 => h9) rfl dX10_bid_78 ?_
                  refine lv_aload_n hx hb dX10_bid_81 rfl (lv_at hl 0 rfl) ?_
                  refine va_put (D := (dC, dI)) (ci := 0) (v := .ref (cs_X zc 2 jg)) (ty := .object "TributePitches$Gang") (C := RX0) (T := TX0) (N := 4) hx hb hts hiX0 tyX0 tyX0_ok nmX0 hown hK hP hD hS 3 rfl rfl 3 (by decide) (hts (.fieldLink RX10 180 "TributePitches$Auction" "bidder" "LTributePitches$Gang;") (List.mem_of_getElem? (i := 2) rfl)) (fun _ h9 => h9) rfl (by decide +kernel) rfl rfl (Nat.le_of_ble_eq_true rfl) dX10_bid_82 (fun H locs hP hD hS => ?_)
                  have hP : va_P (dC, dI) vwCl [cTPA zc, cR7 cA zc, cGaK zc jg 1, (cs_X zc 5 0, .inr (0, [.ref (cs_X zc 1 (cs_n zc 4 - 1)), .int (cs_i zc 3), .int (cs_i zc 4), .ref (cs_X zc 2 jg)]))] H := hP
                  have hD : va_D _ [cTPA zc, cR7 cA zc, cGaK zc jg 1, (cs_X zc 5 0, .inr (0, [.ref (cs_X zc 1 (cs_n zc 4 - 1)), .int (cs_i zc 3), .int (cs_i zc 4), .ref (cs_X zc 2 jg)]))] := hD
                  refine lv_aload_n hx hb dX10_bid_85 rfl (lv_at hl 1 rfl) ?_
                  refine va_get (D := (dC, dI)) (ci := 10) (v := .ref (cs_X zc 5 0)) (C := RX10) (T := TX10) (N := 13) hx hb hts hiX10 hown hK hP 0 rfl rfl 11 (by decide) (hts (.fieldLink RX10 163 "TributePitches" "current" "LTributePitches$Auction;") (List.mem_of_getElem? (i := 1) rfl)) (fun _ h9 => h9) rfl dX10_bid_86 ?_
                  refine lv_iload_n hx hb dX10_bid_89 rfl (lv_at hl 3 rfl) ?_
                  refine va_put (D := (dC, dI)) (ci := 0) (v := .int sv) (ty := .int) (C := RX0) (T := TX0) (N := 4) hx hb hts hiX0 tyX0 tyX0_ok nmX0 hown hK hP hD hS 3 rfl rfl 1 (by decide) (hts (.fieldLink RX10 190 "TributePitches$Auction" "share" "I") (List.mem_of_getElem? (i := 5) rfl)) (fun _ h9 => h9) rfl (by decide +kernel) rfl rfl (Nat.le_of_ble_eq_true rfl) dX10_bid_90 (fun H locs hP hD hS => ?_)
                  have hP : va_P (dC, dI) vwCl [cTPA zc, cR7 cA zc, cGaK zc jg 1, (cs_X zc 5 0, .inr (0, [.ref (cs_X zc 1 (cs_n zc 4 - 1)), .int sv, .int (cs_i zc 4), .ref (cs_X zc 2 jg)]))] H := hP
                  have hD : va_D _ [cTPA zc, cR7 cA zc, cGaK zc jg 1, (cs_X zc 5 0, .inr (0, [.ref (cs_X zc 1 (cs_n zc 4 - 1)), .int sv, .int (cs_i zc 4), .ref (cs_X zc 2 jg)]))] := hD
                  refine lv_aload_n hx hb dX10_bid_93 rfl (lv_at hl 1 rfl) ?_
                  refine va_get (D := (dC, dI)) (ci := 10) (v := .ref (cs_X zc 5 0)) (C := RX10) (T := TX10) (N := 13) hx hb hts hiX10 hown hK hP 0 rfl rfl 11 (by decide) (hts (.fieldLink RX10 163 "TributePitches" "current" "LTributePitches$Auction;") (List.mem_of_getElem? (i := 1) rfl)) (fun _ h9 => h9) rfl dX10_bid_94 ?_
                  refine lv_dup hx hb dX10_bid_97 rfl ?_
                  refine va_get (D := (dC, dI)) (ci := 0) (v := .int (cs_i zc 4)) (C := RX0) (T := TX0) (N := 4) hx hb hts hiX0 hown hK hP 3 rfl rfl 2 (by decide) (hts (.fieldLink RX10 187 "TributePitches$Auction" "bids" "I") (List.mem_of_getElem? (i := 4) rfl)) (fun _ h9 => h9) rfl dX10_bid_98 ?_
                  refine lv_iconst (v := 1) hx hb dX10_bid_101 (by decide) ?_
                  refine lv_iadd hx hb dX10_bid_102 ?_
                  refine va_put (D := (dC, dI)) (ci := 0) (v := .int ((cs_i zc 4) + 1)) (ty := .int) (C := RX0) (T := TX0) (N := 4) hx hb hts hiX0 tyX0 tyX0_ok nmX0 hown hK hP hD hS 3 rfl rfl 2 (by decide) (hts (.fieldLink RX10 187 "TributePitches$Auction" "bids" "I") (List.mem_of_getElem? (i := 4) rfl)) (fun _ h9 => h9) rfl (by decide +kernel) rfl rfl (Nat.le_of_ble_eq_true rfl) dX10_bid_103 (fun H locs hP hD hS => ?_)
                  have hP : va_P (dC, dI) vwCl [cTPA zc, cR7 cA zc, cGaK zc jg 1, (cs_X zc 5 0, .inr (0, [.ref (cs_X zc 1 (cs_n zc 4 - 1)), .int sv, .int ((cs_i zc 4) + 1), .ref (cs_X zc 2 jg)]))] H := hP
                  have hD : va_D _ [cTPA zc, cR7 cA zc, cGaK zc jg 1, (cs_X zc 5 0, .inr (0, [.ref (cs_X zc 1 (cs_n zc 4 - 1)), .int sv, .int ((cs_i zc 4) + 1), .ref (cs_X zc 2 jg)]))] := hD
                  refine lv_aload_n hx hb dX10_bid_106 rfl (lv_at hl 1 rfl) ?_
                  refine va_get (D := (dC, dI)) (ci := 10) (v := .ref (cs_X zc 5 0)) (C := RX10) (T := TX10) (N := 13) hx hb hts hiX10 hown hK hP 0 rfl rfl 11 (by decide) (hts (.fieldLink RX10 163 "TributePitches" "current" "LTributePitches$Auction;") (List.mem_of_getElem? (i := 1) rfl)) (fun _ h9 => h9) rfl dX10_bid_107 ?_
                  refine va_get (D := (dC, dI)) (ci := 0) (v := .int ((cs_i zc 4) + 1)) (C := RX0) (T := TX0) (N := 4) hx hb hts hiX0 hown hK hP 3 rfl rfl 2 (by decide) (hts (.fieldLink RX10 187 "TributePitches$Auction" "bids" "I") (List.mem_of_getElem? (i := 4) rfl)) (fun _ h9 => h9) rfl dX10_bid_110 ?_
                  subst hQ
                  have hP9 : va_P (dC, dI) vwCl [cTPA zc, cR7 cA zc, cGaK zc jg 1, (cs_X zc 5 0, .inr (0, [.ref (cs_X zc 1 (cs_n zc 4 - 1)), .int sv, .int ((cs_i zc 4) + 1), .ref (cs_X zc 2 jg)]))] H := hP.sub [0, 1, 2, 3] rfl
                  have hD9 : va_D (va_A [cTPA zc, cR7 cA zc, cGaK zc jg 1, cAuB zc] s.heap.size) [cTPA zc, cR7 cA zc, cGaK zc jg 1, (cs_X zc 5 0, .inr (0, [.ref (cs_X zc 1 (cs_n zc 4 - 1)), .int sv, .int ((cs_i zc 4) + 1), .ref (cs_X zc 2 jg)]))] := hD.sub [0, 1, 2, 3] (by decide) rfl
                  have hlf := lf_bid_15 cA zc sv jg hjg hcur hbd hk c27 c28 c29 c30 hI
                  exact W.iret (v := (cs_i zc 4) + 1) hx hb hr (fun t ht hW => have hJ := kjoin hPk hDk hks rfl (hS.F ht) (by rw [ht]; exact hP9) hD9 hlf.2.1 hlf.2.2; ⟨⟨(cs_i zc 4) + 1, (va_up (va_up (cs_i zc) 3 sv) 4 ((cs_i zc 4) + 1), va_up (cs_n zc) 5 (jg + 1), cs_I zc, cs_L zc, cs_N zc, cs_S zc, cs_X zc), rfl, ⟨⟨hlf.1, rfl⟩, (Or.inr (Or.inr (Or.inr (Or.inr (Or.inr (Or.inr (Or.inr (Or.inr (Or.inr (Or.inr (Or.inr (Or.inr (Or.inr (Or.inr (Or.inr (Or.inl ⟨jg, rfl, hjg, hcur, hbd, hk, c27, c28, c29, c30, rfl, rfl⟩))))))))))))))))⟩, hJ.1, va_K.moved hW.alike hKk, hJ.2.1⟩, hJ.2.2⟩) (fun q h => kAll_A hks _ (hS.2.2 q h)) dX10_bid_113
                · skip
                  refine lv_bipush (v := (-4)) hx hb dX10_bid_74 (by decide) ?_
                  subst hQ
                  exact W.iret (v := (-4)) hx hb hr (fun t ht hW => ⟨⟨(-4), zc, rfl, ⟨⟨hI, rfl⟩, (Or.inr (Or.inr (Or.inr (Or.inr (Or.inr (Or.inr (Or.inr (Or.inr (Or.inr (Or.inr (Or.inr (Or.inr (Or.inr (Or.inr (Or.inr (Or.inr (Or.inl ⟨jg, rfl, hjg, hcur, hbd, hk, c27, c28, c29, c30, rfl, rfl⟩)))))))))))))))))⟩, (by rw [ht]; exact hPk), va_K.moved hW.alike hKk, kDA_self hDk⟩, (kw_same hPk ht).2⟩) (fun q h => absurd h List.not_mem_nil) dX10_bid_76
              · skip
                refine lv_bipush (v := (-3)) hx hb dX10_bid_59 (by decide) ?_
                subst hQ
                exact W.iret (v := (-3)) hx hb hr (fun t ht hW => ⟨⟨(-3), zc, rfl, ⟨⟨hI, rfl⟩, (Or.inr (Or.inr (Or.inr (Or.inr (Or.inr (Or.inr (Or.inr (Or.inr (Or.inr (Or.inr (Or.inr (Or.inr (Or.inr (Or.inr (Or.inr (Or.inr (Or.inr (Or.inl ⟨jg, rfl, hjg, hcur, hbd, hk, c27, c28, c29, rfl, rfl⟩))))))))))))))))))⟩, (by rw [ht]; exact hPk), va_K.moved hW.alike hKk, kDA_self hDk⟩, (kw_same hPk ht).2⟩) (fun q h => absurd h List.not_mem_nil) dX10_bid_61
          · skip
            have c27 := (fa_bool_prop hr26).1.mp c27
            refine lv_bipush (v := (-2)) hx hb dX10_bid_37 (by decide) ?_
            subst hQ
            exact W.iret (v := (-2)) hx hb hr (fun t ht hW => ⟨⟨(-2), zc, rfl, ⟨⟨hI, rfl⟩, (Or.inr (Or.inr (Or.inr (Or.inr (Or.inr (Or.inr (Or.inr (Or.inr (Or.inr (Or.inr (Or.inr (Or.inr (Or.inr (Or.inr (Or.inr (Or.inr (Or.inr (Or.inr (Or.inl ⟨jg, rfl, hjg, hcur, hbd, hk, c27, rfl, rfl⟩)))))))))))))))))))⟩, (by rw [ht]; exact hPk), va_K.moved hW.alike hKk, kDA_self hDk⟩, (kw_same hPk ht).2⟩) (fun q h => absurd h List.not_mem_nil) dX10_bid_39
        · skip
          have hks : kAll (cF cA zc) [(0, 0), (0, 7), (2, jg), (5, 0)] [cTPA zc, cR7 cA zc, cGaK zc jg 2, cAuB zc] := ⟨(kF_tpA (z := zc) hcur), (kF_r7 (cA := cA) (z := zc)), (kF_gaK (z := zc) (j := jg) hjg hk), (kF_auB (z := zc) hcur hbd), trivial⟩
          have hP : va_P (dC, dI) vwCl [cTPA zc, cR7 cA zc, cGaK zc jg 2, cAuB zc] s.heap := kAll_P hPk hks
          have hD : va_D (va_A [cTPA zc, cR7 cA zc, cGaK zc jg 2, cAuB zc] s.heap.size) [cTPA zc, cR7 cA zc, cGaK zc jg 2, cAuB zc] := (kAll_D hDk hks (by simp)).self
          have hA : ∀ q : Nat, s.heap.size ≤ q → va_A [cTPA zc, cR7 cA zc, cGaK zc jg 2, cAuB zc] s.heap.size q := fun q h => Or.inr h
          have hS : va_S (va_A [cTPA zc, cR7 cA zc, cGaK zc jg 2, cAuB zc] s.heap.size) s.heap s.heap [] := va_S.rf
          refine lv_aload_n hx hb dX10_bid_0 rfl (lv_at hl 0 rfl) ?_
          refine lv_iload_n hx hb dX10_bid_1 rfl (lv_at hl 1 rfl) ?_
          have hPc := hP.sub (ws' := [cTPA zc, cR7 cA zc]) [0, 1] rfl
          have hDc := hD.sub (ws' := [cTPA zc, cR7 cA zc]) [0, 1] (by decide) rfl
          have hKc := hK.sub (tys' := [(cA 2, .object RX2)]) [2] rfl
          refine va_csq (va_Run.run (va_runV (As := [.int (nI jg)]) (rest := []) ⟨hx, hb, hml, hown, hts⟩ (s_gangAt_yes l dC dI (cA 2) _ (cs_X zc 0 0) (.ref (cs_X zc 0 1)) (.ref (cs_X zc 0 6)) (.ref (cs_X zc 0 8)) (.ref (cs_X zc 0 9)) (.ref (cs_X zc 0 10)) (.ref (cs_X zc 0 11)) (.int (nI (cs_n zc 0))) (.int (nI (cs_n zc 2))) (.int (nI (cs_n zc 3))) (.ref (cs_X zc 5 0)) (.int (cs_i zc 2)) (cs_X zc 0 7) jg (cs_n zc 1) (cs_X zc 2 jg) (rfN (cs_n zc 1) (cs_X zc 2)) hjg (by omega) (rfN_at hjg)) (cwV 1 hts gX10_bid_X10_gangAt rfl rfl rfl (by decide +kernel) ⟨Nat.le_of_ble_eq_true rfl, Nat.le_of_ble_eq_true rfl⟩) (pw_preV (va_recv hKc hPc (ci := 10) (q0 := 0) rfl rfl) hPc hKc hDc hN) rfl rfl hl.1 rfl (lv_room (Nat.le_of_ble_eq_true rfl)) dX10_bid_2 ⟨Nat.le_of_ble_eq_true rfl, Nat.le_of_ble_eq_true rfl⟩)) (fun r31 hr31 => ?_)
          have hr31 : r31 = some (cs_X zc 2 jg) := hr31
          subst hr31
          refine W.eq (g2 := F0 m 5 ls [.ref (cs_X zc 2 jg)]) rfl ?_
          refine lv_astore_n (lv' := [(3, .ref (cs_X zc 2 jg)), (0, .ref (cs_X zc 0 0)), (1, .int (nI jg)), (2, .int sv)]) hx hb dX10_bid_5 rfl hl (by decide) rfl (fun ls hl => ?_)
          refine lv_aload_n hx hb dX10_bid_6 rfl (lv_at hl 0 rfl) ?_
          refine lv_ifnonnull (tgt := 12) hx hb dX10_bid_7 (by decide) ?_
          refine lv_aload_n hx hb dX10_bid_12 rfl (lv_at hl 1 rfl) ?_
          refine va_get (D := (dC, dI)) (ci := 10) (v := .ref (cs_X zc 5 0)) (C := RX10) (T := TX10) (N := 13) hx hb hts hiX10 hown hK hP 0 rfl rfl 11 (by decide) (hts (.fieldLink RX10 163 "TributePitches" "current" "LTributePitches$Auction;") (List.mem_of_getElem? (i := 1) rfl)) (fun _ h9 => h9) rfl dX10_bid_13 ?_
          refine lv_ifnonnull (tgt := 22) hx hb dX10_bid_16 (by decide) ?_
          refine lv_iload_n hx hb dX10_bid_22 rfl (lv_at hl 3 rfl) ?_
          refine lv_iconst (v := 1) hx hb dX10_bid_23 (by decide) ?_
          refine lv_aload_n hx hb dX10_bid_24 rfl (lv_at hl 1 rfl) ?_
          refine va_get (D := (dC, dI)) (ci := 10) (v := .ref (cs_X zc 5 0)) (C := RX10) (T := TX10) (N := 13) hx hb hts hiX10 hown hK hP 0 rfl rfl 11 (by decide) (hts (.fieldLink RX10 163 "TributePitches" "current" "LTributePitches$Auction;") (List.mem_of_getElem? (i := 1) rfl)) (fun _ h9 => h9) rfl dX10_bid_25 ?_
          have hPc := hP.sub (ws' := [cAuB zc]) [3] rfl
          have hDc := hD.sub (ws' := [cAuB zc]) [3] (by decide) rfl
          have hKc := hK.sub (tys' := []) [] rfl
          refine vp_callSi (va_Run.run (va_runV (As := []) (rest := [.int 1, .int sv]) ⟨hx, hb, hml, hown, hts⟩ (s_mostShare l dC dI  _ (cs_X zc 5 0) (.ref (cs_X zc 1 (cs_n zc 4 - 1))) (.ref (cs_X zc 2 (cs_n zc 5 - 1))) (cs_i zc 3) (cs_i zc 4) ) (cwV 0 hts gX10_bid_X0_mostShare rfl rfl rfl (by decide +kernel) ⟨Nat.le_of_ble_eq_true rfl, Nat.le_of_ble_eq_true rfl⟩) (pw_preV (va_recv hKc hPc (ci := 0) (q0 := 0) rfl rfl) hPc hKc hDc hN) rfl rfl hl.1 rfl (lv_room (Nat.le_of_ble_eq_true rfl)) dX10_bid_28 ⟨Nat.le_of_ble_eq_true rfl, Nat.le_of_ble_eq_true rfl⟩)) (fun r32 hr32 => ?_)
          have hr32 : r32 = if (cs_i zc 4) = 0 then (cs_i zc 3) else (cs_i zc 3) - 1 := hr32
          have hr32 := hr32.symm
          subst hr32
          refine W.eq (g2 := F0 m 31 ls [.int (if (cs_i zc 4) = 0 then (cs_i zc 3) else (cs_i zc 3) - 1), .int 1, .int sv]) rfl ?_
          refine vp_callSi (va_Run.run (va_runS (As := [.int sv, .int 1, .int (if (cs_i zc 4) = 0 then (cs_i zc 3) else (cs_i zc 3) - 1)]) (rest := []) ⟨hx, hb, hml, hown, hts⟩ (c_X10_isWithin l sv 1 (if (cs_i zc 4) = 0 then (cs_i zc 3) else (cs_i zc 3) - 1) ) (va_cwS 3 hts gX10_bid_X10_isWithin rfl rfl rfl (by decide +kernel) ⟨Nat.le_of_ble_eq_true rfl, Nat.le_of_ble_eq_true rfl⟩) (p0_preS hN) rfl rfl hl.1 rfl (lv_room (Nat.le_of_ble_eq_true rfl)) dX10_bid_31 ⟨Nat.le_of_ble_eq_true rfl, Nat.le_of_ble_eq_true rfl⟩)) (fun r33 hr33 => ?_)
          have hr33 : r33 = if 1 ≤ sv ∧ sv ≤ (if (cs_i zc 4) = 0 then (cs_i zc 3) else (cs_i zc 3) - 1) then 1 else 0 := hr33
          refine lv_if_ne (tgt := 40) hx hb dX10_bid_34 (by decide) (fun c34 => ?_) (fun c34 => ?_)
          · skip
            have c34 := (fa_bool_prop hr33).2.mp c34
            refine lv_aload_n hx hb dX10_bid_40 rfl (lv_at hl 1 rfl) ?_
            refine va_get (D := (dC, dI)) (ci := 10) (v := .ref (cs_X zc 5 0)) (C := RX10) (T := TX10) (N := 13) hx hb hts hiX10 hown hK hP 0 rfl rfl 11 (by decide) (hts (.fieldLink RX10 163 "TributePitches" "current" "LTributePitches$Auction;") (List.mem_of_getElem? (i := 1) rfl)) (fun _ h9 => h9) rfl dX10_bid_41 ?_
            refine va_get (D := (dC, dI)) (ci := 0) (v := .ref (cs_X zc 2 (cs_n zc 5 - 1))) (C := RX0) (T := TX0) (N := 4) hx hb hts hiX0 hown hK hP 3 rfl rfl 3 (by decide) (hts (.fieldLink RX10 180 "TributePitches$Auction" "bidder" "LTributePitches$Gang;") (List.mem_of_getElem? (i := 2) rfl)) (fun _ h9 => h9) rfl dX10_bid_44 ?_
            refine lv_aload_n hx hb dX10_bid_47 rfl (lv_at hl 0 rfl) ?_
            refine lv_acmp_eq (rx := (some (cs_X zc 2 (cs_n zc 5 - 1)))) (ry := (some (cs_X zc 2 jg))) (tgt := 59) hx hb dX10_bid_48 (by decide) (fun c35 => ?_) (fun c35 => ?_)
            · skip
              have c35 : cs_n zc 5 - 1 = jg := (hDk 2 _ 2 _ _ _ (kF_ga (cA := cA) (z := zc) (j := cs_n zc 5 - 1) (by omega)) (kF_ga (cA := cA) (z := zc) (j := jg) hjg) (Option.some.inj c35)).2
              refine lv_bipush (v := (-3)) hx hb dX10_bid_59 (by decide) ?_
              subst hQ
              exact W.iret (v := (-3)) hx hb hr (fun t ht hW => ⟨⟨(-3), zc, rfl, ⟨⟨hI, rfl⟩, (Or.inr (Or.inr (Or.inr (Or.inr (Or.inr (Or.inr (Or.inr (Or.inr (Or.inr (Or.inr (Or.inr (Or.inr (Or.inr (Or.inr (Or.inr (Or.inr (Or.inr (Or.inr (Or.inr (Or.inl ⟨jg, rfl, hjg, hcur, hbd, hk, c34, c35, rfl, rfl⟩))))))))))))))))))))⟩, (by rw [ht]; exact hPk), va_K.moved hW.alike hKk, kDA_self hDk⟩, (kw_same hPk ht).2⟩) (fun q h => absurd h List.not_mem_nil) dX10_bid_61
            · skip
              have c35 : ¬ cs_n zc 5 - 1 = jg := fun q => c35 (by rw [q])
              refine lv_aload_n hx hb dX10_bid_51 rfl (lv_at hl 0 rfl) ?_
              refine va_get (D := (dC, dI)) (ci := 2) (v := .int (cs_I zc 22 jg)) (C := RX2) (T := TX2) (N := 4) hx hb hts hiX2 hown hK hP 2 rfl rfl 2 (by decide) (hts (.fieldLink RX10 184 "TributePitches$Gang" "letPitches" "I") (List.mem_of_getElem? (i := 3) rfl)) (fun _ h9 => h9) rfl dX10_bid_52 ?_
              refine lv_iconst (v := 3) hx hb dX10_bid_55 (by decide) ?_
              refine lv_icmp_lt (tgt := 62) hx hb dX10_bid_56 (by decide) (fun c36 => ?_) (fun c36 => ?_)
              · skip
                refine lv_aload_n hx hb dX10_bid_62 rfl (lv_at hl 1 rfl) ?_
                refine va_get (D := (dC, dI)) (ci := 10) (v := .ref (cs_X zc 5 0)) (C := RX10) (T := TX10) (N := 13) hx hb hts hiX10 hown hK hP 0 rfl rfl 11 (by decide) (hts (.fieldLink RX10 163 "TributePitches" "current" "LTributePitches$Auction;") (List.mem_of_getElem? (i := 1) rfl)) (fun _ h9 => h9) rfl dX10_bid_63 ?_
                refine va_get (D := (dC, dI)) (ci := 0) (v := .int (cs_i zc 4)) (C := RX0) (T := TX0) (N := 4) hx hb hts hiX0 hown hK hP 3 rfl rfl 2 (by decide) (hts (.fieldLink RX10 187 "TributePitches$Auction" "bids" "I") (List.mem_of_getElem? (i := 4) rfl)) (fun _ h9 => h9) rfl dX10_bid_66 ?_
                refine lv_bipush (v := 20) hx hb dX10_bid_69 (by decide) ?_
                refine lv_icmp_lt (tgt := 77) hx hb dX10_bid_71 (by decide) (fun c37 => ?_) (fun c37 => ?_)
                · skip
                  refine lv_aload_n hx hb dX10_bid_77 rfl (lv_at hl 1 rfl) ?_
                  refine va_get (D := (dC, dI)) (ci := 10) (v := .ref (cs_X zc 5 0)) (C := RX10) (T := TX10) (N := 13) hx hb hts hiX10 hown hK hP 0 rfl rfl 11 (by decide) (hts (.fieldLink RX10 163 "TributePitches" "current" "LTributePitches$Auction;") (List.mem_of_getElem? (i := 1) rfl)) (fun _ h9 => h9) rfl dX10_bid_78 ?_
                  refine lv_aload_n hx hb dX10_bid_81 rfl (lv_at hl 0 rfl) ?_
                  refine va_put (D := (dC, dI)) (ci := 0) (v := .ref (cs_X zc 2 jg)) (ty := .object "TributePitches$Gang") (C := RX0) (T := TX0) (N := 4) hx hb hts hiX0 tyX0 tyX0_ok nmX0 hown hK hP hD hS 3 rfl rfl 3 (by decide) (hts (.fieldLink RX10 180 "TributePitches$Auction" "bidder" "LTributePitches$Gang;") (List.mem_of_getElem? (i := 2) rfl)) (fun _ h9 => h9) rfl (by decide +kernel) rfl rfl (Nat.le_of_ble_eq_true rfl) dX10_bid_82 (fun H locs hP hD hS => ?_)
                  have hP : va_P (dC, dI) vwCl [cTPA zc, cR7 cA zc, cGaK zc jg 2, (cs_X zc 5 0, .inr (0, [.ref (cs_X zc 1 (cs_n zc 4 - 1)), .int (cs_i zc 3), .int (cs_i zc 4), .ref (cs_X zc 2 jg)]))] H := hP
                  have hD : va_D _ [cTPA zc, cR7 cA zc, cGaK zc jg 2, (cs_X zc 5 0, .inr (0, [.ref (cs_X zc 1 (cs_n zc 4 - 1)), .int (cs_i zc 3), .int (cs_i zc 4), .ref (cs_X zc 2 jg)]))] := hD
                  refine lv_aload_n hx hb dX10_bid_85 rfl (lv_at hl 1 rfl) ?_
                  refine va_get (D := (dC, dI)) (ci := 10) (v := .ref (cs_X zc 5 0)) (C := RX10) (T := TX10) (N := 13) hx hb hts hiX10 hown hK hP 0 rfl rfl 11 (by decide) (hts (.fieldLink RX10 163 "TributePitches" "current" "LTributePitches$Auction;") (List.mem_of_getElem? (i := 1) rfl)) (fun _ h9 => h9) rfl dX10_bid_86 ?_
                  refine lv_iload_n hx hb dX10_bid_89 rfl (lv_at hl 3 rfl) ?_
                  refine va_put (D := (dC, dI)) (ci := 0) (v := .int sv) (ty := .int) (C := RX0) (T := TX0) (N := 4) hx hb hts hiX0 tyX0 tyX0_ok nmX0 hown hK hP hD hS 3 rfl rfl 1 (by decide) (hts (.fieldLink RX10 190 "TributePitches$Auction" "share" "I") (List.mem_of_getElem? (i := 5) rfl)) (fun _ h9 => h9) rfl (by decide +kernel) rfl rfl (Nat.le_of_ble_eq_true rfl) dX10_bid_90 (fun H locs hP hD hS => ?_)
                  have hP : va_P (dC, dI) vwCl [cTPA zc, cR7 cA zc, cGaK zc jg 2, (cs_X zc 5 0, .inr (0, [.ref (cs_X zc 1 (cs_n zc 4 - 1)), .int sv, .int (cs_i zc 4), .ref (cs_X zc 2 jg)]))] H := hP
                  have hD : va_D _ [cTPA zc, cR7 cA zc, cGaK zc jg 2, (cs_X zc 5 0, .inr (0, [.ref (cs_X zc 1 (cs_n zc 4 - 1)), .int sv, .int (cs_i zc 4), .ref (cs_X zc 2 jg)]))] := hD
                  refine lv_aload_n hx hb dX10_bid_93 rfl (lv_at hl 1 rfl) ?_
                  refine va_get (D := (dC, dI)) (ci := 10) (v := .ref (cs_X zc 5 0)) (C := RX10) (T := TX10) (N := 13) hx hb hts hiX10 hown hK hP 0 rfl rfl 11 (by decide) (hts (.fieldLink RX10 163 "TributePitches" "current" "LTributePitches$Auction;") (List.mem_of_getElem? (i := 1) rfl)) (fun _ h9 => h9) rfl dX10_bid_94 ?_
                  refine lv_dup hx hb dX10_bid_97 rfl ?_
                  refine va_get (D := (dC, dI)) (ci := 0) (v := .int (cs_i zc 4)) (C := RX0) (T := TX0) (N := 4) hx hb hts hiX0 hown hK hP 3 rfl rfl 2 (by decide) (hts (.fieldLink RX10 187 "TributePitches$Auction" "bids" "I") (List.mem_of_getElem? (i := 4) rfl)) (fun _ h9 => h9) rfl dX10_bid_98 ?_
                  refine lv_iconst (v := 1) hx hb dX10_bid_101 (by decide) ?_
                  refine lv_iadd hx hb dX10_bid_102 ?_
                  refine va_put (D := (dC, dI)) (ci := 0) (v := .int ((cs_i zc 4) + 1)) (ty := .int) (C := RX0) (T := TX0) (N := 4) hx hb hts hiX0 tyX0 tyX0_ok nmX0 hown hK hP hD hS 3 rfl rfl 2 (by decide) (hts (.fieldLink RX10 187 "TributePitches$Auction" "bids" "I") (List.mem_of_getElem? (i := 4) rfl)) (fun _ h9 => h9) rfl (by decide +kernel) rfl rfl (Nat.le_of_ble_eq_true rfl) dX10_bid_103 (fun H locs hP hD hS => ?_)
                  have hP : va_P (dC, dI) vwCl [cTPA zc, cR7 cA zc, cGaK zc jg 2, (cs_X zc 5 0, .inr (0, [.ref (cs_X zc 1 (cs_n zc 4 - 1)), .int sv, .int ((cs_i zc 4) + 1), .ref (cs_X zc 2 jg)]))] H := hP
                  have hD : va_D _ [cTPA zc, cR7 cA zc, cGaK zc jg 2, (cs_X zc 5 0, .inr (0, [.ref (cs_X zc 1 (cs_n zc 4 - 1)), .int sv, .int ((cs_i zc 4) + 1), .ref (cs_X zc 2 jg)]))] := hD
                  refine lv_aload_n hx hb dX10_bid_106 rfl (lv_at hl 1 rfl) ?_
                  refine va_get (D := (dC, dI)) (ci := 10) (v := .ref (cs_X zc 5 0)) (C := RX10) (T := TX10) (N := 13) hx hb hts hiX10 hown hK hP 0 rfl rfl 11 (by decide) (hts (.fieldLink RX10 163 "TributePitches" "current" "LTributePitches$Auction;") (List.mem_of_getElem? (i := 1) rfl)) (fun _ h9 => h9) rfl dX10_bid_107 ?_
                  refine va_get (D := (dC, dI)) (ci := 0) (v := .int ((cs_i zc 4) + 1)) (C := RX0) (T := TX0) (N := 4) hx hb hts hiX0 hown hK hP 3 rfl rfl 2 (by decide) (hts (.fieldLink RX10 187 "TributePitches$Auction" "bids" "I") (List.mem_of_getElem? (i := 4) rfl)) (fun _ h9 => h9) rfl dX10_bid_110 ?_
                  subst hQ
                  have hP9 : va_P (dC, dI) vwCl [cTPA zc, cR7 cA zc, cGaK zc jg 2, (cs_X zc 5 0, .inr (0, [.ref (cs_X zc 1 (cs_n zc 4 - 1)), .int sv, .int ((cs_i zc 4) + 1), .ref (cs_X zc 2 jg)]))] H := hP.sub [0, 1, 2, 3] rfl
                  have hD9 : va_D (va_A [cTPA zc, cR7 cA zc, cGaK zc jg 2, cAuB zc] s.heap.size) [cTPA zc, cR7 cA zc, cGaK zc jg 2, (cs_X zc 5 0, .inr (0, [.ref (cs_X zc 1 (cs_n zc 4 - 1)), .int sv, .int ((cs_i zc 4) + 1), .ref (cs_X zc 2 jg)]))] := hD.sub [0, 1, 2, 3] (by decide) rfl
                  have hlf := lf_bid_20 cA zc sv jg hjg hcur hbd hk c34 c35 c36 c37 hI
                  exact W.iret (v := (cs_i zc 4) + 1) hx hb hr (fun t ht hW => have hJ := kjoin hPk hDk hks rfl (hS.F ht) (by rw [ht]; exact hP9) hD9 hlf.2.1 hlf.2.2; ⟨⟨(cs_i zc 4) + 1, (va_up (va_up (cs_i zc) 3 sv) 4 ((cs_i zc 4) + 1), va_up (cs_n zc) 5 (jg + 1), cs_I zc, cs_L zc, cs_N zc, cs_S zc, cs_X zc), rfl, ⟨⟨hlf.1, rfl⟩, (Or.inr (Or.inr (Or.inr (Or.inr (Or.inr (Or.inr (Or.inr (Or.inr (Or.inr (Or.inr (Or.inr (Or.inr (Or.inr (Or.inr (Or.inr (Or.inr (Or.inr (Or.inr (Or.inr (Or.inr (Or.inl ⟨jg, rfl, hjg, hcur, hbd, hk, c34, c35, c36, c37, rfl, rfl⟩)))))))))))))))))))))⟩, hJ.1, va_K.moved hW.alike hKk, hJ.2.1⟩, hJ.2.2⟩) (fun q h => kAll_A hks _ (hS.2.2 q h)) dX10_bid_113
                · skip
                  refine lv_bipush (v := (-4)) hx hb dX10_bid_74 (by decide) ?_
                  subst hQ
                  exact W.iret (v := (-4)) hx hb hr (fun t ht hW => ⟨⟨(-4), zc, rfl, ⟨⟨hI, rfl⟩, (Or.inr (Or.inr (Or.inr (Or.inr (Or.inr (Or.inr (Or.inr (Or.inr (Or.inr (Or.inr (Or.inr (Or.inr (Or.inr (Or.inr (Or.inr (Or.inr (Or.inr (Or.inr (Or.inr (Or.inr (Or.inr (Or.inl ⟨jg, rfl, hjg, hcur, hbd, hk, c34, c35, c36, c37, rfl, rfl⟩))))))))))))))))))))))⟩, (by rw [ht]; exact hPk), va_K.moved hW.alike hKk, kDA_self hDk⟩, (kw_same hPk ht).2⟩) (fun q h => absurd h List.not_mem_nil) dX10_bid_76
              · skip
                refine lv_bipush (v := (-3)) hx hb dX10_bid_59 (by decide) ?_
                subst hQ
                exact W.iret (v := (-3)) hx hb hr (fun t ht hW => ⟨⟨(-3), zc, rfl, ⟨⟨hI, rfl⟩, (Or.inr (Or.inr (Or.inr (Or.inr (Or.inr (Or.inr (Or.inr (Or.inr (Or.inr (Or.inr (Or.inr (Or.inr (Or.inr (Or.inr (Or.inr (Or.inr (Or.inr (Or.inr (Or.inr (Or.inr (Or.inr (Or.inr (Or.inl ⟨jg, rfl, hjg, hcur, hbd, hk, c34, c35, c36, rfl, rfl⟩)))))))))))))))))))))))⟩, (by rw [ht]; exact hPk), va_K.moved hW.alike hKk, kDA_self hDk⟩, (kw_same hPk ht).2⟩) (fun q h => absurd h List.not_mem_nil) dX10_bid_61
          · skip
            have c34 := (fa_bool_prop hr33).1.mp c34
            refine lv_bipush (v := (-2)) hx hb dX10_bid_37 (by decide) ?_
            subst hQ
            exact W.iret (v := (-2)) hx hb hr (fun t ht hW => ⟨⟨(-2), zc, rfl, ⟨⟨hI, rfl⟩, (Or.inr (Or.inr (Or.inr (Or.inr (Or.inr (Or.inr (Or.inr (Or.inr (Or.inr (Or.inr (Or.inr (Or.inr (Or.inr (Or.inr (Or.inr (Or.inr (Or.inr (Or.inr (Or.inr (Or.inr (Or.inr (Or.inr (Or.inr (Or.inl ⟨jg, rfl, hjg, hcur, hbd, hk, c34, rfl, rfl⟩))))))))))))))))))))))))⟩, (by rw [ht]; exact hPk), va_K.moved hW.alike hKk, kDA_self hDk⟩, (kw_same hPk ht).2⟩) (fun q h => absurd h List.not_mem_nil) dX10_bid_39
        · skip
          have hks : kAll (cF cA zc) [(0, 0), (0, 7), (2, jg), (5, 0)] [cTPA zc, cR7 cA zc, cGaK zc jg 4, cAuB zc] := ⟨(kF_tpA (z := zc) hcur), (kF_r7 (cA := cA) (z := zc)), (kF_gaK (z := zc) (j := jg) hjg hk), (kF_auB (z := zc) hcur hbd), trivial⟩
          have hP : va_P (dC, dI) vwCl [cTPA zc, cR7 cA zc, cGaK zc jg 4, cAuB zc] s.heap := kAll_P hPk hks
          have hD : va_D (va_A [cTPA zc, cR7 cA zc, cGaK zc jg 4, cAuB zc] s.heap.size) [cTPA zc, cR7 cA zc, cGaK zc jg 4, cAuB zc] := (kAll_D hDk hks (by simp)).self
          have hA : ∀ q : Nat, s.heap.size ≤ q → va_A [cTPA zc, cR7 cA zc, cGaK zc jg 4, cAuB zc] s.heap.size q := fun q h => Or.inr h
          have hS : va_S (va_A [cTPA zc, cR7 cA zc, cGaK zc jg 4, cAuB zc] s.heap.size) s.heap s.heap [] := va_S.rf
          refine lv_aload_n hx hb dX10_bid_0 rfl (lv_at hl 0 rfl) ?_
          refine lv_iload_n hx hb dX10_bid_1 rfl (lv_at hl 1 rfl) ?_
          have hPc := hP.sub (ws' := [cTPA zc, cR7 cA zc]) [0, 1] rfl
          have hDc := hD.sub (ws' := [cTPA zc, cR7 cA zc]) [0, 1] (by decide) rfl
          have hKc := hK.sub (tys' := [(cA 2, .object RX2)]) [2] rfl
          refine va_csq (va_Run.run (va_runV (As := [.int (nI jg)]) (rest := []) ⟨hx, hb, hml, hown, hts⟩ (s_gangAt_yes l dC dI (cA 2) _ (cs_X zc 0 0) (.ref (cs_X zc 0 1)) (.ref (cs_X zc 0 6)) (.ref (cs_X zc 0 8)) (.ref (cs_X zc 0 9)) (.ref (cs_X zc 0 10)) (.ref (cs_X zc 0 11)) (.int (nI (cs_n zc 0))) (.int (nI (cs_n zc 2))) (.int (nI (cs_n zc 3))) (.ref (cs_X zc 5 0)) (.int (cs_i zc 2)) (cs_X zc 0 7) jg (cs_n zc 1) (cs_X zc 2 jg) (rfN (cs_n zc 1) (cs_X zc 2)) hjg (by omega) (rfN_at hjg)) (cwV 1 hts gX10_bid_X10_gangAt rfl rfl rfl (by decide +kernel) ⟨Nat.le_of_ble_eq_true rfl, Nat.le_of_ble_eq_true rfl⟩) (pw_preV (va_recv hKc hPc (ci := 10) (q0 := 0) rfl rfl) hPc hKc hDc hN) rfl rfl hl.1 rfl (lv_room (Nat.le_of_ble_eq_true rfl)) dX10_bid_2 ⟨Nat.le_of_ble_eq_true rfl, Nat.le_of_ble_eq_true rfl⟩)) (fun r38 hr38 => ?_)
          have hr38 : r38 = some (cs_X zc 2 jg) := hr38
          subst hr38
          refine W.eq (g2 := F0 m 5 ls [.ref (cs_X zc 2 jg)]) rfl ?_
          refine lv_astore_n (lv' := [(3, .ref (cs_X zc 2 jg)), (0, .ref (cs_X zc 0 0)), (1, .int (nI jg)), (2, .int sv)]) hx hb dX10_bid_5 rfl hl (by decide) rfl (fun ls hl => ?_)
          refine lv_aload_n hx hb dX10_bid_6 rfl (lv_at hl 0 rfl) ?_
          refine lv_ifnonnull (tgt := 12) hx hb dX10_bid_7 (by decide) ?_
          refine lv_aload_n hx hb dX10_bid_12 rfl (lv_at hl 1 rfl) ?_
          refine va_get (D := (dC, dI)) (ci := 10) (v := .ref (cs_X zc 5 0)) (C := RX10) (T := TX10) (N := 13) hx hb hts hiX10 hown hK hP 0 rfl rfl 11 (by decide) (hts (.fieldLink RX10 163 "TributePitches" "current" "LTributePitches$Auction;") (List.mem_of_getElem? (i := 1) rfl)) (fun _ h9 => h9) rfl dX10_bid_13 ?_
          refine lv_ifnonnull (tgt := 22) hx hb dX10_bid_16 (by decide) ?_
          refine lv_iload_n hx hb dX10_bid_22 rfl (lv_at hl 3 rfl) ?_
          refine lv_iconst (v := 1) hx hb dX10_bid_23 (by decide) ?_
          refine lv_aload_n hx hb dX10_bid_24 rfl (lv_at hl 1 rfl) ?_
          refine va_get (D := (dC, dI)) (ci := 10) (v := .ref (cs_X zc 5 0)) (C := RX10) (T := TX10) (N := 13) hx hb hts hiX10 hown hK hP 0 rfl rfl 11 (by decide) (hts (.fieldLink RX10 163 "TributePitches" "current" "LTributePitches$Auction;") (List.mem_of_getElem? (i := 1) rfl)) (fun _ h9 => h9) rfl dX10_bid_25 ?_
          have hPc := hP.sub (ws' := [cAuB zc]) [3] rfl
          have hDc := hD.sub (ws' := [cAuB zc]) [3] (by decide) rfl
          have hKc := hK.sub (tys' := []) [] rfl
          refine vp_callSi (va_Run.run (va_runV (As := []) (rest := [.int 1, .int sv]) ⟨hx, hb, hml, hown, hts⟩ (s_mostShare l dC dI  _ (cs_X zc 5 0) (.ref (cs_X zc 1 (cs_n zc 4 - 1))) (.ref (cs_X zc 2 (cs_n zc 5 - 1))) (cs_i zc 3) (cs_i zc 4) ) (cwV 0 hts gX10_bid_X0_mostShare rfl rfl rfl (by decide +kernel) ⟨Nat.le_of_ble_eq_true rfl, Nat.le_of_ble_eq_true rfl⟩) (pw_preV (va_recv hKc hPc (ci := 0) (q0 := 0) rfl rfl) hPc hKc hDc hN) rfl rfl hl.1 rfl (lv_room (Nat.le_of_ble_eq_true rfl)) dX10_bid_28 ⟨Nat.le_of_ble_eq_true rfl, Nat.le_of_ble_eq_true rfl⟩)) (fun r39 hr39 => ?_)
          have hr39 : r39 = if (cs_i zc 4) = 0 then (cs_i zc 3) else (cs_i zc 3) - 1 := hr39
          have hr39 := hr39.symm
          subst hr39
          refine W.eq (g2 := F0 m 31 ls [.int (if (cs_i zc 4) = 0 then (cs_i zc 3) else (cs_i zc 3) - 1), .int 1, .int sv]) rfl ?_
          refine vp_callSi (va_Run.run (va_runS (As := [.int sv, .int 1, .int (if (cs_i zc 4) = 0 then (cs_i zc 3) else (cs_i zc 3) - 1)]) (rest := []) ⟨hx, hb, hml, hown, hts⟩ (c_X10_isWithin l sv 1 (if (cs_i zc 4) = 0 then (cs_i zc 3) else (cs_i zc 3) - 1) ) (va_cwS 3 hts gX10_bid_X10_isWithin rfl rfl rfl (by decide +kernel) ⟨Nat.le_of_ble_eq_true rfl, Nat.le_of_ble_eq_true rfl⟩) (p0_preS hN) rfl rfl hl.1 rfl (lv_room (Nat.le_of_ble_eq_true rfl)) dX10_bid_31 ⟨Nat.le_of_ble_eq_true rfl, Nat.le_of_ble_eq_true rfl⟩)) (fun r40 hr40 => ?_)
          have hr40 : r40 = if 1 ≤ sv ∧ sv ≤ (if (cs_i zc 4) = 0 then (cs_i zc 3) else (cs_i zc 3) - 1) then 1 else 0 := hr40
          refine lv_if_ne (tgt := 40) hx hb dX10_bid_34 (by decide) (fun c41 => ?_) (fun c41 => ?_)
          · skip
            have c41 := (fa_bool_prop hr40).2.mp c41
            refine lv_aload_n hx hb dX10_bid_40 rfl (lv_at hl 1 rfl) ?_
            refine va_get (D := (dC, dI)) (ci := 10) (v := .ref (cs_X zc 5 0)) (C := RX10) (T := TX10) (N := 13) hx hb hts hiX10 hown hK hP 0 rfl rfl 11 (by decide) (hts (.fieldLink RX10 163 "TributePitches" "current" "LTributePitches$Auction;") (List.mem_of_getElem? (i := 1) rfl)) (fun _ h9 => h9) rfl dX10_bid_41 ?_
            refine va_get (D := (dC, dI)) (ci := 0) (v := .ref (cs_X zc 2 (cs_n zc 5 - 1))) (C := RX0) (T := TX0) (N := 4) hx hb hts hiX0 hown hK hP 3 rfl rfl 3 (by decide) (hts (.fieldLink RX10 180 "TributePitches$Auction" "bidder" "LTributePitches$Gang;") (List.mem_of_getElem? (i := 2) rfl)) (fun _ h9 => h9) rfl dX10_bid_44 ?_
            refine lv_aload_n hx hb dX10_bid_47 rfl (lv_at hl 0 rfl) ?_
            refine lv_acmp_eq (rx := (some (cs_X zc 2 (cs_n zc 5 - 1)))) (ry := (some (cs_X zc 2 jg))) (tgt := 59) hx hb dX10_bid_48 (by decide) (fun c42 => ?_) (fun c42 => ?_)
            · skip
              have c42 : cs_n zc 5 - 1 = jg := (hDk 2 _ 2 _ _ _ (kF_ga (cA := cA) (z := zc) (j := cs_n zc 5 - 1) (by omega)) (kF_ga (cA := cA) (z := zc) (j := jg) hjg) (Option.some.inj c42)).2
              refine lv_bipush (v := (-3)) hx hb dX10_bid_59 (by decide) ?_
              subst hQ
              exact W.iret (v := (-3)) hx hb hr (fun t ht hW => ⟨⟨(-3), zc, rfl, ⟨⟨hI, rfl⟩, (Or.inr (Or.inr (Or.inr (Or.inr (Or.inr (Or.inr (Or.inr (Or.inr (Or.inr (Or.inr (Or.inr (Or.inr (Or.inr (Or.inr (Or.inr (Or.inr (Or.inr (Or.inr (Or.inr (Or.inr (Or.inr (Or.inr (Or.inr (Or.inr (Or.inl ⟨jg, rfl, hjg, hcur, hbd, hk, c41, c42, rfl, rfl⟩)))))))))))))))))))))))))⟩, (by rw [ht]; exact hPk), va_K.moved hW.alike hKk, kDA_self hDk⟩, (kw_same hPk ht).2⟩) (fun q h => absurd h List.not_mem_nil) dX10_bid_61
            · skip
              have c42 : ¬ cs_n zc 5 - 1 = jg := fun q => c42 (by rw [q])
              refine lv_aload_n hx hb dX10_bid_51 rfl (lv_at hl 0 rfl) ?_
              refine va_get (D := (dC, dI)) (ci := 4) (v := .int (cs_I zc 22 jg)) (C := RX4) (T := TX4) (N := 4) hx hb hts hiX4 hown hK hP 2 rfl rfl 2 (by decide) (hts (.fieldLink RX10 184 "TributePitches$Gang" "letPitches" "I") (List.mem_of_getElem? (i := 3) rfl)) (fun _ h9 => h9) rfl dX10_bid_52 ?_
              refine lv_iconst (v := 3) hx hb dX10_bid_55 (by decide) ?_
              refine lv_icmp_lt (tgt := 62) hx hb dX10_bid_56 (by decide) (fun c43 => ?_) (fun c43 => ?_)
              · skip
                refine lv_aload_n hx hb dX10_bid_62 rfl (lv_at hl 1 rfl) ?_
                refine va_get (D := (dC, dI)) (ci := 10) (v := .ref (cs_X zc 5 0)) (C := RX10) (T := TX10) (N := 13) hx hb hts hiX10 hown hK hP 0 rfl rfl 11 (by decide) (hts (.fieldLink RX10 163 "TributePitches" "current" "LTributePitches$Auction;") (List.mem_of_getElem? (i := 1) rfl)) (fun _ h9 => h9) rfl dX10_bid_63 ?_
                refine va_get (D := (dC, dI)) (ci := 0) (v := .int (cs_i zc 4)) (C := RX0) (T := TX0) (N := 4) hx hb hts hiX0 hown hK hP 3 rfl rfl 2 (by decide) (hts (.fieldLink RX10 187 "TributePitches$Auction" "bids" "I") (List.mem_of_getElem? (i := 4) rfl)) (fun _ h9 => h9) rfl dX10_bid_66 ?_
                refine lv_bipush (v := 20) hx hb dX10_bid_69 (by decide) ?_
                refine lv_icmp_lt (tgt := 77) hx hb dX10_bid_71 (by decide) (fun c44 => ?_) (fun c44 => ?_)
                · skip
                  refine lv_aload_n hx hb dX10_bid_77 rfl (lv_at hl 1 rfl) ?_
                  refine va_get (D := (dC, dI)) (ci := 10) (v := .ref (cs_X zc 5 0)) (C := RX10) (T := TX10) (N := 13) hx hb hts hiX10 hown hK hP 0 rfl rfl 11 (by decide) (hts (.fieldLink RX10 163 "TributePitches" "current" "LTributePitches$Auction;") (List.mem_of_getElem? (i := 1) rfl)) (fun _ h9 => h9) rfl dX10_bid_78 ?_
                  refine lv_aload_n hx hb dX10_bid_81 rfl (lv_at hl 0 rfl) ?_
                  refine va_put (D := (dC, dI)) (ci := 0) (v := .ref (cs_X zc 2 jg)) (ty := .object "TributePitches$Gang") (C := RX0) (T := TX0) (N := 4) hx hb hts hiX0 tyX0 tyX0_ok nmX0 hown hK hP hD hS 3 rfl rfl 3 (by decide) (hts (.fieldLink RX10 180 "TributePitches$Auction" "bidder" "LTributePitches$Gang;") (List.mem_of_getElem? (i := 2) rfl)) (fun _ h9 => h9) rfl (by decide +kernel) rfl rfl (Nat.le_of_ble_eq_true rfl) dX10_bid_82 (fun H locs hP hD hS => ?_)
                  have hP : va_P (dC, dI) vwCl [cTPA zc, cR7 cA zc, cGaK zc jg 4, (cs_X zc 5 0, .inr (0, [.ref (cs_X zc 1 (cs_n zc 4 - 1)), .int (cs_i zc 3), .int (cs_i zc 4), .ref (cs_X zc 2 jg)]))] H := hP
                  have hD : va_D _ [cTPA zc, cR7 cA zc, cGaK zc jg 4, (cs_X zc 5 0, .inr (0, [.ref (cs_X zc 1 (cs_n zc 4 - 1)), .int (cs_i zc 3), .int (cs_i zc 4), .ref (cs_X zc 2 jg)]))] := hD
                  refine lv_aload_n hx hb dX10_bid_85 rfl (lv_at hl 1 rfl) ?_
                  refine va_get (D := (dC, dI)) (ci := 10) (v := .ref (cs_X zc 5 0)) (C := RX10) (T := TX10) (N := 13) hx hb hts hiX10 hown hK hP 0 rfl rfl 11 (by decide) (hts (.fieldLink RX10 163 "TributePitches" "current" "LTributePitches$Auction;") (List.mem_of_getElem? (i := 1) rfl)) (fun _ h9 => h9) rfl dX10_bid_86 ?_
                  refine lv_iload_n hx hb dX10_bid_89 rfl (lv_at hl 3 rfl) ?_
                  refine va_put (D := (dC, dI)) (ci := 0) (v := .int sv) (ty := .int) (C := RX0) (T := TX0) (N := 4) hx hb hts hiX0 tyX0 tyX0_ok nmX0 hown hK hP hD hS 3 rfl rfl 1 (by decide) (hts (.fieldLink RX10 190 "TributePitches$Auction" "share" "I") (List.mem_of_getElem? (i := 5) rfl)) (fun _ h9 => h9) rfl (by decide +kernel) rfl rfl (Nat.le_of_ble_eq_true rfl) dX10_bid_90 (fun H locs hP hD hS => ?_)
                  have hP : va_P (dC, dI) vwCl [cTPA zc, cR7 cA zc, cGaK zc jg 4, (cs_X zc 5 0, .inr (0, [.ref (cs_X zc 1 (cs_n zc 4 - 1)), .int sv, .int (cs_i zc 4), .ref (cs_X zc 2 jg)]))] H := hP
                  have hD : va_D _ [cTPA zc, cR7 cA zc, cGaK zc jg 4, (cs_X zc 5 0, .inr (0, [.ref (cs_X zc 1 (cs_n zc 4 - 1)), .int sv, .int (cs_i zc 4), .ref (cs_X zc 2 jg)]))] := hD
                  refine lv_aload_n hx hb dX10_bid_93 rfl (lv_at hl 1 rfl) ?_
                  refine va_get (D := (dC, dI)) (ci := 10) (v := .ref (cs_X zc 5 0)) (C := RX10) (T := TX10) (N := 13) hx hb hts hiX10 hown hK hP 0 rfl rfl 11 (by decide) (hts (.fieldLink RX10 163 "TributePitches" "current" "LTributePitches$Auction;") (List.mem_of_getElem? (i := 1) rfl)) (fun _ h9 => h9) rfl dX10_bid_94 ?_
                  refine lv_dup hx hb dX10_bid_97 rfl ?_
                  refine va_get (D := (dC, dI)) (ci := 0) (v := .int (cs_i zc 4)) (C := RX0) (T := TX0) (N := 4) hx hb hts hiX0 hown hK hP 3 rfl rfl 2 (by decide) (hts (.fieldLink RX10 187 "TributePitches$Auction" "bids" "I") (List.mem_of_getElem? (i := 4) rfl)) (fun _ h9 => h9) rfl dX10_bid_98 ?_
                  refine lv_iconst (v := 1) hx hb dX10_bid_101 (by decide) ?_
                  refine lv_iadd hx hb dX10_bid_102 ?_
                  refine va_put (D := (dC, dI)) (ci := 0) (v := .int ((cs_i zc 4) + 1)) (ty := .int) (C := RX0) (T := TX0) (N := 4) hx hb hts hiX0 tyX0 tyX0_ok nmX0 hown hK hP hD hS 3 rfl rfl 2 (by decide) (hts (.fieldLink RX10 187 "TributePitches$Auction" "bids" "I") (List.mem_of_getElem? (i := 4) rfl)) (fun _ h9 => h9) rfl (by decide +kernel) rfl rfl (Nat.le_of_ble_eq_true rfl) dX10_bid_103 (fun H locs hP hD hS => ?_)
                  have hP : va_P (dC, dI) vwCl [cTPA zc, cR7 cA zc, cGaK zc jg 4, (cs_X zc 5 0, .inr (0, [.ref (cs_X zc 1 (cs_n zc 4 - 1)), .int sv, .int ((cs_i zc 4) + 1), .ref (cs_X zc 2 jg)]))] H := hP
                  have hD : va_D _ [cTPA zc, cR7 cA zc, cGaK zc jg 4, (cs_X zc 5 0, .inr (0, [.ref (cs_X zc 1 (cs_n zc 4 - 1)), .int sv, .int ((cs_i zc 4) + 1), .ref (cs_X zc 2 jg)]))] := hD
                  refine lv_aload_n hx hb dX10_bid_106 rfl (lv_at hl 1 rfl) ?_
                  refine va_get (D := (dC, dI)) (ci := 10) (v := .ref (cs_X zc 5 0)) (C := RX10) (T := TX10) (N := 13) hx hb hts hiX10 hown hK hP 0 rfl rfl 11 (by decide) (hts (.fieldLink RX10 163 "TributePitches" "current" "LTributePitches$Auction;") (List.mem_of_getElem? (i := 1) rfl)) (fun _ h9 => h9) rfl dX10_bid_107 ?_
                  refine va_get (D := (dC, dI)) (ci := 0) (v := .int ((cs_i zc 4) + 1)) (C := RX0) (T := TX0) (N := 4) hx hb hts hiX0 hown hK hP 3 rfl rfl 2 (by decide) (hts (.fieldLink RX10 187 "TributePitches$Auction" "bids" "I") (List.mem_of_getElem? (i := 4) rfl)) (fun _ h9 => h9) rfl dX10_bid_110 ?_
                  subst hQ
                  have hP9 : va_P (dC, dI) vwCl [cTPA zc, cR7 cA zc, cGaK zc jg 4, (cs_X zc 5 0, .inr (0, [.ref (cs_X zc 1 (cs_n zc 4 - 1)), .int sv, .int ((cs_i zc 4) + 1), .ref (cs_X zc 2 jg)]))] H := hP.sub [0, 1, 2, 3] rfl
                  have hD9 : va_D (va_A [cTPA zc, cR7 cA zc, cGaK zc jg 4, cAuB zc] s.heap.size) [cTPA zc, cR7 cA zc, cGaK zc jg 4, (cs_X zc 5 0, .inr (0, [.ref (cs_X zc 1 (cs_n zc 4 - 1)), .int sv, .int ((cs_i zc 4) + 1), .ref (cs_X zc 2 jg)]))] := hD.sub [0, 1, 2, 3] (by decide) rfl
                  have hlf := lf_bid_25 cA zc sv jg hjg hcur hbd hk c41 c42 c43 c44 hI
                  exact W.iret (v := (cs_i zc 4) + 1) hx hb hr (fun t ht hW => have hJ := kjoin hPk hDk hks rfl (hS.F ht) (by rw [ht]; exact hP9) hD9 hlf.2.1 hlf.2.2; ⟨⟨(cs_i zc 4) + 1, (va_up (va_up (cs_i zc) 3 sv) 4 ((cs_i zc 4) + 1), va_up (cs_n zc) 5 (jg + 1), cs_I zc, cs_L zc, cs_N zc, cs_S zc, cs_X zc), rfl, ⟨⟨hlf.1, rfl⟩, (Or.inr (Or.inr (Or.inr (Or.inr (Or.inr (Or.inr (Or.inr (Or.inr (Or.inr (Or.inr (Or.inr (Or.inr (Or.inr (Or.inr (Or.inr (Or.inr (Or.inr (Or.inr (Or.inr (Or.inr (Or.inr (Or.inr (Or.inr (Or.inr (Or.inr (Or.inl ⟨jg, rfl, hjg, hcur, hbd, hk, c41, c42, c43, c44, rfl, rfl⟩))))))))))))))))))))))))))⟩, hJ.1, va_K.moved hW.alike hKk, hJ.2.1⟩, hJ.2.2⟩) (fun q h => kAll_A hks _ (hS.2.2 q h)) dX10_bid_113
                · skip
                  refine lv_bipush (v := (-4)) hx hb dX10_bid_74 (by decide) ?_
                  subst hQ
                  exact W.iret (v := (-4)) hx hb hr (fun t ht hW => ⟨⟨(-4), zc, rfl, ⟨⟨hI, rfl⟩, (Or.inr (Or.inr (Or.inr (Or.inr (Or.inr (Or.inr (Or.inr (Or.inr (Or.inr (Or.inr (Or.inr (Or.inr (Or.inr (Or.inr (Or.inr (Or.inr (Or.inr (Or.inr (Or.inr (Or.inr (Or.inr (Or.inr (Or.inr (Or.inr (Or.inr (Or.inr (Or.inl ⟨jg, rfl, hjg, hcur, hbd, hk, c41, c42, c43, c44, rfl, rfl⟩)))))))))))))))))))))))))))⟩, (by rw [ht]; exact hPk), va_K.moved hW.alike hKk, kDA_self hDk⟩, (kw_same hPk ht).2⟩) (fun q h => absurd h List.not_mem_nil) dX10_bid_76
              · skip
                refine lv_bipush (v := (-3)) hx hb dX10_bid_59 (by decide) ?_
                subst hQ
                exact W.iret (v := (-3)) hx hb hr (fun t ht hW => ⟨⟨(-3), zc, rfl, ⟨⟨hI, rfl⟩, (Or.inr (Or.inr (Or.inr (Or.inr (Or.inr (Or.inr (Or.inr (Or.inr (Or.inr (Or.inr (Or.inr (Or.inr (Or.inr (Or.inr (Or.inr (Or.inr (Or.inr (Or.inr (Or.inr (Or.inr (Or.inr (Or.inr (Or.inr (Or.inr (Or.inr (Or.inr (Or.inr (Or.inl ⟨jg, rfl, hjg, hcur, hbd, hk, c41, c42, c43, rfl, rfl⟩))))))))))))))))))))))))))))⟩, (by rw [ht]; exact hPk), va_K.moved hW.alike hKk, kDA_self hDk⟩, (kw_same hPk ht).2⟩) (fun q h => absurd h List.not_mem_nil) dX10_bid_61
          · skip
            have c41 := (fa_bool_prop hr40).1.mp c41
            refine lv_bipush (v := (-2)) hx hb dX10_bid_37 (by decide) ?_
            subst hQ
            exact W.iret (v := (-2)) hx hb hr (fun t ht hW => ⟨⟨(-2), zc, rfl, ⟨⟨hI, rfl⟩, (Or.inr (Or.inr (Or.inr (Or.inr (Or.inr (Or.inr (Or.inr (Or.inr (Or.inr (Or.inr (Or.inr (Or.inr (Or.inr (Or.inr (Or.inr (Or.inr (Or.inr (Or.inr (Or.inr (Or.inr (Or.inr (Or.inr (Or.inr (Or.inr (Or.inr (Or.inr (Or.inr (Or.inr ⟨jg, rfl, hjg, hcur, hbd, hk, c41, rfl, rfl⟩))))))))))))))))))))))))))))⟩, (by rw [ht]; exact hPk), va_K.moved hW.alike hKk, kDA_self hDk⟩, (kw_same hPk ht).2⟩) (fun q h => absurd h List.not_mem_nil) dX10_bid_39
