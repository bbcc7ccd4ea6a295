def pC_pitch (zc : CS) (x : Int32) (y : Int32) (xx : Int32) (yy : Int32) (tn : Int32) (r : Int32) (u : CS) : Prop :=
  ((¬ ((0 ≤ x ∧ x ≤ 7) ∧ (0 ≤ y ∧ y ≤ 5))) ∧ r = ((-1)) ∧ u = zc) ∨
  (((0 ≤ x ∧ x ≤ 7) ∧ (0 ≤ y ∧ y ≤ 5)) ∧ ((0 ≤ xx ∧ xx ≤ 7) ∧ (0 ≤ yy ∧ yy ≤ 5)) ∧ (xx < x) ∧ r = ((-2)) ∧ u = zc) ∨
  (((0 ≤ x ∧ x ≤ 7) ∧ (0 ≤ y ∧ y ≤ 5)) ∧ ((0 ≤ xx ∧ xx ≤ 7) ∧ (0 ≤ yy ∧ yy ≤ 5)) ∧ (¬ xx < x) ∧ (yy < y) ∧ r = ((-2)) ∧ u = zc) ∨
  (((0 ≤ x ∧ x ≤ 7) ∧ (0 ≤ y ∧ y ≤ 5)) ∧ ((0 ≤ xx ∧ xx ≤ 7) ∧ (0 ≤ yy ∧ yy ≤ 5)) ∧ (¬ xx < x) ∧ (¬ yy < y) ∧ (1 ≤ tn ∧ tn ≤ 100) ∧ (∀ p, p < cs_n zc 0 → ¬ (cs_I zc 11 p ≤ xx ∧ x ≤ cs_I zc 13 p ∧ cs_I zc 12 p ≤ yy ∧ y ≤ cs_I zc 14 p)) ∧ ((nI (cs_n zc 0)) < 12) ∧ (cs_n zc 0 < 12) ∧ ∃ qp : Nat, r = (nI (cs_n zc 0)) ∧ u = (cs_i zc, va_up (cs_n zc) 0 (cs_n zc 0 + 1), va_up (va_up (va_up (va_up (va_up (va_up (cs_I zc) 11 (va_up (cs_I zc 11) (cs_n zc 0) x)) 12 (va_up (cs_I zc 12) (cs_n zc 0) y)) 13 (va_up (cs_I zc 13) (cs_n zc 0) xx)) 14 (va_up (cs_I zc 14) (cs_n zc 0) yy)) 15 (va_up (cs_I zc 15) (cs_n zc 0) tn)) 16 (va_up (cs_I zc 16) (cs_n zc 0) 0), cs_L zc, va_up (cs_N zc) 0 (va_up (cs_N zc 0) (cs_n zc 0) 0), cs_S zc, va_up (cs_X zc) 1 (va_up (cs_X zc 1) (cs_n zc 0) qp))) ∨
  (((0 ≤ x ∧ x ≤ 7) ∧ (0 ≤ y ∧ y ≤ 5)) ∧ ((0 ≤ xx ∧ xx ≤ 7) ∧ (0 ≤ yy ∧ yy ≤ 5)) ∧ (¬ xx < x) ∧ (¬ yy < y) ∧ (1 ≤ tn ∧ tn ≤ 100) ∧ (∀ p, p < cs_n zc 0 → ¬ (cs_I zc 11 p ≤ xx ∧ x ≤ cs_I zc 13 p ∧ cs_I zc 12 p ≤ yy ∧ y ≤ cs_I zc 14 p)) ∧ (¬ (nI (cs_n zc 0)) < 12) ∧ r = ((-4)) ∧ u = zc) ∨
  (((0 ≤ x ∧ x ≤ 7) ∧ (0 ≤ y ∧ y ≤ 5)) ∧ ((0 ≤ xx ∧ xx ≤ 7) ∧ (0 ≤ yy ∧ yy ≤ 5)) ∧ (¬ xx < x) ∧ (¬ yy < y) ∧ (1 ≤ tn ∧ tn ≤ 100) ∧ (∃ p, p < cs_n zc 0 ∧ (cs_I zc 11 p ≤ xx ∧ x ≤ cs_I zc 13 p ∧ cs_I zc 12 p ≤ yy ∧ y ≤ cs_I zc 14 p)) ∧ r = ((-3)) ∧ u = zc) ∨
  (((0 ≤ x ∧ x ≤ 7) ∧ (0 ≤ y ∧ y ≤ 5)) ∧ ((0 ≤ xx ∧ xx ≤ 7) ∧ (0 ≤ yy ∧ yy ≤ 5)) ∧ (¬ xx < x) ∧ (¬ yy < y) ∧ (¬ (1 ≤ tn ∧ tn ≤ 100)) ∧ r = ((-2)) ∧ u = zc) ∨
  (((0 ≤ x ∧ x ≤ 7) ∧ (0 ≤ y ∧ y ≤ 5)) ∧ (¬ ((0 ≤ xx ∧ xx ≤ 7) ∧ (0 ≤ yy ∧ yy ≤ 5))) ∧ r = ((-1)) ∧ u = zc)
set_option maxHeartbeats 4000000 in
theorem lf_pitch_3 (cA : Nat → ClassId) (zc : CS) (x : Int32) (y : Int32) (xx : Int32) (yy : Int32) (tn : Int32) (qp : Nat) (c2 : (0 ≤ x ∧ x ≤ 7) ∧ (0 ≤ y ∧ y ≤ 5)) (c4 : (0 ≤ xx ∧ xx ≤ 7) ∧ (0 ≤ yy ∧ yy ≤ 5)) (c5 : ¬ xx < x) (c6 : ¬ yy < y) (c8 : 1 ≤ tn ∧ tn ≤ 100) (hanyr9 : ∀ p, p < cs_n zc 0 → ¬ (cs_I zc 11 p ≤ xx ∧ x ≤ cs_I zc 13 p ∧ cs_I zc 12 p ≤ yy ∧ y ≤ cs_I zc 14 p)) (c11 : (nI (cs_n zc 0)) < 12) (hp8 : cs_n zc 0 < 12) (hI : invC zc) : invC (cs_i zc, va_up (cs_n zc) 0 (cs_n zc 0 + 1), va_up (va_up (va_up (va_up (va_up (va_up (cs_I zc) 11 (va_up (cs_I zc 11) (cs_n zc 0) x)) 12 (va_up (cs_I zc 12) (cs_n zc 0) y)) 13 (va_up (cs_I zc 13) (cs_n zc 0) xx)) 14 (va_up (cs_I zc 14) (cs_n zc 0) yy)) 15 (va_up (cs_I zc 15) (cs_n zc 0) tn)) 16 (va_up (cs_I zc 16) (cs_n zc 0) 0), cs_L zc, va_up (cs_N zc) 0 (va_up (cs_N zc 0) (cs_n zc 0) 0), cs_S zc, va_up (cs_X zc) 1 (va_up (cs_X zc 1) (cs_n zc 0) qp)) ∧ kAll (cF cA (cs_i zc, va_up (cs_n zc) 0 (cs_n zc 0 + 1), va_up (va_up (va_up (va_up (va_up (va_up (cs_I zc) 11 (va_up (cs_I zc 11) (cs_n zc 0) x)) 12 (va_up (cs_I zc 12) (cs_n zc 0) y)) 13 (va_up (cs_I zc 13) (cs_n zc 0) xx)) 14 (va_up (cs_I zc 14) (cs_n zc 0) yy)) 15 (va_up (cs_I zc 15) (cs_n zc 0) tn)) 16 (va_up (cs_I zc 16) (cs_n zc 0) 0), cs_L zc, va_up (cs_N zc) 0 (va_up (cs_N zc 0) (cs_n zc 0) 0), cs_S zc, va_up (cs_X zc) 1 (va_up (cs_X zc 1) (cs_n zc 0) qp))) [(0, 0), (0, 6), (1, cs_n zc 0)] [(cs_X zc 0 0, .inr (10, [.ref (cs_X zc 0 1), .ref (cs_X zc 0 6), .ref (cs_X zc 0 7), .ref (cs_X zc 0 8), .ref (cs_X zc 0 9), .ref (cs_X zc 0 10), .ref (cs_X zc 0 11), .int (nI (cs_n zc 0 + 1)), .int (nI (cs_n zc 1)), .int (nI (cs_n zc 2)), .int (nI (cs_n zc 3)), va_rf (opN (cs_n zc 4) (fun _ => cs_X zc 5 0)), .int (cs_i zc 2)])), (cs_X zc 0 6, .inl (cA 1, 12, .inr (.inr (.inr (.inr (va_up (rfN (cs_n zc 0) (cs_X zc 1)) (nI (cs_n zc 0)).toNatClampNeg (some qp))))))), (qp, .inr (6, [.int (nI (cs_n zc 0)), .int x, .int y, .int xx, .int yy, .int tn, .int 0, .null]))] ∧ ∀ i j, (i, j) ∉ ([(0, 0), (0, 6), (1, cs_n zc 0)] : List (Nat × Nat)) → cF cA (cs_i zc, va_up (cs_n zc) 0 (cs_n zc 0 + 1), va_up (va_up (va_up (va_up (va_up (va_up (cs_I zc) 11 (va_up (cs_I zc 11) (cs_n zc 0) x)) 12 (va_up (cs_I zc 12) (cs_n zc 0) y)) 13 (va_up (cs_I zc 13) (cs_n zc 0) xx)) 14 (va_up (cs_I zc 14) (cs_n zc 0) yy)) 15 (va_up (cs_I zc 15) (cs_n zc 0) tn)) 16 (va_up (cs_I zc 16) (cs_n zc 0) 0), cs_L zc, va_up (cs_N zc) 0 (va_up (cs_N zc 0) (cs_n zc 0) 0), cs_S zc, va_up (cs_X zc) 1 (va_up (cs_X zc 1) (cs_n zc 0) qp)) i j = none ∨ ((i, j) ∉ ([(0, 0), (0, 6)] : List (Nat × Nat)) ∧ cF cA (cs_i zc, va_up (cs_n zc) 0 (cs_n zc 0 + 1), va_up (va_up (va_up (va_up (va_up (va_up (cs_I zc) 11 (va_up (cs_I zc 11) (cs_n zc 0) x)) 12 (va_up (cs_I zc 12) (cs_n zc 0) y)) 13 (va_up (cs_I zc 13) (cs_n zc 0) xx)) 14 (va_up (cs_I zc 14) (cs_n zc 0) yy)) 15 (va_up (cs_I zc 15) (cs_n zc 0) tn)) 16 (va_up (cs_I zc 16) (cs_n zc 0) 0), cs_L zc, va_up (cs_N zc) 0 (va_up (cs_N zc 0) (cs_n zc 0) 0), cs_S zc, va_up (cs_X zc) 1 (va_up (cs_X zc 1) (cs_n zc 0) qp)) i j = cF cA zc i j) := by
  obtain ⟨⟨hn0, hn1, hn2, hn3, hn4, hn5⟩, hpi, hgk, htk, hpk, hsh⟩ := id hI
  refine ⟨(by refine ⟨⟨(show cs_n zc 0 + 1 ≤ 12 by omega), hn1, hn2, hn3, (show cs_n zc 4 ≤ cs_n zc 0 + 1 by omega), hn5⟩, (fun p hp => ?_), hgk, (fun t ht => ⟨(htk t ht).1, Nat.lt_succ_of_lt (htk t ht).2⟩), (fun k hk => Nat.lt_succ_of_lt (hpk k hk)), hsh⟩; have hp : p < cs_n zc 0 + 1 := hp; show (0 ≤ (va_up (cs_I zc 11) (cs_n zc 0) x p).toInt ∧ (va_up (cs_I zc 11) (cs_n zc 0) x p).toInt ≤ (va_up (cs_I zc 13) (cs_n zc 0) xx p).toInt ∧ (va_up (cs_I zc 13) (cs_n zc 0) xx p).toInt ≤ 7) ∧ (0 ≤ (va_up (cs_I zc 12) (cs_n zc 0) y p).toInt ∧ (va_up (cs_I zc 12) (cs_n zc 0) y p).toInt ≤ (va_up (cs_I zc 14) (cs_n zc 0) yy p).toInt ∧ (va_up (cs_I zc 14) (cs_n zc 0) yy p).toInt ≤ 5) ∧ va_up (cs_N zc 0) (cs_n zc 0) 0 p ≤ cs_n zc 2; by_cases h9 : p = cs_n zc 0; (rw [h9, va_up_self, va_up_self, va_up_self, va_up_self, va_up_self]; exact rect_ok c2 c4 c5 c6); (rw [va_up_ne _ _ h9, va_up_ne _ _ h9, va_up_ne _ _ h9, va_up_ne _ _ h9, va_up_ne _ _ h9]; exact hpi p (by omega))), ⟨(by (rw [(kF_tp (cA := cA) (z := (cs_i zc, va_up (cs_n zc) 0 (cs_n zc 0 + 1), va_up (va_up (va_up (va_up (va_up (va_up (cs_I zc) 11 (va_up (cs_I zc 11) (cs_n zc 0) x)) 12 (va_up (cs_I zc 12) (cs_n zc 0) y)) 13 (va_up (cs_I zc 13) (cs_n zc 0) xx)) 14 (va_up (cs_I zc 14) (cs_n zc 0) yy)) 15 (va_up (cs_I zc 15) (cs_n zc 0) tn)) 16 (va_up (cs_I zc 16) (cs_n zc 0) 0), cs_L zc, va_up (cs_N zc) 0 (va_up (cs_N zc 0) (cs_n zc 0) 0), cs_S zc, va_up (cs_X zc) 1 (va_up (cs_X zc 1) (cs_n zc 0) qp))))]) <;> simp [cTP, cTPN, cTPA, cLo, cA2, cA3, cA4, cA5, cR6, cR7, cR8, cR9, cR10, cTr, cPi, cPiN, cPiT, cGa, cGaK, cTa, cPa, cAu, cAuN, cAuB, cSh, cSc, cs_i, cs_n, cs_I, cs_L, cs_N, cs_S, cs_X, va_up, upd, opN]), (by rw [(kF_r6 (cA := cA) (z := (cs_i zc, va_up (cs_n zc) 0 (cs_n zc 0 + 1), va_up (va_up (va_up (va_up (va_up (va_up (cs_I zc) 11 (va_up (cs_I zc 11) (cs_n zc 0) x)) 12 (va_up (cs_I zc 12) (cs_n zc 0) y)) 13 (va_up (cs_I zc 13) (cs_n zc 0) xx)) 14 (va_up (cs_I zc 14) (cs_n zc 0) yy)) 15 (va_up (cs_I zc 15) (cs_n zc 0) tn)) 16 (va_up (cs_I zc 16) (cs_n zc 0) 0), cs_L zc, va_up (cs_N zc) 0 (va_up (cs_N zc 0) (cs_n zc 0) 0), cs_S zc, va_up (cs_X zc) 1 (va_up (cs_X zc 1) (cs_n zc 0) qp))))]; simp only [cR6, cR7, cR8, cR9]; rw [nI_clamp (by omega), rfN_up]; simp [cs_n, cs_X, va_up]), (by (rw [(kF_piN (z := (cs_i zc, va_up (cs_n zc) 0 (cs_n zc 0 + 1), va_up (va_up (va_up (va_up (va_up (va_up (cs_I zc) 11 (va_up (cs_I zc 11) (cs_n zc 0) x)) 12 (va_up (cs_I zc 12) (cs_n zc 0) y)) 13 (va_up (cs_I zc 13) (cs_n zc 0) xx)) 14 (va_up (cs_I zc 14) (cs_n zc 0) yy)) 15 (va_up (cs_I zc 15) (cs_n zc 0) tn)) 16 (va_up (cs_I zc 16) (cs_n zc 0) 0), cs_L zc, va_up (cs_N zc) 0 (va_up (cs_N zc 0) (cs_n zc 0) 0), cs_S zc, va_up (cs_X zc) 1 (va_up (cs_X zc 1) (cs_n zc 0) qp))) (show cs_n zc 0 < cs_n zc 0 + 1 from Nat.lt_succ_self _) (by simp [cs_N, cs_n, va_up]))]) <;> simp [cTP, cTPN, cTPA, cLo, cA2, cA3, cA4, cA5, cR6, cR7, cR8, cR9, cR10, cTr, cPi, cPiN, cPiT, cGa, cGaK, cTa, cPa, cAu, cAuN, cAuB, cSh, cSc, cs_i, cs_n, cs_I, cs_L, cs_N, cs_S, cs_X, va_up, upd, opN]), trivial⟩, ?_⟩
  intro i j hij
  have hij0 : (i, j) ∉ ([(0, 0), (0, 6)] : List (Nat × Nat)) := by
    intro q
    simp only [List.mem_cons, Prod.mk.injEq, List.not_mem_nil, or_false] at q
    rcases q with ⟨rfl, rfl⟩ | ⟨rfl, rfl⟩
    · exact hij (by simp)
    · exact hij (by simp)
  refine Or.inr ⟨hij0, ?_⟩
  rcases i with _ | _ | _ | _ | _ | _ | _ | _ | i
  · rcases j with _ | _ | _ | _ | _ | _ | _ | _ | _ | _ | _ | _ | j
    · exact absurd (by simp) hij
    · show some (cLo (cs_i zc, va_up (cs_n zc) 0 (cs_n zc 0 + 1), va_up (va_up (va_up (va_up (va_up (va_up (cs_I zc) 11 (va_up (cs_I zc 11) (cs_n zc 0) x)) 12 (va_up (cs_I zc 12) (cs_n zc 0) y)) 13 (va_up (cs_I zc 13) (cs_n zc 0) xx)) 14 (va_up (cs_I zc 14) (cs_n zc 0) yy)) 15 (va_up (cs_I zc 15) (cs_n zc 0) tn)) 16 (va_up (cs_I zc 16) (cs_n zc 0) 0), cs_L zc, va_up (cs_N zc) 0 (va_up (cs_N zc 0) (cs_n zc 0) 0), cs_S zc, va_up (cs_X zc) 1 (va_up (cs_X zc 1) (cs_n zc 0) qp))) = some (cLo zc); simp [cLo, cs_i, cs_n, cs_I, cs_L, cs_N, cs_S, cs_X, va_up]
    · show some (cA2 cA (cs_i zc, va_up (cs_n zc) 0 (cs_n zc 0 + 1), va_up (va_up (va_up (va_up (va_up (va_up (cs_I zc) 11 (va_up (cs_I zc 11) (cs_n zc 0) x)) 12 (va_up (cs_I zc 12) (cs_n zc 0) y)) 13 (va_up (cs_I zc 13) (cs_n zc 0) xx)) 14 (va_up (cs_I zc 14) (cs_n zc 0) yy)) 15 (va_up (cs_I zc 15) (cs_n zc 0) tn)) 16 (va_up (cs_I zc 16) (cs_n zc 0) 0), cs_L zc, va_up (cs_N zc) 0 (va_up (cs_N zc 0) (cs_n zc 0) 0), cs_S zc, va_up (cs_X zc) 1 (va_up (cs_X zc 1) (cs_n zc 0) qp))) = some (cA2 cA zc); simp [cA2, cs_i, cs_n, cs_I, cs_L, cs_N, cs_S, cs_X, va_up]
    · show some (cA3 cA (cs_i zc, va_up (cs_n zc) 0 (cs_n zc 0 + 1), va_up (va_up (va_up (va_up (va_up (va_up (cs_I zc) 11 (va_up (cs_I zc 11) (cs_n zc 0) x)) 12 (va_up (cs_I zc 12) (cs_n zc 0) y)) 13 (va_up (cs_I zc 13) (cs_n zc 0) xx)) 14 (va_up (cs_I zc 14) (cs_n zc 0) yy)) 15 (va_up (cs_I zc 15) (cs_n zc 0) tn)) 16 (va_up (cs_I zc 16) (cs_n zc 0) 0), cs_L zc, va_up (cs_N zc) 0 (va_up (cs_N zc 0) (cs_n zc 0) 0), cs_S zc, va_up (cs_X zc) 1 (va_up (cs_X zc 1) (cs_n zc 0) qp))) = some (cA3 cA zc); simp [cA3, cs_i, cs_n, cs_I, cs_L, cs_N, cs_S, cs_X, va_up]
    · show some (cA4 cA (cs_i zc, va_up (cs_n zc) 0 (cs_n zc 0 + 1), va_up (va_up (va_up (va_up (va_up (va_up (cs_I zc) 11 (va_up (cs_I zc 11) (cs_n zc 0) x)) 12 (va_up (cs_I zc 12) (cs_n zc 0) y)) 13 (va_up (cs_I zc 13) (cs_n zc 0) xx)) 14 (va_up (cs_I zc 14) (cs_n zc 0) yy)) 15 (va_up (cs_I zc 15) (cs_n zc 0) tn)) 16 (va_up (cs_I zc 16) (cs_n zc 0) 0), cs_L zc, va_up (cs_N zc) 0 (va_up (cs_N zc 0) (cs_n zc 0) 0), cs_S zc, va_up (cs_X zc) 1 (va_up (cs_X zc 1) (cs_n zc 0) qp))) = some (cA4 cA zc); simp [cA4, cs_i, cs_n, cs_I, cs_L, cs_N, cs_S, cs_X, va_up]
    · show some (cA5 cA (cs_i zc, va_up (cs_n zc) 0 (cs_n zc 0 + 1), va_up (va_up (va_up (va_up (va_up (va_up (cs_I zc) 11 (va_up (cs_I zc 11) (cs_n zc 0) x)) 12 (va_up (cs_I zc 12) (cs_n zc 0) y)) 13 (va_up (cs_I zc 13) (cs_n zc 0) xx)) 14 (va_up (cs_I zc 14) (cs_n zc 0) yy)) 15 (va_up (cs_I zc 15) (cs_n zc 0) tn)) 16 (va_up (cs_I zc 16) (cs_n zc 0) 0), cs_L zc, va_up (cs_N zc) 0 (va_up (cs_N zc 0) (cs_n zc 0) 0), cs_S zc, va_up (cs_X zc) 1 (va_up (cs_X zc 1) (cs_n zc 0) qp))) = some (cA5 cA zc); simp [cA5, cs_i, cs_n, cs_I, cs_L, cs_N, cs_S, cs_X, va_up]
    · exact absurd (by simp) hij
    · show some (cR7 cA (cs_i zc, va_up (cs_n zc) 0 (cs_n zc 0 + 1), va_up (va_up (va_up (va_up (va_up (va_up (cs_I zc) 11 (va_up (cs_I zc 11) (cs_n zc 0) x)) 12 (va_up (cs_I zc 12) (cs_n zc 0) y)) 13 (va_up (cs_I zc 13) (cs_n zc 0) xx)) 14 (va_up (cs_I zc 14) (cs_n zc 0) yy)) 15 (va_up (cs_I zc 15) (cs_n zc 0) tn)) 16 (va_up (cs_I zc 16) (cs_n zc 0) 0), cs_L zc, va_up (cs_N zc) 0 (va_up (cs_N zc 0) (cs_n zc 0) 0), cs_S zc, va_up (cs_X zc) 1 (va_up (cs_X zc 1) (cs_n zc 0) qp))) = some (cR7 cA zc); simp [cR7, cs_i, cs_n, cs_I, cs_L, cs_N, cs_S, cs_X, va_up]
    · show some (cR8 cA (cs_i zc, va_up (cs_n zc) 0 (cs_n zc 0 + 1), va_up (va_up (va_up (va_up (va_up (va_up (cs_I zc) 11 (va_up (cs_I zc 11) (cs_n zc 0) x)) 12 (va_up (cs_I zc 12) (cs_n zc 0) y)) 13 (va_up (cs_I zc 13) (cs_n zc 0) xx)) 14 (va_up (cs_I zc 14) (cs_n zc 0) yy)) 15 (va_up (cs_I zc 15) (cs_n zc 0) tn)) 16 (va_up (cs_I zc 16) (cs_n zc 0) 0), cs_L zc, va_up (cs_N zc) 0 (va_up (cs_N zc 0) (cs_n zc 0) 0), cs_S zc, va_up (cs_X zc) 1 (va_up (cs_X zc 1) (cs_n zc 0) qp))) = some (cR8 cA zc); simp [cR8, cs_i, cs_n, cs_I, cs_L, cs_N, cs_S, cs_X, va_up]
    · show some (cR9 cA (cs_i zc, va_up (cs_n zc) 0 (cs_n zc 0 + 1), va_up (va_up (va_up (va_up (va_up (va_up (cs_I zc) 11 (va_up (cs_I zc 11) (cs_n zc 0) x)) 12 (va_up (cs_I zc 12) (cs_n zc 0) y)) 13 (va_up (cs_I zc 13) (cs_n zc 0) xx)) 14 (va_up (cs_I zc 14) (cs_n zc 0) yy)) 15 (va_up (cs_I zc 15) (cs_n zc 0) tn)) 16 (va_up (cs_I zc 16) (cs_n zc 0) 0), cs_L zc, va_up (cs_N zc) 0 (va_up (cs_N zc 0) (cs_n zc 0) 0), cs_S zc, va_up (cs_X zc) 1 (va_up (cs_X zc 1) (cs_n zc 0) qp))) = some (cR9 cA zc); simp [cR9, cs_i, cs_n, cs_I, cs_L, cs_N, cs_S, cs_X, va_up]
    · show some (cR10 cA (cs_i zc, va_up (cs_n zc) 0 (cs_n zc 0 + 1), va_up (va_up (va_up (va_up (va_up (va_up (cs_I zc) 11 (va_up (cs_I zc 11) (cs_n zc 0) x)) 12 (va_up (cs_I zc 12) (cs_n zc 0) y)) 13 (va_up (cs_I zc 13) (cs_n zc 0) xx)) 14 (va_up (cs_I zc 14) (cs_n zc 0) yy)) 15 (va_up (cs_I zc 15) (cs_n zc 0) tn)) 16 (va_up (cs_I zc 16) (cs_n zc 0) 0), cs_L zc, va_up (cs_N zc) 0 (va_up (cs_N zc 0) (cs_n zc 0) 0), cs_S zc, va_up (cs_X zc) 1 (va_up (cs_X zc 1) (cs_n zc 0) qp))) = some (cR10 cA zc); simp [cR10, cs_i, cs_n, cs_I, cs_L, cs_N, cs_S, cs_X, va_up]
    · show some (cTr (cs_i zc, va_up (cs_n zc) 0 (cs_n zc 0 + 1), va_up (va_up (va_up (va_up (va_up (va_up (cs_I zc) 11 (va_up (cs_I zc 11) (cs_n zc 0) x)) 12 (va_up (cs_I zc 12) (cs_n zc 0) y)) 13 (va_up (cs_I zc 13) (cs_n zc 0) xx)) 14 (va_up (cs_I zc 14) (cs_n zc 0) yy)) 15 (va_up (cs_I zc 15) (cs_n zc 0) tn)) 16 (va_up (cs_I zc 16) (cs_n zc 0) 0), cs_L zc, va_up (cs_N zc) 0 (va_up (cs_N zc 0) (cs_n zc 0) 0), cs_S zc, va_up (cs_X zc) 1 (va_up (cs_X zc 1) (cs_n zc 0) qp))) = some (cTr zc); simp [cTr, cs_i, cs_n, cs_I, cs_L, cs_N, cs_S, cs_X, va_up]
    · show (none : Option (Nat × va_E)) = none; rfl
  · have hne : j ≠ cs_n zc 0 := fun q => hij (by rw [q]; simp)
    have e9 : cPi (cs_i zc, va_up (cs_n zc) 0 (cs_n zc 0 + 1), va_up (va_up (va_up (va_up (va_up (va_up (cs_I zc) 11 (va_up (cs_I zc 11) (cs_n zc 0) x)) 12 (va_up (cs_I zc 12) (cs_n zc 0) y)) 13 (va_up (cs_I zc 13) (cs_n zc 0) xx)) 14 (va_up (cs_I zc 14) (cs_n zc 0) yy)) 15 (va_up (cs_I zc 15) (cs_n zc 0) tn)) 16 (va_up (cs_I zc 16) (cs_n zc 0) 0), cs_L zc, va_up (cs_N zc) 0 (va_up (cs_N zc 0) (cs_n zc 0) 0), cs_S zc, va_up (cs_X zc) 1 (va_up (cs_X zc 1) (cs_n zc 0) qp)) j = cPi zc j := by simp [cPi, cs_i, cs_n, cs_I, cs_L, cs_N, cs_S, cs_X, va_up, hne]
    show (if j < cs_n zc 0 + 1 then some (cPi (cs_i zc, va_up (cs_n zc) 0 (cs_n zc 0 + 1), va_up (va_up (va_up (va_up (va_up (va_up (cs_I zc) 11 (va_up (cs_I zc 11) (cs_n zc 0) x)) 12 (va_up (cs_I zc 12) (cs_n zc 0) y)) 13 (va_up (cs_I zc 13) (cs_n zc 0) xx)) 14 (va_up (cs_I zc 14) (cs_n zc 0) yy)) 15 (va_up (cs_I zc 15) (cs_n zc 0) tn)) 16 (va_up (cs_I zc 16) (cs_n zc 0) 0), cs_L zc, va_up (cs_N zc) 0 (va_up (cs_N zc 0) (cs_n zc 0) 0), cs_S zc, va_up (cs_X zc) 1 (va_up (cs_X zc 1) (cs_n zc 0) qp)) j) else none) = if j < cs_n zc 0 then some (cPi zc j) else none
    rw [e9]
    by_cases h9 : j < cs_n zc 0
    · rw [if_pos h9, if_pos (Nat.lt_succ_of_lt h9)]
    · rw [if_neg h9, if_neg (by omega)]
  · show (if j < cs_n (cs_i zc, va_up (cs_n zc) 0 (cs_n zc 0 + 1), va_up (va_up (va_up (va_up (va_up (va_up (cs_I zc) 11 (va_up (cs_I zc 11) (cs_n zc 0) x)) 12 (va_up (cs_I zc 12) (cs_n zc 0) y)) 13 (va_up (cs_I zc 13) (cs_n zc 0) xx)) 14 (va_up (cs_I zc 14) (cs_n zc 0) yy)) 15 (va_up (cs_I zc 15) (cs_n zc 0) tn)) 16 (va_up (cs_I zc 16) (cs_n zc 0) 0), cs_L zc, va_up (cs_N zc) 0 (va_up (cs_N zc 0) (cs_n zc 0) 0), cs_S zc, va_up (cs_X zc) 1 (va_up (cs_X zc 1) (cs_n zc 0) qp)) 1 then some (cGa (cs_i zc, va_up (cs_n zc) 0 (cs_n zc 0 + 1), va_up (va_up (va_up (va_up (va_up (va_up (cs_I zc) 11 (va_up (cs_I zc 11) (cs_n zc 0) x)) 12 (va_up (cs_I zc 12) (cs_n zc 0) y)) 13 (va_up (cs_I zc 13) (cs_n zc 0) xx)) 14 (va_up (cs_I zc 14) (cs_n zc 0) yy)) 15 (va_up (cs_I zc 15) (cs_n zc 0) tn)) 16 (va_up (cs_I zc 16) (cs_n zc 0) 0), cs_L zc, va_up (cs_N zc) 0 (va_up (cs_N zc 0) (cs_n zc 0) 0), cs_S zc, va_up (cs_X zc) 1 (va_up (cs_X zc 1) (cs_n zc 0) qp)) j) else none) = if j < cs_n zc 1 then some (cGa zc j) else none
    simp [cGa, cs_i, cs_n, cs_I, cs_L, cs_N, cs_S, cs_X, va_up]
  · show (if j < cs_n zc 2 then some (cTa (cs_i zc, va_up (cs_n zc) 0 (cs_n zc 0 + 1), va_up (va_up (va_up (va_up (va_up (va_up (cs_I zc) 11 (va_up (cs_I zc 11) (cs_n zc 0) x)) 12 (va_up (cs_I zc 12) (cs_n zc 0) y)) 13 (va_up (cs_I zc 13) (cs_n zc 0) xx)) 14 (va_up (cs_I zc 14) (cs_n zc 0) yy)) 15 (va_up (cs_I zc 15) (cs_n zc 0) tn)) 16 (va_up (cs_I zc 16) (cs_n zc 0) 0), cs_L zc, va_up (cs_N zc) 0 (va_up (cs_N zc 0) (cs_n zc 0) 0), cs_S zc, va_up (cs_X zc) 1 (va_up (cs_X zc 1) (cs_n zc 0) qp)) j) else none) = if j < cs_n zc 2 then some (cTa zc j) else none
    by_cases h9 : j < cs_n zc 2
    · rw [if_pos h9, if_pos h9]
      have hne : cs_N zc 3 j ≠ cs_n zc 0 := Nat.ne_of_lt (htk j h9).2
      simp [cTa, cs_i, cs_n, cs_I, cs_L, cs_N, cs_S, cs_X, va_up, hne]
    · rw [if_neg h9, if_neg h9]
  · show (if j < cs_n zc 3 then some (cPa (cs_i zc, va_up (cs_n zc) 0 (cs_n zc 0 + 1), va_up (va_up (va_up (va_up (va_up (va_up (cs_I zc) 11 (va_up (cs_I zc 11) (cs_n zc 0) x)) 12 (va_up (cs_I zc 12) (cs_n zc 0) y)) 13 (va_up (cs_I zc 13) (cs_n zc 0) xx)) 14 (va_up (cs_I zc 14) (cs_n zc 0) yy)) 15 (va_up (cs_I zc 15) (cs_n zc 0) tn)) 16 (va_up (cs_I zc 16) (cs_n zc 0) 0), cs_L zc, va_up (cs_N zc) 0 (va_up (cs_N zc 0) (cs_n zc 0) 0), cs_S zc, va_up (cs_X zc) 1 (va_up (cs_X zc 1) (cs_n zc 0) qp)) j) else none) = if j < cs_n zc 3 then some (cPa zc j) else none
    by_cases h9 : j < cs_n zc 3
    · rw [if_pos h9, if_pos h9]
      have hne : cs_N zc 4 j ≠ cs_n zc 0 := Nat.ne_of_lt (hpk j h9)
      simp [cPa, cs_i, cs_n, cs_I, cs_L, cs_N, cs_S, cs_X, va_up, hne]
    · rw [if_neg h9, if_neg h9]
  · show (if j = 0 ∧ ¬ cs_n zc 4 = 0 then some (cAu (cs_i zc, va_up (cs_n zc) 0 (cs_n zc 0 + 1), va_up (va_up (va_up (va_up (va_up (va_up (cs_I zc) 11 (va_up (cs_I zc 11) (cs_n zc 0) x)) 12 (va_up (cs_I zc 12) (cs_n zc 0) y)) 13 (va_up (cs_I zc 13) (cs_n zc 0) xx)) 14 (va_up (cs_I zc 14) (cs_n zc 0) yy)) 15 (va_up (cs_I zc 15) (cs_n zc 0) tn)) 16 (va_up (cs_I zc 16) (cs_n zc 0) 0), cs_L zc, va_up (cs_N zc) 0 (va_up (cs_N zc 0) (cs_n zc 0) 0), cs_S zc, va_up (cs_X zc) 1 (va_up (cs_X zc 1) (cs_n zc 0) qp))) else none) = if j = 0 ∧ ¬ cs_n zc 4 = 0 then some (cAu zc) else none
    by_cases h9 : j = 0 ∧ ¬ cs_n zc 4 = 0
    · rw [if_pos h9, if_pos h9]
      have hne : cs_n zc 4 - 1 ≠ cs_n zc 0 := by omega
      simp [cAu, cs_i, cs_n, cs_I, cs_L, cs_N, cs_S, cs_X, va_up, hne]
    · rw [if_neg h9, if_neg h9]
  · show (if j < 4 then some (cSh (cs_i zc, va_up (cs_n zc) 0 (cs_n zc 0 + 1), va_up (va_up (va_up (va_up (va_up (va_up (cs_I zc) 11 (va_up (cs_I zc 11) (cs_n zc 0) x)) 12 (va_up (cs_I zc 12) (cs_n zc 0) y)) 13 (va_up (cs_I zc 13) (cs_n zc 0) xx)) 14 (va_up (cs_I zc 14) (cs_n zc 0) yy)) 15 (va_up (cs_I zc 15) (cs_n zc 0) tn)) 16 (va_up (cs_I zc 16) (cs_n zc 0) 0), cs_L zc, va_up (cs_N zc) 0 (va_up (cs_N zc 0) (cs_n zc 0) 0), cs_S zc, va_up (cs_X zc) 1 (va_up (cs_X zc 1) (cs_n zc 0) qp)) j) else none) = if j < 4 then some (cSh zc j) else none
    simp [cSh, cs_i, cs_n, cs_I, cs_L, cs_N, cs_S, cs_X, va_up]
  · show (if j < 4 then some (cSc cA (cs_i zc, va_up (cs_n zc) 0 (cs_n zc 0 + 1), va_up (va_up (va_up (va_up (va_up (va_up (cs_I zc) 11 (va_up (cs_I zc 11) (cs_n zc 0) x)) 12 (va_up (cs_I zc 12) (cs_n zc 0) y)) 13 (va_up (cs_I zc 13) (cs_n zc 0) xx)) 14 (va_up (cs_I zc 14) (cs_n zc 0) yy)) 15 (va_up (cs_I zc 15) (cs_n zc 0) tn)) 16 (va_up (cs_I zc 16) (cs_n zc 0) 0), cs_L zc, va_up (cs_N zc) 0 (va_up (cs_N zc 0) (cs_n zc 0) 0), cs_S zc, va_up (cs_X zc) 1 (va_up (cs_X zc 1) (cs_n zc 0) qp)) j) else none) = if j < 4 then some (cSc cA zc j) else none
    simp [cSc, cs_i, cs_n, cs_I, cs_L, cs_N, cs_S, cs_X, va_up]
  · show (none : Option (Nat × va_E)) = none; rfl
set_option maxHeartbeats 4000000 in
set_option maxRecDepth 100000 in
theorem K_pitch (l : Launch) (dC : Nat → ClassId) (dI : Nat → Nat → Nat) (cA : Nat → ClassId) (sz : Nat) (zc : CS) (x : Int32) (y : Int32) (xx : Int32) (yy : Int32) (tn : Int32) (hI : invC zc) : Met l yX10_pitch wsX10_pitch ({ frames := 2, cells := 1, slots := 8, locals := 60 }) (kw (dC, dI) (ctys cA) (cF cA zc) sz [.ref (cs_X zc 0 0), .int x, .int y, .int xx, .int yy, .int tn]) (kQi (dC, dI) (ctys cA) (cF cA zc) sz (cF cA) (fun r u => (invC u ∧ cs_X u 0 0 = cs_X zc 0 0) ∧ pC_pitch zc x y xx yy tn r u)) 1 8 (kA (cF cA zc) sz) := by
  refine kw_met (cc := cX10_pitch) (maxL := 6) (ret := (some .int)) (by decide) rfl (Nat.le_of_ble_eq_true rfl) ?_
  intro p e s m below meth c0 hx hb hr hml hown hlocks hnm hts hPk hKk hDk hN hsz ls hl
  subst hsz
  have hK : va_K (dC, dI) vwCl [(cA 0, .int), (cA 1, .object RX6), (cA 2, .object RX2), (cA 3, .object RX8), (cA 4, .object RX5), (cA 5, .object RX7)] s := hKk
  obtain ⟨⟨hn0, hn1, hn2, hn3, hn4, hn5⟩, hpi, hgk, htk, hpk, hsh⟩ := id hI
  have hl : lv_has ls 6 [(0, .ref (cs_X zc 0 0)), (1, .int x), (2, .int y), (3, .int xx), (4, .int yy), (5, .int tn)] := hl
  have hiX10 : ∀ w ∈ wsX100, w ∈ wsX10_pitch := by decide +kernel
  have hiX6 : ∀ w ∈ wsX60, w ∈ wsX10_pitch := by decide +kernel
  generalize hQ : MQ _ _ _ _ _ _ _ = Q
  have hks : kAll (cF cA zc) [(0, 0), (0, 6)] [cTP zc, cR6 cA zc] := ⟨(kF_tp (cA := cA) (z := zc)), (kF_r6 (cA := cA) (z := zc)), trivial⟩
  have hP : va_P (dC, dI) vwCl [cTP zc, cR6 cA zc] s.heap := kAll_P hPk hks
  have hD : va_D (va_A [cTP zc, cR6 cA zc] s.heap.size) [cTP zc, cR6 cA zc] := (kAll_D hDk hks (by simp)).self
  have hA : ∀ q : Nat, s.heap.size ≤ q → va_A [cTP zc, cR6 cA zc] s.heap.size q := fun q h => Or.inr h
  have hS : va_S (va_A [cTP zc, cR6 cA zc] s.heap.size) s.heap s.heap [] := va_S.rf
  refine lv_iload_n hx hb dX10_pitch_0 rfl (lv_at hl 1 rfl) ?_
  refine lv_iload_n hx hb dX10_pitch_1 rfl (lv_at hl 2 rfl) ?_
  refine vp_callSi (va_Run.run (va_runS (As := [.int x, .int y]) (rest := []) ⟨hx, hb, hml, hown, hts⟩ (c_X3_hasSquare l x y ) (va_cwS 2 hts gX10_pitch_X3_hasSquare rfl rfl rfl (by decide +kernel) ⟨Nat.le_of_ble_eq_true rfl, Nat.le_of_ble_eq_true rfl⟩) (p0_preS hN) rfl rfl hl.1 rfl (lv_room (Nat.le_of_ble_eq_true rfl)) dX10_pitch_2 ⟨Nat.le_of_ble_eq_true rfl, Nat.le_of_ble_eq_true rfl⟩)) (fun r1 hr1 => ?_)
  have hr1 : r1 = if (0 ≤ x ∧ x ≤ 7) ∧ (0 ≤ y ∧ y ≤ 5) then 1 else 0 := hr1
  refine lv_if_eq (tgt := 17) hx hb dX10_pitch_5 (by decide) (fun c2 => ?_) (fun c2 => ?_)
  · skip
    have c2 := (fa_bool_prop hr1).1.mp c2
    refine lv_iconst (v := (-1)) hx hb dX10_pitch_17 (by decide) ?_
    subst hQ
    refine W.widen (k := 1) (n := 8) (Nat.le_of_ble_eq_true rfl) (Nat.le_of_ble_eq_true rfl) ?_
    exact W.iret (v := (-1)) hx hb hr (fun t ht hW => ⟨⟨(-1), zc, rfl, ⟨⟨hI, rfl⟩, (Or.inl ⟨c2, rfl, rfl⟩)⟩, (by rw [ht]; exact hPk), va_K.moved hW.alike hKk, kDA_self hDk⟩, (kw_same hPk ht).2⟩) (fun q h => absurd h List.not_mem_nil) dX10_pitch_18
  · skip
    have c2 := (fa_bool_prop hr1).2.mp c2
    refine lv_iload_n hx hb dX10_pitch_8 rfl (lv_at hl 3 rfl) ?_
    refine lv_iload hx hb dX10_pitch_9 (lv_at hl 4 rfl) ?_
    refine vp_callSi (va_Run.run (va_runS (As := [.int xx, .int yy]) (rest := []) ⟨hx, hb, hml, hown, hts⟩ (c_X3_hasSquare l xx yy ) (va_cwS 2 hts gX10_pitch_X3_hasSquare rfl rfl rfl (by decide +kernel) ⟨Nat.le_of_ble_eq_true rfl, Nat.le_of_ble_eq_true rfl⟩) (p0_preS hN) rfl rfl hl.1 rfl (lv_room (Nat.le_of_ble_eq_true rfl)) dX10_pitch_11 ⟨Nat.le_of_ble_eq_true rfl, Nat.le_of_ble_eq_true rfl⟩)) (fun r3 hr3 => ?_)
    have hr3 : r3 = if (0 ≤ xx ∧ xx ≤ 7) ∧ (0 ≤ yy ∧ yy ≤ 5) then 1 else 0 := hr3
    refine lv_if_ne (tgt := 19) hx hb dX10_pitch_14 (by decide) (fun c4 => ?_) (fun c4 => ?_)
    · skip
      have c4 := (fa_bool_prop hr3).2.mp c4
      refine lv_iload_n hx hb dX10_pitch_19 rfl (lv_at hl 1 rfl) ?_
      refine lv_iload_n hx hb dX10_pitch_20 rfl (lv_at hl 3 rfl) ?_
      refine lv_icmp_gt (tgt := 41) hx hb dX10_pitch_21 (by decide) (fun c5 => ?_) (fun c5 => ?_)
      · skip
        refine lv_bipush (v := (-2)) hx hb dX10_pitch_41 (by decide) ?_
        subst hQ
        refine W.widen (k := 1) (n := 8) (Nat.le_of_ble_eq_true rfl) (Nat.le_of_ble_eq_true rfl) ?_
        exact W.iret (v := (-2)) hx hb hr (fun t ht hW => ⟨⟨(-2), zc, rfl, ⟨⟨hI, rfl⟩, (Or.inr (Or.inl ⟨c2, c4, c5, rfl, rfl⟩))⟩, (by rw [ht]; exact hPk), va_K.moved hW.alike hKk, kDA_self hDk⟩, (kw_same hPk ht).2⟩) (fun q h => absurd h List.not_mem_nil) dX10_pitch_43
      · skip
        refine lv_iload_n hx hb dX10_pitch_24 rfl (lv_at hl 2 rfl) ?_
        refine lv_iload hx hb dX10_pitch_25 (lv_at hl 4 rfl) ?_
        refine lv_icmp_gt (tgt := 41) hx hb dX10_pitch_27 (by decide) (fun c6 => ?_) (fun c6 => ?_)
        · skip
          refine lv_bipush (v := (-2)) hx hb dX10_pitch_41 (by decide) ?_
          subst hQ
          refine W.widen (k := 1) (n := 8) (Nat.le_of_ble_eq_true rfl) (Nat.le_of_ble_eq_true rfl) ?_
          exact W.iret (v := (-2)) hx hb hr (fun t ht hW => ⟨⟨(-2), zc, rfl, ⟨⟨hI, rfl⟩, (Or.inr (Or.inr (Or.inl ⟨c2, c4, c5, c6, rfl, rfl⟩)))⟩, (by rw [ht]; exact hPk), va_K.moved hW.alike hKk, kDA_self hDk⟩, (kw_same hPk ht).2⟩) (fun q h => absurd h List.not_mem_nil) dX10_pitch_43
        · skip
          refine lv_iload hx hb dX10_pitch_30 (lv_at hl 5 rfl) ?_
          refine lv_iconst (v := 1) hx hb dX10_pitch_32 (by decide) ?_
          refine lv_bipush (v := 100) hx hb dX10_pitch_33 (by decide) ?_
          refine vp_callSi (va_Run.run (va_runS (As := [.int tn, .int 1, .int 100]) (rest := []) ⟨hx, hb, hml, hown, hts⟩ (c_X10_isWithin l tn 1 100 ) (va_cwS 3 hts gX10_pitch_X10_isWithin rfl rfl rfl (by decide +kernel) ⟨Nat.le_of_ble_eq_true rfl, Nat.le_of_ble_eq_true rfl⟩) (p0_preS hN) rfl rfl hl.1 rfl (lv_room (Nat.le_of_ble_eq_true rfl)) dX10_pitch_35 ⟨Nat.le_of_ble_eq_true rfl, Nat.le_of_ble_eq_true rfl⟩)) (fun r7 hr7 => ?_)
          have hr7 : r7 = if 1 ≤ tn ∧ tn ≤ 100 then 1 else 0 := hr7
          refine lv_if_ne (tgt := 44) hx hb dX10_pitch_38 (by decide) (fun c8 => ?_) (fun c8 => ?_)
          · skip
            have c8 := (fa_bool_prop hr7).2.mp c8
            refine lv_aload_n hx hb dX10_pitch_44 rfl (lv_at hl 0 rfl) ?_
            refine lv_iload_n hx hb dX10_pitch_45 rfl (lv_at hl 1 rfl) ?_
            refine lv_iload_n hx hb dX10_pitch_46 rfl (lv_at hl 2 rfl) ?_
            refine lv_iload_n hx hb dX10_pitch_47 rfl (lv_at hl 3 rfl) ?_
            refine lv_iload hx hb dX10_pitch_48 (lv_at hl 4 rfl) ?_
            refine vp_callSi (va_Run.run (va_runV (As := [.int x, .int y, .int xx, .int yy]) (rest := []) ⟨hx, hb, hml, hown, hts⟩ (P_isAnyPitched l dC dI cA _ zc x y xx yy hI) (cwV 4 hts gX10_pitch_X10_isAnyPitched rfl rfl rfl (by decide +kernel) ⟨Nat.le_of_ble_eq_true rfl, Nat.le_of_ble_eq_true rfl⟩) (kw_preV (va_recv hK hP (ci := 10) (q0 := 0) rfl rfl) hPk hKk hDk hN) rfl rfl hl.1 rfl (lv_room (Nat.le_of_ble_eq_true rfl)) dX10_pitch_50 ⟨Nat.le_of_ble_eq_true rfl, Nat.le_of_ble_eq_true rfl⟩)) (fun r9 hr9 => ?_)
            have hr9 : (r9 = 0 ∧ ∀ p, p < cs_n zc 0 → ¬ (cs_I zc 11 p ≤ xx ∧ x ≤ cs_I zc 13 p ∧ cs_I zc 12 p ≤ yy ∧ y ≤ cs_I zc 14 p)) ∨ (r9 = 1 ∧ ∃ p, p < cs_n zc 0 ∧ (cs_I zc 11 p ≤ xx ∧ x ≤ cs_I zc 13 p ∧ cs_I zc 12 p ≤ yy ∧ y ≤ cs_I zc 14 p)) := hr9
            rcases hr9 with ⟨er9, hanyr9⟩ | ⟨er9, hanyr9⟩
            · subst er9
              refine lv_if_eq (tgt := 59) hx hb dX10_pitch_53 (by decide) (fun c10 => ?_) (fun c10 => ?_)
              · skip
                refine lv_aload_n hx hb dX10_pitch_59 rfl (lv_at hl 0 rfl) ?_
                refine va_get (D := (dC, dI)) (ci := 10) (v := .int (nI (cs_n zc 0))) (C := RX10) (T := TX10) (N := 13) hx hb hts hiX10 hown hK hP 0 rfl rfl 7 (by decide) (hts (.fieldLink RX10 124 "TributePitches" "pitchCount" "I") (by decide +kernel)) (fun _ h9 => h9) rfl dX10_pitch_60 ?_
                refine lv_bipush (v := 12) hx hb dX10_pitch_63 (by decide) ?_
                refine lv_icmp_lt (tgt := 71) hx hb dX10_pitch_65 (by decide) (fun c11 => ?_) (fun c11 => ?_)
                · skip
                  have hp8 : cs_n zc 0 < 12 := nI_lt_of (b := 12) (by omega) (by omega) c11
                  refine lv_aload_n hx hb dX10_pitch_71 rfl (lv_at hl 0 rfl) ?_
                  refine va_get (D := (dC, dI)) (ci := 10) (v := .ref (cs_X zc 0 6)) (C := RX10) (T := TX10) (N := 13) hx hb hts hiX10 hown hK hP 0 rfl rfl 1 (by decide) (hts (.fieldLink RX10 20 "TributePitches" "pitches" "[LTributePitches$Pitch;") (by decide +kernel)) (fun _ h9 => h9) rfl dX10_pitch_72 ?_
                  refine lv_aload_n hx hb dX10_pitch_75 rfl (lv_at hl 0 rfl) ?_
                  refine va_get (D := (dC, dI)) (ci := 10) (v := .int (nI (cs_n zc 0))) (C := RX10) (T := TX10) (N := 13) hx hb hts hiX10 hown hK hP 0 rfl rfl 7 (by decide) (hts (.fieldLink RX10 124 "TributePitches" "pitchCount" "I") (by decide +kernel)) (fun _ h9 => h9) rfl dX10_pitch_76 ?_
                  refine va_new (ci := 6) (fs := [.int 0, .int 0, .int 0, .int 0, .int 0, .int 0, .int 0, .null]) (C := RX6) (T := TX6) (N := 8) hx hb hts hiX6 tyX6 tyX6_ok hown (hts (.classLink RX10 18 RX6) (by decide +kernel)) (hts (.instantiable RX6 8) (by decide +kernel)) (hts (.initialized RX6) (by decide +kernel)) hK hP hD hS hA rfl (fun j hj => by rcases (show j = 0 ∨ j = 1 ∨ j = 2 ∨ j = 3 ∨ j = 4 ∨ j = 5 ∨ j = 6 ∨ j = 7 by omega) with rfl | rfl | rfl | rfl | rfl | rfl | rfl | rfl <;> rfl) (Nat.le_of_ble_eq_true rfl) (Nat.le_of_ble_eq_true rfl) dX10_pitch_79 (fun qp H hP hD hS => ?_)
                  have hP : va_P (dC, dI) vwCl [cTP zc, cR6 cA zc, (qp, .inr (6, [.int 0, .int 0, .int 0, .int 0, .int 0, .int 0, .int 0, .null]))] H := hP
                  have hD : va_D _ [cTP zc, cR6 cA zc, (qp, .inr (6, [.int 0, .int 0, .int 0, .int 0, .int 0, .int 0, .int 0, .null]))] := hD
                  refine lv_dup hx hb dX10_pitch_82 rfl ?_
                  refine lv_aload_n hx hb dX10_pitch_83 rfl (lv_at hl 0 rfl) ?_
                  refine va_get (D := (dC, dI)) (ci := 10) (v := .int (nI (cs_n zc 0))) (C := RX10) (T := TX10) (N := 13) hx hb hts hiX10 hown hK hP 0 rfl rfl 7 (by decide) (hts (.fieldLink RX10 124 "TributePitches" "pitchCount" "I") (by decide +kernel)) (fun _ h9 => h9) rfl dX10_pitch_84 ?_
                  refine lv_iload_n hx hb dX10_pitch_87 rfl (lv_at hl 1 rfl) ?_
                  refine lv_iload_n hx hb dX10_pitch_88 rfl (lv_at hl 2 rfl) ?_
                  refine lv_iload_n hx hb dX10_pitch_89 rfl (lv_at hl 3 rfl) ?_
                  refine lv_iload hx hb dX10_pitch_90 (lv_at hl 4 rfl) ?_
                  refine lv_iload hx hb dX10_pitch_92 (lv_at hl 5 rfl) ?_
                  have hPc := hP.sub (ws' := [(qp, .inr (6, [.int 0, .int 0, .int 0, .int 0, .int 0, .int 0, .int 0, .null]))]) [2] rfl
                  have hDc := hD.sub (ws' := [(qp, .inr (6, [.int 0, .int 0, .int 0, .int 0, .int 0, .int 0, .int 0, .null]))]) [2] (by decide) rfl
                  have hKc := hK.sub (tys' := []) [] rfl
                  have hFc := va_free (wc := [(qp, .inr (6, [.int 0, .int 0, .int 0, .int 0, .int 0, .int 0, .int 0, .null]))]) hD hS hA [2] rfl
                  refine va_callv (va_runI (As := [.int (nI (cs_n zc 0)), .int x, .int y, .int xx, .int yy, .int tn]) (rest := [.ref qp, .int (nI (cs_n zc 0)), .ref (cs_X zc 0 6)]) ⟨hx, hb, hml, hown, hts⟩ (c_X6_init l dC dI  _ qp (nI (cs_n zc 0)) x y xx yy tn ) (cwI 6 hts gX10_pitch_X6_init rfl rfl rfl (hts (.initialized RX6) (by decide +kernel)) (hts (.methodLink RX10 127 yX6_init) (by decide +kernel)) (hts (.instanceMethod yX6_init) (by decide +kernel)) rfl (by decide +kernel) ⟨Nat.le_of_ble_eq_true rfl, Nat.le_of_ble_eq_true rfl⟩) (pw_preS hPc hKc hDc hN) rfl rfl hl.1 rfl (lv_room (Nat.le_of_ble_eq_true rfl)) dX10_pitch_94 ⟨Nat.le_of_ble_eq_true rfl, Nat.le_of_ble_eq_true rfl⟩) hS (fun q _ h => hFc q h) hFc (fun u t H1 locs ht hvm hw hB hz1 hk1 hS => ?_)
                  obtain ⟨hP1, hK1, hD1⟩ := hB
                  rw [ht] at hP1
                  obtain ⟨hP, hD⟩ := va_join (wr := [cTP zc, cR6 cA zc]) (w1 := [(qp, .inr (6, [.int (nI (cs_n zc 0)), .int x, .int y, .int xx, .int yy, .int tn, .int 0, .null]))]) hP hD [2] [0, 1] rfl rfl (by decide) (by decide) hk1 hFc hP1 hD1
                  generalize H1 = H at hP hS ⊢
                  have hP : va_P (dC, dI) vwCl [cTP zc, cR6 cA zc, (qp, .inr (6, [.int (nI (cs_n zc 0)), .int x, .int y, .int xx, .int yy, .int tn, .int 0, .null]))] H := hP
                  have hD : va_D _ [cTP zc, cR6 cA zc, (qp, .inr (6, [.int (nI (cs_n zc 0)), .int x, .int y, .int xx, .int yy, .int tn, .int 0, .null]))] := hD
                  refine va_astq (r := (RX6, TX6, 8)) hx hb hK hP hD hS 1 1 2 6 rfl rfl rfl rfl (vp_in_nI (by omega) (by omega)) dX10_pitch_97 (fun H locs hP hD hS => ?_)
                  have hP : va_P (dC, dI) vwCl [cTP zc, (cs_X zc 0 6, .inl (cA 1, 12, .inr (.inr (.inr (.inr (va_up (rfN (cs_n zc 0) (cs_X zc 1)) (nI (cs_n zc 0)).toNatClampNeg (some qp))))))), (qp, .inr (6, [.int (nI (cs_n zc 0)), .int x, .int y, .int xx, .int yy, .int tn, .int 0, .null]))] H := hP
                  have hD : va_D _ [cTP zc, (cs_X zc 0 6, .inl (cA 1, 12, .inr (.inr (.inr (.inr (va_up (rfN (cs_n zc 0) (cs_X zc 1)) (nI (cs_n zc 0)).toNatClampNeg (some qp))))))), (qp, .inr (6, [.int (nI (cs_n zc 0)), .int x, .int y, .int xx, .int yy, .int tn, .int 0, .null]))] := hD
                  refine lv_aload_n hx hb dX10_pitch_98 rfl (lv_at hl 0 rfl) ?_
                  refine lv_dup hx hb dX10_pitch_99 rfl ?_
                  refine va_get (D := (dC, dI)) (ci := 10) (v := .int (nI (cs_n zc 0))) (C := RX10) (T := TX10) (N := 13) hx hb hts hiX10 hown hK hP 0 rfl rfl 7 (by decide) (hts (.fieldLink RX10 124 "TributePitches" "pitchCount" "I") (by decide +kernel)) (fun _ h9 => h9) rfl dX10_pitch_100 ?_
                  refine lv_dup_x1 hx hb dX10_pitch_103 rfl rfl ?_
                  refine lv_iconst (v := 1) hx hb dX10_pitch_104 (by decide) ?_
                  refine lv_iadd hx hb dX10_pitch_105 ?_
                  refine lv_topi (fun v105 ev105 => ?_)
                  have ev105 : v105 = nI (cs_n zc 0 + 1) := by rw [ev105]; exact nI_1 _
                  subst ev105
                  refine va_put (D := (dC, dI)) (ci := 10) (v := .int (nI (cs_n zc 0 + 1))) (ty := .int) (C := RX10) (T := TX10) (N := 13) hx hb hts hiX10 tyX10 tyX10_ok nmX10 hown hK hP hD hS 0 rfl rfl 7 (by decide) (hts (.fieldLink RX10 124 "TributePitches" "pitchCount" "I") (by decide +kernel)) (fun _ h9 => h9) rfl (by decide +kernel) rfl rfl (Nat.le_of_ble_eq_true rfl) dX10_pitch_106 (fun H locs hP hD hS => ?_)
                  have hP : va_P (dC, dI) vwCl [(cs_X zc 0 0, .inr (10, [.ref (cs_X zc 0 1), .ref (cs_X zc 0 6), .ref (cs_X zc 0 7), .ref (cs_X zc 0 8), .ref (cs_X zc 0 9), .ref (cs_X zc 0 10), .ref (cs_X zc 0 11), .int (nI (cs_n zc 0 + 1)), .int (nI (cs_n zc 1)), .int (nI (cs_n zc 2)), .int (nI (cs_n zc 3)), va_rf (opN (cs_n zc 4) (fun _ => cs_X zc 5 0)), .int (cs_i zc 2)])), (cs_X zc 0 6, .inl (cA 1, 12, .inr (.inr (.inr (.inr (va_up (rfN (cs_n zc 0) (cs_X zc 1)) (nI (cs_n zc 0)).toNatClampNeg (some qp))))))), (qp, .inr (6, [.int (nI (cs_n zc 0)), .int x, .int y, .int xx, .int yy, .int tn, .int 0, .null]))] H := hP
                  have hD : va_D _ [(cs_X zc 0 0, .inr (10, [.ref (cs_X zc 0 1), .ref (cs_X zc 0 6), .ref (cs_X zc 0 7), .ref (cs_X zc 0 8), .ref (cs_X zc 0 9), .ref (cs_X zc 0 10), .ref (cs_X zc 0 11), .int (nI (cs_n zc 0 + 1)), .int (nI (cs_n zc 1)), .int (nI (cs_n zc 2)), .int (nI (cs_n zc 3)), va_rf (opN (cs_n zc 4) (fun _ => cs_X zc 5 0)), .int (cs_i zc 2)])), (cs_X zc 0 6, .inl (cA 1, 12, .inr (.inr (.inr (.inr (va_up (rfN (cs_n zc 0) (cs_X zc 1)) (nI (cs_n zc 0)).toNatClampNeg (some qp))))))), (qp, .inr (6, [.int (nI (cs_n zc 0)), .int x, .int y, .int xx, .int yy, .int tn, .int 0, .null]))] := hD
                  subst hQ
                  have hP9 : va_P (dC, dI) vwCl [(cs_X zc 0 0, .inr (10, [.ref (cs_X zc 0 1), .ref (cs_X zc 0 6), .ref (cs_X zc 0 7), .ref (cs_X zc 0 8), .ref (cs_X zc 0 9), .ref (cs_X zc 0 10), .ref (cs_X zc 0 11), .int (nI (cs_n zc 0 + 1)), .int (nI (cs_n zc 1)), .int (nI (cs_n zc 2)), .int (nI (cs_n zc 3)), va_rf (opN (cs_n zc 4) (fun _ => cs_X zc 5 0)), .int (cs_i zc 2)])), (cs_X zc 0 6, .inl (cA 1, 12, .inr (.inr (.inr (.inr (va_up (rfN (cs_n zc 0) (cs_X zc 1)) (nI (cs_n zc 0)).toNatClampNeg (some qp))))))), (qp, .inr (6, [.int (nI (cs_n zc 0)), .int x, .int y, .int xx, .int yy, .int tn, .int 0, .null]))] H := hP.sub [0, 1, 2] rfl
                  have hD9 : va_D (va_A [cTP zc, cR6 cA zc] s.heap.size) [(cs_X zc 0 0, .inr (10, [.ref (cs_X zc 0 1), .ref (cs_X zc 0 6), .ref (cs_X zc 0 7), .ref (cs_X zc 0 8), .ref (cs_X zc 0 9), .ref (cs_X zc 0 10), .ref (cs_X zc 0 11), .int (nI (cs_n zc 0 + 1)), .int (nI (cs_n zc 1)), .int (nI (cs_n zc 2)), .int (nI (cs_n zc 3)), va_rf (opN (cs_n zc 4) (fun _ => cs_X zc 5 0)), .int (cs_i zc 2)])), (cs_X zc 0 6, .inl (cA 1, 12, .inr (.inr (.inr (.inr (va_up (rfN (cs_n zc 0) (cs_X zc 1)) (nI (cs_n zc 0)).toNatClampNeg (some qp))))))), (qp, .inr (6, [.int (nI (cs_n zc 0)), .int x, .int y, .int xx, .int yy, .int tn, .int 0, .null]))] := hD.sub [0, 1, 2] (by decide) rfl
                  have hlf := lf_pitch_3 cA zc x y xx yy tn qp c2 c4 c5 c6 c8 hanyr9 c11 hp8 hI
                  exact W.iret (v := nI (cs_n zc 0)) hx hb hr (fun t ht hW => have hJ := kjoin hPk hDk hks rfl (hS.F ht) (by rw [ht]; exact hP9) hD9 hlf.2.1 hlf.2.2; ⟨⟨nI (cs_n zc 0), (cs_i zc, va_up (cs_n zc) 0 (cs_n zc 0 + 1), va_up (va_up (va_up (va_up (va_up (va_up (cs_I zc) 11 (va_up (cs_I zc 11) (cs_n zc 0) x)) 12 (va_up (cs_I zc 12) (cs_n zc 0) y)) 13 (va_up (cs_I zc 13) (cs_n zc 0) xx)) 14 (va_up (cs_I zc 14) (cs_n zc 0) yy)) 15 (va_up (cs_I zc 15) (cs_n zc 0) tn)) 16 (va_up (cs_I zc 16) (cs_n zc 0) 0), cs_L zc, va_up (cs_N zc) 0 (va_up (cs_N zc 0) (cs_n zc 0) 0), cs_S zc, va_up (cs_X zc) 1 (va_up (cs_X zc 1) (cs_n zc 0) qp)), rfl, ⟨⟨hlf.1, rfl⟩, (Or.inr (Or.inr (Or.inr (Or.inl ⟨c2, c4, c5, c6, c8, hanyr9, c11, hp8, qp, rfl, rfl⟩))))⟩, hJ.1, va_K.moved hW.alike hKk, hJ.2.1⟩, hJ.2.2⟩) (fun q h => kAll_A hks _ (hS.2.2 q h)) dX10_pitch_109
                · skip
                  refine lv_bipush (v := (-4)) hx hb dX10_pitch_68 (by decide) ?_
                  subst hQ
                  refine W.widen (k := 1) (n := 8) (Nat.le_of_ble_eq_true rfl) (Nat.le_of_ble_eq_true rfl) ?_
                  exact W.iret (v := (-4)) hx hb hr (fun t ht hW => ⟨⟨(-4), zc, rfl, ⟨⟨hI, rfl⟩, (Or.inr (Or.inr (Or.inr (Or.inr (Or.inl ⟨c2, c4, c5, c6, c8, hanyr9, c11, rfl, rfl⟩)))))⟩, (by rw [ht]; exact hPk), va_K.moved hW.alike hKk, kDA_self hDk⟩, (kw_same hPk ht).2⟩) (fun q h => absurd h List.not_mem_nil) dX10_pitch_70
              · exact absurd c10 (by decide)
            · subst er9
              refine lv_if_eq (tgt := 59) hx hb dX10_pitch_53 (by decide) (fun c13 => ?_) (fun c13 => ?_)
              · exact absurd c13 (by decide)
              · skip
                refine lv_bipush (v := (-3)) hx hb dX10_pitch_56 (by decide) ?_
                subst hQ
                refine W.widen (k := 1) (n := 8) (Nat.le_of_ble_eq_true rfl) (Nat.le_of_ble_eq_true rfl) ?_
                exact W.iret (v := (-3)) hx hb hr (fun t ht hW => ⟨⟨(-3), zc, rfl, ⟨⟨hI, rfl⟩, (Or.inr (Or.inr (Or.inr (Or.inr (Or.inr (Or.inl ⟨c2, c4, c5, c6, c8, hanyr9, rfl, rfl⟩))))))⟩, (by rw [ht]; exact hPk), va_K.moved hW.alike hKk, kDA_self hDk⟩, (kw_same hPk ht).2⟩) (fun q h => absurd h List.not_mem_nil) dX10_pitch_58
          · skip
            have c8 := (fa_bool_prop hr7).1.mp c8
            refine lv_bipush (v := (-2)) hx hb dX10_pitch_41 (by decide) ?_
            subst hQ
            refine W.widen (k := 1) (n := 8) (Nat.le_of_ble_eq_true rfl) (Nat.le_of_ble_eq_true rfl) ?_
            exact W.iret (v := (-2)) hx hb hr (fun t ht hW => ⟨⟨(-2), zc, rfl, ⟨⟨hI, rfl⟩, (Or.inr (Or.inr (Or.inr (Or.inr (Or.inr (Or.inr (Or.inl ⟨c2, c4, c5, c6, c8, rfl, rfl⟩)))))))⟩, (by rw [ht]; exact hPk), va_K.moved hW.alike hKk, kDA_self hDk⟩, (kw_same hPk ht).2⟩) (fun q h => absurd h List.not_mem_nil) dX10_pitch_43
    · skip
      have c4 := (fa_bool_prop hr3).1.mp c4
      refine lv_iconst (v := (-1)) hx hb dX10_pitch_17 (by decide) ?_
      subst hQ
      refine W.widen (k := 1) (n := 8) (Nat.le_of_ble_eq_true rfl) (Nat.le_of_ble_eq_true rfl) ?_
      exact W.iret (v := (-1)) hx hb hr (fun t ht hW => ⟨⟨(-1), zc, rfl, ⟨⟨hI, rfl⟩, (Or.inr (Or.inr (Or.inr (Or.inr (Or.inr (Or.inr (Or.inr ⟨c2, c4, rfl, rfl⟩)))))))⟩, (by rw [ht]; exact hPk), va_K.moved hW.alike hKk, kDA_self hDk⟩, (kw_same hPk ht).2⟩) (fun q h => absurd h List.not_mem_nil) dX10_pitch_18
