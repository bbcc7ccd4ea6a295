theorem lrem_I {x y : Int64} (hy : ¬ y = 0) : (x - x / y * y).toInt = x.toInt.tmod y.toInt := by
  have hb : y.toInt ≠ 0 := fun q => hy (Int64.toInt_inj.mp (q.trans (by decide)))
  have h1 : (x - x / y * y).toInt = (x.toInt - x.toInt.tdiv y.toInt * y.toInt).bmod (2 ^ 64) := by
    rw [Int64.toInt_sub, Int64.toInt_mul, Int64.toInt_div]
    simp
  have h2 : x.toInt - x.toInt.tdiv y.toInt * y.toInt = x.toInt.tmod y.toInt := by
    have := Int.tmod_add_mul_tdiv x.toInt y.toInt
    rw [Int.mul_comm] at this
    omega
  have h3 : (x.toInt.tmod y.toInt).natAbs < y.toInt.natAbs := by
    rw [Int.natAbs_tmod]
    exact Nat.mod_lt _ (Int.natAbs_pos.mpr hb)
  have h4 := Int64.toInt_lt y
  have h5 := Int64.le_toInt y
  rw [h1, h2, Int.bmod_eq_of_le (by omega) (by omega)]
theorem mod_half {a b : Nat} (hb : 0 < b) (h : b ≤ a) : 2 * (a % b) ≤ a := by
  have h1 := Nat.mod_lt a hb
  have h2 : a % b + b ≤ a := by
    have h3 : b * (a / b) + a % b = a := Nat.div_add_mod a b
    have h4 : 0 < a / b := Nat.div_pos h hb
    have h5 : b * 1 ≤ b * (a / b) := Nat.mul_le_mul_left b h4
    omega
  omega
/-- two rounds halve what is left -/
theorem gpr_half {a b : Int64} (n : Nat) : 2 * (gpr a b (n + 2)).2.toInt.natAbs ≤ (gpr a b n).2.toInt.natAbs ∧ ((gpr a b n).2 ≠ 0 → (gpr a b (n + 1)).2.toInt.natAbs < (gpr a b n).2.toInt.natAbs) := by
  by_cases h0 : (gpr a b n).2 = 0
  · have e1 : gpr a b (n + 1) = gpr a b n := by rw [gpr, if_pos h0]
    have e2 : gpr a b (n + 2) = gpr a b n := by rw [show n + 2 = (n + 1) + 1 from rfl, gpr, e1, if_pos h0]
    rw [e2, h0]
    exact ⟨by decide, fun q => absurd rfl q⟩
  · have e1 : gpr a b (n + 1) = ((gpr a b n).2, (gpr a b n).1 - (gpr a b n).1 / (gpr a b n).2 * (gpr a b n).2) := by rw [gpr, if_neg h0]
    have l1 : (gpr a b (n + 1)).2.toInt.natAbs < (gpr a b n).2.toInt.natAbs := by rw [e1]; exact lrem_lt h0
    refine ⟨?_, fun _ => l1⟩
    by_cases h1 : (gpr a b (n + 1)).2 = 0
    · have e2 : gpr a b (n + 2) = gpr a b (n + 1) := by rw [show n + 2 = (n + 1) + 1 from rfl, gpr, if_pos h1]
      rw [e2, h1]
      have : (0 : Int64).toInt.natAbs = 0 := by decide
      omega
    · have e2 : (gpr a b (n + 2)).2 = (gpr a b (n + 1)).1 - (gpr a b (n + 1)).1 / (gpr a b (n + 1)).2 * (gpr a b (n + 1)).2 := by rw [show n + 2 = (n + 1) + 1 from rfl, gpr, if_neg h1]
      have e3 : (gpr a b (n + 1)).1 = (gpr a b n).2 := by rw [e1]
      rw [e2, lrem_I h1, Int.natAbs_tmod, e3]
      refine mod_half (Int.natAbs_pos.mpr (fun q => h1 (Int64.toInt_inj.mp (q.trans (by decide))))) (Nat.le_of_lt l1)
theorem gpr_pow {a b : Int64} : ∀ k, 2 ^ k * (gpr a b (2 * k)).2.toInt.natAbs ≤ b.toInt.natAbs
  | 0 => by simp [gpr]
  | k + 1 => by
    have ih := gpr_pow (a := a) (b := b) k
    have h := (gpr_half (a := a) (b := b) (2 * k)).1
    rw [show 2 * (k + 1) = 2 * k + 2 by omega, Nat.pow_succ, Nat.mul_assoc]
    exact Nat.le_trans (Nat.mul_le_mul_left _ h) ih
theorem gpr_128 {a b : Int64} : (gpr a b 128).2 = 0 := by
  have h1 := gpr_pow (a := a) (b := b) 63
  have h2 := Int64.toInt_lt b
  have h3 := Int64.le_toInt b
  have h4 : (gpr a b 126).2.toInt.natAbs ≤ 1 := by
    have h1 : 2 ^ 63 * (gpr a b 126).2.toInt.natAbs ≤ b.toInt.natAbs := h1
    omega
  have z : ∀ n, (gpr a b n).2 = 0 → (gpr a b (n + 1)).2 = 0 := fun n q => by rw [gpr, if_pos q]; exact q
  refine z 127 ?_
  by_cases q : (gpr a b 126).2 = 0
  · exact z 126 q
  · have h5 := (gpr_half (a := a) (b := b) 126).2 q
    have h6 : (gpr a b 127).2.toInt = 0 := by
      have h5 : (gpr a b 127).2.toInt.natAbs < (gpr a b 126).2.toInt.natAbs := h5
      omega
    exact Int64.toInt_inj.mp (h6.trans (by decide))
theorem gpr_any {a b r : Int64} (h : ∃ n, (gpr a b n).2 = 0 ∧ r = (gpr a b n).1) : (gpr a b 128).1 = r := by
  obtain ⟨n, h1, rfl⟩ := h
  rcases Nat.le_total n 128 with q | q
  · exact gpr_stop h1 q
  · exact (gpr_stop gpr_128 q).symm
theorem gpr_0 {d : Int64} (hd : ¬ d = 0) : (gpr 0 d 128).1 = d := by
  have e1 : gpr 0 d 1 = (d, 0 - 0 / d * d) := by
    show (if d = 0 then (0, d) else (d, 0 - 0 / d * d)) = _
    rw [if_neg hd]
  have e2 : (gpr 0 d 1).2 = 0 := by
    rw [e1]
    have := lrem_I (x := 0) hd
    exact Int64.toInt_inj.mp (this.trans (by simp))
  rw [gpr_stop e2 (by omega), e1]
theorem gpr_00 : ∀ n, gpr 0 0 n = (0, 0)
  | 0 => rfl
  | n + 1 => by rw [gpr, gpr_00 n]; rfl
theorem div_self64 {d : Int64} (hd : ¬ d = 0) : d / d = 1 := by
  have hb : d.toInt ≠ 0 := fun q => hd (Int64.toInt_inj.mp (q.trans (by decide)))
  apply Int64.toInt_inj.mp
  rw [Int64.toInt_div, Int.tdiv_self hb]
  decide
theorem sk_eq {zc : CS} {zr : RS2} (hI : invC zc) (h : relD zc zr) {g : Nat} (hg : g < rs_n zr 1) : ∀ n, n ≤ rs_n zr 2 → skU zc g n = rkU zr (nI g) n ∧ skD zc g n = rkD zr (nI g) n
  | 0, _ => ⟨rfl, rfl⟩
  | t + 1, hn => by
    have hb := dn2 hI h
    obtain ⟨i1, i2⟩ := sk_eq hI h hg t (by omega)
    obtain ⟨⟨y1, y2, y3, y4, y5⟩, ⟨w1, w2, w3, w4, w5, w6⟩, y7⟩ := h.2.2.2.1.1 t (by omega)
    have hN := hI.2.2.2.1 t (by rw [h.1.2.2.1]; omega)
    have hN2 : cs_N zc 2 t < rs_n zr 1 := h.1.2.1 ▸ hN.1
    have hcond : (cs_N zc 2 t = g ∧ ¬ cs_I zc 33 t = 0) ↔ (rs_I zr 25 t = nI g ∧ ¬ rs_I zr 28 t = 0) := by
      rw [y1, y4, nI_eq (by omega) (by omega)]
    rw [skU, skD, rkU, rkD, i1, i2, w1, w2, w3]
    by_cases q : rs_I zr 25 t = nI g ∧ ¬ rs_I zr 28 t = 0
    · rw [if_pos (hcond.mpr q), if_pos (hcond.mpr q)]
      by_cases z : 0 < rs_L zr 29 t + rs_L zr 30 t
      · rw [if_pos ⟨q.1, q.2, z⟩, if_pos ⟨q.1, q.2, z⟩]
        refine ⟨?_, rfl⟩
        rw [Int64.mul_assoc]
      · have e0 : rs_L zr 29 t + rs_L zr 30 t = 0 := by
          have q1 : ¬ (0 : Int64).toInt < (rs_L zr 29 t + rs_L zr 30 t).toInt := fun w => z (Int64.lt_iff_toInt_lt.mpr w)
          have z0 : (0 : Int64).toInt = 0 := by decide
          apply Int64.toInt_inj.mp
          rw [Int64.toInt_add, Int.bmod_eq_of_le (by omega) (by omega)] at q1 ⊢
          omega
        rw [if_neg (fun w => z w.2.2), if_neg (fun w => z w.2.2), e0]
        simp
    · rw [if_neg (fun w => q (hcond.mp w)), if_neg (fun w => q (hcond.mp w)), if_neg (fun w => q ⟨w.1, w.2.1⟩), if_neg (fun w => q ⟨w.1, w.2.1⟩)]
      exact ⟨rfl, rfl⟩
theorem eqD_skill {zc u : CS} {zr v : RS2} {g wh : Int32} {r r' : Int64} (hI : invC zc) (h : relD zc zr) (hc : pC_skill zc g wh r u) (hr : pR_skill zr g wh r' v) : r = r' := by
  have hb := dn2 hI h
  obtain ⟨⟨e0, e1, e2, e3⟩, _⟩ := id h
  rcases hr with ⟨b1, rfl, _⟩ | ⟨j, rfl, b1, b2, b3, q, hq, b4, rfl, _⟩ | ⟨j, rfl, b1, b2, b3, q, hq, b4, rfl, _⟩ | ⟨j, rfl, b1, b2, b3, rfl, _⟩ | ⟨j, rfl, b1, b2, rfl, _⟩
  · rcases hc with ⟨a1, rfl, _⟩ | ⟨jg, e, a1, _⟩ | ⟨jg, e, a1, _⟩ | ⟨jg, e, a1, _⟩ | ⟨jg, e, a1, _⟩ | ⟨jg, e, a1, _⟩
    · rfl
    all_goals exact absurd e (b1 jg (e1 ▸ a1))
  · obtain ⟨s1, s2⟩ := sk_eq hI h b1 (rs_n zr 2) (Nat.le_refl _)
    rcases hc with ⟨a1, rfl, _⟩ | ⟨jg, e, a1, a2, q6, hq6, a3, a4, rfl, _⟩ | ⟨jg, e, a1, a2, q6, hq6, a3, a4, rfl, _⟩ | ⟨jg, e, a1, a2, q6, hq6, a3, a4, rfl, _⟩ | ⟨jg, e, a1, a2, q6, hq6, a3, a4, rfl, _⟩ | ⟨jg, e, a1, a2, rfl, _⟩
    · exact absurd rfl (a1 j (e1 ▸ b1))
    · obtain rfl := ix_n (by omega) b1 (e1 ▸ a1) e
      rw [e2, s1, s2] at hq6
      rw [gpr_any hq] at hq6
      rw [e2, s2, hq6]
    · exact absurd a4 b4
    · obtain rfl := ix_n (by omega) b1 (e1 ▸ a1) e
      rw [e2, s1, s2] at hq6
      rw [gpr_any hq] at hq6
      exact absurd (hq6.symm.trans a3) (gpr_nz b3 hq)
    · exact absurd a4 b4
    · exact absurd b2 a2
  · obtain ⟨s1, s2⟩ := sk_eq hI h b1 (rs_n zr 2) (Nat.le_refl _)
    rcases hc with ⟨a1, rfl, _⟩ | ⟨jg, e, a1, a2, q6, hq6, a3, a4, rfl, _⟩ | ⟨jg, e, a1, a2, q6, hq6, a3, a4, rfl, _⟩ | ⟨jg, e, a1, a2, q6, hq6, a3, a4, rfl, _⟩ | ⟨jg, e, a1, a2, q6, hq6, a3, a4, rfl, _⟩ | ⟨jg, e, a1, a2, rfl, _⟩
    · exact absurd rfl (a1 j (e1 ▸ b1))
    · exact absurd b4 a4
    · obtain rfl := ix_n (by omega) b1 (e1 ▸ a1) e
      rw [e2, s1, s2] at hq6
      rw [gpr_any hq] at hq6
      rw [e2, s1, hq6]
    · exact absurd b4 a4
    · obtain rfl := ix_n (by omega) b1 (e1 ▸ a1) e
      rw [e2, s1, s2] at hq6
      rw [gpr_any hq] at hq6
      exact absurd (hq6.symm.trans a3) (gpr_nz b3 hq)
    · exact absurd b2 a2
  · obtain ⟨s1, s2⟩ := sk_eq hI h b1 (rs_n zr 2) (Nat.le_refl _)
    rcases hc with ⟨a1, rfl, _⟩ | ⟨jg, e, a1, a2, q6, hq6, a3, a4, rfl, _⟩ | ⟨jg, e, a1, a2, q6, hq6, a3, a4, rfl, _⟩ | ⟨jg, e, a1, a2, q6, hq6, a3, a4, rfl, _⟩ | ⟨jg, e, a1, a2, q6, hq6, a3, a4, rfl, _⟩ | ⟨jg, e, a1, a2, rfl, _⟩
    · exact absurd rfl (a1 j (e1 ▸ b1))
    · obtain rfl := ix_n (by omega) b1 (e1 ▸ a1) e
      rw [e2, s1, s2] at hq6
      rw [b3] at hq6
      have hw : wh = 1 := (k01 b2).resolve_left a4
      by_cases hd : rkD zr (nI j) (rs_n zr 2) = 0
      · rw [hd, gpr_00] at hq6; exact absurd hq6 a3
      · rw [gpr_0 hd] at hq6; rw [e2, s2, hq6, div_self64 hd, hw]; decide
    · obtain rfl := ix_n (by omega) b1 (e1 ▸ a1) e
      rw [e2, s1, s2] at hq6
      rw [b3] at hq6
      by_cases hd : rkD zr (nI j) (rs_n zr 2) = 0
      · rw [hd, gpr_00] at hq6; exact absurd hq6 a3
      · rw [gpr_0 hd] at hq6
        rw [e2, s1, hq6, b3, a4]
        apply Int64.toInt_inj.mp; rw [Int64.toInt_div]; simp
    · obtain rfl := ix_n (by omega) b1 (e1 ▸ a1) e
      rw [e2, s1, s2] at hq6
      have hw : wh = 1 := (k01 b2).resolve_left a4
      rw [hw]; decide
    · obtain rfl := ix_n (by omega) b1 (e1 ▸ a1) e
      rw [e2, s1, s2] at hq6
      rw [a4]; decide
    · exact absurd b2 a2
  · rcases hc with ⟨a1, rfl, _⟩ | ⟨jg, e, a1, a2, q6, hq6, a3, a4, rfl, _⟩ | ⟨jg, e, a1, a2, q6, hq6, a3, a4, rfl, _⟩ | ⟨jg, e, a1, a2, q6, hq6, a3, a4, rfl, _⟩ | ⟨jg, e, a1, a2, q6, hq6, a3, a4, rfl, _⟩ | ⟨jg, e, a1, a2, rfl, _⟩
    · exact absurd rfl (a1 j (e1 ▸ b1))
    · exact absurd a2 b2
    · exact absurd a2 b2
    · exact absurd a2 b2
    · exact absurd a2 b2
    · rfl
