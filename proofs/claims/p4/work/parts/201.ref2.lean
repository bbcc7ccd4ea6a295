theorem ix_iff {g cn : Int32} {n : Nat} (hc : cn = nI n) (hn : n ≤ 100) : (0 ≤ g.toInt64 ∧ g.toInt64 ≤ cn.toInt64 - 1) ↔ ∃ j, j < n ∧ g = nI j := by
  subst hc
  have e : (nI n).toInt64 - 1 = (nI n - 1).toInt64 := by
    apply Int64.toInt_inj.mp
    rw [Int64.toInt_sub, Int32.toInt_toInt64, Int32.toInt_toInt64, Int32.toInt_sub, nI_toInt (by omega)]
    have h1 : (1 : Int64).toInt = 1 := by decide
    have h2 : (1 : Int32).toInt = 1 := by decide
    rw [h1, h2, Int.bmod_eq_of_le (by omega) (by omega), Int.bmod_eq_of_le (by omega) (by omega)]
  have z : (0 : Int64) = (0 : Int32).toInt64 := by decide
  rw [e, z, fa_wide_le, fa_wide_le]
  constructor
  · rintro ⟨h1, h2⟩
    obtain ⟨j, hj, rfl⟩ := nI_of (x := g) (Int32.not_lt.mpr h1)
    refine ⟨j, ?_, rfl⟩
    have h3 := (fa_le _ _).mp h2
    rw [nI_toInt hj, Int32.toInt_sub, nI_toInt (by omega)] at h3
    have h4 : (1 : Int32).toInt = 1 := by decide
    rw [h4, Int.bmod_eq_of_le (by omega) (by omega)] at h3
    omega
  · rintro ⟨j, hj, rfl⟩
    refine ⟨nI_pos' (by omega), (fa_le _ _).mpr ?_⟩
    rw [nI_toInt (by omega), Int32.toInt_sub, nI_toInt (by omega)]
    have h4 : (1 : Int32).toInt = 1 := by decide
    rw [h4, Int.bmod_eq_of_le (by omega) (by omega)]
    omega
theorem ix_no {g cn : Int32} {n : Nat} (hc : cn = nI n) (hn : n ≤ 100) (h : ¬ (0 ≤ g.toInt64 ∧ g.toInt64 ≤ cn.toInt64 - 1)) : ∀ j, j < n → g ≠ nI j := fun j hj e => h ((ix_iff hc hn).mpr ⟨j, hj, e⟩)
theorem ix_yes {g cn : Int32} {n : Nat} (hc : cn = nI n) (hn : n ≤ 100) (h : 0 ≤ g.toInt64 ∧ g.toInt64 ≤ cn.toInt64 - 1) : ∃ j, j < n ∧ g = nI j := (ix_iff hc hn).mp h
set_option maxHeartbeats 4000000 in
set_option maxRecDepth 100000 in
theorem r_X11_noPitch (l : Launch) (dC : Nat → ClassId) (dI : Nat → Nat → Nat)  (sz : Nat) (qm : Nat) (w0 : Value) (w1 : Value) (w2 : Value) (w3 : Value) (w4 : Value) (w5 : Value) (w6 : Value) (w7 : Value) (w8 : Value) (w9 : Value) (w10 : Value) (w12 : Value) (w13 : Value) (w14 : Value) (w15 : Value) (w16 : Value) (w17 : Value) (w18 : Value) (w19 : Value) (w20 : Value) (w21 : Value) (w22 : Value) (w23 : Value) (w24 : Value) (w25 : Value) (w26 : Value) (w27 : Value) (w28 : Value) (w29 : Value) (w30 : Value) (w31 : Value) (w32 : Value) (w33 : Value) (w34 : Value) (w35 : Value) (w36 : Value) (w37 : Value) (w38 : Value) (cn : Int32) (g : Int32) (n : Nat) (hc : cn = nI n) (hn : n ≤ 100) : Met l yX11_noPitch wsX11_noPitch ({ frames := 1, cells := 0, slots := 0, locals := 30 }) (pw (dC, dI) [] [(qm, .inr (11, [w0, w1, w2, w3, w4, w5, w6, w7, w8, w9, w10, .int cn, w12, w13, w14, w15, w16, w17, w18, w19, w20, w21, w22, w23, w24, w25, w26, w27, w28, w29, w30, w31, w32, w33, w34, w35, w36, w37, w38]))] sz [.ref qm, .int g]) (vp_Si (fun r => (r = 1 ∧ ∀ j, j < n → g ≠ nI j) ∨ (r = 0 ∧ ∃ j, j < n ∧ g = nI j))) 0 0 (fun _ => False) := by
  refine pw_met (cc := cX11_noPitch) (maxL := 2) (ret := (some .boolean)) (by decide) rfl (Nat.le_of_ble_eq_true rfl) ?_
  intro p e s m below meth c0 hx hb hr hml hown hlocks hnm hts hP hK hD hN hsz hA hS ls hl
  have hl : lv_has ls 2 [(0, .ref qm), (1, .int g)] := hl
  have hiX11 : ∀ w ∈ wsX110, w ∈ wsX11_noPitch := by decide +kernel
  refine lv_iload_n hx hb dX11_noPitch_0 rfl (lv_at hl 1 rfl) ?_
  refine lv_i2l (v := g.toInt64) hx hb dX11_noPitch_1 rfl ?_
  refine lv_lconst (v := 0) hx hb dX11_noPitch_2 (by decide) ?_
  refine lv_aload_n hx hb dX11_noPitch_3 rfl (lv_at hl 0 rfl) ?_
  refine va_get (D := (dC, dI)) (ci := 11) (v := .int cn) (C := RX11) (T := TX11) (N := 39) hx hb hts hiX11 hown hK hP 0 rfl rfl 11 (by decide) (hts (.fieldLink RX11 170 "TributePitchesModel" "pitches" "I") (by decide +kernel)) (fun _ h9 => h9) rfl dX11_noPitch_4 ?_
  refine lv_i2l (v := cn.toInt64) hx hb dX11_noPitch_7 rfl ?_
  refine lv_lconst (v := 1) hx hb dX11_noPitch_8 (by decide) ?_
  refine lv_lsub hx hb dX11_noPitch_9 ?_
  refine vp_callSi (va_Run.run (va_runS (As := [.long g.toInt64, .long 0, .long (cn.toInt64 - 1)]) (rest := []) ⟨hx, hb, hml, hown, hts⟩ (c_X11_in l g.toInt64 0 (cn.toInt64 - 1) ) (va_cwS 3 hts gX11_noPitch_X11_in rfl rfl rfl (by decide +kernel) ⟨Nat.le_of_ble_eq_true rfl, Nat.le_of_ble_eq_true rfl⟩) (p0_preS hN) rfl rfl hl.1 rfl (lv_room (Nat.le_of_ble_eq_true rfl)) dX11_noPitch_10 ⟨Nat.le_of_ble_eq_true rfl, Nat.le_of_ble_eq_true rfl⟩)) (fun r1 hr1 => ?_)
  have hr1 : r1 = if 0 ≤ g.toInt64 ∧ g.toInt64 ≤ (cn.toInt64 - 1) then 1 else 0 := hr1
  refine lv_if_ne (tgt := 20) hx hb dX11_noPitch_13 (by decide) (fun c2 => ?_) (fun c2 => ?_)
  · skip
    have c2 := (fa_bool_prop hr1).2.mp c2
    refine lv_iconst (v := 0) hx hb dX11_noPitch_20 (by decide) ?_
    exact W.zret (v := 0) hx hb hr rfl (fun t ht hW => ⟨0, rfl, (Or.inr ⟨rfl, ix_yes hc hn c2⟩), ht⟩) (fun q h => absurd h List.not_mem_nil) dX11_noPitch_21
  · skip
    have c2 := (fa_bool_prop hr1).1.mp c2
    refine lv_iconst (v := 1) hx hb dX11_noPitch_16 (by decide) ?_
    refine lv_goto (tgt := 21) hx hb dX11_noPitch_17 (by decide) ?_
    exact W.zret (v := 1) hx hb hr rfl (fun t ht hW => ⟨1, rfl, (Or.inl ⟨rfl, ix_no hc hn c2⟩), ht⟩) (fun q h => absurd h List.not_mem_nil) dX11_noPitch_21
set_option maxHeartbeats 4000000 in
set_option maxRecDepth 100000 in
theorem r_X11_noGang (l : Launch) (dC : Nat → ClassId) (dI : Nat → Nat → Nat)  (sz : Nat) (qm : Nat) (w0 : Value) (w1 : Value) (w2 : Value) (w3 : Value) (w4 : Value) (w5 : Value) (w6 : Value) (w7 : Value) (w8 : Value) (w9 : Value) (w10 : Value) (w11 : Value) (w12 : Value) (w13 : Value) (w14 : Value) (w15 : Value) (w16 : Value) (w18 : Value) (w19 : Value) (w20 : Value) (w21 : Value) (w22 : Value) (w23 : Value) (w24 : Value) (w25 : Value) (w26 : Value) (w27 : Value) (w28 : Value) (w29 : Value) (w30 : Value) (w31 : Value) (w32 : Value) (w33 : Value) (w34 : Value) (w35 : Value) (w36 : Value) (w37 : Value) (w38 : Value) (cn : Int32) (g : Int32) (n : Nat) (hc : cn = nI n) (hn : n ≤ 100) : Met l yX11_noGang wsX11_noGang ({ frames := 1, cells := 0, slots := 0, locals := 30 }) (pw (dC, dI) [] [(qm, .inr (11, [w0, w1, w2, w3, w4, w5, w6, w7, w8, w9, w10, w11, w12, w13, w14, w15, w16, .int cn, w18, w19, w20, w21, w22, w23, w24, w25, w26, w27, w28, w29, w30, w31, w32, w33, w34, w35, w36, w37, w38]))] sz [.ref qm, .int g]) (vp_Si (fun r => (r = 1 ∧ ∀ j, j < n → g ≠ nI j) ∨ (r = 0 ∧ ∃ j, j < n ∧ g = nI j))) 0 0 (fun _ => False) := by
  refine pw_met (cc := cX11_noGang) (maxL := 2) (ret := (some .boolean)) (by decide) rfl (Nat.le_of_ble_eq_true rfl) ?_
  intro p e s m below meth c0 hx hb hr hml hown hlocks hnm hts hP hK hD hN hsz hA hS ls hl
  have hl : lv_has ls 2 [(0, .ref qm), (1, .int g)] := hl
  have hiX11 : ∀ w ∈ wsX110, w ∈ wsX11_noGang := by decide +kernel
  refine lv_iload_n hx hb dX11_noGang_0 rfl (lv_at hl 1 rfl) ?_
  refine lv_i2l (v := g.toInt64) hx hb dX11_noGang_1 rfl ?_
  refine lv_lconst (v := 0) hx hb dX11_noGang_2 (by decide) ?_
  refine lv_aload_n hx hb dX11_noGang_3 rfl (lv_at hl 0 rfl) ?_
  refine va_get (D := (dC, dI)) (ci := 11) (v := .int cn) (C := RX11) (T := TX11) (N := 39) hx hb hts hiX11 hown hK hP 0 rfl rfl 17 (by decide) (hts (.fieldLink RX11 185 "TributePitchesModel" "gangs" "I") (by decide +kernel)) (fun _ h9 => h9) rfl dX11_noGang_4 ?_
  refine lv_i2l (v := cn.toInt64) hx hb dX11_noGang_7 rfl ?_
  refine lv_lconst (v := 1) hx hb dX11_noGang_8 (by decide) ?_
  refine lv_lsub hx hb dX11_noGang_9 ?_
  refine vp_callSi (va_Run.run (va_runS (As := [.long g.toInt64, .long 0, .long (cn.toInt64 - 1)]) (rest := []) ⟨hx, hb, hml, hown, hts⟩ (c_X11_in l g.toInt64 0 (cn.toInt64 - 1) ) (va_cwS 3 hts gX11_noGang_X11_in rfl rfl rfl (by decide +kernel) ⟨Nat.le_of_ble_eq_true rfl, Nat.le_of_ble_eq_true rfl⟩) (p0_preS hN) rfl rfl hl.1 rfl (lv_room (Nat.le_of_ble_eq_true rfl)) dX11_noGang_10 ⟨Nat.le_of_ble_eq_true rfl, Nat.le_of_ble_eq_true rfl⟩)) (fun r1 hr1 => ?_)
  have hr1 : r1 = if 0 ≤ g.toInt64 ∧ g.toInt64 ≤ (cn.toInt64 - 1) then 1 else 0 := hr1
  refine lv_if_ne (tgt := 20) hx hb dX11_noGang_13 (by decide) (fun c2 => ?_) (fun c2 => ?_)
  · skip
    have c2 := (fa_bool_prop hr1).2.mp c2
    refine lv_iconst (v := 0) hx hb dX11_noGang_20 (by decide) ?_
    exact W.zret (v := 0) hx hb hr rfl (fun t ht hW => ⟨0, rfl, (Or.inr ⟨rfl, ix_yes hc hn c2⟩), ht⟩) (fun q h => absurd h List.not_mem_nil) dX11_noGang_21
  · skip
    have c2 := (fa_bool_prop hr1).1.mp c2
    refine lv_iconst (v := 1) hx hb dX11_noGang_16 (by decide) ?_
    refine lv_goto (tgt := 21) hx hb dX11_noGang_17 (by decide) ?_
    exact W.zret (v := 1) hx hb hr rfl (fun t ht hW => ⟨1, rfl, (Or.inl ⟨rfl, ix_no hc hn c2⟩), ht⟩) (fun q h => absurd h List.not_mem_nil) dX11_noGang_21
set_option maxHeartbeats 4000000 in
set_option maxRecDepth 100000 in
theorem r_X11_noTake (l : Launch) (dC : Nat → ClassId) (dI : Nat → Nat → Nat)  (sz : Nat) (qm : Nat) (w0 : Value) (w1 : Value) (w2 : Value) (w3 : Value) (w4 : Value) (w5 : Value) (w6 : Value) (w7 : Value) (w8 : Value) (w9 : Value) (w10 : Value) (w11 : Value) (w12 : Value) (w13 : Value) (w14 : Value) (w15 : Value) (w16 : Value) (w17 : Value) (w18 : Value) (w19 : Value) (w20 : Value) (w21 : Value) (w22 : Value) (w23 : Value) (w25 : Value) (w26 : Value) (w27 : Value) (w28 : Value) (w29 : Value) (w30 : Value) (w31 : Value) (w32 : Value) (w33 : Value) (w34 : Value) (w35 : Value) (w36 : Value) (w37 : Value) (w38 : Value) (cn : Int32) (g : Int32) (n : Nat) (hc : cn = nI n) (hn : n ≤ 100) : Met l yX11_noTake wsX11_noTake ({ frames := 1, cells := 0, slots := 0, locals := 30 }) (pw (dC, dI) [] [(qm, .inr (11, [w0, w1, w2, w3, w4, w5, w6, w7, w8, w9, w10, w11, w12, w13, w14, w15, w16, w17, w18, w19, w20, w21, w22, w23, .int cn, w25, w26, w27, w28, w29, w30, w31, w32, w33, w34, w35, w36, w37, w38]))] sz [.ref qm, .int g]) (vp_Si (fun r => (r = 1 ∧ ∀ j, j < n → g ≠ nI j) ∨ (r = 0 ∧ ∃ j, j < n ∧ g = nI j))) 0 0 (fun _ => False) := by
  refine pw_met (cc := cX11_noTake) (maxL := 2) (ret := (some .boolean)) (by decide) rfl (Nat.le_of_ble_eq_true rfl) ?_
  intro p e s m below meth c0 hx hb hr hml hown hlocks hnm hts hP hK hD hN hsz hA hS ls hl
  have hl : lv_has ls 2 [(0, .ref qm), (1, .int g)] := hl
  have hiX11 : ∀ w ∈ wsX110, w ∈ wsX11_noTake := by decide +kernel
  refine lv_iload_n hx hb dX11_noTake_0 rfl (lv_at hl 1 rfl) ?_
  refine lv_i2l (v := g.toInt64) hx hb dX11_noTake_1 rfl ?_
  refine lv_lconst (v := 0) hx hb dX11_noTake_2 (by decide) ?_
  refine lv_aload_n hx hb dX11_noTake_3 rfl (lv_at hl 0 rfl) ?_
  refine va_get (D := (dC, dI)) (ci := 11) (v := .int cn) (C := RX11) (T := TX11) (N := 39) hx hb hts hiX11 hown hK hP 0 rfl rfl 24 (by decide) (hts (.fieldLink RX11 188 "TributePitchesModel" "takes" "I") (by decide +kernel)) (fun _ h9 => h9) rfl dX11_noTake_4 ?_
  refine lv_i2l (v := cn.toInt64) hx hb dX11_noTake_7 rfl ?_
  refine lv_lconst (v := 1) hx hb dX11_noTake_8 (by decide) ?_
  refine lv_lsub hx hb dX11_noTake_9 ?_
  refine vp_callSi (va_Run.run (va_runS (As := [.long g.toInt64, .long 0, .long (cn.toInt64 - 1)]) (rest := []) ⟨hx, hb, hml, hown, hts⟩ (c_X11_in l g.toInt64 0 (cn.toInt64 - 1) ) (va_cwS 3 hts gX11_noTake_X11_in rfl rfl rfl (by decide +kernel) ⟨Nat.le_of_ble_eq_true rfl, Nat.le_of_ble_eq_true rfl⟩) (p0_preS hN) rfl rfl hl.1 rfl (lv_room (Nat.le_of_ble_eq_true rfl)) dX11_noTake_10 ⟨Nat.le_of_ble_eq_true rfl, Nat.le_of_ble_eq_true rfl⟩)) (fun r1 hr1 => ?_)
  have hr1 : r1 = if 0 ≤ g.toInt64 ∧ g.toInt64 ≤ (cn.toInt64 - 1) then 1 else 0 := hr1
  refine lv_if_ne (tgt := 20) hx hb dX11_noTake_13 (by decide) (fun c2 => ?_) (fun c2 => ?_)
  · skip
    have c2 := (fa_bool_prop hr1).2.mp c2
    refine lv_iconst (v := 0) hx hb dX11_noTake_20 (by decide) ?_
    exact W.zret (v := 0) hx hb hr rfl (fun t ht hW => ⟨0, rfl, (Or.inr ⟨rfl, ix_yes hc hn c2⟩), ht⟩) (fun q h => absurd h List.not_mem_nil) dX11_noTake_21
  · skip
    have c2 := (fa_bool_prop hr1).1.mp c2
    refine lv_iconst (v := 1) hx hb dX11_noTake_16 (by decide) ?_
    refine lv_goto (tgt := 21) hx hb dX11_noTake_17 (by decide) ?_
    exact W.zret (v := 1) hx hb hr rfl (fun t ht hW => ⟨1, rfl, (Or.inl ⟨rfl, ix_no hc hn c2⟩), ht⟩) (fun q h => absurd h List.not_mem_nil) dX11_noTake_21
set_option maxHeartbeats 4000000 in
set_option maxRecDepth 100000 in
theorem R_debt (l : Launch) (dC : Nat → ClassId) (dI : Nat → Nat → Nat) (cI : ClassId) (cJ : ClassId) (cZ : ClassId) (sz : Nat) (qm : Nat) (ad : Nat → Nat) (iv : Nat → Int32) (ia : Nat → Nat → Int32) (la : Nat → Nat → Int64) (g : Int32) (hI : rinv iv ia la) : Met l yX11_debt wsX11_debt ({ frames := 3, cells := 0, slots := 0, locals := 90 }) (pw (dC, dI) [(cI, .int), (cJ, .long), (cZ, .boolean)] (rw qm cI cJ cZ ad iv ia la) sz [.ref qm, .int g]) (vp_Sl (fun r => True)) 0 0 (fun _ => False) := by
  refine pw_met (cc := cX11_debt) (maxL := 2) (ret := (some .long)) (by decide) rfl (Nat.le_of_ble_eq_true rfl) ?_
  intro p e s m below meth c0 hx hb hr hml hown hlocks hnm hts hP hK hD hN hsz hA hS ls hl
  have hP : va_P (dC, dI) vwCl [(qm, .inr (11, [.int (iv 0), .int (iv 1), .ref (ad 2), .ref (ad 3), .ref (ad 4), .ref (ad 5), .int (iv 6), .ref (ad 7), .ref (ad 8), .ref (ad 9), .ref (ad 10), .int (iv 11), .ref (ad 12), .ref (ad 13), .ref (ad 14), .ref (ad 15), .ref (ad 16), .int (iv 17), .ref (ad 18), .ref (ad 19), .int (iv 20), .int (iv 21), .int (iv 22), .int (iv 23), .int (iv 24), .ref (ad 25), .ref (ad 26), .ref (ad 27), .ref (ad 28), .ref (ad 29), .ref (ad 30), .ref (ad 31), .ref (ad 32), .ref (ad 33), .int (iv 34), .ref (ad 35), .ref (ad 36), .ref (ad 37), .int (iv 38)])), (ad 2, .inl (cI, 48, .inl (ia 2))), (ad 3, .inl (cI, 48, .inl (ia 3))), (ad 4, .inl (cI, 48, .inl (ia 4))), (ad 5, .inl (cI, 48, .inl (ia 5))), (ad 7, .inl (cI, 4, .inl (ia 7))), (ad 8, .inl (cI, 4, .inl (ia 8))), (ad 9, .inl (cI, 192, .inl (ia 9))), (ad 10, .inl (cI, 48, .inl (ia 10))), (ad 12, .inl (cI, 12, .inl (ia 12))), (ad 13, .inl (cI, 12, .inl (ia 13))), (ad 14, .inl (cI, 12, .inl (ia 14))), (ad 15, .inl (cI, 12, .inl (ia 15))), (ad 16, .inl (cI, 12, .inl (ia 16))), (ad 18, .inl (cI, 8, .inl (ia 18))), (ad 19, .inl (cJ, 8, .inr (.inl (la 19)))), (ad 25, .inl (cI, 40, .inl (ia 25))), (ad 26, .inl (cI, 40, .inl (ia 26))), (ad 27, .inl (cI, 40, .inl (ia 27))), (ad 28, .inl (cZ, 40, .inl (ia 28))), (ad 29, .inl (cJ, 40, .inr (.inl (la 29)))), (ad 30, .inl (cJ, 40, .inr (.inl (la 30)))), (ad 31, .inl (cJ, 40, .inr (.inl (la 31)))), (ad 32, .inl (cJ, 40, .inr (.inl (la 32)))), (ad 33, .inl (cJ, 40, .inr (.inl (la 33)))), (ad 35, .inl (cI, 80, .inl (ia 35))), (ad 36, .inl (cI, 80, .inl (ia 36))), (ad 37, .inl (cI, 80, .inl (ia 37)))] s.heap := hP
  have hD : va_D (va_A (rw qm cI cJ cZ ad iv ia la) s.heap.size) [(qm, .inr (11, [.int (iv 0), .int (iv 1), .ref (ad 2), .ref (ad 3), .ref (ad 4), .ref (ad 5), .int (iv 6), .ref (ad 7), .ref (ad 8), .ref (ad 9), .ref (ad 10), .int (iv 11), .ref (ad 12), .ref (ad 13), .ref (ad 14), .ref (ad 15), .ref (ad 16), .int (iv 17), .ref (ad 18), .ref (ad 19), .int (iv 20), .int (iv 21), .int (iv 22), .int (iv 23), .int (iv 24), .ref (ad 25), .ref (ad 26), .ref (ad 27), .ref (ad 28), .ref (ad 29), .ref (ad 30), .ref (ad 31), .ref (ad 32), .ref (ad 33), .int (iv 34), .ref (ad 35), .ref (ad 36), .ref (ad 37), .int (iv 38)])), (ad 2, .inl (cI, 48, .inl (ia 2))), (ad 3, .inl (cI, 48, .inl (ia 3))), (ad 4, .inl (cI, 48, .inl (ia 4))), (ad 5, .inl (cI, 48, .inl (ia 5))), (ad 7, .inl (cI, 4, .inl (ia 7))), (ad 8, .inl (cI, 4, .inl (ia 8))), (ad 9, .inl (cI, 192, .inl (ia 9))), (ad 10, .inl (cI, 48, .inl (ia 10))), (ad 12, .inl (cI, 12, .inl (ia 12))), (ad 13, .inl (cI, 12, .inl (ia 13))), (ad 14, .inl (cI, 12, .inl (ia 14))), (ad 15, .inl (cI, 12, .inl (ia 15))), (ad 16, .inl (cI, 12, .inl (ia 16))), (ad 18, .inl (cI, 8, .inl (ia 18))), (ad 19, .inl (cJ, 8, .inr (.inl (la 19)))), (ad 25, .inl (cI, 40, .inl (ia 25))), (ad 26, .inl (cI, 40, .inl (ia 26))), (ad 27, .inl (cI, 40, .inl (ia 27))), (ad 28, .inl (cZ, 40, .inl (ia 28))), (ad 29, .inl (cJ, 40, .inr (.inl (la 29)))), (ad 30, .inl (cJ, 40, .inr (.inl (la 30)))), (ad 31, .inl (cJ, 40, .inr (.inl (la 31)))), (ad 32, .inl (cJ, 40, .inr (.inl (la 32)))), (ad 33, .inl (cJ, 40, .inr (.inl (la 33)))), (ad 35, .inl (cI, 80, .inl (ia 35))), (ad 36, .inl (cI, 80, .inl (ia 36))), (ad 37, .inl (cI, 80, .inl (ia 37)))] := hD
  have hl : lv_has ls 2 [(0, .ref qm), (1, .int g)] := hl
  have hiX11 : ∀ w ∈ wsX110, w ∈ wsX11_debt := by decide +kernel
  obtain ⟨pc, gc, tc, kc, hpc, hgc, htc, hkc, epc, egc, etc, ekc, hfar, hlh, hss, hsold, htk, hpk⟩ := id hI
  refine lv_aload_n hx hb dX11_debt_0 rfl (lv_at hl 0 rfl) ?_
  refine lv_iload_n hx hb dX11_debt_1 rfl (lv_at hl 1 rfl) ?_
  have hPc := hP.sub (ws' := [(qm, .inr (11, [.int (iv 0), .int (iv 1), .ref (ad 2), .ref (ad 3), .ref (ad 4), .ref (ad 5), .int (iv 6), .ref (ad 7), .ref (ad 8), .ref (ad 9), .ref (ad 10), .int (iv 11), .ref (ad 12), .ref (ad 13), .ref (ad 14), .ref (ad 15), .ref (ad 16), .int (iv 17), .ref (ad 18), .ref (ad 19), .int (iv 20), .int (iv 21), .int (iv 22), .int (iv 23), .int (iv 24), .ref (ad 25), .ref (ad 26), .ref (ad 27), .ref (ad 28), .ref (ad 29), .ref (ad 30), .ref (ad 31), .ref (ad 32), .ref (ad 33), .int (iv 34), .ref (ad 35), .ref (ad 36), .ref (ad 37), .int (iv 38)]))]) [0] rfl
  have hDc := hD.sub (ws' := [(qm, .inr (11, [.int (iv 0), .int (iv 1), .ref (ad 2), .ref (ad 3), .ref (ad 4), .ref (ad 5), .int (iv 6), .ref (ad 7), .ref (ad 8), .ref (ad 9), .ref (ad 10), .int (iv 11), .ref (ad 12), .ref (ad 13), .ref (ad 14), .ref (ad 15), .ref (ad 16), .int (iv 17), .ref (ad 18), .ref (ad 19), .int (iv 20), .int (iv 21), .int (iv 22), .int (iv 23), .int (iv 24), .ref (ad 25), .ref (ad 26), .ref (ad 27), .ref (ad 28), .ref (ad 29), .ref (ad 30), .ref (ad 31), .ref (ad 32), .ref (ad 33), .int (iv 34), .ref (ad 35), .ref (ad 36), .ref (ad 37), .int (iv 38)]))]) [0] (by decide) rfl
  have hKc := hK.sub (tys' := []) [] rfl
  refine vp_callSi (va_Run.run (va_runV (As := [.int g]) (rest := []) ⟨hx, hb, hml, hown, hts⟩ (r_X11_noGang l dC dI  _ qm (.int (iv 0)) (.int (iv 1)) (.ref (ad 2)) (.ref (ad 3)) (.ref (ad 4)) (.ref (ad 5)) (.int (iv 6)) (.ref (ad 7)) (.ref (ad 8)) (.ref (ad 9)) (.ref (ad 10)) (.int (iv 11)) (.ref (ad 12)) (.ref (ad 13)) (.ref (ad 14)) (.ref (ad 15)) (.ref (ad 16)) (.ref (ad 18)) (.ref (ad 19)) (.int (iv 20)) (.int (iv 21)) (.int (iv 22)) (.int (iv 23)) (.int (iv 24)) (.ref (ad 25)) (.ref (ad 26)) (.ref (ad 27)) (.ref (ad 28)) (.ref (ad 29)) (.ref (ad 30)) (.ref (ad 31)) (.ref (ad 32)) (.ref (ad 33)) (.int (iv 34)) (.ref (ad 35)) (.ref (ad 36)) (.ref (ad 37)) (.int (iv 38)) (iv 17) g gc egc (by omega)) (cwV 1 hts gX11_debt_X11_noGang rfl rfl rfl (by decide +kernel) ⟨Nat.le_of_ble_eq_true rfl, Nat.le_of_ble_eq_true rfl⟩) (pw_preV (va_recv hKc hPc (ci := 11) (q0 := 0) rfl rfl) hPc hKc hDc hN) rfl rfl hl.1 rfl (lv_room (Nat.le_of_ble_eq_true rfl)) dX11_debt_2 ⟨Nat.le_of_ble_eq_true rfl, Nat.le_of_ble_eq_true rfl⟩)) (fun r1 hr1 => ?_)
  have hr1 : (r1 = 1 ∧ ∀ j, j < gc → g ≠ nI j) ∨ (r1 = 0 ∧ ∃ j, j < gc ∧ g = nI j) := hr1
  rcases hr1 with ⟨er1, hnoa⟩ | ⟨er1, jg, hjg, ega⟩
  · subst er1
    refine lv_if_eq (tgt := 14) hx hb dX11_debt_5 (by decide) (fun c2 => ?_) (fun c2 => ?_)
    · exact absurd c2 (by decide)
    · skip
      refine vp_callSl (va_Run.run (va_runS (As := []) (rest := []) ⟨hx, hb, hml, hown, hts⟩ (c_X11_lost l  ) (va_cwS 0 hts gX11_debt_X11_lost rfl rfl rfl (by decide +kernel) ⟨Nat.le_of_ble_eq_true rfl, Nat.le_of_ble_eq_true rfl⟩) (p0_preS hN) rfl rfl hl.1 rfl (lv_room (Nat.le_of_ble_eq_true rfl)) dX11_debt_8 ⟨Nat.le_of_ble_eq_true rfl, Nat.le_of_ble_eq_true rfl⟩)) (fun r3 hr3 => ?_)
      have hr3 : r3 = (-9223372036854775808) := hr3
      subst hr3
      refine lv_goto (tgt := 20) hx hb dX11_debt_11 (by decide) ?_
      exact W.lret (v := (-9223372036854775808)) hx hb hr (fun t ht hW => ⟨(-9223372036854775808), rfl, trivial, ht⟩) (fun q h => absurd h List.not_mem_nil) dX11_debt_20
  · subst er1
    subst ega
    refine lv_if_eq (tgt := 14) hx hb dX11_debt_5 (by decide) (fun c4 => ?_) (fun c4 => ?_)
    · skip
      refine lv_aload_n hx hb dX11_debt_14 rfl (lv_at hl 0 rfl) ?_
      refine va_get (D := (dC, dI)) (ci := 11) (v := .ref (ad 19)) (C := RX11) (T := TX11) (N := 39) hx hb hts hiX11 hown hK hP 0 rfl rfl 19 (by decide) (hts (.fieldLink RX11 52 "TributePitchesModel" "debt" "[J") (by decide +kernel)) (fun _ h9 => h9) rfl dX11_debt_15 ?_
      refine lv_iload_n hx hb dX11_debt_18 rfl (lv_at hl 1 rfl) ?_
      refine va_lald hx hb hK hP 15 1 rfl rfl (vp_in_nI (by omega) (by omega)) dX11_debt_19 ?_
      exact W.lret (v := (la 19) (nI jg).toNatClampNeg) hx hb hr (fun t ht hW => ⟨(la 19) (nI jg).toNatClampNeg, rfl, trivial, ht⟩) (fun q h => absurd h List.not_mem_nil) dX11_debt_20
    · exact absurd c4 (by decide)
