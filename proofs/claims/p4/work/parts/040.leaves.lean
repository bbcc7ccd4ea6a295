set_option maxHeartbeats 4000000 in
set_option maxRecDepth 100000 in
theorem c_X10_isWithin (l : Launch) (a : Int32) (b : Int32) (d : Int32)  : Met l yX10_isWithin wsX10_isWithin ({ frames := 0, cells := 0, slots := 0, locals := 0 }) (p0 [.int a, .int b, .int d]) (vp_Si (fun r => r = if b ≤ a ∧ a ≤ d then 1 else 0)) 0 0 (fun _ => False) := by
  refine p0_met (cc := cX10_isWithin) (maxL := 3) (ret := (some .boolean)) (by decide) rfl (Nat.le_of_ble_eq_true rfl) ?_
  intro p e s m below meth c0 hx hb hr hml hown hlocks hnm hts hN ls hl
  have hl : lv_has ls 3 [(0, .int a), (1, .int b), (2, .int d)] := hl
  refine lv_iload_n hx hb dX10_isWithin_0 rfl (lv_at hl 0 rfl) ?_
  refine lv_iload_n hx hb dX10_isWithin_1 rfl (lv_at hl 1 rfl) ?_
  refine lv_icmp_lt (tgt := 14) hx hb dX10_isWithin_2 (by decide) (fun c1 => ?_) (fun c1 => ?_)
  · skip
    refine lv_iconst (v := 0) hx hb dX10_isWithin_14 (by decide) ?_
    exact W.zret (v := 0) hx hb hr rfl (fun t ht hW => ⟨0, rfl, (by rw [if_neg (fun h => absurd c1 (Int32.not_lt.mpr h.1))]), ht⟩) (fun q h => absurd h List.not_mem_nil) dX10_isWithin_15
  · skip
    refine lv_iload_n hx hb dX10_isWithin_5 rfl (lv_at hl 0 rfl) ?_
    refine lv_iload_n hx hb dX10_isWithin_6 rfl (lv_at hl 2 rfl) ?_
    refine lv_icmp_gt (tgt := 14) hx hb dX10_isWithin_7 (by decide) (fun c2 => ?_) (fun c2 => ?_)
    · skip
      refine lv_iconst (v := 0) hx hb dX10_isWithin_14 (by decide) ?_
      exact W.zret (v := 0) hx hb hr rfl (fun t ht hW => ⟨0, rfl, (by rw [if_neg (fun h => absurd c2 (Int32.not_lt.mpr h.2))]), ht⟩) (fun q h => absurd h List.not_mem_nil) dX10_isWithin_15
    · skip
      refine lv_iconst (v := 1) hx hb dX10_isWithin_10 (by decide) ?_
      refine lv_goto (tgt := 15) hx hb dX10_isWithin_11 (by decide) ?_
      exact W.zret (v := 1) hx hb hr rfl (fun t ht hW => ⟨1, rfl, (by rw [if_pos ⟨Int32.not_lt.mp c1, Int32.not_lt.mp c2⟩]), ht⟩) (fun q h => absurd h List.not_mem_nil) dX10_isWithin_15
set_option maxHeartbeats 4000000 in
set_option maxRecDepth 100000 in
theorem c_X11_in (l : Launch) (a : Int64) (b : Int64) (d : Int64)  : Met l yX11_in wsX11_in ({ frames := 0, cells := 0, slots := 0, locals := 0 }) (p0 [.long a, .long b, .long d]) (vp_Si (fun r => r = if b ≤ a ∧ a ≤ d then 1 else 0)) 0 0 (fun _ => False) := by
  refine p0_met (cc := cX11_in) (maxL := 6) (ret := (some .boolean)) (by decide) rfl (Nat.le_of_ble_eq_true rfl) ?_
  intro p e s m below meth c0 hx hb hr hml hown hlocks hnm hts hN ls hl
  have hl : lv_has ls 6 [(0, .long a), (2, .long b), (4, .long d)] := hl
  refine lv_lload_n hx hb dX11_in_0 rfl (lv_at hl 0 rfl) ?_
  refine lv_lload_n hx hb dX11_in_1 rfl (lv_at hl 1 rfl) ?_
  refine W.lcmp hx hb dX11_in_2 ?_
  refine lv_if_lt (tgt := 17) hx hb dX11_in_3 (by decide) (fun c1 => ?_) (fun c1 => ?_)
  · skip
    have c1 := (lg_cmp_lt _ _).mp c1
    refine lv_iconst (v := 0) hx hb dX11_in_17 (by decide) ?_
    exact W.zret (v := 0) hx hb hr rfl (fun t ht hW => ⟨0, rfl, (by rw [if_neg (fun h => absurd c1 (Int64.not_lt.mpr h.1))]), ht⟩) (fun q h => absurd h List.not_mem_nil) dX11_in_18
  · skip
    have c1 := fun h => c1 ((lg_cmp_lt _ _).mpr h)
    refine lv_lload_n hx hb dX11_in_6 rfl (lv_at hl 0 rfl) ?_
    refine lv_lload hx hb dX11_in_7 (lv_at hl 2 rfl) ?_
    refine W.lcmp hx hb dX11_in_9 ?_
    refine lv_if_gt (tgt := 17) hx hb dX11_in_10 (by decide) (fun c2 => ?_) (fun c2 => ?_)
    · skip
      have c2 := (lg_cmp_gt _ _).mp c2
      refine lv_iconst (v := 0) hx hb dX11_in_17 (by decide) ?_
      exact W.zret (v := 0) hx hb hr rfl (fun t ht hW => ⟨0, rfl, (by rw [if_neg (fun h => absurd c2 (Int64.not_lt.mpr h.2))]), ht⟩) (fun q h => absurd h List.not_mem_nil) dX11_in_18
    · skip
      have c2 := fun h => c2 ((lg_cmp_gt _ _).mpr h)
      refine lv_iconst (v := 1) hx hb dX11_in_13 (by decide) ?_
      refine lv_goto (tgt := 18) hx hb dX11_in_14 (by decide) ?_
      exact W.zret (v := 1) hx hb hr rfl (fun t ht hW => ⟨1, rfl, (by rw [if_pos ⟨Int64.not_lt.mp c1, Int64.not_lt.mp c2⟩]), ht⟩) (fun q h => absurd h List.not_mem_nil) dX11_in_18
set_option maxHeartbeats 4000000 in
set_option maxRecDepth 100000 in
theorem c_X3_hasSquare (l : Launch) (x : Int32) (y : Int32)  : Met l yX3_hasSquare wsX3_hasSquare ({ frames := 1, cells := 0, slots := 0, locals := 30 }) (p0 [.int x, .int y]) (vp_Si (fun r => r = if (0 ≤ x ∧ x ≤ 7) ∧ (0 ≤ y ∧ y ≤ 5) then 1 else 0)) 0 0 (fun _ => False) := by
  refine p0_met (cc := cX3_hasSquare) (maxL := 2) (ret := (some .boolean)) (by decide) rfl (Nat.le_of_ble_eq_true rfl) ?_
  intro p e s m below meth c0 hx hb hr hml hown hlocks hnm hts hN ls hl
  have hl : lv_has ls 2 [(0, .int x), (1, .int y)] := hl
  refine lv_iload_n hx hb dX3_hasSquare_0 rfl (lv_at hl 0 rfl) ?_
  refine lv_iconst (v := 0) hx hb dX3_hasSquare_1 (by decide) ?_
  refine lv_bipush (v := 7) hx hb dX3_hasSquare_2 (by decide) ?_
  refine vp_callSi (va_Run.run (va_runSN (As := [.int x, .int 0, .int 7]) (rest := []) ⟨hx, hb, hml, hown, hts⟩ (c_X10_isWithin l x 0 7 ) (⟨va_cnB 3 hts gX3_hasSquare_X10_isWithin_n34 rfl rfl rfl hN.1.1 (hts (.initialized RX10) (by decide +kernel)) (by decide +kernel) ⟨Nat.le_of_ble_eq_true rfl, Nat.le_of_ble_eq_true rfl⟩, hts (.static yX10_isWithin) (by decide +kernel), trivial⟩) (p0_preS hN) rfl rfl hl.1 rfl (lv_room (Nat.le_of_ble_eq_true rfl)) dX3_hasSquare_4 ⟨Nat.le_of_ble_eq_true rfl, Nat.le_of_ble_eq_true rfl⟩)) (fun r1 hr1 => ?_)
  have hr1 : r1 = if 0 ≤ x ∧ x ≤ 7 then 1 else 0 := hr1
  refine lv_if_eq (tgt := 23) hx hb dX3_hasSquare_7 (by decide) (fun c2 => ?_) (fun c2 => ?_)
  · skip
    have c2 := (fa_bool_prop hr1).1.mp c2
    refine lv_iconst (v := 0) hx hb dX3_hasSquare_23 (by decide) ?_
    exact W.zret (v := 0) hx hb hr rfl (fun t ht hW => ⟨0, rfl, (by rw [if_neg (fun h => c2 h.1)]), ht⟩) (fun q h => absurd h List.not_mem_nil) dX3_hasSquare_24
  · skip
    have c2 := (fa_bool_prop hr1).2.mp c2
    refine lv_iload_n hx hb dX3_hasSquare_10 rfl (lv_at hl 1 rfl) ?_
    refine lv_iconst (v := 0) hx hb dX3_hasSquare_11 (by decide) ?_
    refine lv_iconst (v := 5) hx hb dX3_hasSquare_12 (by decide) ?_
    refine vp_callSi (va_Run.run (va_runSN (As := [.int y, .int 0, .int 5]) (rest := []) ⟨hx, hb, hml, hown, hts⟩ (c_X10_isWithin l y 0 5 ) (⟨va_cnB 3 hts gX3_hasSquare_X10_isWithin_n34 rfl rfl rfl hN.1.1 (hts (.initialized RX10) (by decide +kernel)) (by decide +kernel) ⟨Nat.le_of_ble_eq_true rfl, Nat.le_of_ble_eq_true rfl⟩, hts (.static yX10_isWithin) (by decide +kernel), trivial⟩) (p0_preS hN) rfl rfl hl.1 rfl (lv_room (Nat.le_of_ble_eq_true rfl)) dX3_hasSquare_13 ⟨Nat.le_of_ble_eq_true rfl, Nat.le_of_ble_eq_true rfl⟩)) (fun r3 hr3 => ?_)
    have hr3 : r3 = if 0 ≤ y ∧ y ≤ 5 then 1 else 0 := hr3
    refine lv_if_eq (tgt := 23) hx hb dX3_hasSquare_16 (by decide) (fun c4 => ?_) (fun c4 => ?_)
    · skip
      have c4 := (fa_bool_prop hr3).1.mp c4
      refine lv_iconst (v := 0) hx hb dX3_hasSquare_23 (by decide) ?_
      exact W.zret (v := 0) hx hb hr rfl (fun t ht hW => ⟨0, rfl, (by rw [if_neg (fun h => c4 h.2)]), ht⟩) (fun q h => absurd h List.not_mem_nil) dX3_hasSquare_24
    · skip
      have c4 := (fa_bool_prop hr3).2.mp c4
      refine lv_iconst (v := 1) hx hb dX3_hasSquare_19 (by decide) ?_
      refine lv_goto (tgt := 24) hx hb dX3_hasSquare_20 (by decide) ?_
      exact W.zret (v := 1) hx hb hr rfl (fun t ht hW => ⟨1, rfl, (by rw [if_pos ⟨c2, c4⟩]), ht⟩) (fun q h => absurd h List.not_mem_nil) dX3_hasSquare_24
set_option maxHeartbeats 4000000 in
set_option maxRecDepth 100000 in
theorem c_X11_isSquare (l : Launch) (x : Int32) (y : Int32)  : Met l yX11_isSquare wsX11_isSquare ({ frames := 1, cells := 0, slots := 0, locals := 30 }) (p0 [.int x, .int y]) (vp_Si (fun r => r = if (0 ≤ x ∧ x ≤ 7) ∧ (0 ≤ y ∧ y ≤ 5) then 1 else 0)) 0 0 (fun _ => False) := by
  refine p0_met (cc := cX11_isSquare) (maxL := 2) (ret := (some .boolean)) (by decide) rfl (Nat.le_of_ble_eq_true rfl) ?_
  intro p e s m below meth c0 hx hb hr hml hown hlocks hnm hts hN ls hl
  have hl : lv_has ls 2 [(0, .int x), (1, .int y)] := hl
  refine lv_iload_n hx hb dX11_isSquare_0 rfl (lv_at hl 0 rfl) ?_
  refine lv_i2l (v := x.toInt64) hx hb dX11_isSquare_1 rfl ?_
  refine lv_lconst (v := 0) hx hb dX11_isSquare_2 (by decide) ?_
  refine lv_ldc2 (v := 7) hx hb hown (hts (.constantLong RX11 109 (7)) (by decide +kernel)) dX11_isSquare_3 ?_
  refine vp_callSi (va_Run.run (va_runS (As := [.long x.toInt64, .long 0, .long 7]) (rest := []) ⟨hx, hb, hml, hown, hts⟩ (c_X11_in l x.toInt64 0 7 ) (va_cwS 3 hts gX11_isSquare_X11_in rfl rfl rfl (by decide +kernel) ⟨Nat.le_of_ble_eq_true rfl, Nat.le_of_ble_eq_true rfl⟩) (p0_preS hN) rfl rfl hl.1 rfl (lv_room (Nat.le_of_ble_eq_true rfl)) dX11_isSquare_6 ⟨Nat.le_of_ble_eq_true rfl, Nat.le_of_ble_eq_true rfl⟩)) (fun r1 hr1 => ?_)
  have hr1 : r1 = if 0 ≤ x.toInt64 ∧ x.toInt64 ≤ 7 then 1 else 0 := hr1
  have hr1 := hr1.trans (in_w _ 0 7 (by decide) (by decide))
  refine lv_if_eq (tgt := 28) hx hb dX11_isSquare_9 (by decide) (fun c2 => ?_) (fun c2 => ?_)
  · skip
    have c2 := (fa_bool_prop hr1).1.mp c2
    refine lv_iconst (v := 0) hx hb dX11_isSquare_28 (by decide) ?_
    exact W.zret (v := 0) hx hb hr rfl (fun t ht hW => ⟨0, rfl, (by rw [if_neg (fun h => c2 h.1)]), ht⟩) (fun q h => absurd h List.not_mem_nil) dX11_isSquare_29
  · skip
    have c2 := (fa_bool_prop hr1).2.mp c2
    refine lv_iload_n hx hb dX11_isSquare_12 rfl (lv_at hl 1 rfl) ?_
    refine lv_i2l (v := y.toInt64) hx hb dX11_isSquare_13 rfl ?_
    refine lv_lconst (v := 0) hx hb dX11_isSquare_14 (by decide) ?_
    refine lv_ldc2 (v := 5) hx hb hown (hts (.constantLong RX11 115 (5)) (by decide +kernel)) dX11_isSquare_15 ?_
    refine vp_callSi (va_Run.run (va_runS (As := [.long y.toInt64, .long 0, .long 5]) (rest := []) ⟨hx, hb, hml, hown, hts⟩ (c_X11_in l y.toInt64 0 5 ) (va_cwS 3 hts gX11_isSquare_X11_in rfl rfl rfl (by decide +kernel) ⟨Nat.le_of_ble_eq_true rfl, Nat.le_of_ble_eq_true rfl⟩) (p0_preS hN) rfl rfl hl.1 rfl (lv_room (Nat.le_of_ble_eq_true rfl)) dX11_isSquare_18 ⟨Nat.le_of_ble_eq_true rfl, Nat.le_of_ble_eq_true rfl⟩)) (fun r3 hr3 => ?_)
    have hr3 : r3 = if 0 ≤ y.toInt64 ∧ y.toInt64 ≤ 5 then 1 else 0 := hr3
    have hr3 := hr3.trans (in_w _ 0 5 (by decide) (by decide))
    refine lv_if_eq (tgt := 28) hx hb dX11_isSquare_21 (by decide) (fun c4 => ?_) (fun c4 => ?_)
    · skip
      have c4 := (fa_bool_prop hr3).1.mp c4
      refine lv_iconst (v := 0) hx hb dX11_isSquare_28 (by decide) ?_
      exact W.zret (v := 0) hx hb hr rfl (fun t ht hW => ⟨0, rfl, (by rw [if_neg (fun h => c4 h.2)]), ht⟩) (fun q h => absurd h List.not_mem_nil) dX11_isSquare_29
    · skip
      have c4 := (fa_bool_prop hr3).2.mp c4
      refine lv_iconst (v := 1) hx hb dX11_isSquare_24 (by decide) ?_
      refine lv_goto (tgt := 29) hx hb dX11_isSquare_25 (by decide) ?_
      exact W.zret (v := 1) hx hb hr rfl (fun t ht hW => ⟨1, rfl, (by rw [if_pos ⟨c2, c4⟩]), ht⟩) (fun q h => absurd h List.not_mem_nil) dX11_isSquare_29
set_option maxHeartbeats 4000000 in
set_option maxRecDepth 100000 in
theorem c_X3_numberOf (l : Launch) (x : Int32) (y : Int32)  : Met l yX3_numberOf wsX3_numberOf ({ frames := 0, cells := 0, slots := 0, locals := 0 }) (p0 [.int x, .int y]) (vp_Si (fun r => r = 8 * y + x)) 0 0 (fun _ => False) := by
  refine p0_met (cc := cX3_numberOf) (maxL := 2) (ret := (some .int)) (by decide) rfl (Nat.le_of_ble_eq_true rfl) ?_
  intro p e s m below meth c0 hx hb hr hml hown hlocks hnm hts hN ls hl
  have hl : lv_has ls 2 [(0, .int x), (1, .int y)] := hl
  refine lv_bipush (v := 8) hx hb dX3_numberOf_0 (by decide) ?_
  refine lv_iload_n hx hb dX3_numberOf_2 rfl (lv_at hl 1 rfl) ?_
  refine lv_imul hx hb dX3_numberOf_3 ?_
  refine lv_iload_n hx hb dX3_numberOf_4 rfl (lv_at hl 0 rfl) ?_
  refine lv_iadd hx hb dX3_numberOf_5 ?_
  exact W.iret (v := (8 * y) + x) hx hb hr (fun t ht hW => ⟨(8 * y) + x, rfl, rfl, ht⟩) (fun q h => absurd h List.not_mem_nil) dX3_numberOf_6
set_option maxHeartbeats 4000000 in
set_option maxRecDepth 100000 in
theorem c_X7_isLane (l : Launch) (x : Int32)  : Met l yX7_isLane wsX7_isLane ({ frames := 1, cells := 0, slots := 0, locals := 30 }) (p0 [.int x]) (vp_Si (fun r => r = if 0 ≤ x ∧ x ≤ 2 then 1 else 0)) 0 0 (fun _ => False) := by
  refine p0_met (cc := cX7_isLane) (maxL := 1) (ret := (some .boolean)) (by decide) rfl (Nat.le_of_ble_eq_true rfl) ?_
  intro p e s m below meth c0 hx hb hr hml hown hlocks hnm hts hN ls hl
  have hl : lv_has ls 1 [(0, .int x)] := hl
  refine lv_iload_n hx hb dX7_isLane_0 rfl (lv_at hl 0 rfl) ?_
  refine lv_iconst (v := 0) hx hb dX7_isLane_1 (by decide) ?_
  refine lv_iconst (v := 2) hx hb dX7_isLane_2 (by decide) ?_
  refine vp_callSi (va_Run.run (va_runSN (As := [.int x, .int 0, .int 2]) (rest := []) ⟨hx, hb, hml, hown, hts⟩ (c_X10_isWithin l x 0 2 ) (⟨va_cnB 3 hts gX7_isLane_X10_isWithin_n19 rfl rfl rfl hN.1.2.1 (hts (.initialized RX10) (by decide +kernel)) (by decide +kernel) ⟨Nat.le_of_ble_eq_true rfl, Nat.le_of_ble_eq_true rfl⟩, hts (.static yX10_isWithin) (by decide +kernel), trivial⟩) (p0_preS hN) rfl rfl hl.1 rfl (lv_room (Nat.le_of_ble_eq_true rfl)) dX7_isLane_3 ⟨Nat.le_of_ble_eq_true rfl, Nat.le_of_ble_eq_true rfl⟩)) (fun r1 hr1 => ?_)
  have hr1 : r1 = if 0 ≤ x ∧ x ≤ 2 then 1 else 0 := hr1
  exact W.zret (v := r1) hx hb hr (by rw [hr1]; split <;> rfl) (fun t ht hW => ⟨r1, rfl, hr1, ht⟩) (fun q h => absurd h List.not_mem_nil) dX7_isLane_6
set_option maxHeartbeats 4000000 in
set_option maxRecDepth 100000 in
theorem c_X11_lost (l : Launch)   : Met l yX11_lost wsX11_lost ({ frames := 0, cells := 0, slots := 0, locals := 0 }) (p0 []) (vp_Sl (fun r => r = (-9223372036854775808))) 0 0 (fun _ => False) := by
  refine p0_met (cc := cX11_lost) (maxL := 0) (ret := (some .long)) (by decide) rfl (Nat.le_of_ble_eq_true rfl) ?_
  intro p e s m below meth c0 hx hb hr hml hown hlocks hnm hts hN ls hl
  have hl : lv_has ls 0 [] := hl
  refine lv_ldc2 (v := (-9223372036854775808)) hx hb hown (hts (.constantLong RX11 100 (-9223372036854775808)) (by decide +kernel)) dX11_lost_0 ?_
  exact W.lret (v := (-9223372036854775808)) hx hb hr (fun t ht hW => ⟨(-9223372036854775808), rfl, rfl, ht⟩) (fun q h => absurd h List.not_mem_nil) dX11_lost_3
set_option maxHeartbeats 4000000 in
set_option maxRecDepth 100000 in
theorem c_X11_noSheet (l : Launch) (x : Int32)  : Met l yX11_noSheet wsX11_noSheet ({ frames := 1, cells := 0, slots := 0, locals := 30 }) (p0 [.int x]) (vp_Si (fun r => r = if ¬ (0 ≤ x ∧ x ≤ 3) then 1 else 0)) 0 0 (fun _ => False) := by
  refine p0_met (cc := cX11_noSheet) (maxL := 1) (ret := (some .boolean)) (by decide) rfl (Nat.le_of_ble_eq_true rfl) ?_
  intro p e s m below meth c0 hx hb hr hml hown hlocks hnm hts hN ls hl
  have hl : lv_has ls 1 [(0, .int x)] := hl
  refine lv_iload_n hx hb dX11_noSheet_0 rfl (lv_at hl 0 rfl) ?_
  refine lv_i2l (v := x.toInt64) hx hb dX11_noSheet_1 rfl ?_
  refine lv_lconst (v := 0) hx hb dX11_noSheet_2 (by decide) ?_
  refine lv_ldc2 (v := 3) hx hb hown (hts (.constantLong RX11 142 (3)) (by decide +kernel)) dX11_noSheet_3 ?_
  refine vp_callSi (va_Run.run (va_runS (As := [.long x.toInt64, .long 0, .long 3]) (rest := []) ⟨hx, hb, hml, hown, hts⟩ (c_X11_in l x.toInt64 0 3 ) (va_cwS 3 hts gX11_noSheet_X11_in rfl rfl rfl (by decide +kernel) ⟨Nat.le_of_ble_eq_true rfl, Nat.le_of_ble_eq_true rfl⟩) (p0_preS hN) rfl rfl hl.1 rfl (lv_room (Nat.le_of_ble_eq_true rfl)) dX11_noSheet_6 ⟨Nat.le_of_ble_eq_true rfl, Nat.le_of_ble_eq_true rfl⟩)) (fun r1 hr1 => ?_)
  have hr1 : r1 = if 0 ≤ x.toInt64 ∧ x.toInt64 ≤ 3 then 1 else 0 := hr1
  have hr1 := hr1.trans (in_w _ 0 3 (by decide) (by decide))
  refine lv_if_ne (tgt := 16) hx hb dX11_noSheet_9 (by decide) (fun c2 => ?_) (fun c2 => ?_)
  · skip
    have c2 := (fa_bool_prop hr1).2.mp c2
    refine lv_iconst (v := 0) hx hb dX11_noSheet_16 (by decide) ?_
    exact W.zret (v := 0) hx hb hr rfl (fun t ht hW => ⟨0, rfl, (by rw [if_neg (fun h => h c2)]), ht⟩) (fun q h => absurd h List.not_mem_nil) dX11_noSheet_17
  · skip
    have c2 := (fa_bool_prop hr1).1.mp c2
    refine lv_iconst (v := 1) hx hb dX11_noSheet_12 (by decide) ?_
    refine lv_goto (tgt := 17) hx hb dX11_noSheet_13 (by decide) ?_
    exact W.zret (v := 1) hx hb hr rfl (fun t ht hW => ⟨1, rfl, (by rw [if_pos c2]), ht⟩) (fun q h => absurd h List.not_mem_nil) dX11_noSheet_17
