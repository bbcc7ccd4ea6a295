theorem no_neg (k : Int32) : ¬ (0 ≤ k ∧ k ≤ -1) := fun h => absurd (Int32.le_trans h.1 h.2) (by decide)
def sp_told (w : Int32) : Int32 := if w = 0 then 0 else if w = 1 then 0 else if w = 2 then 0 else if w = 3 then 0 else if w = 4 then 1000 else if w = 5 then -9 else if w = 6 then -9 else if w = 7 then -9 else -2
theorem tb_out8 {w : Int32} (h0 : ¬ w = 0) (h1 : ¬ w = 1) (h2 : ¬ w = 2) (h3 : ¬ w = 3) (h4 : ¬ w = 4) (h5 : ¬ w = 5) (h6 : ¬ w = 6) (h7 : ¬ w = 7) : w.toInt < 0 ∨ 7 < w.toInt := by
  have e0 : ¬ w.toInt = 0 := fun q => h0 ((fa_eq _ _).mpr q)
  have e1 : ¬ w.toInt = 1 := fun q => h1 ((fa_eq _ _).mpr q)
  have e2 : ¬ w.toInt = 2 := fun q => h2 ((fa_eq _ _).mpr q)
  have e3 : ¬ w.toInt = 3 := fun q => h3 ((fa_eq _ _).mpr q)
  have e4 : ¬ w.toInt = 4 := fun q => h4 ((fa_eq _ _).mpr q)
  have e5 : ¬ w.toInt = 5 := fun q => h5 ((fa_eq _ _).mpr q)
  have e6 : ¬ w.toInt = 6 := fun q => h6 ((fa_eq _ _).mpr q)
  have e7 : ¬ w.toInt = 7 := fun q => h7 ((fa_eq _ _).mpr q)
  omega
set_option maxHeartbeats 4000000 in
set_option maxRecDepth 100000 in
theorem c_X10_pitchAt (l : Launch) (dC : Nat → ClassId) (dI : Nat → Nat → Nat)  (sz : Nat) (qx : Nat) (x0 : Value) (x1 : Value) (x2 : Value) (x3 : Value) (x4 : Value) (x5 : Value) (x6 : Value) (x8 : Value) (x9 : Value) (x10 : Value) (x11 : Value) (x12 : Value) (k : Int32)  : Met l yX10_pitchAt wsX10_pitchAt ({ frames := 1, cells := 0, slots := 0, locals := 30 }) (pw (dC, dI) [] [(qx, .inr (10, [x0, x1, x2, x3, x4, x5, x6, .int 0, x8, x9, x10, x11, x12]))] sz [.ref qx, .int k]) (va_Sq (fun r => r = none)) 0 0 (fun _ => False) := by
  refine pw_met (cc := cX10_pitchAt) (maxL := 2) (ret := (some (.object "TributePitches$Pitch"))) (by decide) rfl (Nat.le_of_ble_eq_true rfl) ?_
  intro p e s m below meth c0 hx hb hr hml hown hlocks hnm hts hP hK hD hN hsz hA hS ls hl
  have hl : lv_has ls 2 [(0, .ref qx), (1, .int k)] := hl
  have hiX10 : ∀ w ∈ wsX100, w ∈ wsX10_pitchAt := by decide +kernel
  refine lv_iload_n hx hb dX10_pitchAt_0 rfl (lv_at hl 1 rfl) ?_
  refine lv_iconst (v := 0) hx hb dX10_pitchAt_1 (by decide) ?_
  refine lv_aload_n hx hb dX10_pitchAt_2 rfl (lv_at hl 0 rfl) ?_
  refine va_get (D := (dC, dI)) (ci := 10) (v := .int 0) (C := RX10) (T := TX10) (N := 13) hx hb hts hiX10 hown hK hP 0 rfl rfl 7 (by decide) (hts (.fieldLink RX10 124 "TributePitches" "pitchCount" "I") (by decide +kernel)) (fun _ h9 => h9) rfl dX10_pitchAt_3 ?_
  refine lv_iconst (v := 1) hx hb dX10_pitchAt_6 (by decide) ?_
  refine lv_isub hx hb dX10_pitchAt_7 ?_
  refine lv_topi (fun v1 ev1 => ?_)
  have ev1 : v1 = (-1) := by rw [ev1]; decide
  subst ev1
  refine vp_callSi (va_Run.run (va_runS (As := [.int k, .int 0, .int (-1)]) (rest := []) ⟨hx, hb, hml, hown, hts⟩ (c_X10_isWithin l k 0 (-1) ) (va_cwS 3 hts gX10_pitchAt_X10_isWithin rfl rfl rfl (by decide +kernel) ⟨Nat.le_of_ble_eq_true rfl, Nat.le_of_ble_eq_true rfl⟩) (p0_preS hN) rfl rfl hl.1 rfl (lv_room (Nat.le_of_ble_eq_true rfl)) dX10_pitchAt_8 ⟨Nat.le_of_ble_eq_true rfl, Nat.le_of_ble_eq_true rfl⟩)) (fun r2 hr2 => ?_)
  have hr2 : r2 = if 0 ≤ k ∧ k ≤ (-1) then 1 else 0 := hr2
  refine lv_if_eq (tgt := 23) hx hb dX10_pitchAt_11 (by decide) (fun c3 => ?_) (fun c3 => ?_)
  · skip
    have c3 := (fa_bool_prop hr2).1.mp c3
    refine lv_null hx hb dX10_pitchAt_23 ?_
    exact W.aret (v := .null) hx hb hr (Or.inl ⟨_, rfl⟩) (Or.inl rfl) (fun t ht hW => ⟨none, rfl, rfl, ht⟩) (fun q h => absurd h List.not_mem_nil) dX10_pitchAt_24
  · exact absurd c3 (not_not_intro (hr2.trans (if_neg (no_neg _))))
set_option maxHeartbeats 4000000 in
set_option maxRecDepth 100000 in
theorem c_X10_gangAt (l : Launch) (dC : Nat → ClassId) (dI : Nat → Nat → Nat)  (sz : Nat) (qx : Nat) (x0 : Value) (x1 : Value) (x2 : Value) (x3 : Value) (x4 : Value) (x5 : Value) (x6 : Value) (x7 : Value) (x9 : Value) (x10 : Value) (x11 : Value) (x12 : Value) (k : Int32)  : Met l yX10_gangAt wsX10_gangAt ({ frames := 1, cells := 0, slots := 0, locals := 30 }) (pw (dC, dI) [] [(qx, .inr (10, [x0, x1, x2, x3, x4, x5, x6, x7, .int 0, x9, x10, x11, x12]))] sz [.ref qx, .int k]) (va_Sq (fun r => r = none)) 0 0 (fun _ => False) := by
  refine pw_met (cc := cX10_gangAt) (maxL := 2) (ret := (some (.object "TributePitches$Gang"))) (by decide) rfl (Nat.le_of_ble_eq_true rfl) ?_
  intro p e s m below meth c0 hx hb hr hml hown hlocks hnm hts hP hK hD hN hsz hA hS ls hl
  have hl : lv_has ls 2 [(0, .ref qx), (1, .int k)] := hl
  have hiX10 : ∀ w ∈ wsX100, w ∈ wsX10_gangAt := by decide +kernel
  refine lv_iload_n hx hb dX10_gangAt_0 rfl (lv_at hl 1 rfl) ?_
  refine lv_iconst (v := 0) hx hb dX10_gangAt_1 (by decide) ?_
  refine lv_aload_n hx hb dX10_gangAt_2 rfl (lv_at hl 0 rfl) ?_
  refine va_get (D := (dC, dI)) (ci := 10) (v := .int 0) (C := RX10) (T := TX10) (N := 13) hx hb hts hiX10 hown hK hP 0 rfl rfl 8 (by decide) (hts (.fieldLink RX10 143 "TributePitches" "gangCount" "I") (by decide +kernel)) (fun _ h9 => h9) rfl dX10_gangAt_3 ?_
  refine lv_iconst (v := 1) hx hb dX10_gangAt_6 (by decide) ?_
  refine lv_isub hx hb dX10_gangAt_7 ?_
  refine lv_topi (fun v1 ev1 => ?_)
  have ev1 : v1 = (-1) := by rw [ev1]; decide
  subst ev1
  refine vp_callSi (va_Run.run (va_runS (As := [.int k, .int 0, .int (-1)]) (rest := []) ⟨hx, hb, hml, hown, hts⟩ (c_X10_isWithin l k 0 (-1) ) (va_cwS 3 hts gX10_gangAt_X10_isWithin rfl rfl rfl (by decide +kernel) ⟨Nat.le_of_ble_eq_true rfl, Nat.le_of_ble_eq_true rfl⟩) (p0_preS hN) rfl rfl hl.1 rfl (lv_room (Nat.le_of_ble_eq_true rfl)) dX10_gangAt_8 ⟨Nat.le_of_ble_eq_true rfl, Nat.le_of_ble_eq_true rfl⟩)) (fun r2 hr2 => ?_)
  have hr2 : r2 = if 0 ≤ k ∧ k ≤ (-1) then 1 else 0 := hr2
  refine lv_if_eq (tgt := 23) hx hb dX10_gangAt_11 (by decide) (fun c3 => ?_) (fun c3 => ?_)
  · skip
    have c3 := (fa_bool_prop hr2).1.mp c3
    refine lv_null hx hb dX10_gangAt_23 ?_
    exact W.aret (v := .null) hx hb hr (Or.inl ⟨_, rfl⟩) (Or.inl rfl) (fun t ht hW => ⟨none, rfl, rfl, ht⟩) (fun q h => absurd h List.not_mem_nil) dX10_gangAt_24
  · exact absurd c3 (not_not_intro (hr2.trans (if_neg (no_neg _))))
set_option maxHeartbeats 4000000 in
set_option maxRecDepth 100000 in
theorem c_X10_takeAt (l : Launch) (dC : Nat → ClassId) (dI : Nat → Nat → Nat)  (sz : Nat) (qx : Nat) (x0 : Value) (x1 : Value) (x2 : Value) (x3 : Value) (x4 : Value) (x5 : Value) (x6 : Value) (x7 : Value) (x8 : Value) (x10 : Value) (x11 : Value) (x12 : Value) (k : Int32)  : Met l yX10_takeAt wsX10_takeAt ({ frames := 1, cells := 0, slots := 0, locals := 30 }) (pw (dC, dI) [] [(qx, .inr (10, [x0, x1, x2, x3, x4, x5, x6, x7, x8, .int 0, x10, x11, x12]))] sz [.ref qx, .int k]) (va_Sq (fun r => r = none)) 0 0 (fun _ => False) := by
  refine pw_met (cc := cX10_takeAt) (maxL := 2) (ret := (some (.object "TributePitches$Take"))) (by decide) rfl (Nat.le_of_ble_eq_true rfl) ?_
  intro p e s m below meth c0 hx hb hr hml hown hlocks hnm hts hP hK hD hN hsz hA hS ls hl
  have hl : lv_has ls 2 [(0, .ref qx), (1, .int k)] := hl
  have hiX10 : ∀ w ∈ wsX100, w ∈ wsX10_takeAt := by decide +kernel
  refine lv_iload_n hx hb dX10_takeAt_0 rfl (lv_at hl 1 rfl) ?_
  refine lv_iconst (v := 0) hx hb dX10_takeAt_1 (by decide) ?_
  refine lv_aload_n hx hb dX10_takeAt_2 rfl (lv_at hl 0 rfl) ?_
  refine va_get (D := (dC, dI)) (ci := 10) (v := .int 0) (C := RX10) (T := TX10) (N := 13) hx hb hts hiX10 hown hK hP 0 rfl rfl 9 (by decide) (hts (.fieldLink RX10 197 "TributePitches" "takeCount" "I") (by decide +kernel)) (fun _ h9 => h9) rfl dX10_takeAt_3 ?_
  refine lv_iconst (v := 1) hx hb dX10_takeAt_6 (by decide) ?_
  refine lv_isub hx hb dX10_takeAt_7 ?_
  refine lv_topi (fun v1 ev1 => ?_)
  have ev1 : v1 = (-1) := by rw [ev1]; decide
  subst ev1
  refine vp_callSi (va_Run.run (va_runS (As := [.int k, .int 0, .int (-1)]) (rest := []) ⟨hx, hb, hml, hown, hts⟩ (c_X10_isWithin l k 0 (-1) ) (va_cwS 3 hts gX10_takeAt_X10_isWithin rfl rfl rfl (by decide +kernel) ⟨Nat.le_of_ble_eq_true rfl, Nat.le_of_ble_eq_true rfl⟩) (p0_preS hN) rfl rfl hl.1 rfl (lv_room (Nat.le_of_ble_eq_true rfl)) dX10_takeAt_8 ⟨Nat.le_of_ble_eq_true rfl, Nat.le_of_ble_eq_true rfl⟩)) (fun r2 hr2 => ?_)
  have hr2 : r2 = if 0 ≤ k ∧ k ≤ (-1) then 1 else 0 := hr2
  refine lv_if_eq (tgt := 23) hx hb dX10_takeAt_11 (by decide) (fun c3 => ?_) (fun c3 => ?_)
  · skip
    have c3 := (fa_bool_prop hr2).1.mp c3
    refine lv_null hx hb dX10_takeAt_23 ?_
    exact W.aret (v := .null) hx hb hr (Or.inl ⟨_, rfl⟩) (Or.inl rfl) (fun t ht hW => ⟨none, rfl, rfl, ht⟩) (fun q h => absurd h List.not_mem_nil) dX10_takeAt_24
  · exact absurd c3 (not_not_intro (hr2.trans (if_neg (no_neg _))))
set_option maxHeartbeats 4000000 in
set_option maxRecDepth 100000 in
theorem c_X10_foretold (l : Launch) (dC : Nat → ClassId) (dI : Nat → Nat → Nat)  (sz : Nat) (qx : Nat) (x0 : Value) (x1 : Value) (x2 : Value) (x3 : Value) (x4 : Value) (x5 : Value) (x6 : Value) (x8 : Value) (x9 : Value) (x10 : Value) (x11 : Value) (x12 : Value) (a0 : Int32) (a1 : Int32)  : Met l yX10_foretold wsX10_foretold ({ frames := 2, cells := 0, slots := 0, locals := 60 }) (pw (dC, dI) [] [(qx, .inr (10, [x0, x1, x2, x3, x4, x5, x6, .int 0, x8, x9, x10, x11, x12]))] sz [.ref qx, .int a0, .int a1]) (vp_Sl (fun r => r = (-9223372036854775808))) 0 0 (fun _ => False) := by
  refine pw_met (cc := cX10_foretold) (maxL := 4) (ret := (some .long)) (by decide) rfl (Nat.le_of_ble_eq_true rfl) ?_
  intro p e s m below meth c0 hx hb hr hml hown hlocks hnm hts hP hK hD hN hsz hA hS ls hl
  have hl : lv_has ls 4 [(0, .ref qx), (1, .int a0), (2, .int a1)] := hl
  refine lv_aload_n hx hb dX10_foretold_0 rfl (lv_at hl 0 rfl) ?_
  refine lv_iload_n hx hb dX10_foretold_1 rfl (lv_at hl 1 rfl) ?_
  have hPc := hP.sub (ws' := [(qx, .inr (10, [x0, x1, x2, x3, x4, x5, x6, .int 0, x8, x9, x10, x11, x12]))]) [0] rfl
  have hDc := hD.sub (ws' := [(qx, .inr (10, [x0, x1, x2, x3, x4, x5, x6, .int 0, x8, x9, x10, x11, x12]))]) [0] (by decide) rfl
  have hKc := hK.sub (tys' := []) [] rfl
  refine va_csq (va_Run.run (va_runV (As := [.int a0]) (rest := []) ⟨hx, hb, hml, hown, hts⟩ (c_X10_pitchAt l dC dI  _ qx x0 x1 x2 x3 x4 x5 x6 x8 x9 x10 x11 x12 a0 ) (cwV 1 hts gX10_foretold_X10_pitchAt rfl rfl rfl (by decide +kernel) ⟨Nat.le_of_ble_eq_true rfl, Nat.le_of_ble_eq_true rfl⟩) (pw_preV (va_recv hKc hPc (ci := 10) (q0 := 0) rfl rfl) hPc hKc hDc hN) rfl rfl hl.1 rfl (lv_room (Nat.le_of_ble_eq_true rfl)) dX10_foretold_2 ⟨Nat.le_of_ble_eq_true rfl, Nat.le_of_ble_eq_true rfl⟩)) (fun r1 hr1 => ?_)
  have hr1 : r1 = none := hr1
  subst hr1
  refine W.eq (g2 := F0 m 5 ls [.null]) rfl ?_
  refine lv_astore_nN (lv' := [(3, .null), (0, .ref qx), (1, .int a0), (2, .int a1)]) hx hb dX10_foretold_5 rfl hl (by decide) rfl (fun ls hl => ?_)
  refine lv_aload_nN hx hb dX10_foretold_6 rfl (lv_at hl 0 rfl) ?_
  refine lv_ifnullN (tgt := 19) hx hb dX10_foretold_7 (by decide) ?_
  refine lv_ldc2 (v := (-9223372036854775808)) hx hb hown (hts (.constantLong RX10 137 (-9223372036854775808)) (by decide +kernel)) dX10_foretold_19 ?_
  exact W.lret (v := (-9223372036854775808)) hx hb hr (fun t ht hW => ⟨(-9223372036854775808), rfl, rfl, ht⟩) (fun q h => absurd h List.not_mem_nil) dX10_foretold_22
set_option maxHeartbeats 4000000 in
set_option maxRecDepth 100000 in
theorem c_X10_auction (l : Launch) (dC : Nat → ClassId) (dI : Nat → Nat → Nat)  (sz : Nat) (qx : Nat) (x0 : Value) (x1 : Value) (x2 : Value) (x3 : Value) (x4 : Value) (x5 : Value) (x6 : Value) (x8 : Value) (x9 : Value) (x10 : Value) (x11 : Value) (x12 : Value) (a0 : Int32) (a1 : Int32)  : Met l yX10_auction wsX10_auction ({ frames := 2, cells := 0, slots := 0, locals := 60 }) (pw (dC, dI) [] [(qx, .inr (10, [x0, x1, x2, x3, x4, x5, x6, .int 0, x8, x9, x10, x11, x12]))] sz [.ref qx, .int a0, .int a1]) (vp_Si (fun r => r = -1)) 0 0 (fun _ => False) := by
  refine pw_met (cc := cX10_auction) (maxL := 4) (ret := (some .int)) (by decide) rfl (Nat.le_of_ble_eq_true rfl) ?_
  intro p e s m below meth c0 hx hb hr hml hown hlocks hnm hts hP hK hD hN hsz hA hS ls hl
  have hl : lv_has ls 4 [(0, .ref qx), (1, .int a0), (2, .int a1)] := hl
  refine lv_aload_n hx hb dX10_auction_0 rfl (lv_at hl 0 rfl) ?_
  refine lv_iload_n hx hb dX10_auction_1 rfl (lv_at hl 1 rfl) ?_
  have hPc := hP.sub (ws' := [(qx, .inr (10, [x0, x1, x2, x3, x4, x5, x6, .int 0, x8, x9, x10, x11, x12]))]) [0] rfl
  have hDc := hD.sub (ws' := [(qx, .inr (10, [x0, x1, x2, x3, x4, x5, x6, .int 0, x8, x9, x10, x11, x12]))]) [0] (by decide) rfl
  have hKc := hK.sub (tys' := []) [] rfl
  refine va_csq (va_Run.run (va_runV (As := [.int a0]) (rest := []) ⟨hx, hb, hml, hown, hts⟩ (c_X10_pitchAt l dC dI  _ qx x0 x1 x2 x3 x4 x5 x6 x8 x9 x10 x11 x12 a0 ) (cwV 1 hts gX10_auction_X10_pitchAt rfl rfl rfl (by decide +kernel) ⟨Nat.le_of_ble_eq_true rfl, Nat.le_of_ble_eq_true rfl⟩) (pw_preV (va_recv hKc hPc (ci := 10) (q0 := 0) rfl rfl) hPc hKc hDc hN) rfl rfl hl.1 rfl (lv_room (Nat.le_of_ble_eq_true rfl)) dX10_auction_2 ⟨Nat.le_of_ble_eq_true rfl, Nat.le_of_ble_eq_true rfl⟩)) (fun r1 hr1 => ?_)
  have hr1 : r1 = none := hr1
  subst hr1
  refine W.eq (g2 := F0 m 5 ls [.null]) rfl ?_
  refine lv_astore_nN (lv' := [(3, .null), (0, .ref qx), (1, .int a0), (2, .int a1)]) hx hb dX10_auction_5 rfl hl (by decide) rfl (fun ls hl => ?_)
  refine lv_aload_nN hx hb dX10_auction_6 rfl (lv_at hl 0 rfl) ?_
  refine lv_ifnonnullN hx hb dX10_auction_7 ?_
  refine lv_iconst (v := (-1)) hx hb dX10_auction_10 (by decide) ?_
  exact W.iret (v := (-1)) hx hb hr (fun t ht hW => ⟨(-1), rfl, rfl, ht⟩) (fun q h => absurd h List.not_mem_nil) dX10_auction_11
set_option maxHeartbeats 4000000 in
set_option maxRecDepth 100000 in
theorem c_X10_bid (l : Launch) (dC : Nat → ClassId) (dI : Nat → Nat → Nat)  (sz : Nat) (qx : Nat) (x0 : Value) (x1 : Value) (x2 : Value) (x3 : Value) (x4 : Value) (x5 : Value) (x6 : Value) (x7 : Value) (x9 : Value) (x10 : Value) (x11 : Value) (x12 : Value) (a0 : Int32) (a1 : Int32)  : Met l yX10_bid wsX10_bid ({ frames := 2, cells := 0, slots := 0, locals := 60 }) (pw (dC, dI) [] [(qx, .inr (10, [x0, x1, x2, x3, x4, x5, x6, x7, .int 0, x9, x10, x11, x12]))] sz [.ref qx, .int a0, .int a1]) (vp_Si (fun r => r = -1)) 0 0 (fun _ => False) := by
  refine pw_met (cc := cX10_bid) (maxL := 4) (ret := (some .int)) (by decide) rfl (Nat.le_of_ble_eq_true rfl) ?_
  intro p e s m below meth c0 hx hb hr hml hown hlocks hnm hts hP hK hD hN hsz hA hS ls hl
  have hl : lv_has ls 4 [(0, .ref qx), (1, .int a0), (2, .int a1)] := hl
  refine lv_aload_n hx hb dX10_bid_0 rfl (lv_at hl 0 rfl) ?_
  refine lv_iload_n hx hb dX10_bid_1 rfl (lv_at hl 1 rfl) ?_
  have hPc := hP.sub (ws' := [(qx, .inr (10, [x0, x1, x2, x3, x4, x5, x6, x7, .int 0, x9, x10, x11, x12]))]) [0] rfl
  have hDc := hD.sub (ws' := [(qx, .inr (10, [x0, x1, x2, x3, x4, x5, x6, x7, .int 0, x9, x10, x11, x12]))]) [0] (by decide) rfl
  have hKc := hK.sub (tys' := []) [] rfl
  refine va_csq (va_Run.run (va_runV (As := [.int a0]) (rest := []) ⟨hx, hb, hml, hown, hts⟩ (c_X10_gangAt l dC dI  _ qx x0 x1 x2 x3 x4 x5 x6 x7 x9 x10 x11 x12 a0 ) (cwV 1 hts gX10_bid_X10_gangAt rfl rfl rfl (by decide +kernel) ⟨Nat.le_of_ble_eq_true rfl, Nat.le_of_ble_eq_true rfl⟩) (pw_preV (va_recv hKc hPc (ci := 10) (q0 := 0) rfl rfl) hPc hKc hDc hN) rfl rfl hl.1 rfl (lv_room (Nat.le_of_ble_eq_true rfl)) dX10_bid_2 ⟨Nat.le_of_ble_eq_true rfl, Nat.le_of_ble_eq_true rfl⟩)) (fun r1 hr1 => ?_)
  have hr1 : r1 = none := hr1
  subst hr1
  refine W.eq (g2 := F0 m 5 ls [.null]) rfl ?_
  refine lv_astore_nN (lv' := [(3, .null), (0, .ref qx), (1, .int a0), (2, .int a1)]) hx hb dX10_bid_5 rfl hl (by decide) rfl (fun ls hl => ?_)
  refine lv_aload_nN hx hb dX10_bid_6 rfl (lv_at hl 0 rfl) ?_
  refine lv_ifnonnullN hx hb dX10_bid_7 ?_
  refine lv_iconst (v := (-1)) hx hb dX10_bid_10 (by decide) ?_
  exact W.iret (v := (-1)) hx hb hr (fun t ht hW => ⟨(-1), rfl, rfl, ht⟩) (fun q h => absurd h List.not_mem_nil) dX10_bid_11
set_option maxHeartbeats 4000000 in
set_option maxRecDepth 100000 in
theorem c_X10_strike (l : Launch) (dC : Nat → ClassId) (dI : Nat → Nat → Nat)  (sz : Nat) (qx : Nat) (x0 : Value) (x1 : Value) (x2 : Value) (x3 : Value) (x4 : Value) (x5 : Value) (x6 : Value) (x7 : Value) (x8 : Value) (x9 : Value) (x10 : Value) (x12 : Value)  : Met l yX10_strike wsX10_strike ({ frames := 2, cells := 0, slots := 0, locals := 60 }) (pw (dC, dI) [] [(qx, .inr (10, [x0, x1, x2, x3, x4, x5, x6, x7, x8, x9, x10, .null, x12]))] sz [.ref qx]) (vp_Si (fun r => r = -3)) 0 0 (fun _ => False) := by
  refine pw_met (cc := cX10_strike) (maxL := 4) (ret := (some .int)) (by decide) rfl (Nat.le_of_ble_eq_true rfl) ?_
  intro p e s m below meth c0 hx hb hr hml hown hlocks hnm hts hP hK hD hN hsz hA hS ls hl
  have hl : lv_has ls 4 [(0, .ref qx)] := hl
  have hiX10 : ∀ w ∈ wsX100, w ∈ wsX10_strike := by decide +kernel
  refine lv_aload_n hx hb dX10_strike_0 rfl (lv_at hl 0 rfl) ?_
  refine va_get (D := (dC, dI)) (ci := 10) (v := .null) (C := RX10) (T := TX10) (N := 13) hx hb hts hiX10 hown hK hP 0 rfl rfl 11 (by decide) (hts (.fieldLink RX10 163 "TributePitches" "current" "LTributePitches$Auction;") (by decide +kernel)) (fun _ h9 => h9) rfl dX10_strike_1 ?_
  refine lv_ifnonnullN hx hb dX10_strike_4 ?_
  refine lv_bipush (v := (-3)) hx hb dX10_strike_7 (by decide) ?_
  exact W.iret (v := (-3)) hx hb hr (fun t ht hW => ⟨(-3), rfl, rfl, ht⟩) (fun q h => absurd h List.not_mem_nil) dX10_strike_9
set_option maxHeartbeats 4000000 in
set_option maxRecDepth 100000 in
theorem c_X10_about (l : Launch) (dC : Nat → ClassId) (dI : Nat → Nat → Nat)  (sz : Nat) (qx : Nat) (x0 : Value) (x1 : Value) (x2 : Value) (x3 : Value) (x4 : Value) (x5 : Value) (x6 : Value) (x8 : Value) (x9 : Value) (x10 : Value) (x11 : Value) (x12 : Value) (a0 : Int32) (a1 : Int32)  : Met l yX10_about wsX10_about ({ frames := 2, cells := 0, slots := 0, locals := 60 }) (pw (dC, dI) [] [(qx, .inr (10, [x0, x1, x2, x3, x4, x5, x6, .int 0, x8, x9, x10, x11, x12]))] sz [.ref qx, .int a0, .int a1]) (vp_Si (fun r => r = -1)) 0 0 (fun _ => False) := by
  refine pw_met (cc := cX10_about) (maxL := 4) (ret := (some .int)) (by decide) rfl (Nat.le_of_ble_eq_true rfl) ?_
  intro p e s m below meth c0 hx hb hr hml hown hlocks hnm hts hP hK hD hN hsz hA hS ls hl
  have hl : lv_has ls 4 [(0, .ref qx), (1, .int a0), (2, .int a1)] := hl
  refine lv_aload_n hx hb dX10_about_0 rfl (lv_at hl 0 rfl) ?_
  refine lv_iload_n hx hb dX10_about_1 rfl (lv_at hl 1 rfl) ?_
  have hPc := hP.sub (ws' := [(qx, .inr (10, [x0, x1, x2, x3, x4, x5, x6, .int 0, x8, x9, x10, x11, x12]))]) [0] rfl
  have hDc := hD.sub (ws' := [(qx, .inr (10, [x0, x1, x2, x3, x4, x5, x6, .int 0, x8, x9, x10, x11, x12]))]) [0] (by decide) rfl
  have hKc := hK.sub (tys' := []) [] rfl
  refine va_csq (va_Run.run (va_runV (As := [.int a0]) (rest := []) ⟨hx, hb, hml, hown, hts⟩ (c_X10_pitchAt l dC dI  _ qx x0 x1 x2 x3 x4 x5 x6 x8 x9 x10 x11 x12 a0 ) (cwV 1 hts gX10_about_X10_pitchAt rfl rfl rfl (by decide +kernel) ⟨Nat.le_of_ble_eq_true rfl, Nat.le_of_ble_eq_true rfl⟩) (pw_preV (va_recv hKc hPc (ci := 10) (q0 := 0) rfl rfl) hPc hKc hDc hN) rfl rfl hl.1 rfl (lv_room (Nat.le_of_ble_eq_true rfl)) dX10_about_2 ⟨Nat.le_of_ble_eq_true rfl, Nat.le_of_ble_eq_true rfl⟩)) (fun r1 hr1 => ?_)
  have hr1 : r1 = none := hr1
  subst hr1
  refine W.eq (g2 := F0 m 5 ls [.null]) rfl ?_
  refine lv_astore_nN (lv' := [(3, .null), (0, .ref qx), (1, .int a0), (2, .int a1)]) hx hb dX10_about_5 rfl hl (by decide) rfl (fun ls hl => ?_)
  refine lv_aload_nN hx hb dX10_about_6 rfl (lv_at hl 0 rfl) ?_
  refine lv_ifnonnullN hx hb dX10_about_7 ?_
  refine lv_iconst (v := (-1)) hx hb dX10_about_10 (by decide) ?_
  exact W.iret (v := (-1)) hx hb hr (fun t ht hW => ⟨(-1), rfl, rfl, ht⟩) (fun q h => absurd h List.not_mem_nil) dX10_about_11
set_option maxHeartbeats 4000000 in
set_option maxRecDepth 100000 in
theorem c_X10_parcel (l : Launch) (dC : Nat → ClassId) (dI : Nat → Nat → Nat)  (sz : Nat) (qx : Nat) (x0 : Value) (x1 : Value) (x2 : Value) (x3 : Value) (x4 : Value) (x5 : Value) (x6 : Value) (x7 : Value) (x8 : Value) (x10 : Value) (x11 : Value) (x12 : Value) (a0 : Int32) (a1 : Int32) (a2 : Int32)  : Met l yX10_parcel wsX10_parcel ({ frames := 2, cells := 0, slots := 0, locals := 60 }) (pw (dC, dI) [] [(qx, .inr (10, [x0, x1, x2, x3, x4, x5, x6, x7, x8, .int 0, x10, x11, x12]))] sz [.ref qx, .int a0, .int a1, .int a2]) (vp_Si (fun r => r = -1)) 0 0 (fun _ => False) := by
  refine pw_met (cc := cX10_parcel) (maxL := 5) (ret := (some .int)) (by decide) rfl (Nat.le_of_ble_eq_true rfl) ?_
  intro p e s m below meth c0 hx hb hr hml hown hlocks hnm hts hP hK hD hN hsz hA hS ls hl
  have hl : lv_has ls 5 [(0, .ref qx), (1, .int a0), (2, .int a1), (3, .int a2)] := hl
  refine lv_aload_n hx hb dX10_parcel_0 rfl (lv_at hl 0 rfl) ?_
  refine lv_iload_n hx hb dX10_parcel_1 rfl (lv_at hl 1 rfl) ?_
  have hPc := hP.sub (ws' := [(qx, .inr (10, [x0, x1, x2, x3, x4, x5, x6, x7, x8, .int 0, x10, x11, x12]))]) [0] rfl
  have hDc := hD.sub (ws' := [(qx, .inr (10, [x0, x1, x2, x3, x4, x5, x6, x7, x8, .int 0, x10, x11, x12]))]) [0] (by decide) rfl
  have hKc := hK.sub (tys' := []) [] rfl
  refine va_csq (va_Run.run (va_runV (As := [.int a0]) (rest := []) ⟨hx, hb, hml, hown, hts⟩ (c_X10_takeAt l dC dI  _ qx x0 x1 x2 x3 x4 x5 x6 x7 x8 x10 x11 x12 a0 ) (cwV 1 hts gX10_parcel_X10_takeAt rfl rfl rfl (by decide +kernel) ⟨Nat.le_of_ble_eq_true rfl, Nat.le_of_ble_eq_true rfl⟩) (pw_preV (va_recv hKc hPc (ci := 10) (q0 := 0) rfl rfl) hPc hKc hDc hN) rfl rfl hl.1 rfl (lv_room (Nat.le_of_ble_eq_true rfl)) dX10_parcel_2 ⟨Nat.le_of_ble_eq_true rfl, Nat.le_of_ble_eq_true rfl⟩)) (fun r1 hr1 => ?_)
  have hr1 : r1 = none := hr1
  subst hr1
  refine W.eq (g2 := F0 m 5 ls [.null]) rfl ?_
  refine lv_astoreN (lv' := [(4, .null), (0, .ref qx), (1, .int a0), (2, .int a1), (3, .int a2)]) hx hb dX10_parcel_5 hl (by decide) rfl (fun ls hl => ?_)
  refine lv_aloadN hx hb dX10_parcel_7 (lv_at hl 0 rfl) ?_
  refine lv_ifnonnullN hx hb dX10_parcel_9 ?_
  refine lv_iconst (v := (-1)) hx hb dX10_parcel_12 (by decide) ?_
  exact W.iret (v := (-1)) hx hb hr (fun t ht hW => ⟨(-1), rfl, rfl, ht⟩) (fun q h => absurd h List.not_mem_nil) dX10_parcel_13
set_option maxHeartbeats 4000000 in
set_option maxRecDepth 100000 in
theorem c_X10_spend (l : Launch) (dC : Nat → ClassId) (dI : Nat → Nat → Nat)  (sz : Nat) (qx : Nat) (x0 : Value) (x1 : Value) (x2 : Value) (x3 : Value) (x4 : Value) (x5 : Value) (x6 : Value) (x7 : Value) (x8 : Value) (x10 : Value) (x11 : Value) (x12 : Value) (a0 : Int32) (a1 : Int32) (a2 : Int32)  : Met l yX10_spend wsX10_spend ({ frames := 2, cells := 0, slots := 0, locals := 60 }) (pw (dC, dI) [] [(qx, .inr (10, [x0, x1, x2, x3, x4, x5, x6, x7, x8, .int 0, x10, x11, x12]))] sz [.ref qx, .int a0, .int a1, .int a2]) (vp_Sl (fun r => r = (-9223372036854775808))) 0 0 (fun _ => False) := by
  refine pw_met (cc := cX10_spend) (maxL := 5) (ret := (some .long)) (by decide) rfl (Nat.le_of_ble_eq_true rfl) ?_
  intro p e s m below meth c0 hx hb hr hml hown hlocks hnm hts hP hK hD hN hsz hA hS ls hl
  have hl : lv_has ls 5 [(0, .ref qx), (1, .int a0), (2, .int a1), (3, .int a2)] := hl
  refine lv_aload_n hx hb dX10_spend_0 rfl (lv_at hl 0 rfl) ?_
  refine lv_iload_n hx hb dX10_spend_1 rfl (lv_at hl 1 rfl) ?_
  have hPc := hP.sub (ws' := [(qx, .inr (10, [x0, x1, x2, x3, x4, x5, x6, x7, x8, .int 0, x10, x11, x12]))]) [0] rfl
  have hDc := hD.sub (ws' := [(qx, .inr (10, [x0, x1, x2, x3, x4, x5, x6, x7, x8, .int 0, x10, x11, x12]))]) [0] (by decide) rfl
  have hKc := hK.sub (tys' := []) [] rfl
  refine va_csq (va_Run.run (va_runV (As := [.int a0]) (rest := []) ⟨hx, hb, hml, hown, hts⟩ (c_X10_takeAt l dC dI  _ qx x0 x1 x2 x3 x4 x5 x6 x7 x8 x10 x11 x12 a0 ) (cwV 1 hts gX10_spend_X10_takeAt rfl rfl rfl (by decide +kernel) ⟨Nat.le_of_ble_eq_true rfl, Nat.le_of_ble_eq_true rfl⟩) (pw_preV (va_recv hKc hPc (ci := 10) (q0 := 0) rfl rfl) hPc hKc hDc hN) rfl rfl hl.1 rfl (lv_room (Nat.le_of_ble_eq_true rfl)) dX10_spend_2 ⟨Nat.le_of_ble_eq_true rfl, Nat.le_of_ble_eq_true rfl⟩)) (fun r1 hr1 => ?_)
  have hr1 : r1 = none := hr1
  subst hr1
  refine W.eq (g2 := F0 m 5 ls [.null]) rfl ?_
  refine lv_astoreN (lv' := [(4, .null), (0, .ref qx), (1, .int a0), (2, .int a1), (3, .int a2)]) hx hb dX10_spend_5 hl (by decide) rfl (fun ls hl => ?_)
  refine lv_aloadN hx hb dX10_spend_7 (lv_at hl 0 rfl) ?_
  refine lv_ifnullN (tgt := 31) hx hb dX10_spend_9 (by decide) ?_
  refine lv_ldc2 (v := (-9223372036854775808)) hx hb hown (hts (.constantLong RX10 137 (-9223372036854775808)) (by decide +kernel)) dX10_spend_31 ?_
  exact W.lret (v := (-9223372036854775808)) hx hb hr (fun t ht hW => ⟨(-9223372036854775808), rfl, rfl, ht⟩) (fun q h => absurd h List.not_mem_nil) dX10_spend_34
set_option maxHeartbeats 4000000 in
set_option maxRecDepth 100000 in
theorem c_X10_settle (l : Launch) (dC : Nat → ClassId) (dI : Nat → Nat → Nat)  (sz : Nat) (qx : Nat) (x0 : Value) (x1 : Value) (x2 : Value) (x3 : Value) (x4 : Value) (x5 : Value) (x6 : Value) (x7 : Value) (x8 : Value) (x10 : Value) (x11 : Value) (x12 : Value) (a0 : Int32)  : Met l yX10_settle wsX10_settle ({ frames := 2, cells := 0, slots := 0, locals := 60 }) (pw (dC, dI) [] [(qx, .inr (10, [x0, x1, x2, x3, x4, x5, x6, x7, x8, .int 0, x10, x11, x12]))] sz [.ref qx, .int a0]) (vp_Sl (fun r => r = (-9223372036854775808))) 0 0 (fun _ => False) := by
  refine pw_met (cc := cX10_settle) (maxL := 3) (ret := (some .long)) (by decide) rfl (Nat.le_of_ble_eq_true rfl) ?_
  intro p e s m below meth c0 hx hb hr hml hown hlocks hnm hts hP hK hD hN hsz hA hS ls hl
  have hl : lv_has ls 3 [(0, .ref qx), (1, .int a0)] := hl
  refine lv_aload_n hx hb dX10_settle_0 rfl (lv_at hl 0 rfl) ?_
  refine lv_iload_n hx hb dX10_settle_1 rfl (lv_at hl 1 rfl) ?_
  have hPc := hP.sub (ws' := [(qx, .inr (10, [x0, x1, x2, x3, x4, x5, x6, x7, x8, .int 0, x10, x11, x12]))]) [0] rfl
  have hDc := hD.sub (ws' := [(qx, .inr (10, [x0, x1, x2, x3, x4, x5, x6, x7, x8, .int 0, x10, x11, x12]))]) [0] (by decide) rfl
  have hKc := hK.sub (tys' := []) [] rfl
  refine va_csq (va_Run.run (va_runV (As := [.int a0]) (rest := []) ⟨hx, hb, hml, hown, hts⟩ (c_X10_takeAt l dC dI  _ qx x0 x1 x2 x3 x4 x5 x6 x7 x8 x10 x11 x12 a0 ) (cwV 1 hts gX10_settle_X10_takeAt rfl rfl rfl (by decide +kernel) ⟨Nat.le_of_ble_eq_true rfl, Nat.le_of_ble_eq_true rfl⟩) (pw_preV (va_recv hKc hPc (ci := 10) (q0 := 0) rfl rfl) hPc hKc hDc hN) rfl rfl hl.1 rfl (lv_room (Nat.le_of_ble_eq_true rfl)) dX10_settle_2 ⟨Nat.le_of_ble_eq_true rfl, Nat.le_of_ble_eq_true rfl⟩)) (fun r1 hr1 => ?_)
  have hr1 : r1 = none := hr1
  subst hr1
  refine W.eq (g2 := F0 m 5 ls [.null]) rfl ?_
  refine lv_astore_nN (lv' := [(2, .null), (0, .ref qx), (1, .int a0)]) hx hb dX10_settle_5 rfl hl (by decide) rfl (fun ls hl => ?_)
  refine lv_aload_nN hx hb dX10_settle_6 rfl (lv_at hl 0 rfl) ?_
  refine lv_ifnullN (tgt := 17) hx hb dX10_settle_7 (by decide) ?_
  refine lv_ldc2 (v := (-9223372036854775808)) hx hb hown (hts (.constantLong RX10 137 (-9223372036854775808)) (by decide +kernel)) dX10_settle_17 ?_
  exact W.lret (v := (-9223372036854775808)) hx hb hr (fun t ht hW => ⟨(-9223372036854775808), rfl, rfl, ht⟩) (fun q h => absurd h List.not_mem_nil) dX10_settle_20
set_option maxHeartbeats 4000000 in
set_option maxRecDepth 100000 in
theorem c_X10_taken (l : Launch) (dC : Nat → ClassId) (dI : Nat → Nat → Nat)  (sz : Nat) (qx : Nat) (x0 : Value) (x1 : Value) (x2 : Value) (x3 : Value) (x4 : Value) (x5 : Value) (x6 : Value) (x7 : Value) (x8 : Value) (x10 : Value) (x11 : Value) (x12 : Value) (a0 : Int32) (a1 : Int32)  : Met l yX10_taken wsX10_taken ({ frames := 2, cells := 0, slots := 0, locals := 60 }) (pw (dC, dI) [] [(qx, .inr (10, [x0, x1, x2, x3, x4, x5, x6, x7, x8, .int 0, x10, x11, x12]))] sz [.ref qx, .int a0, .int a1]) (vp_Si (fun r => r = -1)) 0 0 (fun _ => False) := by
  refine pw_met (cc := cX10_taken) (maxL := 4) (ret := (some .int)) (by decide) rfl (Nat.le_of_ble_eq_true rfl) ?_
  intro p e s m below meth c0 hx hb hr hml hown hlocks hnm hts hP hK hD hN hsz hA hS ls hl
  have hl : lv_has ls 4 [(0, .ref qx), (1, .int a0), (2, .int a1)] := hl
  refine lv_aload_n hx hb dX10_taken_0 rfl (lv_at hl 0 rfl) ?_
  refine lv_iload_n hx hb dX10_taken_1 rfl (lv_at hl 1 rfl) ?_
  have hPc := hP.sub (ws' := [(qx, .inr (10, [x0, x1, x2, x3, x4, x5, x6, x7, x8, .int 0, x10, x11, x12]))]) [0] rfl
  have hDc := hD.sub (ws' := [(qx, .inr (10, [x0, x1, x2, x3, x4, x5, x6, x7, x8, .int 0, x10, x11, x12]))]) [0] (by decide) rfl
  have hKc := hK.sub (tys' := []) [] rfl
  refine va_csq (va_Run.run (va_runV (As := [.int a0]) (rest := []) ⟨hx, hb, hml, hown, hts⟩ (c_X10_takeAt l dC dI  _ qx x0 x1 x2 x3 x4 x5 x6 x7 x8 x10 x11 x12 a0 ) (cwV 1 hts gX10_taken_X10_takeAt rfl rfl rfl (by decide +kernel) ⟨Nat.le_of_ble_eq_true rfl, Nat.le_of_ble_eq_true rfl⟩) (pw_preV (va_recv hKc hPc (ci := 10) (q0 := 0) rfl rfl) hPc hKc hDc hN) rfl rfl hl.1 rfl (lv_room (Nat.le_of_ble_eq_true rfl)) dX10_taken_2 ⟨Nat.le_of_ble_eq_true rfl, Nat.le_of_ble_eq_true rfl⟩)) (fun r1 hr1 => ?_)
  have hr1 : r1 = none := hr1
  subst hr1
  refine W.eq (g2 := F0 m 5 ls [.null]) rfl ?_
  refine lv_astore_nN (lv' := [(3, .null), (0, .ref qx), (1, .int a0), (2, .int a1)]) hx hb dX10_taken_5 rfl hl (by decide) rfl (fun ls hl => ?_)
  refine lv_aload_nN hx hb dX10_taken_6 rfl (lv_at hl 0 rfl) ?_
  refine lv_ifnonnullN hx hb dX10_taken_7 ?_
  refine lv_iconst (v := (-1)) hx hb dX10_taken_10 (by decide) ?_
  exact W.iret (v := (-1)) hx hb hr (fun t ht hW => ⟨(-1), rfl, rfl, ht⟩) (fun q h => absurd h List.not_mem_nil) dX10_taken_11
set_option maxHeartbeats 4000000 in
set_option maxRecDepth 100000 in
theorem c_X10_money (l : Launch) (dC : Nat → ClassId) (dI : Nat → Nat → Nat)  (sz : Nat) (qx : Nat) (x0 : Value) (x1 : Value) (x2 : Value) (x3 : Value) (x4 : Value) (x5 : Value) (x6 : Value) (x7 : Value) (x8 : Value) (x10 : Value) (x11 : Value) (x12 : Value) (a0 : Int32) (a1 : Int32)  : Met l yX10_money wsX10_money ({ frames := 2, cells := 0, slots := 0, locals := 60 }) (pw (dC, dI) [] [(qx, .inr (10, [x0, x1, x2, x3, x4, x5, x6, x7, x8, .int 0, x10, x11, x12]))] sz [.ref qx, .int a0, .int a1]) (vp_Sl (fun r => r = (-9223372036854775808))) 0 0 (fun _ => False) := by
  refine pw_met (cc := cX10_money) (maxL := 4) (ret := (some .long)) (by decide) rfl (Nat.le_of_ble_eq_true rfl) ?_
  intro p e s m below meth c0 hx hb hr hml hown hlocks hnm hts hP hK hD hN hsz hA hS ls hl
  have hl : lv_has ls 4 [(0, .ref qx), (1, .int a0), (2, .int a1)] := hl
  refine lv_aload_n hx hb dX10_money_0 rfl (lv_at hl 0 rfl) ?_
  refine lv_iload_n hx hb dX10_money_1 rfl (lv_at hl 1 rfl) ?_
  have hPc := hP.sub (ws' := [(qx, .inr (10, [x0, x1, x2, x3, x4, x5, x6, x7, x8, .int 0, x10, x11, x12]))]) [0] rfl
  have hDc := hD.sub (ws' := [(qx, .inr (10, [x0, x1, x2, x3, x4, x5, x6, x7, x8, .int 0, x10, x11, x12]))]) [0] (by decide) rfl
  have hKc := hK.sub (tys' := []) [] rfl
  refine va_csq (va_Run.run (va_runV (As := [.int a0]) (rest := []) ⟨hx, hb, hml, hown, hts⟩ (c_X10_takeAt l dC dI  _ qx x0 x1 x2 x3 x4 x5 x6 x7 x8 x10 x11 x12 a0 ) (cwV 1 hts gX10_money_X10_takeAt rfl rfl rfl (by decide +kernel) ⟨Nat.le_of_ble_eq_true rfl, Nat.le_of_ble_eq_true rfl⟩) (pw_preV (va_recv hKc hPc (ci := 10) (q0 := 0) rfl rfl) hPc hKc hDc hN) rfl rfl hl.1 rfl (lv_room (Nat.le_of_ble_eq_true rfl)) dX10_money_2 ⟨Nat.le_of_ble_eq_true rfl, Nat.le_of_ble_eq_true rfl⟩)) (fun r1 hr1 => ?_)
  have hr1 : r1 = none := hr1
  subst hr1
  refine W.eq (g2 := F0 m 5 ls [.null]) rfl ?_
  refine lv_astore_nN (lv' := [(3, .null), (0, .ref qx), (1, .int a0), (2, .int a1)]) hx hb dX10_money_5 rfl hl (by decide) rfl (fun ls hl => ?_)
  refine lv_aload_nN hx hb dX10_money_6 rfl (lv_at hl 0 rfl) ?_
  refine lv_ifnonnullN hx hb dX10_money_7 ?_
  refine lv_ldc2 (v := (-9223372036854775808)) hx hb hown (hts (.constantLong RX10 137 (-9223372036854775808)) (by decide +kernel)) dX10_money_10 ?_
  exact W.lret (v := (-9223372036854775808)) hx hb hr (fun t ht hW => ⟨(-9223372036854775808), rfl, rfl, ht⟩) (fun q h => absurd h List.not_mem_nil) dX10_money_13
set_option maxHeartbeats 4000000 in
set_option maxRecDepth 100000 in
theorem c_X10_debt (l : Launch) (dC : Nat → ClassId) (dI : Nat → Nat → Nat)  (sz : Nat) (qx : Nat) (x0 : Value) (x1 : Value) (x2 : Value) (x3 : Value) (x4 : Value) (x5 : Value) (x6 : Value) (x7 : Value) (x9 : Value) (x10 : Value) (x11 : Value) (x12 : Value) (a0 : Int32)  : Met l yX10_debt wsX10_debt ({ frames := 2, cells := 0, slots := 0, locals := 60 }) (pw (dC, dI) [] [(qx, .inr (10, [x0, x1, x2, x3, x4, x5, x6, x7, .int 0, x9, x10, x11, x12]))] sz [.ref qx, .int a0]) (vp_Sl (fun r => r = (-9223372036854775808))) 0 0 (fun _ => False) := by
  refine pw_met (cc := cX10_debt) (maxL := 3) (ret := (some .long)) (by decide) rfl (Nat.le_of_ble_eq_true rfl) ?_
  intro p e s m below meth c0 hx hb hr hml hown hlocks hnm hts hP hK hD hN hsz hA hS ls hl
  have hl : lv_has ls 3 [(0, .ref qx), (1, .int a0)] := hl
  refine lv_aload_n hx hb dX10_debt_0 rfl (lv_at hl 0 rfl) ?_
  refine lv_iload_n hx hb dX10_debt_1 rfl (lv_at hl 1 rfl) ?_
  have hPc := hP.sub (ws' := [(qx, .inr (10, [x0, x1, x2, x3, x4, x5, x6, x7, .int 0, x9, x10, x11, x12]))]) [0] rfl
  have hDc := hD.sub (ws' := [(qx, .inr (10, [x0, x1, x2, x3, x4, x5, x6, x7, .int 0, x9, x10, x11, x12]))]) [0] (by decide) rfl
  have hKc := hK.sub (tys' := []) [] rfl
  refine va_csq (va_Run.run (va_runV (As := [.int a0]) (rest := []) ⟨hx, hb, hml, hown, hts⟩ (c_X10_gangAt l dC dI  _ qx x0 x1 x2 x3 x4 x5 x6 x7 x9 x10 x11 x12 a0 ) (cwV 1 hts gX10_debt_X10_gangAt rfl rfl rfl (by decide +kernel) ⟨Nat.le_of_ble_eq_true rfl, Nat.le_of_ble_eq_true rfl⟩) (pw_preV (va_recv hKc hPc (ci := 10) (q0 := 0) rfl rfl) hPc hKc hDc hN) rfl rfl hl.1 rfl (lv_room (Nat.le_of_ble_eq_true rfl)) dX10_debt_2 ⟨Nat.le_of_ble_eq_true rfl, Nat.le_of_ble_eq_true rfl⟩)) (fun r1 hr1 => ?_)
  have hr1 : r1 = none := hr1
  subst hr1
  refine W.eq (g2 := F0 m 5 ls [.null]) rfl ?_
  refine lv_astore_nN (lv' := [(2, .null), (0, .ref qx), (1, .int a0)]) hx hb dX10_debt_5 rfl hl (by decide) rfl (fun ls hl => ?_)
  refine lv_aload_nN hx hb dX10_debt_6 rfl (lv_at hl 0 rfl) ?_
  refine lv_ifnonnullN hx hb dX10_debt_7 ?_
  refine lv_ldc2 (v := (-9223372036854775808)) hx hb hown (hts (.constantLong RX10 137 (-9223372036854775808)) (by decide +kernel)) dX10_debt_10 ?_
  refine lv_goto (tgt := 20) hx hb dX10_debt_13 (by decide) ?_
  exact W.lret (v := (-9223372036854775808)) hx hb hr (fun t ht hW => ⟨(-9223372036854775808), rfl, rfl, ht⟩) (fun q h => absurd h List.not_mem_nil) dX10_debt_20
set_option maxHeartbeats 4000000 in
set_option maxRecDepth 100000 in
theorem c_X10_suspects (l : Launch) (dC : Nat → ClassId) (dI : Nat → Nat → Nat)  (sz : Nat) (qx : Nat) (x0 : Value) (x1 : Value) (x2 : Value) (x3 : Value) (x4 : Value) (x5 : Value) (x6 : Value) (x7 : Value) (x8 : Value) (x9 : Value) (x11 : Value) (x12 : Value)  : Met l yX10_suspects wsX10_suspects ({ frames := 2, cells := 0, slots := 0, locals := 60 }) (pw (dC, dI) [] [(qx, .inr (10, [x0, x1, x2, x3, x4, x5, x6, x7, x8, x9, .int 0, x11, x12]))] sz [.ref qx]) (vp_Si (fun r => r = 0)) 0 0 (fun _ => False) := by
  refine pw_met (cc := cX10_suspects) (maxL := 3) (ret := (some .int)) (by decide) rfl (Nat.le_of_ble_eq_true rfl) ?_
  intro p e s m below meth c0 hx hb hr hml hown hlocks hnm hts hP hK hD hN hsz hA hS ls hl
  have hl : lv_has ls 3 [(0, .ref qx)] := hl
  have hiX10 : ∀ w ∈ wsX100, w ∈ wsX10_suspects := by decide +kernel
  refine lv_iconst (v := 0) hx hb dX10_suspects_0 (by decide) ?_
  refine lv_istore_n (lv' := [(1, .int 0), (0, .ref qx)]) hx hb dX10_suspects_1 rfl hl (by decide) rfl (fun ls hl => ?_)
  refine lv_iconst (v := 0) hx hb dX10_suspects_2 (by decide) ?_
  refine lv_istore_n (lv' := [(2, .int 0), (1, .int 0), (0, .ref qx)]) hx hb dX10_suspects_3 rfl hl (by decide) rfl (fun ls hl => ?_)
  refine lv_iload_n hx hb dX10_suspects_4 rfl (lv_at hl 0 rfl) ?_
  refine lv_aload_n hx hb dX10_suspects_5 rfl (lv_at hl 2 rfl) ?_
  refine va_get (D := (dC, dI)) (ci := 10) (v := .int 0) (C := RX10) (T := TX10) (N := 13) hx hb hts hiX10 hown hK hP 0 rfl rfl 10 (by decide) (hts (.fieldLink RX10 242 "TributePitches" "parcelCount" "I") (by decide +kernel)) (fun _ h9 => h9) rfl dX10_suspects_6 ?_
  refine lv_icmp_ge (tgt := 37) hx hb dX10_suspects_9 (by decide) (fun c1 => ?_) (fun c1 => ?_)
  · skip
    refine lv_iload_n hx hb dX10_suspects_37 rfl (lv_at hl 1 rfl) ?_
    exact W.iret (v := 0) hx hb hr (fun t ht hW => ⟨0, rfl, rfl, ht⟩) (fun q h => absurd h List.not_mem_nil) dX10_suspects_38
  · exact absurd c1 (by decide)
set_option maxHeartbeats 4000000 in
set_option maxRecDepth 100000 in
theorem c_X10_suspect (l : Launch) (dC : Nat → ClassId) (dI : Nat → Nat → Nat)  (sz : Nat) (qx : Nat) (x0 : Value) (x1 : Value) (x2 : Value) (x3 : Value) (x4 : Value) (x5 : Value) (x6 : Value) (x7 : Value) (x8 : Value) (x9 : Value) (x11 : Value) (x12 : Value) (a0 : Int32)  : Met l yX10_suspect wsX10_suspect ({ frames := 2, cells := 0, slots := 0, locals := 60 }) (pw (dC, dI) [] [(qx, .inr (10, [x0, x1, x2, x3, x4, x5, x6, x7, x8, x9, .int 0, x11, x12]))] sz [.ref qx, .int a0]) (vp_Si (fun r => r = -1)) 0 0 (fun _ => False) := by
  refine pw_met (cc := cX10_suspect) (maxL := 4) (ret := (some .int)) (by decide) rfl (Nat.le_of_ble_eq_true rfl) ?_
  intro p e s m below meth c0 hx hb hr hml hown hlocks hnm hts hP hK hD hN hsz hA hS ls hl
  have hl : lv_has ls 4 [(0, .ref qx), (1, .int a0)] := hl
  have hiX10 : ∀ w ∈ wsX100, w ∈ wsX10_suspect := by decide +kernel
  refine lv_iconst (v := 0) hx hb dX10_suspect_0 (by decide) ?_
  refine lv_istore_n (lv' := [(2, .int 0), (0, .ref qx), (1, .int a0)]) hx hb dX10_suspect_1 rfl hl (by decide) rfl (fun ls hl => ?_)
  refine lv_iconst (v := 0) hx hb dX10_suspect_2 (by decide) ?_
  refine lv_istore_n (lv' := [(3, .int 0), (2, .int 0), (0, .ref qx), (1, .int a0)]) hx hb dX10_suspect_3 rfl hl (by decide) rfl (fun ls hl => ?_)
  refine lv_iload_n hx hb dX10_suspect_4 rfl (lv_at hl 0 rfl) ?_
  refine lv_aload_n hx hb dX10_suspect_5 rfl (lv_at hl 2 rfl) ?_
  refine va_get (D := (dC, dI)) (ci := 10) (v := .int 0) (C := RX10) (T := TX10) (N := 13) hx hb hts hiX10 hown hK hP 0 rfl rfl 10 (by decide) (hts (.fieldLink RX10 242 "TributePitches" "parcelCount" "I") (by decide +kernel)) (fun _ h9 => h9) rfl dX10_suspect_6 ?_
  refine lv_icmp_ge (tgt := 47) hx hb dX10_suspect_9 (by decide) (fun c1 => ?_) (fun c1 => ?_)
  · skip
    refine lv_iconst (v := (-1)) hx hb dX10_suspect_47 (by decide) ?_
    exact W.iret (v := (-1)) hx hb hr (fun t ht hW => ⟨(-1), rfl, rfl, ht⟩) (fun q h => absurd h List.not_mem_nil) dX10_suspect_48
  · exact absurd c1 (by decide)
set_option maxHeartbeats 4000000 in
set_option maxRecDepth 100000 in
theorem c_X10_skill (l : Launch) (dC : Nat → ClassId) (dI : Nat → Nat → Nat)  (sz : Nat) (qx : Nat) (x0 : Value) (x1 : Value) (x2 : Value) (x3 : Value) (x4 : Value) (x5 : Value) (x6 : Value) (x7 : Value) (x9 : Value) (x10 : Value) (x11 : Value) (x12 : Value) (a0 : Int32) (a1 : Int32)  : Met l yX10_skill wsX10_skill ({ frames := 2, cells := 0, slots := 0, locals := 60 }) (pw (dC, dI) [] [(qx, .inr (10, [x0, x1, x2, x3, x4, x5, x6, x7, .int 0, x9, x10, x11, x12]))] sz [.ref qx, .int a0, .int a1]) (vp_Sl (fun r => r = (-9223372036854775808))) 0 0 (fun _ => False) := by
  refine pw_met (cc := cX10_skill) (maxL := 12) (ret := (some .long)) (by decide) rfl (Nat.le_of_ble_eq_true rfl) ?_
  intro p e s m below meth c0 hx hb hr hml hown hlocks hnm hts hP hK hD hN hsz hA hS ls hl
  have hl : lv_has ls 12 [(0, .ref qx), (1, .int a0), (2, .int a1)] := hl
  refine lv_aload_n hx hb dX10_skill_0 rfl (lv_at hl 0 rfl) ?_
  refine lv_iload_n hx hb dX10_skill_1 rfl (lv_at hl 1 rfl) ?_
  have hPc := hP.sub (ws' := [(qx, .inr (10, [x0, x1, x2, x3, x4, x5, x6, x7, .int 0, x9, x10, x11, x12]))]) [0] rfl
  have hDc := hD.sub (ws' := [(qx, .inr (10, [x0, x1, x2, x3, x4, x5, x6, x7, .int 0, x9, x10, x11, x12]))]) [0] (by decide) rfl
  have hKc := hK.sub (tys' := []) [] rfl
  refine va_csq (va_Run.run (va_runV (As := [.int a0]) (rest := []) ⟨hx, hb, hml, hown, hts⟩ (c_X10_gangAt l dC dI  _ qx x0 x1 x2 x3 x4 x5 x6 x7 x9 x10 x11 x12 a0 ) (cwV 1 hts gX10_skill_X10_gangAt rfl rfl rfl (by decide +kernel) ⟨Nat.le_of_ble_eq_true rfl, Nat.le_of_ble_eq_true rfl⟩) (pw_preV (va_recv hKc hPc (ci := 10) (q0 := 0) rfl rfl) hPc hKc hDc hN) rfl rfl hl.1 rfl (lv_room (Nat.le_of_ble_eq_true rfl)) dX10_skill_2 ⟨Nat.le_of_ble_eq_true rfl, Nat.le_of_ble_eq_true rfl⟩)) (fun r1 hr1 => ?_)
  have hr1 : r1 = none := hr1
  subst hr1
  refine W.eq (g2 := F0 m 5 ls [.null]) rfl ?_
  refine lv_astore_nN (lv' := [(3, .null), (0, .ref qx), (1, .int a0), (2, .int a1)]) hx hb dX10_skill_5 rfl hl (by decide) rfl (fun ls hl => ?_)
  refine lv_aload_nN hx hb dX10_skill_6 rfl (lv_at hl 0 rfl) ?_
  refine lv_ifnullN (tgt := 19) hx hb dX10_skill_7 (by decide) ?_
  refine lv_ldc2 (v := (-9223372036854775808)) hx hb hown (hts (.constantLong RX10 137 (-9223372036854775808)) (by decide +kernel)) dX10_skill_19 ?_
  exact W.lret (v := (-9223372036854775808)) hx hb hr (fun t ht hW => ⟨(-9223372036854775808), rfl, rfl, ht⟩) (fun q h => absurd h List.not_mem_nil) dX10_skill_22
set_option maxHeartbeats 4000000 in
set_option maxRecDepth 100000 in
theorem c_X10_tell (l : Launch) (dC : Nat → ClassId) (dI : Nat → Nat → Nat)  (sz : Nat) (qx : Nat) (x0 : Value) (x1 : Value) (x2 : Value) (x3 : Value) (x4 : Value) (x5 : Value) (x6 : Value) (x7 : Value) (x9 : Value) (x10 : Value) (x11 : Value) (x12 : Value) (a0 : Int32)  : Met l yX10_tell wsX10_tell ({ frames := 2, cells := 0, slots := 0, locals := 60 }) (pw (dC, dI) [] [(qx, .inr (10, [x0, x1, x2, x3, x4, x5, x6, x7, .int 0, x9, x10, x11, x12]))] sz [.ref qx, .int a0]) (vp_Si (fun r => r = -1)) 0 0 (fun _ => False) := by
  refine pw_met (cc := cX10_tell) (maxL := 3) (ret := (some .int)) (by decide) rfl (Nat.le_of_ble_eq_true rfl) ?_
  intro p e s m below meth c0 hx hb hr hml hown hlocks hnm hts hP hK hD hN hsz hA hS ls hl
  have hl : lv_has ls 3 [(0, .ref qx), (1, .int a0)] := hl
  refine lv_aload_n hx hb dX10_tell_0 rfl (lv_at hl 0 rfl) ?_
  refine lv_iload_n hx hb dX10_tell_1 rfl (lv_at hl 1 rfl) ?_
  have hPc := hP.sub (ws' := [(qx, .inr (10, [x0, x1, x2, x3, x4, x5, x6, x7, .int 0, x9, x10, x11, x12]))]) [0] rfl
  have hDc := hD.sub (ws' := [(qx, .inr (10, [x0, x1, x2, x3, x4, x5, x6, x7, .int 0, x9, x10, x11, x12]))]) [0] (by decide) rfl
  have hKc := hK.sub (tys' := []) [] rfl
  refine va_csq (va_Run.run (va_runV (As := [.int a0]) (rest := []) ⟨hx, hb, hml, hown, hts⟩ (c_X10_gangAt l dC dI  _ qx x0 x1 x2 x3 x4 x5 x6 x7 x9 x10 x11 x12 a0 ) (cwV 1 hts gX10_tell_X10_gangAt rfl rfl rfl (by decide +kernel) ⟨Nat.le_of_ble_eq_true rfl, Nat.le_of_ble_eq_true rfl⟩) (pw_preV (va_recv hKc hPc (ci := 10) (q0 := 0) rfl rfl) hPc hKc hDc hN) rfl rfl hl.1 rfl (lv_room (Nat.le_of_ble_eq_true rfl)) dX10_tell_2 ⟨Nat.le_of_ble_eq_true rfl, Nat.le_of_ble_eq_true rfl⟩)) (fun r1 hr1 => ?_)
  have hr1 : r1 = none := hr1
  subst hr1
  refine W.eq (g2 := F0 m 5 ls [.null]) rfl ?_
  refine lv_astore_nN (lv' := [(2, .null), (0, .ref qx), (1, .int a0)]) hx hb dX10_tell_5 rfl hl (by decide) rfl (fun ls hl => ?_)
  refine lv_aload_nN hx hb dX10_tell_6 rfl (lv_at hl 0 rfl) ?_
  refine lv_ifnonnullN hx hb dX10_tell_7 ?_
  refine lv_iconst (v := (-1)) hx hb dX10_tell_10 (by decide) ?_
  refine lv_goto (tgt := 22) hx hb dX10_tell_11 (by decide) ?_
  exact W.iret (v := (-1)) hx hb hr (fun t ht hW => ⟨(-1), rfl, rfl, ht⟩) (fun q h => absurd h List.not_mem_nil) dX10_tell_22
set_option maxHeartbeats 4000000 in
set_option maxRecDepth 100000 in
theorem c_X10_greet (l : Launch) (dC : Nat → ClassId) (dI : Nat → Nat → Nat)  (sz : Nat) (qx : Nat) (x0 : Value) (x1 : Value) (x2 : Value) (x3 : Value) (x4 : Value) (x5 : Value) (x6 : Value) (x7 : Value) (x9 : Value) (x10 : Value) (x11 : Value) (x12 : Value) (a0 : Int32)  : Met l yX10_greet wsX10_greet ({ frames := 2, cells := 0, slots := 0, locals := 60 }) (pw (dC, dI) [] [(qx, .inr (10, [x0, x1, x2, x3, x4, x5, x6, x7, .int 0, x9, x10, x11, x12]))] sz [.ref qx, .int a0]) (vp_Si (fun r => r = -1)) 0 0 (fun _ => False) := by
  refine pw_met (cc := cX10_greet) (maxL := 3) (ret := (some .int)) (by decide) rfl (Nat.le_of_ble_eq_true rfl) ?_
  intro p e s m below meth c0 hx hb hr hml hown hlocks hnm hts hP hK hD hN hsz hA hS ls hl
  have hl : lv_has ls 3 [(0, .ref qx), (1, .int a0)] := hl
  refine lv_aload_n hx hb dX10_greet_0 rfl (lv_at hl 0 rfl) ?_
  refine lv_iload_n hx hb dX10_greet_1 rfl (lv_at hl 1 rfl) ?_
  have hPc := hP.sub (ws' := [(qx, .inr (10, [x0, x1, x2, x3, x4, x5, x6, x7, .int 0, x9, x10, x11, x12]))]) [0] rfl
  have hDc := hD.sub (ws' := [(qx, .inr (10, [x0, x1, x2, x3, x4, x5, x6, x7, .int 0, x9, x10, x11, x12]))]) [0] (by decide) rfl
  have hKc := hK.sub (tys' := []) [] rfl
  refine va_csq (va_Run.run (va_runV (As := [.int a0]) (rest := []) ⟨hx, hb, hml, hown, hts⟩ (c_X10_gangAt l dC dI  _ qx x0 x1 x2 x3 x4 x5 x6 x7 x9 x10 x11 x12 a0 ) (cwV 1 hts gX10_greet_X10_gangAt rfl rfl rfl (by decide +kernel) ⟨Nat.le_of_ble_eq_true rfl, Nat.le_of_ble_eq_true rfl⟩) (pw_preV (va_recv hKc hPc (ci := 10) (q0 := 0) rfl rfl) hPc hKc hDc hN) rfl rfl hl.1 rfl (lv_room (Nat.le_of_ble_eq_true rfl)) dX10_greet_2 ⟨Nat.le_of_ble_eq_true rfl, Nat.le_of_ble_eq_true rfl⟩)) (fun r1 hr1 => ?_)
  have hr1 : r1 = none := hr1
  subst hr1
  refine W.eq (g2 := F0 m 5 ls [.null]) rfl ?_
  refine lv_astore_nN (lv' := [(2, .null), (0, .ref qx), (1, .int a0)]) hx hb dX10_greet_5 rfl hl (by decide) rfl (fun ls hl => ?_)
  refine lv_aload_nN hx hb dX10_greet_6 rfl (lv_at hl 0 rfl) ?_
  refine lv_ifnonnullN hx hb dX10_greet_7 ?_
  refine lv_iconst (v := (-1)) hx hb dX10_greet_10 (by decide) ?_
  refine lv_goto (tgt := 22) hx hb dX10_greet_11 (by decide) ?_
  exact W.iret (v := (-1)) hx hb hr (fun t ht hW => ⟨(-1), rfl, rfl, ht⟩) (fun q h => absurd h List.not_mem_nil) dX10_greet_22
set_option maxHeartbeats 4000000 in
set_option maxRecDepth 100000 in
theorem c_X10_as (l : Launch) (dC : Nat → ClassId) (dI : Nat → Nat → Nat)  (sz : Nat) (qx : Nat) (x0 : Value) (x1 : Value) (x2 : Value) (x3 : Value) (x4 : Value) (x5 : Value) (x6 : Value) (x7 : Value) (x9 : Value) (x10 : Value) (x11 : Value) (x12 : Value) (a0 : Int32) (a1 : Int32)  : Met l yX10_as wsX10_as ({ frames := 2, cells := 0, slots := 0, locals := 60 }) (pw (dC, dI) [] [(qx, .inr (10, [x0, x1, x2, x3, x4, x5, x6, x7, .int 0, x9, x10, x11, x12]))] sz [.ref qx, .int a0, .int a1]) (va_Qi (fun r (_ : Unit) => r = -1) (fun _ _ => True) (va_A [(qx, .inr (10, [x0, x1, x2, x3, x4, x5, x6, x7, .int 0, x9, x10, x11, x12]))] sz)) 0 0 (va_A [(qx, .inr (10, [x0, x1, x2, x3, x4, x5, x6, x7, .int 0, x9, x10, x11, x12]))] sz) := by
  refine pw_met (cc := cX10_as) (maxL := 4) (ret := (some .int)) (by decide) rfl (Nat.le_of_ble_eq_true rfl) ?_
  intro p e s m below meth c0 hx hb hr hml hown hlocks hnm hts hP hK hD hN hsz hA hS ls hl
  subst hsz
  have hl : lv_has ls 4 [(0, .ref qx), (1, .int a0), (2, .int a1)] := hl
  have hiX10 : ∀ w ∈ wsX100, w ∈ wsX10_as := by decide +kernel
  refine lv_aload_n hx hb dX10_as_0 rfl (lv_at hl 0 rfl) ?_
  refine lv_iconst (v := 0) hx hb dX10_as_1 (by decide) ?_
  refine va_put (D := (dC, dI)) (ci := 10) (v := .int 0) (ty := .int) (C := RX10) (T := TX10) (N := 13) hx hb hts hiX10 tyX10 tyX10_ok nmX10 hown hK hP hD hS 0 rfl rfl 12 (by decide) (hts (.fieldLink RX10 56 "TributePitches" "latestFault" "I") (by decide +kernel)) (fun _ h9 => h9) rfl (by decide +kernel) rfl rfl (Nat.le_of_ble_eq_true rfl) dX10_as_2 (fun H locs hP hD hS => ?_)
  have hP : va_P (dC, dI) vwCl [(qx, .inr (10, [x0, x1, x2, x3, x4, x5, x6, x7, .int 0, x9, x10, x11, .int 0]))] H := hP
  have hD : va_D _ [(qx, .inr (10, [x0, x1, x2, x3, x4, x5, x6, x7, .int 0, x9, x10, x11, .int 0]))] := hD
  refine lv_aload_n hx hb dX10_as_5 rfl (lv_at hl 0 rfl) ?_
  refine lv_iload_n hx hb dX10_as_6 rfl (lv_at hl 1 rfl) ?_
  have hPc := hP.sub (ws' := [(qx, .inr (10, [x0, x1, x2, x3, x4, x5, x6, x7, .int 0, x9, x10, x11, .int 0]))]) [0] rfl
  have hDc := hD.sub (ws' := [(qx, .inr (10, [x0, x1, x2, x3, x4, x5, x6, x7, .int 0, x9, x10, x11, .int 0]))]) [0] (by decide) rfl
  have hKc := hK.sub (tys' := []) [] rfl
  refine va_csq (va_Run.run (va_runV (As := [.int a0]) (rest := []) ⟨hx, hb, hml, hown, hts⟩ (c_X10_gangAt l dC dI  _ qx x0 x1 x2 x3 x4 x5 x6 x7 x9 x10 x11 (.int 0) a0 ) (cwV 1 hts gX10_as_X10_gangAt rfl rfl rfl (by decide +kernel) ⟨Nat.le_of_ble_eq_true rfl, Nat.le_of_ble_eq_true rfl⟩) (pw_preV (va_recv hKc hPc (ci := 10) (q0 := 0) rfl rfl) hPc hKc hDc hN) rfl rfl hl.1 rfl (lv_room (Nat.le_of_ble_eq_true rfl)) dX10_as_7 ⟨Nat.le_of_ble_eq_true rfl, Nat.le_of_ble_eq_true rfl⟩)) (fun r1 hr1 => ?_)
  have hr1 : r1 = none := hr1
  subst hr1
  refine W.eq (g2 := F0 m 10 ls [.null]) rfl ?_
  refine lv_astore_nN (lv' := [(3, .null), (0, .ref qx), (1, .int a0), (2, .int a1)]) hx hb dX10_as_10 rfl hl (by decide) rfl (fun ls hl => ?_)
  refine lv_aload_nN hx hb dX10_as_11 rfl (lv_at hl 0 rfl) ?_
  refine lv_ifnonnullN hx hb dX10_as_12 ?_
  refine lv_iconst (v := (-1)) hx hb dX10_as_15 (by decide) ?_
  exact W.iret (v := (-1)) hx hb hr (fun t ht hW => ⟨⟨(-1), (), rfl, rfl, trivial⟩, hS.F ht⟩) hS.2.2 dX10_as_16
set_option maxHeartbeats 4000000 in
set_option maxRecDepth 100000 in
theorem c_X10_trace (l : Launch) (dC : Nat → ClassId) (dI : Nat → Nat → Nat)  (sz : Nat) (qx : Nat) (x0 : Value) (x1 : Value) (x2 : Value) (x3 : Value) (x4 : Value) (x5 : Value) (x7 : Value) (x8 : Value) (x9 : Value) (x10 : Value) (x11 : Value) (x12 : Value) (tr : Nat)  : Met l yX10_trace wsX10_trace ({ frames := 2, cells := 0, slots := 0, locals := 60 }) (pw (dC, dI) [] [(qx, .inr (10, [x0, x1, x2, x3, x4, x5, .ref tr, x7, x8, x9, x10, x11, x12])), (tr, .inr (9, [.int 0]))] sz [.ref qx]) (vp_Si (fun r => r = 0)) 0 0 (fun _ => False) := by
  refine pw_met (cc := cX10_trace) (maxL := 1) (ret := (some .int)) (by decide) rfl (Nat.le_of_ble_eq_true rfl) ?_
  intro p e s m below meth c0 hx hb hr hml hown hlocks hnm hts hP hK hD hN hsz hA hS ls hl
  have hl : lv_has ls 1 [(0, .ref qx)] := hl
  have hiX10 : ∀ w ∈ wsX100, w ∈ wsX10_trace := by decide +kernel
  have hiX9 : ∀ w ∈ wsX90, w ∈ wsX10_trace := by decide +kernel
  refine lv_aload_n hx hb dX10_trace_0 rfl (lv_at hl 0 rfl) ?_
  refine va_get (D := (dC, dI)) (ci := 10) (v := .ref tr) (C := RX10) (T := TX10) (N := 13) hx hb hts hiX10 hown hK hP 0 rfl rfl 6 (by decide) (hts (.fieldLink RX10 52 "TributePitches" "steps" "LTributePitches$Trace;") (by decide +kernel)) (fun _ h9 => h9) rfl dX10_trace_1 ?_
  refine va_get (D := (dC, dI)) (ci := 9) (v := .int 0) (C := RX9) (T := TX9) (N := 1) hx hb hts hiX9 hown hK hP 1 rfl rfl 0 (by decide) (hts (.fieldLink RX10 315 "TributePitches$Trace" "number" "I") (by decide +kernel)) (fun _ h9 => h9) rfl dX10_trace_4 ?_
  exact W.iret (v := 0) hx hb hr (fun t ht hW => ⟨0, rfl, rfl, ht⟩) (fun q h => absurd h List.not_mem_nil) dX10_trace_7
set_option maxHeartbeats 4000000 in
set_option maxRecDepth 100000 in
theorem c_X10_fault (l : Launch) (dC : Nat → ClassId) (dI : Nat → Nat → Nat)  (sz : Nat) (qx : Nat) (x0 : Value) (x1 : Value) (x2 : Value) (x3 : Value) (x4 : Value) (x5 : Value) (x6 : Value) (x7 : Value) (x8 : Value) (x9 : Value) (x10 : Value) (x11 : Value)  : Met l yX10_fault wsX10_fault ({ frames := 2, cells := 0, slots := 0, locals := 60 }) (pw (dC, dI) [] [(qx, .inr (10, [x0, x1, x2, x3, x4, x5, x6, x7, x8, x9, x10, x11, .int 0]))] sz [.ref qx]) (vp_Si (fun r => r = 0)) 0 0 (fun _ => False) := by
  refine pw_met (cc := cX10_fault) (maxL := 1) (ret := (some .int)) (by decide) rfl (Nat.le_of_ble_eq_true rfl) ?_
  intro p e s m below meth c0 hx hb hr hml hown hlocks hnm hts hP hK hD hN hsz hA hS ls hl
  have hl : lv_has ls 1 [(0, .ref qx)] := hl
  have hiX10 : ∀ w ∈ wsX100, w ∈ wsX10_fault := by decide +kernel
  refine lv_aload_n hx hb dX10_fault_0 rfl (lv_at hl 0 rfl) ?_
  refine va_get (D := (dC, dI)) (ci := 10) (v := .int 0) (C := RX10) (T := TX10) (N := 13) hx hb hts hiX10 hown hK hP 0 rfl rfl 12 (by decide) (hts (.fieldLink RX10 56 "TributePitches" "latestFault" "I") (by decide +kernel)) (fun _ h9 => h9) rfl dX10_fault_1 ?_
  exact W.iret (v := 0) hx hb hr (fun t ht hW => ⟨0, rfl, rfl, ht⟩) (fun q h => absurd h List.not_mem_nil) dX10_fault_4
set_option maxHeartbeats 4000000 in
set_option maxRecDepth 100000 in
theorem c_X10_told (l : Launch) (dC : Nat → ClassId) (dI : Nat → Nat → Nat)  (sz : Nat) (qx : Nat) (x1 : Value) (x2 : Value) (x3 : Value) (x4 : Value) (x5 : Value) (x6 : Value) (x12 : Value) (ql : Nat) (u0 : Value) (u1 : Value) (u2 : Value) (u3 : Value) (a0 : Int32)  : Met l yX10_told wsX10_told ({ frames := 0, cells := 0, slots := 0, locals := 0 }) (pw (dC, dI) [] [(qx, .inr (10, [.ref ql, x1, x2, x3, x4, x5, x6, .int 0, .int 0, .int 0, .int 0, .null, x12])), (ql, .inr (3, [u0, u1, u2, u3, .int 1000]))] sz [.ref qx, .int a0]) (vp_Si (fun r => r = sp_told a0)) 0 0 (fun _ => False) := by
  refine pw_met (cc := cX10_told) (maxL := 2) (ret := (some .int)) (by decide) rfl (Nat.le_of_ble_eq_true rfl) ?_
  intro p e s m below meth c0 hx hb hr hml hown hlocks hnm hts hP hK hD hN hsz hA hS ls hl
  have hl : lv_has ls 2 [(0, .ref qx), (1, .int a0)] := hl
  have hiX10 : ∀ w ∈ wsX100, w ∈ wsX10_told := by decide +kernel
  have hiX3 : ∀ w ∈ wsX30, w ∈ wsX10_told := by decide +kernel
  refine lv_iload_n hx hb dX10_told_0 rfl (lv_at hl 1 rfl) ?_
  by_cases hw1 : a0 = 0
  · subst hw1
    refine lv_tableIn (off := 47) (tgt := 48) hx hb dX10_told_1 (by decide) (by decide) rfl (by decide) ?_
    refine lv_aload_n hx hb dX10_told_48 rfl (lv_at hl 0 rfl) ?_
    refine va_get (D := (dC, dI)) (ci := 10) (v := .int 0) (C := RX10) (T := TX10) (N := 13) hx hb hts hiX10 hown hK hP 0 rfl rfl 7 (by decide) (hts (.fieldLink RX10 124 "TributePitches" "pitchCount" "I") (by decide +kernel)) (fun _ h9 => h9) rfl dX10_told_49 ?_
    exact W.iret (v := 0) hx hb hr (fun t ht hW => ⟨0, rfl, (by decide), ht⟩) (fun q h => absurd h List.not_mem_nil) dX10_told_52
  by_cases hw2 : a0 = 1
  · subst hw2
    refine lv_tableIn (off := 52) (tgt := 53) hx hb dX10_told_1 (by decide) (by decide) rfl (by decide) ?_
    refine lv_aload_n hx hb dX10_told_53 rfl (lv_at hl 0 rfl) ?_
    refine va_get (D := (dC, dI)) (ci := 10) (v := .int 0) (C := RX10) (T := TX10) (N := 13) hx hb hts hiX10 hown hK hP 0 rfl rfl 8 (by decide) (hts (.fieldLink RX10 143 "TributePitches" "gangCount" "I") (by decide +kernel)) (fun _ h9 => h9) rfl dX10_told_54 ?_
    exact W.iret (v := 0) hx hb hr (fun t ht hW => ⟨0, rfl, (by decide), ht⟩) (fun q h => absurd h List.not_mem_nil) dX10_told_57
  by_cases hw3 : a0 = 2
  · subst hw3
    refine lv_tableIn (off := 57) (tgt := 58) hx hb dX10_told_1 (by decide) (by decide) rfl (by decide) ?_
    refine lv_aload_n hx hb dX10_told_58 rfl (lv_at hl 0 rfl) ?_
    refine va_get (D := (dC, dI)) (ci := 10) (v := .int 0) (C := RX10) (T := TX10) (N := 13) hx hb hts hiX10 hown hK hP 0 rfl rfl 9 (by decide) (hts (.fieldLink RX10 197 "TributePitches" "takeCount" "I") (by decide +kernel)) (fun _ h9 => h9) rfl dX10_told_59 ?_
    exact W.iret (v := 0) hx hb hr (fun t ht hW => ⟨0, rfl, (by decide), ht⟩) (fun q h => absurd h List.not_mem_nil) dX10_told_62
  by_cases hw4 : a0 = 3
  · subst hw4
    refine lv_tableIn (off := 62) (tgt := 63) hx hb dX10_told_1 (by decide) (by decide) rfl (by decide) ?_
    refine lv_aload_n hx hb dX10_told_63 rfl (lv_at hl 0 rfl) ?_
    refine va_get (D := (dC, dI)) (ci := 10) (v := .int 0) (C := RX10) (T := TX10) (N := 13) hx hb hts hiX10 hown hK hP 0 rfl rfl 10 (by decide) (hts (.fieldLink RX10 242 "TributePitches" "parcelCount" "I") (by decide +kernel)) (fun _ h9 => h9) rfl dX10_told_64 ?_
    exact W.iret (v := 0) hx hb hr (fun t ht hW => ⟨0, rfl, (by decide), ht⟩) (fun q h => absurd h List.not_mem_nil) dX10_told_67
  by_cases hw5 : a0 = 4
  · subst hw5
    refine lv_tableIn (off := 67) (tgt := 68) hx hb dX10_told_1 (by decide) (by decide) rfl (by decide) ?_
    refine lv_aload_n hx hb dX10_told_68 rfl (lv_at hl 0 rfl) ?_
    refine va_get (D := (dC, dI)) (ci := 10) (v := .ref ql) (C := RX10) (T := TX10) (N := 13) hx hb hts hiX10 hown hK hP 0 rfl rfl 0 (by decide) (hts (.fieldLink RX10 12 "TributePitches" "lode" "LTributePitches$Lode;") (by decide +kernel)) (fun _ h9 => h9) rfl dX10_told_69 ?_
    refine va_get (D := (dC, dI)) (ci := 3) (v := .int 1000) (C := RX3) (T := TX3) (N := 5) hx hb hts hiX3 hown hK hP 1 rfl rfl 4 (by decide) (hts (.fieldLink RX10 79 "TributePitches$Lode" "law" "I") (by decide +kernel)) (fun _ h9 => h9) rfl dX10_told_72 ?_
    exact W.iret (v := 1000) hx hb hr (fun t ht hW => ⟨1000, rfl, (by decide), ht⟩) (fun q h => absurd h List.not_mem_nil) dX10_told_75
  by_cases hw6 : a0 = 5
  · subst hw6
    refine lv_tableIn (off := 75) (tgt := 76) hx hb dX10_told_1 (by decide) (by decide) rfl (by decide) ?_
    refine lv_aload_n hx hb dX10_told_76 rfl (lv_at hl 0 rfl) ?_
    refine va_get (D := (dC, dI)) (ci := 10) (v := .null) (C := RX10) (T := TX10) (N := 13) hx hb hts hiX10 hown hK hP 0 rfl rfl 11 (by decide) (hts (.fieldLink RX10 163 "TributePitches" "current" "LTributePitches$Auction;") (by decide +kernel)) (fun _ h9 => h9) rfl dX10_told_77 ?_
    refine lv_ifnonnullN hx hb dX10_told_80 ?_
    refine lv_bipush (v := (-9)) hx hb dX10_told_83 (by decide) ?_
    refine lv_goto (tgt := 95) hx hb dX10_told_85 (by decide) ?_
    exact W.iret (v := (-9)) hx hb hr (fun t ht hW => ⟨(-9), rfl, (by decide), ht⟩) (fun q h => absurd h List.not_mem_nil) dX10_told_95
  by_cases hw7 : a0 = 6
  · subst hw7
    refine lv_tableIn (off := 95) (tgt := 96) hx hb dX10_told_1 (by decide) (by decide) rfl (by decide) ?_
    refine lv_aload_n hx hb dX10_told_96 rfl (lv_at hl 0 rfl) ?_
    refine va_get (D := (dC, dI)) (ci := 10) (v := .null) (C := RX10) (T := TX10) (N := 13) hx hb hts hiX10 hown hK hP 0 rfl rfl 11 (by decide) (hts (.fieldLink RX10 163 "TributePitches" "current" "LTributePitches$Auction;") (by decide +kernel)) (fun _ h9 => h9) rfl dX10_told_97 ?_
    refine lv_ifnonnullN hx hb dX10_told_100 ?_
    refine lv_bipush (v := (-9)) hx hb dX10_told_103 (by decide) ?_
    refine lv_goto (tgt := 118) hx hb dX10_told_105 (by decide) ?_
    exact W.iret (v := (-9)) hx hb hr (fun t ht hW => ⟨(-9), rfl, (by decide), ht⟩) (fun q h => absurd h List.not_mem_nil) dX10_told_118
  by_cases hw8 : a0 = 7
  · subst hw8
    refine lv_tableIn (off := 118) (tgt := 119) hx hb dX10_told_1 (by decide) (by decide) rfl (by decide) ?_
    refine lv_aload_n hx hb dX10_told_119 rfl (lv_at hl 0 rfl) ?_
    refine va_get (D := (dC, dI)) (ci := 10) (v := .null) (C := RX10) (T := TX10) (N := 13) hx hb hts hiX10 hown hK hP 0 rfl rfl 11 (by decide) (hts (.fieldLink RX10 163 "TributePitches" "current" "LTributePitches$Auction;") (by decide +kernel)) (fun _ h9 => h9) rfl dX10_told_120 ?_
    refine lv_ifnonnullN hx hb dX10_told_123 ?_
    refine lv_bipush (v := (-9)) hx hb dX10_told_126 (by decide) ?_
    refine lv_goto (tgt := 138) hx hb dX10_told_128 (by decide) ?_
    exact W.iret (v := (-9)) hx hb hr (fun t ht hW => ⟨(-9), rfl, (by decide), ht⟩) (fun q h => absurd h List.not_mem_nil) dX10_told_138
  refine lv_tableOut (tgt := 139) hx hb dX10_told_1 (tb_out8 hw1 hw2 hw3 hw4 hw5 hw6 hw7 hw8) (by decide) ?_
  refine lv_bipush (v := (-2)) hx hb dX10_told_139 (by decide) ?_
  exact W.iret (v := (-2)) hx hb hr (fun t ht hW => ⟨(-2), rfl, (by simp [sp_told, hw1, hw2, hw3, hw4, hw5, hw6, hw7, hw8]), ht⟩) (fun q h => absurd h List.not_mem_nil) dX10_told_141
