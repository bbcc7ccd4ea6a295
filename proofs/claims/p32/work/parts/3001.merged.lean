theorem ixI {k : Int32} {n : Nat} (hn : n ≤ 100) : (0 ≤ k ∧ k ≤ nI n - 1) ↔ ∃ j, j < n ∧ k = nI j := by
  have h4 : (1 : Int32).toInt = 1 := by decide
  constructor
  · rintro ⟨h1, h2⟩
    obtain ⟨j, hj, rfl⟩ := nI_of (x := k) (Int32.not_lt.mpr h1)
    refine ⟨j, ?_, rfl⟩
    have h3 := (fa_le _ _).mp h2
    rw [nI_toInt hj, Int32.toInt_sub, nI_toInt (by omega), h4, Int.bmod_eq_of_le (by omega) (by omega)] at h3
    omega
  · rintro ⟨j, hj, rfl⟩
    refine ⟨nI_pos' (by omega), (fa_le _ _).mpr ?_⟩
    rw [nI_toInt (by omega), Int32.toInt_sub, nI_toInt (by omega), h4, Int.bmod_eq_of_le (by omega) (by omega)]
    omega
theorem ixI_no {k : Int32} {n : Nat} (hn : n ≤ 100) (h : ∀ j, j < n → k ≠ nI j) : ¬ (0 ≤ k ∧ k ≤ nI n - 1) := fun q => by
  obtain ⟨j, hj, e⟩ := (ixI hn).mp q
  exact h j hj e
theorem ixI_yes {j n : Nat} (hj : j < n) (hn : n ≤ 100) : 0 ≤ nI j ∧ nI j ≤ nI n - 1 := (ixI hn).mpr ⟨j, hj, rfl⟩
theorem ixd (k : Int32) (n : Nat) : (∀ j, j < n → k ≠ nI j) ∨ ∃ j, j < n ∧ k = nI j := by
  by_cases h : ∃ j, j < n ∧ k = nI j
  · exact Or.inr h
  · exact Or.inl fun j hj e => h ⟨j, hj, e⟩
theorem one_ne {r : Int32} {P : Prop} {h : Decidable P} (e : r = if P then 1 else 0) (hp : P) : ¬ r = 0 := by
  rw [e, if_pos hp]; decide
def cutv (ln v : Int32) : Int32 := if ln = 0 then v.toInt8.toInt32 else if ln = 1 then v.toInt16.toInt32 else v
set_option maxHeartbeats 4000000 in
set_option maxRecDepth 100000 in
theorem s_pitchAt_no (l : Launch) (dC : Nat → ClassId) (dI : Nat → Nat → Nat)  (sz : Nat) (qx : Nat) (x0 : Value) (x1 : Value) (x2 : Value) (x3 : Value) (x4 : Value) (x5 : Value) (x6 : Value) (x8 : Value) (x9 : Value) (x10 : Value) (x11 : Value) (x12 : Value) (k : Int32) (n : Nat) (hn : n ≤ 100) (hno : ∀ j, j < n → k ≠ nI j) : Met l yX10_pitchAt wsX10_pitchAt ({ frames := 1, cells := 0, slots := 0, locals := 30 }) (pw (dC, dI) [] [(qx, .inr (10, [x0, x1, x2, x3, x4, x5, x6, .int (nI n), x8, x9, x10, x11, x12]))] sz [.ref qx, .int k]) (va_Sq (fun r => r = none)) 0 0 (fun _ => False) := by
  refine pw_met (cc := cX10_pitchAt) (maxL := 2) (ret := (some (.object "TributePitches$Pitch"))) (by decide) rfl (Nat.le_of_ble_eq_true rfl) ?_
  intro p e s m below meth c0 hx hb hr hml hown hlocks hnm hts hP hK hD hN hsz hA hS ls hl
  have hl : lv_has ls 2 [(0, .ref qx), (1, .int k)] := hl
  have hiX10 : ∀ w ∈ wsX100, w ∈ wsX10_pitchAt := fun _ h => List.mem_cons_of_mem _ (List.mem_append_right _ (h))
  generalize hQ : MQ _ _ _ _ _ _ _ = Q
  refine lv_iload_n hx hb dX10_pitchAt_0 rfl (lv_at hl 1 rfl) ?_
  refine lv_iconst (v := 0) hx hb dX10_pitchAt_1 (by decide) ?_
  refine lv_aload_n hx hb dX10_pitchAt_2 rfl (lv_at hl 0 rfl) ?_
  refine va_get (D := (dC, dI)) (ci := 10) (v := .int (nI n)) (C := RX10) (T := TX10) (N := 13) hx hb hts hiX10 hown hK hP 0 rfl rfl 7 (by decide) (hts (.fieldLink RX10 124 "TributePitches" "pitchCount" "I") (List.mem_of_getElem? (i := 1) rfl)) (fun _ h9 => h9) rfl dX10_pitchAt_3 ?_
  refine lv_iconst (v := 1) hx hb dX10_pitchAt_6 (by decide) ?_
  refine lv_isub hx hb dX10_pitchAt_7 ?_
  refine vp_callSi (va_Run.run (va_runS (As := [.int k, .int 0, .int ((nI n) - 1)]) (rest := []) ⟨hx, hb, hml, hown, hts⟩ (c_X10_isWithin l k 0 ((nI n) - 1) ) (va_cwS 3 hts gX10_pitchAt_X10_isWithin rfl rfl rfl (by decide +kernel) ⟨Nat.le_of_ble_eq_true rfl, Nat.le_of_ble_eq_true rfl⟩) (p0_preS hN) rfl rfl hl.1 rfl (lv_room (Nat.le_of_ble_eq_true rfl)) dX10_pitchAt_8 ⟨Nat.le_of_ble_eq_true rfl, Nat.le_of_ble_eq_true rfl⟩)) (fun r1 hr1 => ?_)
  have hr1 : r1 = if 0 ≤ k ∧ k ≤ ((nI n) - 1) then 1 else 0 := hr1
  refine lv_if_eq (tgt := 23) hx hb dX10_pitchAt_11 (by decide) (fun c2 => ?_) (fun c2 => ?_)
  · skip
    have c2 := (fa_bool_prop hr1).1.mp c2
    refine lv_null hx hb dX10_pitchAt_23 ?_
    subst hQ
    exact W.aret (v := .null) hx hb hr (Or.inl ⟨_, rfl⟩) (Or.inl rfl) (fun t ht hW => ⟨none, rfl, rfl, ht⟩) (fun q h => absurd h List.not_mem_nil) dX10_pitchAt_24
  · exact absurd c2 (not_not_intro (hr1.trans (if_neg (ixI_no hn hno))))
set_option maxHeartbeats 4000000 in
set_option maxRecDepth 100000 in
theorem s_pitchAt_yes (l : Launch) (dC : Nat → ClassId) (dI : Nat → Nat → Nat) (cP : ClassId) (sz : Nat) (qx : Nat) (x0 : Value) (x2 : Value) (x3 : Value) (x4 : Value) (x5 : Value) (x6 : Value) (x8 : Value) (x9 : Value) (x10 : Value) (x11 : Value) (x12 : Value) (ar : Nat) (j : Nat) (n : Nat) (a : Nat) (f : Nat → Option Nat) (hj : j < n) (hn : n ≤ 12) (hf : f j = some a) : Met l yX10_pitchAt wsX10_pitchAt ({ frames := 1, cells := 0, slots := 0, locals := 30 }) (pw (dC, dI) [(cP, .object RX6)] [(qx, .inr (10, [x0, .ref ar, x2, x3, x4, x5, x6, .int (nI n), x8, x9, x10, x11, x12])), (ar, .inl (cP, 12, .inr (.inr (.inr (.inr f)))))] sz [.ref qx, .int (nI j)]) (va_Sq (fun r => r = some a)) 0 0 (fun _ => False) := by
  refine pw_met (cc := cX10_pitchAt) (maxL := 2) (ret := (some (.object "TributePitches$Pitch"))) (by decide) rfl (Nat.le_of_ble_eq_true rfl) ?_
  intro p e s m below meth c0 hx hb hr hml hown hlocks hnm hts hP hK hD hN hsz hA hS ls hl
  have hl : lv_has ls 2 [(0, .ref qx), (1, .int (nI j))] := hl
  have hiX10 : ∀ w ∈ wsX100, w ∈ wsX10_pitchAt := fun _ h => List.mem_cons_of_mem _ (List.mem_append_right _ (h))
  generalize hQ : MQ _ _ _ _ _ _ _ = Q
  refine lv_iload_n hx hb dX10_pitchAt_0 rfl (lv_at hl 1 rfl) ?_
  refine lv_iconst (v := 0) hx hb dX10_pitchAt_1 (by decide) ?_
  refine lv_aload_n hx hb dX10_pitchAt_2 rfl (lv_at hl 0 rfl) ?_
  refine va_get (D := (dC, dI)) (ci := 10) (v := .int (nI n)) (C := RX10) (T := TX10) (N := 13) hx hb hts hiX10 hown hK hP 0 rfl rfl 7 (by decide) (hts (.fieldLink RX10 124 "TributePitches" "pitchCount" "I") (List.mem_of_getElem? (i := 1) rfl)) (fun _ h9 => h9) rfl dX10_pitchAt_3 ?_
  refine lv_iconst (v := 1) hx hb dX10_pitchAt_6 (by decide) ?_
  refine lv_isub hx hb dX10_pitchAt_7 ?_
  refine vp_callSi (va_Run.run (va_runS (As := [.int (nI j), .int 0, .int ((nI n) - 1)]) (rest := []) ⟨hx, hb, hml, hown, hts⟩ (c_X10_isWithin l (nI j) 0 ((nI n) - 1) ) (va_cwS 3 hts gX10_pitchAt_X10_isWithin rfl rfl rfl (by decide +kernel) ⟨Nat.le_of_ble_eq_true rfl, Nat.le_of_ble_eq_true rfl⟩) (p0_preS hN) rfl rfl hl.1 rfl (lv_room (Nat.le_of_ble_eq_true rfl)) dX10_pitchAt_8 ⟨Nat.le_of_ble_eq_true rfl, Nat.le_of_ble_eq_true rfl⟩)) (fun r1 hr1 => ?_)
  have hr1 : r1 = if 0 ≤ (nI j) ∧ (nI j) ≤ ((nI n) - 1) then 1 else 0 := hr1
  refine lv_if_eq (tgt := 23) hx hb dX10_pitchAt_11 (by decide) (fun c2 => ?_) (fun c2 => ?_)
  · exact absurd c2 (one_ne hr1 (ixI_yes hj (by omega)))
  · skip
    have c2 := (fa_bool_prop hr1).2.mp c2
    refine lv_aload_n hx hb dX10_pitchAt_14 rfl (lv_at hl 0 rfl) ?_
    refine va_get (D := (dC, dI)) (ci := 10) (v := .ref ar) (C := RX10) (T := TX10) (N := 13) hx hb hts hiX10 hown hK hP 0 rfl rfl 1 (by decide) (hts (.fieldLink RX10 20 "TributePitches" "pitches" "[LTributePitches$Pitch;") (List.mem_of_getElem? (i := 2) rfl)) (fun _ h9 => h9) rfl dX10_pitchAt_15 ?_
    refine lv_iload_n hx hb dX10_pitchAt_18 rfl (lv_at hl 1 rfl) ?_
    refine va_aldq hx hb hK hP 1 0 rfl rfl (vp_in_nI (by omega) (by omega)) dX10_pitchAt_19 ?_
    refine lv_goto (tgt := 24) hx hb dX10_pitchAt_20 (by decide) ?_
    subst hQ
    exact W.aret (v := va_rf (f (nI j).toNatClampNeg)) hx hb hr (Or.inl ⟨_, rfl⟩) (va_rf_or _) (fun t ht hW => ⟨(f (nI j).toNatClampNeg), rfl, (by rw [nI_clamp (by omega)]; exact hf), ht⟩) (fun q h => absurd h List.not_mem_nil) dX10_pitchAt_24
set_option maxHeartbeats 4000000 in
set_option maxRecDepth 100000 in
theorem s_gangAt_no (l : Launch) (dC : Nat → ClassId) (dI : Nat → Nat → Nat)  (sz : Nat) (qx : Nat) (x0 : Value) (x1 : Value) (x2 : Value) (x3 : Value) (x4 : Value) (x5 : Value) (x6 : Value) (x7 : Value) (x9 : Value) (x10 : Value) (x11 : Value) (x12 : Value) (k : Int32) (n : Nat) (hn : n ≤ 100) (hno : ∀ j, j < n → k ≠ nI j) : Met l yX10_gangAt wsX10_gangAt ({ frames := 1, cells := 0, slots := 0, locals := 30 }) (pw (dC, dI) [] [(qx, .inr (10, [x0, x1, x2, x3, x4, x5, x6, x7, .int (nI n), x9, x10, x11, x12]))] sz [.ref qx, .int k]) (va_Sq (fun r => r = none)) 0 0 (fun _ => False) := by
  refine pw_met (cc := cX10_gangAt) (maxL := 2) (ret := (some (.object "TributePitches$Gang"))) (by decide) rfl (Nat.le_of_ble_eq_true rfl) ?_
  intro p e s m below meth c0 hx hb hr hml hown hlocks hnm hts hP hK hD hN hsz hA hS ls hl
  have hl : lv_has ls 2 [(0, .ref qx), (1, .int k)] := hl
  have hiX10 : ∀ w ∈ wsX100, w ∈ wsX10_gangAt := fun _ h => List.mem_cons_of_mem _ (List.mem_append_right _ (h))
  generalize hQ : MQ _ _ _ _ _ _ _ = Q
  refine lv_iload_n hx hb dX10_gangAt_0 rfl (lv_at hl 1 rfl) ?_
  refine lv_iconst (v := 0) hx hb dX10_gangAt_1 (by decide) ?_
  refine lv_aload_n hx hb dX10_gangAt_2 rfl (lv_at hl 0 rfl) ?_
  refine va_get (D := (dC, dI)) (ci := 10) (v := .int (nI n)) (C := RX10) (T := TX10) (N := 13) hx hb hts hiX10 hown hK hP 0 rfl rfl 8 (by decide) (hts (.fieldLink RX10 143 "TributePitches" "gangCount" "I") (List.mem_of_getElem? (i := 1) rfl)) (fun _ h9 => h9) rfl dX10_gangAt_3 ?_
  refine lv_iconst (v := 1) hx hb dX10_gangAt_6 (by decide) ?_
  refine lv_isub hx hb dX10_gangAt_7 ?_
  refine vp_callSi (va_Run.run (va_runS (As := [.int k, .int 0, .int ((nI n) - 1)]) (rest := []) ⟨hx, hb, hml, hown, hts⟩ (c_X10_isWithin l k 0 ((nI n) - 1) ) (va_cwS 3 hts gX10_gangAt_X10_isWithin rfl rfl rfl (by decide +kernel) ⟨Nat.le_of_ble_eq_true rfl, Nat.le_of_ble_eq_true rfl⟩) (p0_preS hN) rfl rfl hl.1 rfl (lv_room (Nat.le_of_ble_eq_true rfl)) dX10_gangAt_8 ⟨Nat.le_of_ble_eq_true rfl, Nat.le_of_ble_eq_true rfl⟩)) (fun r1 hr1 => ?_)
  have hr1 : r1 = if 0 ≤ k ∧ k ≤ ((nI n) - 1) then 1 else 0 := hr1
  refine lv_if_eq (tgt := 23) hx hb dX10_gangAt_11 (by decide) (fun c2 => ?_) (fun c2 => ?_)
  · skip
    have c2 := (fa_bool_prop hr1).1.mp c2
    refine lv_null hx hb dX10_gangAt_23 ?_
    subst hQ
    exact W.aret (v := .null) hx hb hr (Or.inl ⟨_, rfl⟩) (Or.inl rfl) (fun t ht hW => ⟨none, rfl, rfl, ht⟩) (fun q h => absurd h List.not_mem_nil) dX10_gangAt_24
  · exact absurd c2 (not_not_intro (hr1.trans (if_neg (ixI_no hn hno))))
set_option maxHeartbeats 4000000 in
set_option maxRecDepth 100000 in
theorem s_gangAt_yes (l : Launch) (dC : Nat → ClassId) (dI : Nat → Nat → Nat) (cG : ClassId) (sz : Nat) (qx : Nat) (x0 : Value) (x1 : Value) (x3 : Value) (x4 : Value) (x5 : Value) (x6 : Value) (x7 : Value) (x9 : Value) (x10 : Value) (x11 : Value) (x12 : Value) (ar : Nat) (j : Nat) (n : Nat) (a : Nat) (f : Nat → Option Nat) (hj : j < n) (hn : n ≤ 8) (hf : f j = some a) : Met l yX10_gangAt wsX10_gangAt ({ frames := 1, cells := 0, slots := 0, locals := 30 }) (pw (dC, dI) [(cG, .object RX2)] [(qx, .inr (10, [x0, x1, .ref ar, x3, x4, x5, x6, x7, .int (nI n), x9, x10, x11, x12])), (ar, .inl (cG, 8, .inr (.inr (.inr (.inr f)))))] sz [.ref qx, .int (nI j)]) (va_Sq (fun r => r = some a)) 0 0 (fun _ => False) := by
  refine pw_met (cc := cX10_gangAt) (maxL := 2) (ret := (some (.object "TributePitches$Gang"))) (by decide) rfl (Nat.le_of_ble_eq_true rfl) ?_
  intro p e s m below meth c0 hx hb hr hml hown hlocks hnm hts hP hK hD hN hsz hA hS ls hl
  have hl : lv_has ls 2 [(0, .ref qx), (1, .int (nI j))] := hl
  have hiX10 : ∀ w ∈ wsX100, w ∈ wsX10_gangAt := fun _ h => List.mem_cons_of_mem _ (List.mem_append_right _ (h))
  generalize hQ : MQ _ _ _ _ _ _ _ = Q
  refine lv_iload_n hx hb dX10_gangAt_0 rfl (lv_at hl 1 rfl) ?_
  refine lv_iconst (v := 0) hx hb dX10_gangAt_1 (by decide) ?_
  refine lv_aload_n hx hb dX10_gangAt_2 rfl (lv_at hl 0 rfl) ?_
  refine va_get (D := (dC, dI)) (ci := 10) (v := .int (nI n)) (C := RX10) (T := TX10) (N := 13) hx hb hts hiX10 hown hK hP 0 rfl rfl 8 (by decide) (hts (.fieldLink RX10 143 "TributePitches" "gangCount" "I") (List.mem_of_getElem? (i := 1) rfl)) (fun _ h9 => h9) rfl dX10_gangAt_3 ?_
  refine lv_iconst (v := 1) hx hb dX10_gangAt_6 (by decide) ?_
  refine lv_isub hx hb dX10_gangAt_7 ?_
  refine vp_callSi (va_Run.run (va_runS (As := [.int (nI j), .int 0, .int ((nI n) - 1)]) (rest := []) ⟨hx, hb, hml, hown, hts⟩ (c_X10_isWithin l (nI j) 0 ((nI n) - 1) ) (va_cwS 3 hts gX10_gangAt_X10_isWithin rfl rfl rfl (by decide +kernel) ⟨Nat.le_of_ble_eq_true rfl, Nat.le_of_ble_eq_true rfl⟩) (p0_preS hN) rfl rfl hl.1 rfl (lv_room (Nat.le_of_ble_eq_true rfl)) dX10_gangAt_8 ⟨Nat.le_of_ble_eq_true rfl, Nat.le_of_ble_eq_true rfl⟩)) (fun r1 hr1 => ?_)
  have hr1 : r1 = if 0 ≤ (nI j) ∧ (nI j) ≤ ((nI n) - 1) then 1 else 0 := hr1
  refine lv_if_eq (tgt := 23) hx hb dX10_gangAt_11 (by decide) (fun c2 => ?_) (fun c2 => ?_)
  · exact absurd c2 (one_ne hr1 (ixI_yes hj (by omega)))
  · skip
    have c2 := (fa_bool_prop hr1).2.mp c2
    refine lv_aload_n hx hb dX10_gangAt_14 rfl (lv_at hl 0 rfl) ?_
    refine va_get (D := (dC, dI)) (ci := 10) (v := .ref ar) (C := RX10) (T := TX10) (N := 13) hx hb hts hiX10 hown hK hP 0 rfl rfl 2 (by decide) (hts (.fieldLink RX10 26 "TributePitches" "gangs" "[LTributePitches$Gang;") (List.mem_of_getElem? (i := 2) rfl)) (fun _ h9 => h9) rfl dX10_gangAt_15 ?_
    refine lv_iload_n hx hb dX10_gangAt_18 rfl (lv_at hl 1 rfl) ?_
    refine va_aldq hx hb hK hP 1 0 rfl rfl (vp_in_nI (by omega) (by omega)) dX10_gangAt_19 ?_
    refine lv_goto (tgt := 24) hx hb dX10_gangAt_20 (by decide) ?_
    subst hQ
    exact W.aret (v := va_rf (f (nI j).toNatClampNeg)) hx hb hr (Or.inl ⟨_, rfl⟩) (va_rf_or _) (fun t ht hW => ⟨(f (nI j).toNatClampNeg), rfl, (by rw [nI_clamp (by omega)]; exact hf), ht⟩) (fun q h => absurd h List.not_mem_nil) dX10_gangAt_24
set_option maxHeartbeats 4000000 in
set_option maxRecDepth 100000 in
theorem s_takeAt_no (l : Launch) (dC : Nat → ClassId) (dI : Nat → Nat → Nat)  (sz : Nat) (qx : Nat) (x0 : Value) (x1 : Value) (x2 : Value) (x3 : Value) (x4 : Value) (x5 : Value) (x6 : Value) (x7 : Value) (x8 : Value) (x10 : Value) (x11 : Value) (x12 : Value) (k : Int32) (n : Nat) (hn : n ≤ 100) (hno : ∀ j, j < n → k ≠ nI j) : Met l yX10_takeAt wsX10_takeAt ({ frames := 1, cells := 0, slots := 0, locals := 30 }) (pw (dC, dI) [] [(qx, .inr (10, [x0, x1, x2, x3, x4, x5, x6, x7, x8, .int (nI n), x10, x11, x12]))] sz [.ref qx, .int k]) (va_Sq (fun r => r = none)) 0 0 (fun _ => False) := by
  refine pw_met (cc := cX10_takeAt) (maxL := 2) (ret := (some (.object "TributePitches$Take"))) (by decide) rfl (Nat.le_of_ble_eq_true rfl) ?_
  intro p e s m below meth c0 hx hb hr hml hown hlocks hnm hts hP hK hD hN hsz hA hS ls hl
  have hl : lv_has ls 2 [(0, .ref qx), (1, .int k)] := hl
  have hiX10 : ∀ w ∈ wsX100, w ∈ wsX10_takeAt := fun _ h => List.mem_cons_of_mem _ (List.mem_append_right _ (h))
  generalize hQ : MQ _ _ _ _ _ _ _ = Q
  refine lv_iload_n hx hb dX10_takeAt_0 rfl (lv_at hl 1 rfl) ?_
  refine lv_iconst (v := 0) hx hb dX10_takeAt_1 (by decide) ?_
  refine lv_aload_n hx hb dX10_takeAt_2 rfl (lv_at hl 0 rfl) ?_
  refine va_get (D := (dC, dI)) (ci := 10) (v := .int (nI n)) (C := RX10) (T := TX10) (N := 13) hx hb hts hiX10 hown hK hP 0 rfl rfl 9 (by decide) (hts (.fieldLink RX10 197 "TributePitches" "takeCount" "I") (List.mem_of_getElem? (i := 1) rfl)) (fun _ h9 => h9) rfl dX10_takeAt_3 ?_
  refine lv_iconst (v := 1) hx hb dX10_takeAt_6 (by decide) ?_
  refine lv_isub hx hb dX10_takeAt_7 ?_
  refine vp_callSi (va_Run.run (va_runS (As := [.int k, .int 0, .int ((nI n) - 1)]) (rest := []) ⟨hx, hb, hml, hown, hts⟩ (c_X10_isWithin l k 0 ((nI n) - 1) ) (va_cwS 3 hts gX10_takeAt_X10_isWithin rfl rfl rfl (by decide +kernel) ⟨Nat.le_of_ble_eq_true rfl, Nat.le_of_ble_eq_true rfl⟩) (p0_preS hN) rfl rfl hl.1 rfl (lv_room (Nat.le_of_ble_eq_true rfl)) dX10_takeAt_8 ⟨Nat.le_of_ble_eq_true rfl, Nat.le_of_ble_eq_true rfl⟩)) (fun r1 hr1 => ?_)
  have hr1 : r1 = if 0 ≤ k ∧ k ≤ ((nI n) - 1) then 1 else 0 := hr1
  refine lv_if_eq (tgt := 23) hx hb dX10_takeAt_11 (by decide) (fun c2 => ?_) (fun c2 => ?_)
  · skip
    have c2 := (fa_bool_prop hr1).1.mp c2
    refine lv_null hx hb dX10_takeAt_23 ?_
    subst hQ
    exact W.aret (v := .null) hx hb hr (Or.inl ⟨_, rfl⟩) (Or.inl rfl) (fun t ht hW => ⟨none, rfl, rfl, ht⟩) (fun q h => absurd h List.not_mem_nil) dX10_takeAt_24
  · exact absurd c2 (not_not_intro (hr1.trans (if_neg (ixI_no hn hno))))
set_option maxHeartbeats 4000000 in
set_option maxRecDepth 100000 in
theorem s_takeAt_yes (l : Launch) (dC : Nat → ClassId) (dI : Nat → Nat → Nat) (cT : ClassId) (sz : Nat) (qx : Nat) (x0 : Value) (x1 : Value) (x2 : Value) (x4 : Value) (x5 : Value) (x6 : Value) (x7 : Value) (x8 : Value) (x10 : Value) (x11 : Value) (x12 : Value) (ar : Nat) (j : Nat) (n : Nat) (a : Nat) (f : Nat → Option Nat) (hj : j < n) (hn : n ≤ 40) (hf : f j = some a) : Met l yX10_takeAt wsX10_takeAt ({ frames := 1, cells := 0, slots := 0, locals := 30 }) (pw (dC, dI) [(cT, .object RX8)] [(qx, .inr (10, [x0, x1, x2, .ref ar, x4, x5, x6, x7, x8, .int (nI n), x10, x11, x12])), (ar, .inl (cT, 40, .inr (.inr (.inr (.inr f)))))] sz [.ref qx, .int (nI j)]) (va_Sq (fun r => r = some a)) 0 0 (fun _ => False) := by
  refine pw_met (cc := cX10_takeAt) (maxL := 2) (ret := (some (.object "TributePitches$Take"))) (by decide) rfl (Nat.le_of_ble_eq_true rfl) ?_
  intro p e s m below meth c0 hx hb hr hml hown hlocks hnm hts hP hK hD hN hsz hA hS ls hl
  have hl : lv_has ls 2 [(0, .ref qx), (1, .int (nI j))] := hl
  have hiX10 : ∀ w ∈ wsX100, w ∈ wsX10_takeAt := fun _ h => List.mem_cons_of_mem _ (List.mem_append_right _ (h))
  generalize hQ : MQ _ _ _ _ _ _ _ = Q
  refine lv_iload_n hx hb dX10_takeAt_0 rfl (lv_at hl 1 rfl) ?_
  refine lv_iconst (v := 0) hx hb dX10_takeAt_1 (by decide) ?_
  refine lv_aload_n hx hb dX10_takeAt_2 rfl (lv_at hl 0 rfl) ?_
  refine va_get (D := (dC, dI)) (ci := 10) (v := .int (nI n)) (C := RX10) (T := TX10) (N := 13) hx hb hts hiX10 hown hK hP 0 rfl rfl 9 (by decide) (hts (.fieldLink RX10 197 "TributePitches" "takeCount" "I") (List.mem_of_getElem? (i := 1) rfl)) (fun _ h9 => h9) rfl dX10_takeAt_3 ?_
  refine lv_iconst (v := 1) hx hb dX10_takeAt_6 (by decide) ?_
  refine lv_isub hx hb dX10_takeAt_7 ?_
  refine vp_callSi (va_Run.run (va_runS (As := [.int (nI j), .int 0, .int ((nI n) - 1)]) (rest := []) ⟨hx, hb, hml, hown, hts⟩ (c_X10_isWithin l (nI j) 0 ((nI n) - 1) ) (va_cwS 3 hts gX10_takeAt_X10_isWithin rfl rfl rfl (by decide +kernel) ⟨Nat.le_of_ble_eq_true rfl, Nat.le_of_ble_eq_true rfl⟩) (p0_preS hN) rfl rfl hl.1 rfl (lv_room (Nat.le_of_ble_eq_true rfl)) dX10_takeAt_8 ⟨Nat.le_of_ble_eq_true rfl, Nat.le_of_ble_eq_true rfl⟩)) (fun r1 hr1 => ?_)
  have hr1 : r1 = if 0 ≤ (nI j) ∧ (nI j) ≤ ((nI n) - 1) then 1 else 0 := hr1
  refine lv_if_eq (tgt := 23) hx hb dX10_takeAt_11 (by decide) (fun c2 => ?_) (fun c2 => ?_)
  · exact absurd c2 (one_ne hr1 (ixI_yes hj (by omega)))
  · skip
    have c2 := (fa_bool_prop hr1).2.mp c2
    refine lv_aload_n hx hb dX10_takeAt_14 rfl (lv_at hl 0 rfl) ?_
    refine va_get (D := (dC, dI)) (ci := 10) (v := .ref ar) (C := RX10) (T := TX10) (N := 13) hx hb hts hiX10 hown hK hP 0 rfl rfl 3 (by decide) (hts (.fieldLink RX10 32 "TributePitches" "takes" "[LTributePitches$Take;") (List.mem_of_getElem? (i := 2) rfl)) (fun _ h9 => h9) rfl dX10_takeAt_15 ?_
    refine lv_iload_n hx hb dX10_takeAt_18 rfl (lv_at hl 1 rfl) ?_
    refine va_aldq hx hb hK hP 1 0 rfl rfl (vp_in_nI (by omega) (by omega)) dX10_takeAt_19 ?_
    refine lv_goto (tgt := 24) hx hb dX10_takeAt_20 (by decide) ?_
    subst hQ
    exact W.aret (v := va_rf (f (nI j).toNatClampNeg)) hx hb hr (Or.inl ⟨_, rfl⟩) (va_rf_or _) (fun t ht hW => ⟨(f (nI j).toNatClampNeg), rfl, (by rw [nI_clamp (by omega)]; exact hf), ht⟩) (fun q h => absurd h List.not_mem_nil) dX10_takeAt_24
set_option maxHeartbeats 4000000 in
set_option maxRecDepth 100000 in
theorem s_sheetAt_no (l : Launch) (dC : Nat → ClassId) (dI : Nat → Nat → Nat) (cS : ClassId) (sz : Nat) (qx : Nat) (x0 : Value) (x1 : Value) (x2 : Value) (x3 : Value) (x4 : Value) (x6 : Value) (x7 : Value) (x8 : Value) (x9 : Value) (x10 : Value) (x11 : Value) (x12 : Value) (sh : Nat) (fs : Nat → Option Nat) (k : Int32) (hno : ¬ (0 ≤ k ∧ k ≤ 3)) : Met l yX10_sheetAt wsX10_sheetAt ({ frames := 1, cells := 0, slots := 0, locals := 30 }) (pw (dC, dI) [(cS, .object RX7)] [(qx, .inr (10, [x0, x1, x2, x3, x4, .ref sh, x6, x7, x8, x9, x10, x11, x12])), (sh, .inl (cS, 4, .inr (.inr (.inr (.inr fs)))))] sz [.ref qx, .int k]) (va_Sq (fun r => r = none)) 0 0 (fun _ => False) := by
  refine pw_met (cc := cX10_sheetAt) (maxL := 2) (ret := (some (.object "TributePitches$Sheet"))) (by decide) rfl (Nat.le_of_ble_eq_true rfl) ?_
  intro p e s m below meth c0 hx hb hr hml hown hlocks hnm hts hP hK hD hN hsz hA hS ls hl
  have hl : lv_has ls 2 [(0, .ref qx), (1, .int k)] := hl
  have hiX10 : ∀ w ∈ wsX100, w ∈ wsX10_sheetAt := fun _ h => List.mem_cons_of_mem _ (List.mem_append_right _ (h))
  generalize hQ : MQ _ _ _ _ _ _ _ = Q
  refine lv_iload_n hx hb dX10_sheetAt_0 rfl (lv_at hl 1 rfl) ?_
  refine lv_iconst (v := 0) hx hb dX10_sheetAt_1 (by decide) ?_
  refine lv_aload_n hx hb dX10_sheetAt_2 rfl (lv_at hl 0 rfl) ?_
  refine va_get (D := (dC, dI)) (ci := 10) (v := .ref sh) (C := RX10) (T := TX10) (N := 13) hx hb hts hiX10 hown hK hP 0 rfl rfl 5 (by decide) (hts (.fieldLink RX10 45 "TributePitches" "sheets" "[LTributePitches$Sheet;") (List.mem_of_getElem? (i := 1) rfl)) (fun _ h9 => h9) rfl dX10_sheetAt_3 ?_
  refine va_alen (v := 4) hx hb hK hP 1 0 rfl rfl rfl dX10_sheetAt_6 ?_
  refine lv_iconst (v := 1) hx hb dX10_sheetAt_7 (by decide) ?_
  refine lv_isub hx hb dX10_sheetAt_8 ?_
  refine lv_topi (fun v1 ev1 => ?_)
  have ev1 : v1 = 3 := by rw [ev1]; decide
  subst ev1
  refine vp_callSi (va_Run.run (va_runS (As := [.int k, .int 0, .int 3]) (rest := []) ⟨hx, hb, hml, hown, hts⟩ (c_X10_isWithin l k 0 3 ) (va_cwS 3 hts gX10_sheetAt_X10_isWithin rfl rfl rfl (by decide +kernel) ⟨Nat.le_of_ble_eq_true rfl, Nat.le_of_ble_eq_true rfl⟩) (p0_preS hN) rfl rfl hl.1 rfl (lv_room (Nat.le_of_ble_eq_true rfl)) dX10_sheetAt_9 ⟨Nat.le_of_ble_eq_true rfl, Nat.le_of_ble_eq_true rfl⟩)) (fun r2 hr2 => ?_)
  have hr2 : r2 = if 0 ≤ k ∧ k ≤ 3 then 1 else 0 := hr2
  refine lv_if_eq (tgt := 24) hx hb dX10_sheetAt_12 (by decide) (fun c3 => ?_) (fun c3 => ?_)
  · skip
    have c3 := (fa_bool_prop hr2).1.mp c3
    refine lv_null hx hb dX10_sheetAt_24 ?_
    subst hQ
    exact W.aret (v := .null) hx hb hr (Or.inl ⟨_, rfl⟩) (Or.inl rfl) (fun t ht hW => ⟨none, rfl, rfl, ht⟩) (fun q h => absurd h List.not_mem_nil) dX10_sheetAt_25
  · exact absurd c3 (not_not_intro (hr2.trans (if_neg hno)))
set_option maxHeartbeats 4000000 in
set_option maxRecDepth 100000 in
theorem s_sheetAt_yes (l : Launch) (dC : Nat → ClassId) (dI : Nat → Nat → Nat) (cS : ClassId) (sz : Nat) (qx : Nat) (x0 : Value) (x1 : Value) (x2 : Value) (x3 : Value) (x4 : Value) (x6 : Value) (x7 : Value) (x8 : Value) (x9 : Value) (x10 : Value) (x11 : Value) (x12 : Value) (sh : Nat) (j : Nat) (a : Nat) (fs : Nat → Option Nat) (hj : j < 4) (hf : fs j = some a) : Met l yX10_sheetAt wsX10_sheetAt ({ frames := 1, cells := 0, slots := 0, locals := 30 }) (pw (dC, dI) [(cS, .object RX7)] [(qx, .inr (10, [x0, x1, x2, x3, x4, .ref sh, x6, x7, x8, x9, x10, x11, x12])), (sh, .inl (cS, 4, .inr (.inr (.inr (.inr fs)))))] sz [.ref qx, .int (nI j)]) (va_Sq (fun r => r = some a)) 0 0 (fun _ => False) := by
  refine pw_met (cc := cX10_sheetAt) (maxL := 2) (ret := (some (.object "TributePitches$Sheet"))) (by decide) rfl (Nat.le_of_ble_eq_true rfl) ?_
  intro p e s m below meth c0 hx hb hr hml hown hlocks hnm hts hP hK hD hN hsz hA hS ls hl
  have hl : lv_has ls 2 [(0, .ref qx), (1, .int (nI j))] := hl
  have hiX10 : ∀ w ∈ wsX100, w ∈ wsX10_sheetAt := fun _ h => List.mem_cons_of_mem _ (List.mem_append_right _ (h))
  generalize hQ : MQ _ _ _ _ _ _ _ = Q
  refine lv_iload_n hx hb dX10_sheetAt_0 rfl (lv_at hl 1 rfl) ?_
  refine lv_iconst (v := 0) hx hb dX10_sheetAt_1 (by decide) ?_
  refine lv_aload_n hx hb dX10_sheetAt_2 rfl (lv_at hl 0 rfl) ?_
  refine va_get (D := (dC, dI)) (ci := 10) (v := .ref sh) (C := RX10) (T := TX10) (N := 13) hx hb hts hiX10 hown hK hP 0 rfl rfl 5 (by decide) (hts (.fieldLink RX10 45 "TributePitches" "sheets" "[LTributePitches$Sheet;") (List.mem_of_getElem? (i := 1) rfl)) (fun _ h9 => h9) rfl dX10_sheetAt_3 ?_
  refine va_alen (v := 4) hx hb hK hP 1 0 rfl rfl rfl dX10_sheetAt_6 ?_
  refine lv_iconst (v := 1) hx hb dX10_sheetAt_7 (by decide) ?_
  refine lv_isub hx hb dX10_sheetAt_8 ?_
  refine lv_topi (fun v1 ev1 => ?_)
  have ev1 : v1 = 3 := by rw [ev1]; decide
  subst ev1
  refine vp_callSi (va_Run.run (va_runS (As := [.int (nI j), .int 0, .int 3]) (rest := []) ⟨hx, hb, hml, hown, hts⟩ (c_X10_isWithin l (nI j) 0 3 ) (va_cwS 3 hts gX10_sheetAt_X10_isWithin rfl rfl rfl (by decide +kernel) ⟨Nat.le_of_ble_eq_true rfl, Nat.le_of_ble_eq_true rfl⟩) (p0_preS hN) rfl rfl hl.1 rfl (lv_room (Nat.le_of_ble_eq_true rfl)) dX10_sheetAt_9 ⟨Nat.le_of_ble_eq_true rfl, Nat.le_of_ble_eq_true rfl⟩)) (fun r2 hr2 => ?_)
  have hr2 : r2 = if 0 ≤ (nI j) ∧ (nI j) ≤ 3 then 1 else 0 := hr2
  refine lv_if_eq (tgt := 24) hx hb dX10_sheetAt_12 (by decide) (fun c3 => ?_) (fun c3 => ?_)
  · exact absurd c3 (one_ne hr2 (ixI_yes (n := 4) hj (by omega)))
  · skip
    have c3 := (fa_bool_prop hr2).2.mp c3
    refine lv_aload_n hx hb dX10_sheetAt_15 rfl (lv_at hl 0 rfl) ?_
    refine va_get (D := (dC, dI)) (ci := 10) (v := .ref sh) (C := RX10) (T := TX10) (N := 13) hx hb hts hiX10 hown hK hP 0 rfl rfl 5 (by decide) (hts (.fieldLink RX10 45 "TributePitches" "sheets" "[LTributePitches$Sheet;") (List.mem_of_getElem? (i := 1) rfl)) (fun _ h9 => h9) rfl dX10_sheetAt_16 ?_
    refine lv_iload_n hx hb dX10_sheetAt_19 rfl (lv_at hl 1 rfl) ?_
    refine va_aldq hx hb hK hP 1 0 rfl rfl (vp_in_nI (by omega) (by omega)) dX10_sheetAt_20 ?_
    refine lv_goto (tgt := 25) hx hb dX10_sheetAt_21 (by decide) ?_
    subst hQ
    exact W.aret (v := va_rf (fs (nI j).toNatClampNeg)) hx hb hr (Or.inl ⟨_, rfl⟩) (va_rf_or _) (fun t ht hW => ⟨(fs (nI j).toNatClampNeg), rfl, (by rw [nI_clamp (by omega)]; exact hf), ht⟩) (fun q h => absurd h List.not_mem_nil) dX10_sheetAt_25
set_option maxHeartbeats 4000000 in
set_option maxRecDepth 100000 in
theorem c_X10_faulted (l : Launch) (dC : Nat → ClassId) (dI : Nat → Nat → Nat)  (sz : Nat) (qx : Nat) (x0 : Value) (x1 : Value) (x2 : Value) (x3 : Value) (x4 : Value) (x5 : Value) (x6 : Value) (x7 : Value) (x8 : Value) (x9 : Value) (x10 : Value) (x11 : Value) (x12 : Value) (k : Int32)  : Met l yX10_faulted wsX10_faulted ({ frames := 0, cells := 0, slots := 0, locals := 0 }) (pw (dC, dI) [] [(qx, .inr (10, [x0, x1, x2, x3, x4, x5, x6, x7, x8, x9, x10, x11, x12]))] sz [.ref qx, .int k]) (va_Qi (fun r (_ : Unit) => r = -10 - k) (fun _ t => bw (dC, dI) [] (va_A [(qx, .inr (10, [x0, x1, x2, x3, x4, x5, x6, x7, x8, x9, x10, x11, x12]))] sz) [(qx, .inr (10, [x0, x1, x2, x3, x4, x5, x6, x7, x8, x9, x10, x11, .int k]))] t) (va_A [(qx, .inr (10, [x0, x1, x2, x3, x4, x5, x6, x7, x8, x9, x10, x11, x12]))] sz)) 0 0 (va_A [(qx, .inr (10, [x0, x1, x2, x3, x4, x5, x6, x7, x8, x9, x10, x11, x12]))] sz) := by
  refine pw_met (cc := cX10_faulted) (maxL := 2) (ret := (some .int)) (by decide) rfl (Nat.le_of_ble_eq_true rfl) ?_
  intro p e s m below meth c0 hx hb hr hml hown hlocks hnm hts hP hK hD hN hsz hA hS ls hl
  subst hsz
  have hl : lv_has ls 2 [(0, .ref qx), (1, .int k)] := hl
  have hiX10 : ∀ w ∈ wsX100, w ∈ wsX10_faulted := fun _ h => List.mem_cons_of_mem _ (List.mem_append_right _ (h))
  generalize hQ : MQ _ _ _ _ _ _ _ = Q
  refine lv_aload_n hx hb dX10_faulted_0 rfl (lv_at hl 0 rfl) ?_
  refine lv_iload_n hx hb dX10_faulted_1 rfl (lv_at hl 1 rfl) ?_
  refine va_put (D := (dC, dI)) (ci := 10) (v := .int k) (ty := .int) (C := RX10) (T := TX10) (N := 13) hx hb hts hiX10 tyX10 tyX10_ok nmX10 hown hK hP hD hS 0 rfl rfl 12 (by decide) (hts (.fieldLink RX10 56 "TributePitches" "latestFault" "I") (List.mem_of_getElem? (i := 1) rfl)) (fun _ h9 => h9) rfl (by decide +kernel) rfl rfl (Nat.le_of_ble_eq_true rfl) dX10_faulted_2 (fun H locs hP hD hS => ?_)
  have hP : va_P (dC, dI) vwCl [(qx, .inr (10, [x0, x1, x2, x3, x4, x5, x6, x7, x8, x9, x10, x11, .int k]))] H := hP
  have hD : va_D _ [(qx, .inr (10, [x0, x1, x2, x3, x4, x5, x6, x7, x8, x9, x10, x11, .int k]))] := hD
  refine lv_bipush (v := (-10)) hx hb dX10_faulted_5 (by decide) ?_
  refine lv_iload_n hx hb dX10_faulted_7 rfl (lv_at hl 1 rfl) ?_
  refine lv_isub hx hb dX10_faulted_8 ?_
  subst hQ
  have hP9 := hP.sub (ws' := [(qx, .inr (10, [x0, x1, x2, x3, x4, x5, x6, x7, x8, x9, x10, x11, .int k]))]) [0] rfl
  have hD9 := hD.sub (ws' := [(qx, .inr (10, [x0, x1, x2, x3, x4, x5, x6, x7, x8, x9, x10, x11, .int k]))]) [0] (by decide) rfl
  have hK9 := hK.sub (tys' := []) [] rfl
  exact W.iret (v := (-10) - k) hx hb hr (fun t ht hW => ⟨⟨(-10) - k, (), rfl, rfl, ⟨by rw [ht]; exact hP9, va_K.moved hW.alike hK9, hD9⟩⟩, hS.F ht⟩) hS.2.2 dX10_faulted_9
set_option maxHeartbeats 4000000 in
set_option maxRecDepth 100000 in
theorem s_hasNothing (l : Launch) (dC : Nat → ClassId) (dI : Nat → Nat → Nat)  (sz : Nat) (qs : Nat) (c0v : Value) (ln : Int32) (le : Int32)  : Met l yX7_hasNothing wsX7_hasNothing ({ frames := 0, cells := 0, slots := 0, locals := 0 }) (pw (dC, dI) [] [(qs, .inr (7, [c0v, .int ln, .int le]))] sz [.ref qs]) (vp_Si (fun r => r = if ln = -1 then 1 else 0)) 0 0 (fun _ => False) := by
  refine pw_met (cc := cX7_hasNothing) (maxL := 1) (ret := (some .boolean)) (by decide) rfl (Nat.le_of_ble_eq_true rfl) ?_
  intro p e s m below meth c0 hx hb hr hml hown hlocks hnm hts hP hK hD hN hsz hA hS ls hl
  have hl : lv_has ls 1 [(0, .ref qs)] := hl
  have hiX7 : ∀ w ∈ wsX70, w ∈ wsX7_hasNothing := fun _ h => List.mem_cons_of_mem _ (List.mem_append_right _ (h))
  generalize hQ : MQ _ _ _ _ _ _ _ = Q
  refine lv_aload_n hx hb dX7_hasNothing_0 rfl (lv_at hl 0 rfl) ?_
  refine va_get (D := (dC, dI)) (ci := 7) (v := .int ln) (C := RX7) (T := TX7) (N := 3) hx hb hts hiX7 hown hK hP 0 rfl rfl 1 (by decide) (hts (.fieldLink RX7 15 "TributePitches$Sheet" "lane" "I") (List.mem_of_getElem? (i := 1) rfl)) (fun _ h9 => h9) rfl dX7_hasNothing_1 ?_
  refine lv_iconst (v := (-1)) hx hb dX7_hasNothing_4 (by decide) ?_
  refine lv_icmp_ne (tgt := 12) hx hb dX7_hasNothing_5 (by decide) (fun c1 => ?_) (fun c1 => ?_)
  · skip
    refine lv_iconst (v := 0) hx hb dX7_hasNothing_12 (by decide) ?_
    subst hQ
    exact W.zret (v := 0) hx hb hr rfl (fun t ht hW => ⟨0, rfl, (by simp [c1]), ht⟩) (fun q h => absurd h List.not_mem_nil) dX7_hasNothing_13
  · skip
    refine lv_iconst (v := 1) hx hb dX7_hasNothing_8 (by decide) ?_
    refine lv_goto (tgt := 13) hx hb dX7_hasNothing_9 (by decide) ?_
    subst hQ
    exact W.zret (v := 1) hx hb hr rfl (fun t ht hW => ⟨1, rfl, (by simp [c1]), ht⟩) (fun q h => absurd h List.not_mem_nil) dX7_hasNothing_13
set_option maxHeartbeats 4000000 in
set_option maxRecDepth 100000 in
theorem s_faultAs (l : Launch) (dC : Nat → ClassId) (dI : Nat → Nat → Nat)  (sz : Nat) (qs : Nat) (c0v : Value) (ln : Int32) (le : Int32) (k : Int32)  : Met l yX7_faultAs wsX7_faultAs ({ frames := 1, cells := 0, slots := 0, locals := 30 }) (pw (dC, dI) [] [(qs, .inr (7, [c0v, .int ln, .int le]))] sz [.ref qs, .int k]) (vp_Si (fun r => r = if ln = -1 then 1 else if ln = k then 0 else 2)) 0 0 (fun _ => False) := by
  refine pw_met (cc := cX7_faultAs) (maxL := 2) (ret := (some .int)) (by decide) rfl (Nat.le_of_ble_eq_true rfl) ?_
  intro p e s m below meth c0 hx hb hr hml hown hlocks hnm hts hP hK hD hN hsz hA hS ls hl
  have hl : lv_has ls 2 [(0, .ref qs), (1, .int k)] := hl
  have hiX7 : ∀ w ∈ wsX70, w ∈ wsX7_faultAs := fun _ h => List.mem_cons_of_mem _ (List.mem_append_right _ (h))
  generalize hQ : MQ _ _ _ _ _ _ _ = Q
  refine lv_aload_n hx hb dX7_faultAs_0 rfl (lv_at hl 0 rfl) ?_
  have hPc := hP.sub (ws' := [(qs, .inr (7, [c0v, .int ln, .int le]))]) [0] rfl
  have hDc := hD.sub (ws' := [(qs, .inr (7, [c0v, .int ln, .int le]))]) [0] (by decide) rfl
  have hKc := hK.sub (tys' := []) [] rfl
  refine vp_callSi (va_Run.run (va_runV (As := []) (rest := []) ⟨hx, hb, hml, hown, hts⟩ (s_hasNothing l dC dI  _ qs c0v ln le ) (cwV 0 hts gX7_faultAs_X7_hasNothing rfl rfl rfl (by decide +kernel) ⟨Nat.le_of_ble_eq_true rfl, Nat.le_of_ble_eq_true rfl⟩) (pw_preV (va_recv hKc hPc (ci := 7) (q0 := 0) rfl rfl) hPc hKc hDc hN) rfl rfl hl.1 rfl (lv_room (Nat.le_of_ble_eq_true rfl)) dX7_faultAs_1 ⟨Nat.le_of_ble_eq_true rfl, Nat.le_of_ble_eq_true rfl⟩)) (fun r1 hr1 => ?_)
  have hr1 : r1 = if ln = -1 then 1 else 0 := hr1
  refine lv_if_eq (tgt := 9) hx hb dX7_faultAs_4 (by decide) (fun c2 => ?_) (fun c2 => ?_)
  · skip
    have c2 := (fa_bool_prop hr1).1.mp c2
    refine lv_aload_n hx hb dX7_faultAs_9 rfl (lv_at hl 0 rfl) ?_
    refine va_get (D := (dC, dI)) (ci := 7) (v := .int ln) (C := RX7) (T := TX7) (N := 3) hx hb hts hiX7 hown hK hP 0 rfl rfl 1 (by decide) (hts (.fieldLink RX7 15 "TributePitches$Sheet" "lane" "I") (List.mem_of_getElem? (i := 1) rfl)) (fun _ h9 => h9) rfl dX7_faultAs_10 ?_
    refine lv_iload_n hx hb dX7_faultAs_13 rfl (lv_at hl 1 rfl) ?_
    refine lv_icmp_ne (tgt := 21) hx hb dX7_faultAs_14 (by decide) (fun c3 => ?_) (fun c3 => ?_)
    · skip
      refine lv_iconst (v := 2) hx hb dX7_faultAs_21 (by decide) ?_
      subst hQ
      exact W.iret (v := 2) hx hb hr (fun t ht hW => ⟨2, rfl, (by rw [if_neg c2, if_neg c3]), ht⟩) (fun q h => absurd h List.not_mem_nil) dX7_faultAs_22
    · skip
      refine lv_iconst (v := 0) hx hb dX7_faultAs_17 (by decide) ?_
      refine lv_goto (tgt := 22) hx hb dX7_faultAs_18 (by decide) ?_
      subst hQ
      exact W.iret (v := 0) hx hb hr (fun t ht hW => ⟨0, rfl, (by rw [if_neg c2, if_pos c3]), ht⟩) (fun q h => absurd h List.not_mem_nil) dX7_faultAs_22
  · skip
    have c2 := (fa_bool_prop hr1).2.mp c2
    refine lv_iconst (v := 1) hx hb dX7_faultAs_7 (by decide) ?_
    subst hQ
    exact W.iret (v := 1) hx hb hr (fun t ht hW => ⟨1, rfl, (by rw [if_pos c2]), ht⟩) (fun q h => absurd h List.not_mem_nil) dX7_faultAs_8
set_option maxHeartbeats 4000000 in
set_option maxRecDepth 100000 in
theorem s_holds (l : Launch) (dC : Nat → ClassId) (dI : Nat → Nat → Nat)  (sz : Nat) (qs : Nat) (c0v : Value) (ln : Int32) (le : Int32) (i : Int32) (n : Int32)  : Met l yX7_holds wsX7_holds ({ frames := 0, cells := 0, slots := 0, locals := 0 }) (pw (dC, dI) [] [(qs, .inr (7, [c0v, .int ln, .int le]))] sz [.ref qs, .int i, .int n]) (vp_Si (fun r => r = if 0 ≤ i ∧ 0 ≤ n ∧ i.toInt64 + n.toInt64 ≤ le.toInt64 then 1 else 0)) 0 0 (fun _ => False) := by
  refine pw_met (cc := cX7_holds) (maxL := 3) (ret := (some .boolean)) (by decide) rfl (Nat.le_of_ble_eq_true rfl) ?_
  intro p e s m below meth c0 hx hb hr hml hown hlocks hnm hts hP hK hD hN hsz hA hS ls hl
  have hl : lv_has ls 3 [(0, .ref qs), (1, .int i), (2, .int n)] := hl
  have hiX7 : ∀ w ∈ wsX70, w ∈ wsX7_holds := fun _ h => List.mem_cons_of_mem _ (List.mem_append_right _ (h))
  generalize hQ : MQ _ _ _ _ _ _ _ = Q
  refine lv_iload_n hx hb dX7_holds_0 rfl (lv_at hl 1 rfl) ?_
  refine lv_if_lt (tgt := 26) hx hb dX7_holds_1 (by decide) (fun c1 => ?_) (fun c1 => ?_)
  · skip
    refine lv_iconst (v := 0) hx hb dX7_holds_26 (by decide) ?_
    subst hQ
    exact W.zret (v := 0) hx hb hr rfl (fun t ht hW => ⟨0, rfl, (by rw [if_neg (fun q => absurd c1 (Int32.not_lt.mpr q.1))]), ht⟩) (fun q h => absurd h List.not_mem_nil) dX7_holds_27
  · skip
    refine lv_iload_n hx hb dX7_holds_4 rfl (lv_at hl 2 rfl) ?_
    refine lv_if_lt (tgt := 26) hx hb dX7_holds_5 (by decide) (fun c2 => ?_) (fun c2 => ?_)
    · skip
      refine lv_iconst (v := 0) hx hb dX7_holds_26 (by decide) ?_
      subst hQ
      exact W.zret (v := 0) hx hb hr rfl (fun t ht hW => ⟨0, rfl, (by rw [if_neg (fun q => absurd c2 (Int32.not_lt.mpr q.2.1))]), ht⟩) (fun q h => absurd h List.not_mem_nil) dX7_holds_27
    · skip
      refine lv_iload_n hx hb dX7_holds_8 rfl (lv_at hl 1 rfl) ?_
      refine lv_i2l (v := i.toInt64) hx hb dX7_holds_9 rfl ?_
      refine lv_iload_n hx hb dX7_holds_10 rfl (lv_at hl 2 rfl) ?_
      refine lv_i2l (v := n.toInt64) hx hb dX7_holds_11 rfl ?_
      refine lv_ladd hx hb dX7_holds_12 ?_
      refine lv_aload_n hx hb dX7_holds_13 rfl (lv_at hl 0 rfl) ?_
      refine va_get (D := (dC, dI)) (ci := 7) (v := .int le) (C := RX7) (T := TX7) (N := 3) hx hb hts hiX7 hown hK hP 0 rfl rfl 2 (by decide) (hts (.fieldLink RX7 29 "TributePitches$Sheet" "length" "I") (List.mem_of_getElem? (i := 1) rfl)) (fun _ h9 => h9) rfl dX7_holds_14 ?_
      refine lv_i2l (v := le.toInt64) hx hb dX7_holds_17 rfl ?_
      refine W.lcmp hx hb dX7_holds_18 ?_
      refine lv_if_gt (tgt := 26) hx hb dX7_holds_19 (by decide) (fun c3 => ?_) (fun c3 => ?_)
      · skip
        have c3 := (lg_cmp_gt _ _).mp c3
        refine lv_iconst (v := 0) hx hb dX7_holds_26 (by decide) ?_
        subst hQ
        exact W.zret (v := 0) hx hb hr rfl (fun t ht hW => ⟨0, rfl, (by rw [if_neg (fun q => absurd c3 (Int64.not_lt.mpr q.2.2))]), ht⟩) (fun q h => absurd h List.not_mem_nil) dX7_holds_27
      · skip
        have c3 := fun h => c3 ((lg_cmp_gt _ _).mpr h)
        refine lv_iconst (v := 1) hx hb dX7_holds_22 (by decide) ?_
        refine lv_goto (tgt := 27) hx hb dX7_holds_23 (by decide) ?_
        subst hQ
        exact W.zret (v := 1) hx hb hr rfl (fun t ht hW => ⟨1, rfl, (by rw [if_pos ⟨Int32.not_lt.mp c1, Int32.not_lt.mp c2, Int64.not_lt.mp c3⟩]), ht⟩) (fun q h => absurd h List.not_mem_nil) dX7_holds_27
set_option maxHeartbeats 4000000 in
set_option maxRecDepth 100000 in
theorem s_hasAbove (l : Launch) (dC : Nat → ClassId) (dI : Nat → Nat → Nat) (cI : ClassId) (sz : Nat) (qs : Nat) (ca : Nat) (f : Nat) (n : Nat) (c1v : Value) (c2v : Value) (mo : Int32) (g : Nat → Int32) (hfn : f + n ≤ 48) : Met l yX7_hasAbove wsX7_hasAbove ({ frames := 0, cells := 0, slots := 0, locals := 0 }) (pw (dC, dI) [(cI, .int)] [(qs, .inr (7, [.ref ca, c1v, c2v])), (ca, .inl (cI, 48, .inl g))] sz [.ref qs, .int mo, .int (nI f), .int (nI n)]) (vp_Si (fun r => (r = 0 ∧ ∀ c, c < n → g (f + c) ≤ mo) ∨ (r = 1 ∧ ∃ c, c < n ∧ mo < g (f + c)))) 0 0 (fun _ => False) := by
  refine pw_met (cc := cX7_hasAbove) (maxL := 5) (ret := (some .boolean)) (by decide) rfl (Nat.le_of_ble_eq_true rfl) ?_
  intro p e s m below meth c0 hx hb hr hml hown hlocks hnm hts hP hK hD hN hsz hA hS ls hl
  have hl : lv_has ls 5 [(0, .ref qs), (1, .int mo), (2, .int (nI f)), (3, .int (nI n))] := hl
  have hiX7 : ∀ w ∈ wsX70, w ∈ wsX7_hasAbove := fun _ h => List.mem_cons_of_mem _ (List.mem_append_right _ (h))
  generalize hQ : MQ _ _ _ _ _ _ _ = Q
  refine lv_iconst (v := 0) hx hb dX7_hasAbove_0 (by decide) ?_
  refine lv_istore (lv' := [(4, .int 0), (0, .ref qs), (1, .int mo), (2, .int (nI f)), (3, .int (nI n))]) hx hb dX7_hasAbove_1 hl (by decide) rfl (fun ls hl => ?_)
  have loop3 : ∀ (ni3 i3 : Nat) (ls : Array Slot), i3 ≤ n → n + 1 ≤ i3 + ni3 → (∀ c, c < i3 → g (f + c) ≤ mo) → lv_has ls 5 [(4, .int (nI i3)), (0, .ref qs), (1, .int mo), (2, .int (nI f)), (3, .int (nI n))] → W p l e ({ frames := 0, cells := 0, slots := 0, locals := 0 } : Room) s m ([.ref qs, .int mo, .int (nI f), .int (nI n)] : List Value).toArray below meth c0 s.heap [] 0 0 Q (F0 m 3 ls []) := by
    intro ni3
    induction ni3 with
    | zero =>
      intro i3  ls h1 h2
      exact absurd h2 (by omega)
    | succ ni3 ihi3 =>
      intro i3  ls hlei3 hni3 hall hl
      refine lv_iload hx hb dX7_hasAbove_3 (lv_at hl 0 rfl) ?_
      refine lv_iload_n hx hb dX7_hasAbove_5 rfl (lv_at hl 4 rfl) ?_
      refine lv_icmp_ge (tgt := 30) hx hb dX7_hasAbove_6 (by decide) (fun c1 => ?_) (fun c1 => ?_)
      · skip
        have hei3 : i3 = n := (Nat.lt_or_ge i3 n).elim (fun q => absurd c1 (by rw [(rfl : nI n = nI n)]; exact nI_ge q (by omega))) (fun q => by omega)
        refine lv_iconst (v := 0) hx hb dX7_hasAbove_30 (by decide) ?_
        subst hQ
        exact W.zret (v := 0) hx hb hr rfl (fun t ht hW => ⟨0, rfl, (Or.inl ⟨rfl, by rw [← hei3]; exact hall⟩), ht⟩) (fun q h => absurd h List.not_mem_nil) dX7_hasAbove_31
      · skip
        have hlti3 : i3 < n := (Nat.lt_or_ge i3 n).elim id (fun q => absurd (by rw [(rfl : nI n = nI n)]; exact nI_le q (by omega)) c1)
        refine lv_aload_n hx hb dX7_hasAbove_9 rfl (lv_at hl 1 rfl) ?_
        refine va_get (D := (dC, dI)) (ci := 7) (v := .ref ca) (C := RX7) (T := TX7) (N := 3) hx hb hts hiX7 hown hK hP 0 rfl rfl 0 (by decide) (hts (.fieldLink RX7 11 "TributePitches$Sheet" "cells" "[I") (List.mem_of_getElem? (i := 1) rfl)) (fun _ h9 => h9) rfl dX7_hasAbove_10 ?_
        refine lv_iload_n hx hb dX7_hasAbove_13 rfl (lv_at hl 3 rfl) ?_
        refine lv_iload hx hb dX7_hasAbove_14 (lv_at hl 0 rfl) ?_
        refine lv_iadd hx hb dX7_hasAbove_16 ?_
        refine lv_topi (fun v16 ev16 => ?_)
        have ev16 : v16 = nI (f + i3) := by rw [ev16]; exact nI_add f i3
        subst ev16
        refine va_iald hx hb hK hP 1 0 rfl rfl (vp_in_nI (by omega) (by omega)) dX7_hasAbove_17 ?_
        refine lv_topi (fun v2 ev2 => ?_)
        have ev2 : v2 = g (f + i3) := by rw [ev2]; rw [nI_clamp (by omega)]
        subst ev2
        refine lv_iload_n hx hb dX7_hasAbove_18 rfl (lv_at hl 2 rfl) ?_
        refine lv_icmp_le (tgt := 24) hx hb dX7_hasAbove_19 (by decide) (fun c3 => ?_) (fun c3 => ?_)
        · skip
          refine lv_iinc (v := nI (i3 + 1)) (lv' := [(4, .int (nI (i3 + 1))), (0, .ref qs), (1, .int mo), (2, .int (nI f)), (3, .int (nI n))]) hx hb dX7_hasAbove_24 hl (k := 0) rfl (nI_1 i3) (by decide) rfl (fun ls hl => ?_)
          refine lv_goto (tgt := 3) hx hb dX7_hasAbove_27 (by decide) ?_
          exact ihi3 (i3 + 1)  ls (by omega) (by omega) (fun c hc => (Nat.lt_or_ge c i3).elim (fun q => hall c q) (fun q => by have e9 : c = i3 := (by omega); rw [e9]; exact c3)) (lv_sub hl [0, 1, 2, 3, 4] rfl)
        · skip
          refine lv_iconst (v := 1) hx hb dX7_hasAbove_22 (by decide) ?_
          subst hQ
          exact W.zret (v := 1) hx hb hr rfl (fun t ht hW => ⟨1, rfl, (Or.inr ⟨rfl, i3, hlti3, Int32.not_le.mp c3⟩), ht⟩) (fun q h => absurd h List.not_mem_nil) dX7_hasAbove_23
  exact loop3 (n + 1 - 0) 0  ls (by omega) (by omega) (fun c hc => absurd hc (Nat.not_lt_zero c)) (lv_sub hl [0, 1, 2, 3, 4] rfl)
set_option maxHeartbeats 4000000 in
set_option maxRecDepth 100000 in
theorem s_cut (l : Launch) (dC : Nat → ClassId) (dI : Nat → Nat → Nat)  (sz : Nat) (qs : Nat) (c0v : Value) (ln : Int32) (le : Int32) (v : Int32)  : Met l yX7_cut wsX7_cut ({ frames := 0, cells := 0, slots := 0, locals := 0 }) (pw (dC, dI) [] [(qs, .inr (7, [c0v, .int ln, .int le]))] sz [.ref qs, .int v]) (vp_Si (fun r => r = cutv ln v)) 0 0 (fun _ => False) := by
  refine pw_met (cc := cX7_cut) (maxL := 2) (ret := (some .int)) (by decide) rfl (Nat.le_of_ble_eq_true rfl) ?_
  intro p e s m below meth c0 hx hb hr hml hown hlocks hnm hts hP hK hD hN hsz hA hS ls hl
  have hl : lv_has ls 2 [(0, .ref qs), (1, .int v)] := hl
  have hiX7 : ∀ w ∈ wsX70, w ∈ wsX7_cut := fun _ h => List.mem_cons_of_mem _ (List.mem_append_right _ (h))
  generalize hQ : MQ _ _ _ _ _ _ _ = Q
  refine lv_aload_n hx hb dX7_cut_0 rfl (lv_at hl 0 rfl) ?_
  refine va_get (D := (dC, dI)) (ci := 7) (v := .int ln) (C := RX7) (T := TX7) (N := 3) hx hb hts hiX7 hown hK hP 0 rfl rfl 1 (by decide) (hts (.fieldLink RX7 15 "TributePitches$Sheet" "lane" "I") (List.mem_of_getElem? (i := 1) rfl)) (fun _ h9 => h9) rfl dX7_cut_1 ?_
  by_cases hw1 : ln = 0
  · subst hw1
    refine lv_lookup (off := 28) (tgt := 32) hx hb dX7_cut_4 (by decide) (by decide) (by decide) ?_
    refine lv_iload_n hx hb dX7_cut_32 rfl (lv_at hl 1 rfl) ?_
    refine lv_i2b hx hb dX7_cut_33 rfl ?_
    subst hQ
    exact W.iret (v := v.toInt8.toInt32) hx hb hr (fun t ht hW => ⟨v.toInt8.toInt32, rfl, (by simp [cutv]), ht⟩) (fun q h => absurd h List.not_mem_nil) dX7_cut_34
  by_cases hw2 : ln = 1
  · subst hw2
    refine lv_lookup (off := 31) (tgt := 35) hx hb dX7_cut_4 (by decide) (by decide) (by decide) ?_
    refine lv_iload_n hx hb dX7_cut_35 rfl (lv_at hl 1 rfl) ?_
    refine lv_i2s hx hb dX7_cut_36 rfl ?_
    subst hQ
    exact W.iret (v := v.toInt16.toInt32) hx hb hr (fun t ht hW => ⟨v.toInt16.toInt32, rfl, (by simp [cutv]), ht⟩) (fun q h => absurd h List.not_mem_nil) dX7_cut_37
  refine lv_lookup (off := 34) (tgt := 38) hx hb dX7_cut_4 (by decide) (by rw [lv_osw hw1 (by decide), lv_osw hw2 (by decide)]; rfl) (by decide) ?_
  refine lv_iload_n hx hb dX7_cut_38 rfl (lv_at hl 1 rfl) ?_
  subst hQ
  exact W.iret (v := v) hx hb hr (fun t ht hW => ⟨v, rfl, (by simp [cutv, hw1, hw2]), ht⟩) (fun q h => absurd h List.not_mem_nil) dX7_cut_39
set_option maxHeartbeats 4000000 in
set_option maxRecDepth 100000 in
theorem c_J7_fill (l : Launch) (dC : Nat → ClassId) (dI : Nat → Nat → Nat) (cI : ClassId) (sz : Nat) (ar : Nat) (v : Int32) (f : Nat → Int32)  : Met l yJ7_fill_53178 wsJ7_fill_53178 ({ frames := 0, cells := 0, slots := 0, locals := 0 }) (pw (dC, dI) [(cI, .int)] [(ar, .inl (cI, 48, .inl f))] sz [.ref ar, .int v]) (va_Qv (fun (_ : Unit) => True) (fun _ t => bw (dC, dI) [(cI, .int)] (va_A [(ar, .inl (cI, 48, .inl f))] sz) [(ar, .inl (cI, 48, .inl (fun _ => v)))] t) (va_A [(ar, .inl (cI, 48, .inl f))] sz)) 0 0 (va_A [(ar, .inl (cI, 48, .inl f))] sz) := by
  refine pw_met (cc := cJ7_fill_53178) (maxL := 4) (ret := none) (by decide) rfl (Nat.le_of_ble_eq_true rfl) ?_
  intro p e s m below meth c0 hx hb hr hml hown hlocks hnm hts hP hK hD hN hsz hA hS ls hl
  subst hsz
  have hl : lv_has ls 4 [(0, .ref ar), (1, .int v)] := hl
  generalize hQ : MQ _ _ _ _ _ _ _ = Q
  refine lv_iconst (v := 0) hx hb dJ7_fill_53178_0 (by decide) ?_
  refine lv_istore_n (lv' := [(2, .int 0), (0, .ref ar), (1, .int v)]) hx hb dJ7_fill_53178_1 rfl hl (by decide) rfl (fun ls hl => ?_)
  refine lv_aload_n hx hb dJ7_fill_53178_2 rfl (lv_at hl 1 rfl) ?_
  refine va_alen (v := 48) hx hb hK hP 0 0 rfl rfl rfl dJ7_fill_53178_3 ?_
  refine lv_istore_n (lv' := [(3, .int 48), (2, .int 0), (0, .ref ar), (1, .int v)]) hx hb dJ7_fill_53178_4 rfl hl (by decide) rfl (fun ls hl => ?_)
  have hP := va_P_cg hP 0 (fa_fill (fun _ => v) f 0) rfl (fun j _ => (congrFun (fa_fill_0 (fun _ => v) f) j).symm)
  have hD := va_D_cg hD 0 (fa_fill (fun _ => v) f 0) rfl
  have hP : va_P (dC, dI) vwCl [(ar, .inl (cI, 48, .inl (fa_fill (fun _ => v) f 0)))] s.heap := hP
  have hD : va_D _ [(ar, .inl (cI, 48, .inl (fa_fill (fun _ => v) f 0)))] := hD
  have loop5 : ∀ (ni5 i5 : Nat) (H : Heap) (locs : List Loc) (ls : Array Slot), i5 ≤ 48 → 48 + 1 ≤ i5 + ni5 → va_P (dC, dI) vwCl [(ar, .inl (cI, 48, .inl (fa_fill (fun _ => v) f i5)))] H → va_D (va_A [(ar, .inl (cI, 48, .inl f))] s.heap.size) [(ar, .inl (cI, 48, .inl (fa_fill (fun _ => v) f i5)))] → va_S (va_A [(ar, .inl (cI, 48, .inl f))] s.heap.size) s.heap H locs → lv_has ls 4 [(3, .int 48), (2, .int (nI i5)), (0, .ref ar), (1, .int v)] → W p l e ({ frames := 0, cells := 0, slots := 0, locals := 0 } : Room) s m ([.ref ar, .int v] : List Value).toArray below meth c0 H locs 0 0 Q (F0 m 5 ls []) := by
    intro ni5
    induction ni5 with
    | zero =>
      intro i5  H locs ls h1 h2
      exact absurd h2 (by omega)
    | succ ni5 ihi5 =>
      intro i5  H locs ls hlei5 hni5  hP hD hS hl
      refine lv_iload_n hx hb dJ7_fill_53178_5 rfl (lv_at hl 1 rfl) ?_
      refine lv_iload_n hx hb dJ7_fill_53178_6 rfl (lv_at hl 0 rfl) ?_
      refine lv_icmp_ge (tgt := 20) hx hb dJ7_fill_53178_7 (by decide) (fun c1 => ?_) (fun c1 => ?_)
      · skip
        have hei5 : i5 = 48 := (Nat.lt_or_ge i5 48).elim (fun q => absurd c1 (show ¬ nI 48 ≤ nI i5 from nI_ge q (by omega))) (fun q => by omega)
        have hP := va_P_cg hP 0 (fun _ => v) rfl (fun j hj => fa_fill_in (by omega))
        have hD := va_D_cg hD 0 (fun _ => v) rfl
        have hP : va_P (dC, dI) vwCl [(ar, .inl (cI, 48, .inl (fun _ => v)))] H := hP
        have hD : va_D _ [(ar, .inl (cI, 48, .inl (fun _ => v)))] := hD
        subst hQ
        have hP9 := hP.sub (ws' := [(ar, .inl (cI, 48, .inl (fun _ => v)))]) [0] rfl
        have hD9 := hD.sub (ws' := [(ar, .inl (cI, 48, .inl (fun _ => v)))]) [0] (by decide) rfl
        have hK9 := hK.sub (tys' := [(cI, .int)]) [0] rfl
        exact W.vret hx hb hr (fun t ht hW => ⟨⟨(), rfl, trivial, ⟨by rw [ht]; exact hP9, va_K.moved hW.alike hK9, hD9⟩⟩, hS.F ht⟩) hS.2.2 dJ7_fill_53178_20
      · skip
        have hlti5 : i5 < 48 := (Nat.lt_or_ge i5 48).elim id (fun q => absurd (show nI 48 ≤ nI i5 from nI_le q (by omega)) c1)
        refine lv_aload_n hx hb dJ7_fill_53178_10 rfl (lv_at hl 2 rfl) ?_
        refine lv_iload_n hx hb dJ7_fill_53178_11 rfl (lv_at hl 1 rfl) ?_
        refine lv_iload_n hx hb dJ7_fill_53178_12 rfl (lv_at hl 3 rfl) ?_
        refine va_iast hx hb hK hP hD hS 0 0 rfl rfl (vp_in_nI (by omega) (by omega)) dJ7_fill_53178_13 (fun H locs hP hD hS => ?_)
        have hP : va_P (dC, dI) vwCl [(ar, .inl (cI, 48, .inl (upd (fa_fill (fun _ => v) f i5) (nI i5).toNatClampNeg v)))] H := hP
        have hD : va_D _ [(ar, .inl (cI, 48, .inl (upd (fa_fill (fun _ => v) f i5) (nI i5).toNatClampNeg v)))] := hD
        have hP := va_P_cg hP 0 (fa_fill (fun _ => v) f (i5 + 1)) rfl (fun j _ => by rw [nI_clamp (by omega)]; exact congrFun (fa_fill_succ (fun _ => v) f i5) j)
        have hD := va_D_cg hD 0 (fa_fill (fun _ => v) f (i5 + 1)) rfl
        have hP : va_P (dC, dI) vwCl [(ar, .inl (cI, 48, .inl (fa_fill (fun _ => v) f (i5 + 1))))] H := hP
        have hD : va_D _ [(ar, .inl (cI, 48, .inl (fa_fill (fun _ => v) f (i5 + 1))))] := hD
        refine lv_iinc (v := nI (i5 + 1)) (lv' := [(2, .int (nI (i5 + 1))), (3, .int 48), (0, .ref ar), (1, .int v)]) hx hb dJ7_fill_53178_14 hl (k := 1) rfl (nI_1 i5) (by decide) rfl (fun ls hl => ?_)
        refine lv_goto (tgt := 5) hx hb dJ7_fill_53178_17 (by decide) ?_
        exact ihi5 (i5 + 1)  _ _ ls (by omega) (by omega)  (hP.sub [0] rfl) (hD.sub [0] (by decide) rfl) hS (lv_sub hl [1, 0, 2, 3] rfl)
  exact loop5 (48 + 1 - 0) 0  _ _ ls (by omega) (by omega)  hP hD hS (lv_sub hl [0, 1, 2, 3] rfl)
set_option maxHeartbeats 4000000 in
set_option maxRecDepth 100000 in
theorem s_renew (l : Launch) (dC : Nat → ClassId) (dI : Nat → Nat → Nat) (cI : ClassId) (sz : Nat) (qs : Nat) (ca : Nat) (c1v : Value) (c2v : Value) (ln : Int32) (n : Int32) (f : Nat → Int32)  : Met l yX7_renew wsX7_renew ({ frames := 1, cells := 0, slots := 0, locals := 30 }) (pw (dC, dI) [(cI, .int)] [(qs, .inr (7, [.ref ca, c1v, c2v])), (ca, .inl (cI, 48, .inl f))] sz [.ref qs, .int ln, .int n]) (va_Qv (fun (_ : Unit) => True) (fun _ t => bw (dC, dI) [(cI, .int)] (va_A [(qs, .inr (7, [.ref ca, c1v, c2v])), (ca, .inl (cI, 48, .inl f))] sz) [(qs, .inr (7, [.ref ca, .int ln, .int n])), (ca, .inl (cI, 48, .inl (fun _ => 0)))] t) (va_A [(qs, .inr (7, [.ref ca, c1v, c2v])), (ca, .inl (cI, 48, .inl f))] sz)) 0 0 (va_A [(qs, .inr (7, [.ref ca, c1v, c2v])), (ca, .inl (cI, 48, .inl f))] sz) := by
  refine pw_met (cc := cX7_renew) (maxL := 3) (ret := none) (by decide) rfl (Nat.le_of_ble_eq_true rfl) ?_
  intro p e s m below meth c0 hx hb hr hml hown hlocks hnm hts hP hK hD hN hsz hA hS ls hl
  subst hsz
  have hl : lv_has ls 3 [(0, .ref qs), (1, .int ln), (2, .int n)] := hl
  have hiX7 : ∀ w ∈ wsX70, w ∈ wsX7_renew := fun _ h => List.mem_cons_of_mem _ (List.mem_append_right _ (h))
  generalize hQ : MQ _ _ _ _ _ _ _ = Q
  refine lv_aload_n hx hb dX7_renew_0 rfl (lv_at hl 0 rfl) ?_
  refine va_get (D := (dC, dI)) (ci := 7) (v := .ref ca) (C := RX7) (T := TX7) (N := 3) hx hb hts hiX7 hown hK hP 0 rfl rfl 0 (by decide) (hts (.fieldLink RX7 11 "TributePitches$Sheet" "cells" "[I") (List.mem_of_getElem? (i := 1) rfl)) (fun _ h9 => h9) rfl dX7_renew_1 ?_
  refine lv_iconst (v := 0) hx hb dX7_renew_4 (by decide) ?_
  have hPc := hP.sub (ws' := [(ca, .inl (cI, 48, .inl f))]) [1] rfl
  have hDc := hD.sub (ws' := [(ca, .inl (cI, 48, .inl f))]) [1] (by decide) rfl
  have hKc := hK.sub (tys' := [(cI, .int)]) [0] rfl
  have hFc := va_free (wc := [(ca, .inl (cI, 48, .inl f))]) hD hS hA [1] rfl
  refine va_callv (va_runS (As := [.ref ca, .int 0]) (rest := []) ⟨hx, hb, hml, hown, hts⟩ (c_J7_fill l dC dI cI _ ca 0 f ) (va_cwS 2 hts gX7_renew_J7_fill_53178 rfl rfl rfl (by decide +kernel) ⟨Nat.le_of_ble_eq_true rfl, Nat.le_of_ble_eq_true rfl⟩) (pw_preS hPc hKc hDc hN) rfl rfl hl.1 rfl (lv_room (Nat.le_of_ble_eq_true rfl)) dX7_renew_5 ⟨Nat.le_of_ble_eq_true rfl, Nat.le_of_ble_eq_true rfl⟩) hS (fun q _ h => hFc q h) hFc (fun u t H1 locs ht hvm hw hB hz1 hk1 hS => ?_)
  obtain ⟨hP1, hK1, hD1⟩ := hB
  rw [ht] at hP1
  obtain ⟨hP, hD⟩ := va_join (wr := [(qs, .inr (7, [.ref ca, c1v, c2v]))]) (w1 := [(ca, .inl (cI, 48, .inl (fun _ => 0)))]) hP hD [1] [0] rfl rfl (by decide) (by decide) hk1 hFc hP1 hD1
  generalize H1 = H at hP hS ⊢
  have hP : va_P (dC, dI) vwCl [(qs, .inr (7, [.ref ca, c1v, c2v])), (ca, .inl (cI, 48, .inl (fun _ => 0)))] H := hP
  have hD : va_D _ [(qs, .inr (7, [.ref ca, c1v, c2v])), (ca, .inl (cI, 48, .inl (fun _ => 0)))] := hD
  refine lv_aload_n hx hb dX7_renew_8 rfl (lv_at hl 0 rfl) ?_
  refine lv_iload_n hx hb dX7_renew_9 rfl (lv_at hl 1 rfl) ?_
  refine va_put (D := (dC, dI)) (ci := 7) (v := .int ln) (ty := .int) (C := RX7) (T := TX7) (N := 3) hx hb hts hiX7 tyX7 tyX7_ok nmX7 hown hK hP hD hS 0 rfl rfl 1 (by decide) (hts (.fieldLink RX7 15 "TributePitches$Sheet" "lane" "I") (List.mem_of_getElem? (i := 2) rfl)) (fun _ h9 => h9) rfl (by decide +kernel) rfl rfl (Nat.le_of_ble_eq_true rfl) dX7_renew_10 (fun H locs hP hD hS => ?_)
  have hP : va_P (dC, dI) vwCl [(qs, .inr (7, [.ref ca, .int ln, c2v])), (ca, .inl (cI, 48, .inl (fun _ => 0)))] H := hP
  have hD : va_D _ [(qs, .inr (7, [.ref ca, .int ln, c2v])), (ca, .inl (cI, 48, .inl (fun _ => 0)))] := hD
  refine lv_aload_n hx hb dX7_renew_13 rfl (lv_at hl 0 rfl) ?_
  refine lv_iload_n hx hb dX7_renew_14 rfl (lv_at hl 2 rfl) ?_
  refine va_put (D := (dC, dI)) (ci := 7) (v := .int n) (ty := .int) (C := RX7) (T := TX7) (N := 3) hx hb hts hiX7 tyX7 tyX7_ok nmX7 hown hK hP hD hS 0 rfl rfl 2 (by decide) (hts (.fieldLink RX7 29 "TributePitches$Sheet" "length" "I") (List.mem_of_getElem? (i := 3) rfl)) (fun _ h9 => h9) rfl (by decide +kernel) rfl rfl (Nat.le_of_ble_eq_true rfl) dX7_renew_15 (fun H locs hP hD hS => ?_)
  have hP : va_P (dC, dI) vwCl [(qs, .inr (7, [.ref ca, .int ln, .int n])), (ca, .inl (cI, 48, .inl (fun _ => 0)))] H := hP
  have hD : va_D _ [(qs, .inr (7, [.ref ca, .int ln, .int n])), (ca, .inl (cI, 48, .inl (fun _ => 0)))] := hD
  subst hQ
  have hP9 := hP.sub (ws' := [(qs, .inr (7, [.ref ca, .int ln, .int n])), (ca, .inl (cI, 48, .inl (fun _ => 0)))]) [0, 1] rfl
  have hD9 := hD.sub (ws' := [(qs, .inr (7, [.ref ca, .int ln, .int n])), (ca, .inl (cI, 48, .inl (fun _ => 0)))]) [0, 1] (by decide) rfl
  have hK9 := hK.sub (tys' := [(cI, .int)]) [0] rfl
  exact W.vret hx hb hr (fun t ht hW => ⟨⟨(), rfl, trivial, ⟨by rw [ht]; exact hP9, va_K.moved hW.alike hK9, hD9⟩⟩, hS.F ht⟩) hS.2.2 dX7_renew_18
set_option maxHeartbeats 4000000 in
set_option maxRecDepth 100000 in
theorem s_leave (l : Launch) (dC : Nat → ClassId) (dI : Nat → Nat → Nat)  (sz : Nat) (qt : Nat) (tr : Int32) (k : Int32)  : Met l yX9_leave wsX9_leave ({ frames := 0, cells := 0, slots := 0, locals := 0 }) (pw (dC, dI) [] [(qt, .inr (9, [.int tr]))] sz [.ref qt, .int k]) (va_Qv (fun (_ : Unit) => True) (fun _ t => bw (dC, dI) [] (va_A [(qt, .inr (9, [.int tr]))] sz) [(qt, .inr (9, [.int ((31 * tr) + k)]))] t) (va_A [(qt, .inr (9, [.int tr]))] sz)) 0 0 (va_A [(qt, .inr (9, [.int tr]))] sz) := by
  refine pw_met (cc := cX9_leave) (maxL := 2) (ret := none) (by decide) rfl (Nat.le_of_ble_eq_true rfl) ?_
  intro p e s m below meth c0 hx hb hr hml hown hlocks hnm hts hP hK hD hN hsz hA hS ls hl
  subst hsz
  have hl : lv_has ls 2 [(0, .ref qt), (1, .int k)] := hl
  have hiX9 : ∀ w ∈ wsX90, w ∈ wsX9_leave := fun _ h => List.mem_cons_of_mem _ (List.mem_append_right _ (h))
  generalize hQ : MQ _ _ _ _ _ _ _ = Q
  refine lv_aload_n hx hb dX9_leave_0 rfl (lv_at hl 0 rfl) ?_
  refine lv_bipush (v := 31) hx hb dX9_leave_1 (by decide) ?_
  refine lv_aload_n hx hb dX9_leave_3 rfl (lv_at hl 0 rfl) ?_
  refine va_get (D := (dC, dI)) (ci := 9) (v := .int tr) (C := RX9) (T := TX9) (N := 1) hx hb hts hiX9 hown hK hP 0 rfl rfl 0 (by decide) (hts (.fieldLink RX9 7 "TributePitches$Trace" "number" "I") (List.mem_of_getElem? (i := 1) rfl)) (fun _ h9 => h9) rfl dX9_leave_4 ?_
  refine lv_imul hx hb dX9_leave_7 ?_
  refine lv_iload_n hx hb dX9_leave_8 rfl (lv_at hl 1 rfl) ?_
  refine lv_iadd hx hb dX9_leave_9 ?_
  refine va_put (D := (dC, dI)) (ci := 9) (v := .int ((31 * tr) + k)) (ty := .int) (C := RX9) (T := TX9) (N := 1) hx hb hts hiX9 tyX9 tyX9_ok nmX9 hown hK hP hD hS 0 rfl rfl 0 (by decide) (hts (.fieldLink RX9 7 "TributePitches$Trace" "number" "I") (List.mem_of_getElem? (i := 1) rfl)) (fun _ h9 => h9) rfl (by decide +kernel) rfl rfl (Nat.le_of_ble_eq_true rfl) dX9_leave_10 (fun H locs hP hD hS => ?_)
  have hP : va_P (dC, dI) vwCl [(qt, .inr (9, [.int ((31 * tr) + k)]))] H := hP
  have hD : va_D _ [(qt, .inr (9, [.int ((31 * tr) + k)]))] := hD
  subst hQ
  have hP9 := hP.sub (ws' := [(qt, .inr (9, [.int ((31 * tr) + k)]))]) [0] rfl
  have hD9 := hD.sub (ws' := [(qt, .inr (9, [.int ((31 * tr) + k)]))]) [0] (by decide) rfl
  have hK9 := hK.sub (tys' := []) [] rfl
  exact W.vret hx hb hr (fun t ht hW => ⟨⟨(), rfl, trivial, ⟨by rw [ht]; exact hP9, va_K.moved hW.alike hK9, hD9⟩⟩, hS.F ht⟩) hS.2.2 dX9_leave_13
set_option maxHeartbeats 4000000 in
set_option maxRecDepth 100000 in
theorem s_any_1 (l : Launch) (dC : Nat → ClassId) (dI : Nat → Nat → Nat)  (sz : Nat) (qg : Nat) (gn : Int32) (gt : Int32) (gl : Int32) (ow : Int64) (qt : Nat) (tr : Int32)  : Met l yX2_tellingOfAnyGang wsX2_tellingOfAnyGang ({ frames := 1, cells := 0, slots := 0, locals := 30 }) (pw (dC, dI) [] [(qg, .inr (1, [.int gn, .int gt, .int gl, .long ow])), (qt, .inr (9, [.int tr]))] sz [.ref qg, .ref qt]) (va_Qi (fun r (_ : Unit) => r = gt) (fun _ t => bw (dC, dI) [] (va_A [(qg, .inr (1, [.int gn, .int gt, .int gl, .long ow])), (qt, .inr (9, [.int tr]))] sz) [(qg, .inr (1, [.int gn, .int gt, .int gl, .long ow])), (qt, .inr (9, [.int ((31 * tr) + 1)]))] t) (va_A [(qg, .inr (1, [.int gn, .int gt, .int gl, .long ow])), (qt, .inr (9, [.int tr]))] sz)) 0 0 (va_A [(qg, .inr (1, [.int gn, .int gt, .int gl, .long ow])), (qt, .inr (9, [.int tr]))] sz) := by
  refine pw_met (cc := cX2_tellingOfAnyGang) (maxL := 2) (ret := (some .int)) (by decide) rfl (Nat.le_of_ble_eq_true rfl) ?_
  intro p e s m below meth c0 hx hb hr hml hown hlocks hnm hts hP hK hD hN hsz hA hS ls hl
  subst hsz
  have hl : lv_has ls 2 [(0, .ref qg), (1, .ref qt)] := hl
  have hiX1 : ∀ w ∈ wsX10, w ∈ wsX2_tellingOfAnyGang := fun _ h => List.mem_cons_of_mem _ (List.mem_append_left _ (List.mem_append_left _ (List.mem_append_left _ (List.mem_append_right _ (h)))))
  generalize hQ : MQ _ _ _ _ _ _ _ = Q
  refine lv_aload_n hx hb dX2_tellingOfAnyGang_0 rfl (lv_at hl 1 rfl) ?_
  refine lv_iconst (v := 1) hx hb dX2_tellingOfAnyGang_1 (by decide) ?_
  have hPc := hP.sub (ws' := [(qt, .inr (9, [.int tr]))]) [1] rfl
  have hDc := hD.sub (ws' := [(qt, .inr (9, [.int tr]))]) [1] (by decide) rfl
  have hKc := hK.sub (tys' := []) [] rfl
  have hFc := va_free (wc := [(qt, .inr (9, [.int tr]))]) hD hS hA [1] rfl
  refine va_callv (va_runV (As := [.int 1]) (rest := []) ⟨hx, hb, hml, hown, hts⟩ (s_leave l dC dI  _ qt tr 1 ) (cwV 1 hts gX2_tellingOfAnyGang_X9_leave rfl rfl rfl (by decide +kernel) ⟨Nat.le_of_ble_eq_true rfl, Nat.le_of_ble_eq_true rfl⟩) (pw_preV (va_recv hKc hPc (ci := 9) (q0 := 0) rfl rfl) hPc hKc hDc hN) rfl rfl hl.1 rfl (lv_room (Nat.le_of_ble_eq_true rfl)) dX2_tellingOfAnyGang_2 ⟨Nat.le_of_ble_eq_true rfl, Nat.le_of_ble_eq_true rfl⟩) hS (fun q _ h => hFc q h) hFc (fun u t H1 locs ht hvm hw hB hz1 hk1 hS => ?_)
  obtain ⟨hP1, hK1, hD1⟩ := hB
  rw [ht] at hP1
  obtain ⟨hP, hD⟩ := va_join (wr := [(qg, .inr (1, [.int gn, .int gt, .int gl, .long ow]))]) (w1 := [(qt, .inr (9, [.int ((31 * tr) + 1)]))]) hP hD [1] [0] rfl rfl (by decide) (by decide) hk1 hFc hP1 hD1
  generalize H1 = H at hP hS ⊢
  have hP : va_P (dC, dI) vwCl [(qg, .inr (1, [.int gn, .int gt, .int gl, .long ow])), (qt, .inr (9, [.int ((31 * tr) + 1)]))] H := hP
  have hD : va_D _ [(qg, .inr (1, [.int gn, .int gt, .int gl, .long ow])), (qt, .inr (9, [.int ((31 * tr) + 1)]))] := hD
  refine lv_aload_n hx hb dX2_tellingOfAnyGang_5 rfl (lv_at hl 0 rfl) ?_
  refine va_get (D := (dC, dI)) (ci := 1) (v := .int gt) (C := RX1) (T := TX1) (N := 4) hx hb hts hiX1 hown hK hP 0 rfl rfl 1 (by decide) (hts (.fieldLink RX2 29 "TributePitches$Gang" "takesHad" "I") (List.mem_of_getElem? (i := 1) rfl)) (fun _ h9 => h9) rfl dX2_tellingOfAnyGang_6 ?_
  subst hQ
  have hP9 := hP.sub (ws' := [(qg, .inr (1, [.int gn, .int gt, .int gl, .long ow])), (qt, .inr (9, [.int ((31 * tr) + 1)]))]) [0, 1] rfl
  have hD9 := hD.sub (ws' := [(qg, .inr (1, [.int gn, .int gt, .int gl, .long ow])), (qt, .inr (9, [.int ((31 * tr) + 1)]))]) [0, 1] (by decide) rfl
  have hK9 := hK.sub (tys' := []) [] rfl
  exact W.iret (v := gt) hx hb hr (fun t ht hW => ⟨⟨gt, (), rfl, rfl, ⟨by rw [ht]; exact hP9, va_K.moved hW.alike hK9, hD9⟩⟩, hS.F ht⟩) hS.2.2 dX2_tellingOfAnyGang_9
set_option maxHeartbeats 4000000 in
set_option maxRecDepth 100000 in
theorem s_any_2 (l : Launch) (dC : Nat → ClassId) (dI : Nat → Nat → Nat)  (sz : Nat) (qg : Nat) (gn : Int32) (gt : Int32) (gl : Int32) (ow : Int64) (qt : Nat) (tr : Int32)  : Met l yX2_tellingOfAnyGang wsX2_tellingOfAnyGang ({ frames := 1, cells := 0, slots := 0, locals := 30 }) (pw (dC, dI) [] [(qg, .inr (2, [.int gn, .int gt, .int gl, .long ow])), (qt, .inr (9, [.int tr]))] sz [.ref qg, .ref qt]) (va_Qi (fun r (_ : Unit) => r = gt) (fun _ t => bw (dC, dI) [] (va_A [(qg, .inr (2, [.int gn, .int gt, .int gl, .long ow])), (qt, .inr (9, [.int tr]))] sz) [(qg, .inr (2, [.int gn, .int gt, .int gl, .long ow])), (qt, .inr (9, [.int ((31 * tr) + 1)]))] t) (va_A [(qg, .inr (2, [.int gn, .int gt, .int gl, .long ow])), (qt, .inr (9, [.int tr]))] sz)) 0 0 (va_A [(qg, .inr (2, [.int gn, .int gt, .int gl, .long ow])), (qt, .inr (9, [.int tr]))] sz) := by
  refine pw_met (cc := cX2_tellingOfAnyGang) (maxL := 2) (ret := (some .int)) (by decide) rfl (Nat.le_of_ble_eq_true rfl) ?_
  intro p e s m below meth c0 hx hb hr hml hown hlocks hnm hts hP hK hD hN hsz hA hS ls hl
  subst hsz
  have hl : lv_has ls 2 [(0, .ref qg), (1, .ref qt)] := hl
  have hiX2 : ∀ w ∈ wsX20, w ∈ wsX2_tellingOfAnyGang := fun _ h => List.mem_cons_of_mem _ (List.mem_append_left _ (List.mem_append_left _ (List.mem_append_right _ (h))))
  generalize hQ : MQ _ _ _ _ _ _ _ = Q
  refine lv_aload_n hx hb dX2_tellingOfAnyGang_0 rfl (lv_at hl 1 rfl) ?_
  refine lv_iconst (v := 1) hx hb dX2_tellingOfAnyGang_1 (by decide) ?_
  have hPc := hP.sub (ws' := [(qt, .inr (9, [.int tr]))]) [1] rfl
  have hDc := hD.sub (ws' := [(qt, .inr (9, [.int tr]))]) [1] (by decide) rfl
  have hKc := hK.sub (tys' := []) [] rfl
  have hFc := va_free (wc := [(qt, .inr (9, [.int tr]))]) hD hS hA [1] rfl
  refine va_callv (va_runV (As := [.int 1]) (rest := []) ⟨hx, hb, hml, hown, hts⟩ (s_leave l dC dI  _ qt tr 1 ) (cwV 1 hts gX2_tellingOfAnyGang_X9_leave rfl rfl rfl (by decide +kernel) ⟨Nat.le_of_ble_eq_true rfl, Nat.le_of_ble_eq_true rfl⟩) (pw_preV (va_recv hKc hPc (ci := 9) (q0 := 0) rfl rfl) hPc hKc hDc hN) rfl rfl hl.1 rfl (lv_room (Nat.le_of_ble_eq_true rfl)) dX2_tellingOfAnyGang_2 ⟨Nat.le_of_ble_eq_true rfl, Nat.le_of_ble_eq_true rfl⟩) hS (fun q _ h => hFc q h) hFc (fun u t H1 locs ht hvm hw hB hz1 hk1 hS => ?_)
  obtain ⟨hP1, hK1, hD1⟩ := hB
  rw [ht] at hP1
  obtain ⟨hP, hD⟩ := va_join (wr := [(qg, .inr (2, [.int gn, .int gt, .int gl, .long ow]))]) (w1 := [(qt, .inr (9, [.int ((31 * tr) + 1)]))]) hP hD [1] [0] rfl rfl (by decide) (by decide) hk1 hFc hP1 hD1
  generalize H1 = H at hP hS ⊢
  have hP : va_P (dC, dI) vwCl [(qg, .inr (2, [.int gn, .int gt, .int gl, .long ow])), (qt, .inr (9, [.int ((31 * tr) + 1)]))] H := hP
  have hD : va_D _ [(qg, .inr (2, [.int gn, .int gt, .int gl, .long ow])), (qt, .inr (9, [.int ((31 * tr) + 1)]))] := hD
  refine lv_aload_n hx hb dX2_tellingOfAnyGang_5 rfl (lv_at hl 0 rfl) ?_
  refine va_get (D := (dC, dI)) (ci := 2) (v := .int gt) (C := RX2) (T := TX2) (N := 4) hx hb hts hiX2 hown hK hP 0 rfl rfl 1 (by decide) (hts (.fieldLink RX2 29 "TributePitches$Gang" "takesHad" "I") (List.mem_of_getElem? (i := 1) rfl)) (fun _ h9 => h9) rfl dX2_tellingOfAnyGang_6 ?_
  subst hQ
  have hP9 := hP.sub (ws' := [(qg, .inr (2, [.int gn, .int gt, .int gl, .long ow])), (qt, .inr (9, [.int ((31 * tr) + 1)]))]) [0, 1] rfl
  have hD9 := hD.sub (ws' := [(qg, .inr (2, [.int gn, .int gt, .int gl, .long ow])), (qt, .inr (9, [.int ((31 * tr) + 1)]))]) [0, 1] (by decide) rfl
  have hK9 := hK.sub (tys' := []) [] rfl
  exact W.iret (v := gt) hx hb hr (fun t ht hW => ⟨⟨gt, (), rfl, rfl, ⟨by rw [ht]; exact hP9, va_K.moved hW.alike hK9, hD9⟩⟩, hS.F ht⟩) hS.2.2 dX2_tellingOfAnyGang_9
set_option maxHeartbeats 4000000 in
set_option maxRecDepth 100000 in
theorem s_any_4 (l : Launch) (dC : Nat → ClassId) (dI : Nat → Nat → Nat)  (sz : Nat) (qg : Nat) (gn : Int32) (gt : Int32) (gl : Int32) (ow : Int64) (qt : Nat) (tr : Int32)  : Met l yX2_tellingOfAnyGang wsX2_tellingOfAnyGang ({ frames := 1, cells := 0, slots := 0, locals := 30 }) (pw (dC, dI) [] [(qg, .inr (4, [.int gn, .int gt, .int gl, .long ow])), (qt, .inr (9, [.int tr]))] sz [.ref qg, .ref qt]) (va_Qi (fun r (_ : Unit) => r = gt) (fun _ t => bw (dC, dI) [] (va_A [(qg, .inr (4, [.int gn, .int gt, .int gl, .long ow])), (qt, .inr (9, [.int tr]))] sz) [(qg, .inr (4, [.int gn, .int gt, .int gl, .long ow])), (qt, .inr (9, [.int ((31 * tr) + 1)]))] t) (va_A [(qg, .inr (4, [.int gn, .int gt, .int gl, .long ow])), (qt, .inr (9, [.int tr]))] sz)) 0 0 (va_A [(qg, .inr (4, [.int gn, .int gt, .int gl, .long ow])), (qt, .inr (9, [.int tr]))] sz) := by
  refine pw_met (cc := cX2_tellingOfAnyGang) (maxL := 2) (ret := (some .int)) (by decide) rfl (Nat.le_of_ble_eq_true rfl) ?_
  intro p e s m below meth c0 hx hb hr hml hown hlocks hnm hts hP hK hD hN hsz hA hS ls hl
  subst hsz
  have hl : lv_has ls 2 [(0, .ref qg), (1, .ref qt)] := hl
  have hiX4 : ∀ w ∈ wsX40, w ∈ wsX2_tellingOfAnyGang := fun _ h => List.mem_cons_of_mem _ (List.mem_append_left _ (List.mem_append_right _ (h)))
  generalize hQ : MQ _ _ _ _ _ _ _ = Q
  refine lv_aload_n hx hb dX2_tellingOfAnyGang_0 rfl (lv_at hl 1 rfl) ?_
  refine lv_iconst (v := 1) hx hb dX2_tellingOfAnyGang_1 (by decide) ?_
  have hPc := hP.sub (ws' := [(qt, .inr (9, [.int tr]))]) [1] rfl
  have hDc := hD.sub (ws' := [(qt, .inr (9, [.int tr]))]) [1] (by decide) rfl
  have hKc := hK.sub (tys' := []) [] rfl
  have hFc := va_free (wc := [(qt, .inr (9, [.int tr]))]) hD hS hA [1] rfl
  refine va_callv (va_runV (As := [.int 1]) (rest := []) ⟨hx, hb, hml, hown, hts⟩ (s_leave l dC dI  _ qt tr 1 ) (cwV 1 hts gX2_tellingOfAnyGang_X9_leave rfl rfl rfl (by decide +kernel) ⟨Nat.le_of_ble_eq_true rfl, Nat.le_of_ble_eq_true rfl⟩) (pw_preV (va_recv hKc hPc (ci := 9) (q0 := 0) rfl rfl) hPc hKc hDc hN) rfl rfl hl.1 rfl (lv_room (Nat.le_of_ble_eq_true rfl)) dX2_tellingOfAnyGang_2 ⟨Nat.le_of_ble_eq_true rfl, Nat.le_of_ble_eq_true rfl⟩) hS (fun q _ h => hFc q h) hFc (fun u t H1 locs ht hvm hw hB hz1 hk1 hS => ?_)
  obtain ⟨hP1, hK1, hD1⟩ := hB
  rw [ht] at hP1
  obtain ⟨hP, hD⟩ := va_join (wr := [(qg, .inr (4, [.int gn, .int gt, .int gl, .long ow]))]) (w1 := [(qt, .inr (9, [.int ((31 * tr) + 1)]))]) hP hD [1] [0] rfl rfl (by decide) (by decide) hk1 hFc hP1 hD1
  generalize H1 = H at hP hS ⊢
  have hP : va_P (dC, dI) vwCl [(qg, .inr (4, [.int gn, .int gt, .int gl, .long ow])), (qt, .inr (9, [.int ((31 * tr) + 1)]))] H := hP
  have hD : va_D _ [(qg, .inr (4, [.int gn, .int gt, .int gl, .long ow])), (qt, .inr (9, [.int ((31 * tr) + 1)]))] := hD
  refine lv_aload_n hx hb dX2_tellingOfAnyGang_5 rfl (lv_at hl 0 rfl) ?_
  refine va_get (D := (dC, dI)) (ci := 4) (v := .int gt) (C := RX4) (T := TX4) (N := 4) hx hb hts hiX4 hown hK hP 0 rfl rfl 1 (by decide) (hts (.fieldLink RX2 29 "TributePitches$Gang" "takesHad" "I") (List.mem_of_getElem? (i := 1) rfl)) (fun _ h9 => h9) rfl dX2_tellingOfAnyGang_6 ?_
  subst hQ
  have hP9 := hP.sub (ws' := [(qg, .inr (4, [.int gn, .int gt, .int gl, .long ow])), (qt, .inr (9, [.int ((31 * tr) + 1)]))]) [0, 1] rfl
  have hD9 := hD.sub (ws' := [(qg, .inr (4, [.int gn, .int gt, .int gl, .long ow])), (qt, .inr (9, [.int ((31 * tr) + 1)]))]) [0, 1] (by decide) rfl
  have hK9 := hK.sub (tys' := []) [] rfl
  exact W.iret (v := gt) hx hb hr (fun t ht hW => ⟨⟨gt, (), rfl, rfl, ⟨by rw [ht]; exact hP9, va_K.moved hW.alike hK9, hD9⟩⟩, hS.F ht⟩) hS.2.2 dX2_tellingOfAnyGang_9
set_option maxHeartbeats 4000000 in
set_option maxRecDepth 100000 in
theorem s_tell_2 (l : Launch) (dC : Nat → ClassId) (dI : Nat → Nat → Nat)  (sz : Nat) (qg : Nat) (gn : Int32) (gt : Int32) (gl : Int32) (ow : Int64) (qt : Nat) (tr : Int32)  : Met l yX2_telling wsX2_telling ({ frames := 2, cells := 0, slots := 0, locals := 60 }) (pw (dC, dI) [] [(qg, .inr (2, [.int gn, .int gt, .int gl, .long ow])), (qt, .inr (9, [.int tr]))] sz [.ref qg, .ref qt]) (va_Qi (fun r (_ : Unit) => r = gt) (fun _ t => bw (dC, dI) [] (va_A [(qg, .inr (2, [.int gn, .int gt, .int gl, .long ow])), (qt, .inr (9, [.int tr]))] sz) [(qg, .inr (2, [.int gn, .int gt, .int gl, .long ow])), (qt, .inr (9, [.int ((31 * tr) + 1)]))] t) (va_A [(qg, .inr (2, [.int gn, .int gt, .int gl, .long ow])), (qt, .inr (9, [.int tr]))] sz)) 0 0 (va_A [(qg, .inr (2, [.int gn, .int gt, .int gl, .long ow])), (qt, .inr (9, [.int tr]))] sz) := by
  refine pw_met (cc := cX2_telling) (maxL := 2) (ret := (some .int)) (by decide) rfl (Nat.le_of_ble_eq_true rfl) ?_
  intro p e s m below meth c0 hx hb hr hml hown hlocks hnm hts hP hK hD hN hsz hA hS ls hl
  subst hsz
  have hl : lv_has ls 2 [(0, .ref qg), (1, .ref qt)] := hl
  generalize hQ : MQ _ _ _ _ _ _ _ = Q
  refine lv_aload_n hx hb dX2_telling_0 rfl (lv_at hl 0 rfl) ?_
  refine lv_aload_n hx hb dX2_telling_1 rfl (lv_at hl 1 rfl) ?_
  have hPc := hP.sub (ws' := [(qg, .inr (2, [.int gn, .int gt, .int gl, .long ow])), (qt, .inr (9, [.int tr]))]) [0, 1] rfl
  have hDc := hD.sub (ws' := [(qg, .inr (2, [.int gn, .int gt, .int gl, .long ow])), (qt, .inr (9, [.int tr]))]) [0, 1] (by decide) rfl
  have hKc := hK.sub (tys' := []) [] rfl
  have hFc := va_free (wc := [(qg, .inr (2, [.int gn, .int gt, .int gl, .long ow])), (qt, .inr (9, [.int tr]))]) hD hS hA [0, 1] rfl
  refine va_calli (va_runV (As := [.ref qt]) (rest := []) ⟨hx, hb, hml, hown, hts⟩ (s_any_2 l dC dI  _ qg gn gt gl ow qt tr ) (cwV 1 hts gX2_telling_X2_tellingOfAnyGang rfl rfl rfl (by decide +kernel) ⟨Nat.le_of_ble_eq_true rfl, Nat.le_of_ble_eq_true rfl⟩) (pw_preV (va_recv hKc hPc (ci := 2) (q0 := 0) rfl rfl) hPc hKc hDc hN) rfl rfl hl.1 rfl (lv_room (Nat.le_of_ble_eq_true rfl)) dX2_telling_2 ⟨Nat.le_of_ble_eq_true rfl, Nat.le_of_ble_eq_true rfl⟩) hS (fun q _ h => hFc q h) hFc (fun r1 u t H1 locs ht hvm hw hB hz1 hk1 hS => ?_)
  have hr1 : r1 = gt := hw
  obtain ⟨hP1, hK1, hD1⟩ := hB
  rw [ht] at hP1
  obtain ⟨hP, hD⟩ := va_join (wr := []) (w1 := [(qg, .inr (2, [.int gn, .int gt, .int gl, .long ow])), (qt, .inr (9, [.int ((31 * tr) + 1)]))]) hP hD [0, 1] [] rfl rfl (by decide) (by decide) hk1 hFc hP1 hD1
  generalize H1 = H at hP hS ⊢
  have hP : va_P (dC, dI) vwCl [(qg, .inr (2, [.int gn, .int gt, .int gl, .long ow])), (qt, .inr (9, [.int ((31 * tr) + 1)]))] H := hP
  have hD : va_D _ [(qg, .inr (2, [.int gn, .int gt, .int gl, .long ow])), (qt, .inr (9, [.int ((31 * tr) + 1)]))] := hD
  subst hQ
  have hP9 := hP.sub (ws' := [(qg, .inr (2, [.int gn, .int gt, .int gl, .long ow])), (qt, .inr (9, [.int ((31 * tr) + 1)]))]) [0, 1] rfl
  have hD9 := hD.sub (ws' := [(qg, .inr (2, [.int gn, .int gt, .int gl, .long ow])), (qt, .inr (9, [.int ((31 * tr) + 1)]))]) [0, 1] (by decide) rfl
  have hK9 := hK.sub (tys' := []) [] rfl
  exact W.iret (v := r1) hx hb hr (fun t ht hW => ⟨⟨r1, (), rfl, hr1, ⟨by rw [ht]; exact hP9, va_K.moved hW.alike hK9, hD9⟩⟩, hS.F ht⟩) hS.2.2 dX2_telling_5
set_option maxHeartbeats 4000000 in
set_option maxRecDepth 100000 in
theorem s_tell_1 (l : Launch) (dC : Nat → ClassId) (dI : Nat → Nat → Nat)  (sz : Nat) (qg : Nat) (gn : Int32) (gt : Int32) (gl : Int32) (ow : Int64) (qt : Nat) (tr : Int32)  : Met l yX1_telling wsX1_telling ({ frames := 2, cells := 0, slots := 0, locals := 60 }) (pw (dC, dI) [] [(qg, .inr (1, [.int gn, .int gt, .int gl, .long ow])), (qt, .inr (9, [.int tr]))] sz [.ref qg, .ref qt]) (va_Qi (fun r (_ : Unit) => r = 10 + gt) (fun _ t => bw (dC, dI) [] (va_A [(qg, .inr (1, [.int gn, .int gt, .int gl, .long ow])), (qt, .inr (9, [.int tr]))] sz) [(qg, .inr (1, [.int gn, .int gt, .int gl, .long ow])), (qt, .inr (9, [.int ((31 * ((31 * tr) + 2)) + 1)]))] t) (va_A [(qg, .inr (1, [.int gn, .int gt, .int gl, .long ow])), (qt, .inr (9, [.int tr]))] sz)) 0 0 (va_A [(qg, .inr (1, [.int gn, .int gt, .int gl, .long ow])), (qt, .inr (9, [.int tr]))] sz) := by
  refine pw_met (cc := cX1_telling) (maxL := 2) (ret := (some .int)) (by decide) rfl (Nat.le_of_ble_eq_true rfl) ?_
  intro p e s m below meth c0 hx hb hr hml hown hlocks hnm hts hP hK hD hN hsz hA hS ls hl
  subst hsz
  have hl : lv_has ls 2 [(0, .ref qg), (1, .ref qt)] := hl
  generalize hQ : MQ _ _ _ _ _ _ _ = Q
  refine lv_aload_n hx hb dX1_telling_0 rfl (lv_at hl 1 rfl) ?_
  refine lv_iconst (v := 2) hx hb dX1_telling_1 (by decide) ?_
  have hPc := hP.sub (ws' := [(qt, .inr (9, [.int tr]))]) [1] rfl
  have hDc := hD.sub (ws' := [(qt, .inr (9, [.int tr]))]) [1] (by decide) rfl
  have hKc := hK.sub (tys' := []) [] rfl
  have hFc := va_free (wc := [(qt, .inr (9, [.int tr]))]) hD hS hA [1] rfl
  refine va_callv (va_runV (As := [.int 2]) (rest := []) ⟨hx, hb, hml, hown, hts⟩ (s_leave l dC dI  _ qt tr 2 ) (cwV 1 hts gX1_telling_X9_leave rfl rfl rfl (by decide +kernel) ⟨Nat.le_of_ble_eq_true rfl, Nat.le_of_ble_eq_true rfl⟩) (pw_preV (va_recv hKc hPc (ci := 9) (q0 := 0) rfl rfl) hPc hKc hDc hN) rfl rfl hl.1 rfl (lv_room (Nat.le_of_ble_eq_true rfl)) dX1_telling_2 ⟨Nat.le_of_ble_eq_true rfl, Nat.le_of_ble_eq_true rfl⟩) hS (fun q _ h => hFc q h) hFc (fun u t H1 locs ht hvm hw hB hz1 hk1 hS => ?_)
  obtain ⟨hP1, hK1, hD1⟩ := hB
  rw [ht] at hP1
  obtain ⟨hP, hD⟩ := va_join (wr := [(qg, .inr (1, [.int gn, .int gt, .int gl, .long ow]))]) (w1 := [(qt, .inr (9, [.int ((31 * tr) + 2)]))]) hP hD [1] [0] rfl rfl (by decide) (by decide) hk1 hFc hP1 hD1
  generalize H1 = H at hP hS ⊢
  have hP : va_P (dC, dI) vwCl [(qg, .inr (1, [.int gn, .int gt, .int gl, .long ow])), (qt, .inr (9, [.int ((31 * tr) + 2)]))] H := hP
  have hD : va_D _ [(qg, .inr (1, [.int gn, .int gt, .int gl, .long ow])), (qt, .inr (9, [.int ((31 * tr) + 2)]))] := hD
  refine lv_bipush (v := 10) hx hb dX1_telling_5 (by decide) ?_
  refine lv_aload_n hx hb dX1_telling_7 rfl (lv_at hl 0 rfl) ?_
  refine lv_aload_n hx hb dX1_telling_8 rfl (lv_at hl 1 rfl) ?_
  have hPc := hP.sub (ws' := [(qg, .inr (1, [.int gn, .int gt, .int gl, .long ow])), (qt, .inr (9, [.int ((31 * tr) + 2)]))]) [0, 1] rfl
  have hDc := hD.sub (ws' := [(qg, .inr (1, [.int gn, .int gt, .int gl, .long ow])), (qt, .inr (9, [.int ((31 * tr) + 2)]))]) [0, 1] (by decide) rfl
  have hKc := hK.sub (tys' := []) [] rfl
  have hFc := va_free (wc := [(qg, .inr (1, [.int gn, .int gt, .int gl, .long ow])), (qt, .inr (9, [.int ((31 * tr) + 2)]))]) hD hS hA [0, 1] rfl
  refine va_calli (va_runU (As := [.ref qt]) (rest := [.int 10]) ⟨hx, hb, hml, hown, hts⟩ (s_any_1 l dC dI  _ qg gn gt gl ow qt ((31 * tr) + 2) ) (va_cwU 1 hts gX1_telling_X2_tellingOfAnyGang_u14X1 rfl rfl rfl rfl (by decide +kernel) ⟨Nat.le_of_ble_eq_true rfl, Nat.le_of_ble_eq_true rfl⟩) (pw_preV (va_recv hKc hPc (ci := 1) (q0 := 0) rfl rfl) hPc hKc hDc hN) rfl rfl hl.1 rfl (lv_room (Nat.le_of_ble_eq_true rfl)) dX1_telling_9 ⟨Nat.le_of_ble_eq_true rfl, Nat.le_of_ble_eq_true rfl⟩) hS (fun q _ h => hFc q h) hFc (fun r2 u t H1 locs ht hvm hw hB hz1 hk1 hS => ?_)
  have hr2 : r2 = gt := hw
  obtain ⟨hP1, hK1, hD1⟩ := hB
  rw [ht] at hP1
  obtain ⟨hP, hD⟩ := va_join (wr := []) (w1 := [(qg, .inr (1, [.int gn, .int gt, .int gl, .long ow])), (qt, .inr (9, [.int ((31 * ((31 * tr) + 2)) + 1)]))]) hP hD [0, 1] [] rfl rfl (by decide) (by decide) hk1 hFc hP1 hD1
  generalize H1 = H at hP hS ⊢
  have hP : va_P (dC, dI) vwCl [(qg, .inr (1, [.int gn, .int gt, .int gl, .long ow])), (qt, .inr (9, [.int ((31 * ((31 * tr) + 2)) + 1)]))] H := hP
  have hD : va_D _ [(qg, .inr (1, [.int gn, .int gt, .int gl, .long ow])), (qt, .inr (9, [.int ((31 * ((31 * tr) + 2)) + 1)]))] := hD
  refine lv_iadd hx hb dX1_telling_12 ?_
  subst hQ
  have hP9 := hP.sub (ws' := [(qg, .inr (1, [.int gn, .int gt, .int gl, .long ow])), (qt, .inr (9, [.int ((31 * ((31 * tr) + 2)) + 1)]))]) [0, 1] rfl
  have hD9 := hD.sub (ws' := [(qg, .inr (1, [.int gn, .int gt, .int gl, .long ow])), (qt, .inr (9, [.int ((31 * ((31 * tr) + 2)) + 1)]))]) [0, 1] (by decide) rfl
  have hK9 := hK.sub (tys' := []) [] rfl
  exact W.iret (v := 10 + r2) hx hb hr (fun t ht hW => ⟨⟨10 + r2, (), rfl, (by rw [hr2]), ⟨by rw [ht]; exact hP9, va_K.moved hW.alike hK9, hD9⟩⟩, hS.F ht⟩) hS.2.2 dX1_telling_13
set_option maxHeartbeats 4000000 in
set_option maxRecDepth 100000 in
theorem s_tell_4 (l : Launch) (dC : Nat → ClassId) (dI : Nat → Nat → Nat)  (sz : Nat) (qg : Nat) (gn : Int32) (gt : Int32) (gl : Int32) (ow : Int64) (qt : Nat) (tr : Int32)  : Met l yX4_telling wsX4_telling ({ frames := 2, cells := 0, slots := 0, locals := 60 }) (pw (dC, dI) [] [(qg, .inr (4, [.int gn, .int gt, .int gl, .long ow])), (qt, .inr (9, [.int tr]))] sz [.ref qg, .ref qt]) (va_Qi (fun r (_ : Unit) => r = 3 * gt) (fun _ t => bw (dC, dI) [] (va_A [(qg, .inr (4, [.int gn, .int gt, .int gl, .long ow])), (qt, .inr (9, [.int tr]))] sz) [(qg, .inr (4, [.int gn, .int gt, .int gl, .long ow])), (qt, .inr (9, [.int ((31 * ((31 * tr) + 3)) + 1)]))] t) (va_A [(qg, .inr (4, [.int gn, .int gt, .int gl, .long ow])), (qt, .inr (9, [.int tr]))] sz)) 0 0 (va_A [(qg, .inr (4, [.int gn, .int gt, .int gl, .long ow])), (qt, .inr (9, [.int tr]))] sz) := by
  refine pw_met (cc := cX4_telling) (maxL := 2) (ret := (some .int)) (by decide) rfl (Nat.le_of_ble_eq_true rfl) ?_
  intro p e s m below meth c0 hx hb hr hml hown hlocks hnm hts hP hK hD hN hsz hA hS ls hl
  subst hsz
  have hl : lv_has ls 2 [(0, .ref qg), (1, .ref qt)] := hl
  generalize hQ : MQ _ _ _ _ _ _ _ = Q
  refine lv_aload_n hx hb dX4_telling_0 rfl (lv_at hl 1 rfl) ?_
  refine lv_iconst (v := 3) hx hb dX4_telling_1 (by decide) ?_
  have hPc := hP.sub (ws' := [(qt, .inr (9, [.int tr]))]) [1] rfl
  have hDc := hD.sub (ws' := [(qt, .inr (9, [.int tr]))]) [1] (by decide) rfl
  have hKc := hK.sub (tys' := []) [] rfl
  have hFc := va_free (wc := [(qt, .inr (9, [.int tr]))]) hD hS hA [1] rfl
  refine va_callv (va_runV (As := [.int 3]) (rest := []) ⟨hx, hb, hml, hown, hts⟩ (s_leave l dC dI  _ qt tr 3 ) (cwV 1 hts gX4_telling_X9_leave rfl rfl rfl (by decide +kernel) ⟨Nat.le_of_ble_eq_true rfl, Nat.le_of_ble_eq_true rfl⟩) (pw_preV (va_recv hKc hPc (ci := 9) (q0 := 0) rfl rfl) hPc hKc hDc hN) rfl rfl hl.1 rfl (lv_room (Nat.le_of_ble_eq_true rfl)) dX4_telling_2 ⟨Nat.le_of_ble_eq_true rfl, Nat.le_of_ble_eq_true rfl⟩) hS (fun q _ h => hFc q h) hFc (fun u t H1 locs ht hvm hw hB hz1 hk1 hS => ?_)
  obtain ⟨hP1, hK1, hD1⟩ := hB
  rw [ht] at hP1
  obtain ⟨hP, hD⟩ := va_join (wr := [(qg, .inr (4, [.int gn, .int gt, .int gl, .long ow]))]) (w1 := [(qt, .inr (9, [.int ((31 * tr) + 3)]))]) hP hD [1] [0] rfl rfl (by decide) (by decide) hk1 hFc hP1 hD1
  generalize H1 = H at hP hS ⊢
  have hP : va_P (dC, dI) vwCl [(qg, .inr (4, [.int gn, .int gt, .int gl, .long ow])), (qt, .inr (9, [.int ((31 * tr) + 3)]))] H := hP
  have hD : va_D _ [(qg, .inr (4, [.int gn, .int gt, .int gl, .long ow])), (qt, .inr (9, [.int ((31 * tr) + 3)]))] := hD
  refine lv_iconst (v := 3) hx hb dX4_telling_5 (by decide) ?_
  refine lv_aload_n hx hb dX4_telling_6 rfl (lv_at hl 0 rfl) ?_
  refine lv_aload_n hx hb dX4_telling_7 rfl (lv_at hl 1 rfl) ?_
  have hPc := hP.sub (ws' := [(qg, .inr (4, [.int gn, .int gt, .int gl, .long ow])), (qt, .inr (9, [.int ((31 * tr) + 3)]))]) [0, 1] rfl
  have hDc := hD.sub (ws' := [(qg, .inr (4, [.int gn, .int gt, .int gl, .long ow])), (qt, .inr (9, [.int ((31 * tr) + 3)]))]) [0, 1] (by decide) rfl
  have hKc := hK.sub (tys' := []) [] rfl
  have hFc := va_free (wc := [(qg, .inr (4, [.int gn, .int gt, .int gl, .long ow])), (qt, .inr (9, [.int ((31 * tr) + 3)]))]) hD hS hA [0, 1] rfl
  refine va_calli (va_runU (As := [.ref qt]) (rest := [.int 3]) ⟨hx, hb, hml, hown, hts⟩ (s_any_4 l dC dI  _ qg gn gt gl ow qt ((31 * tr) + 3) ) (va_cwU 1 hts gX4_telling_X2_tellingOfAnyGang_u20X4 rfl rfl rfl rfl (by decide +kernel) ⟨Nat.le_of_ble_eq_true rfl, Nat.le_of_ble_eq_true rfl⟩) (pw_preV (va_recv hKc hPc (ci := 4) (q0 := 0) rfl rfl) hPc hKc hDc hN) rfl rfl hl.1 rfl (lv_room (Nat.le_of_ble_eq_true rfl)) dX4_telling_8 ⟨Nat.le_of_ble_eq_true rfl, Nat.le_of_ble_eq_true rfl⟩) hS (fun q _ h => hFc q h) hFc (fun r2 u t H1 locs ht hvm hw hB hz1 hk1 hS => ?_)
  have hr2 : r2 = gt := hw
  obtain ⟨hP1, hK1, hD1⟩ := hB
  rw [ht] at hP1
  obtain ⟨hP, hD⟩ := va_join (wr := []) (w1 := [(qg, .inr (4, [.int gn, .int gt, .int gl, .long ow])), (qt, .inr (9, [.int ((31 * ((31 * tr) + 3)) + 1)]))]) hP hD [0, 1] [] rfl rfl (by decide) (by decide) hk1 hFc hP1 hD1
  generalize H1 = H at hP hS ⊢
  have hP : va_P (dC, dI) vwCl [(qg, .inr (4, [.int gn, .int gt, .int gl, .long ow])), (qt, .inr (9, [.int ((31 * ((31 * tr) + 3)) + 1)]))] H := hP
  have hD : va_D _ [(qg, .inr (4, [.int gn, .int gt, .int gl, .long ow])), (qt, .inr (9, [.int ((31 * ((31 * tr) + 3)) + 1)]))] := hD
  refine lv_imul hx hb dX4_telling_11 ?_
  subst hQ
  have hP9 := hP.sub (ws' := [(qg, .inr (4, [.int gn, .int gt, .int gl, .long ow])), (qt, .inr (9, [.int ((31 * ((31 * tr) + 3)) + 1)]))]) [0, 1] rfl
  have hD9 := hD.sub (ws' := [(qg, .inr (4, [.int gn, .int gt, .int gl, .long ow])), (qt, .inr (9, [.int ((31 * ((31 * tr) + 3)) + 1)]))]) [0, 1] (by decide) rfl
  have hK9 := hK.sub (tys' := []) [] rfl
  exact W.iret (v := 3 * r2) hx hb hr (fun t ht hW => ⟨⟨3 * r2, (), rfl, (by rw [hr2]), ⟨by rw [ht]; exact hP9, va_K.moved hW.alike hK9, hD9⟩⟩, hS.F ht⟩) hS.2.2 dX4_telling_12
set_option maxHeartbeats 4000000 in
set_option maxRecDepth 100000 in
theorem s_greet_2 (l : Launch) (dC : Nat → ClassId) (dI : Nat → Nat → Nat)  (sz : Nat) (qg : Nat) (gn : Int32) (gt : Int32) (gl : Int32) (ow : Int64) (qt : Nat) (tr : Int32)  : Met l yX2_greeting wsX2_greeting ({ frames := 1, cells := 0, slots := 0, locals := 30 }) (pw (dC, dI) [] [(qg, .inr (2, [.int gn, .int gt, .int gl, .long ow])), (qt, .inr (9, [.int tr]))] sz [.ref qg, .ref qt]) (va_Qi (fun r (_ : Unit) => r = 10 * gn) (fun _ t => bw (dC, dI) [] (va_A [(qg, .inr (2, [.int gn, .int gt, .int gl, .long ow])), (qt, .inr (9, [.int tr]))] sz) [(qg, .inr (2, [.int gn, .int gt, .int gl, .long ow])), (qt, .inr (9, [.int ((31 * tr) + 4)]))] t) (va_A [(qg, .inr (2, [.int gn, .int gt, .int gl, .long ow])), (qt, .inr (9, [.int tr]))] sz)) 0 0 (va_A [(qg, .inr (2, [.int gn, .int gt, .int gl, .long ow])), (qt, .inr (9, [.int tr]))] sz) := by
  refine pw_met (cc := cX2_greeting) (maxL := 2) (ret := (some .int)) (by decide) rfl (Nat.le_of_ble_eq_true rfl) ?_
  intro p e s m below meth c0 hx hb hr hml hown hlocks hnm hts hP hK hD hN hsz hA hS ls hl
  subst hsz
  have hl : lv_has ls 2 [(0, .ref qg), (1, .ref qt)] := hl
  have hiX2 : ∀ w ∈ wsX20, w ∈ wsX2_greeting := fun _ h => List.mem_cons_of_mem _ (List.mem_append_left _ (List.mem_append_left _ (List.mem_append_right _ (h))))
  generalize hQ : MQ _ _ _ _ _ _ _ = Q
  refine lv_aload_n hx hb dX2_greeting_0 rfl (lv_at hl 1 rfl) ?_
  refine lv_iconst (v := 4) hx hb dX2_greeting_1 (by decide) ?_
  have hPc := hP.sub (ws' := [(qt, .inr (9, [.int tr]))]) [1] rfl
  have hDc := hD.sub (ws' := [(qt, .inr (9, [.int tr]))]) [1] (by decide) rfl
  have hKc := hK.sub (tys' := []) [] rfl
  have hFc := va_free (wc := [(qt, .inr (9, [.int tr]))]) hD hS hA [1] rfl
  refine va_callv (va_runV (As := [.int 4]) (rest := []) ⟨hx, hb, hml, hown, hts⟩ (s_leave l dC dI  _ qt tr 4 ) (cwV 1 hts gX2_greeting_X9_leave rfl rfl rfl (by decide +kernel) ⟨Nat.le_of_ble_eq_true rfl, Nat.le_of_ble_eq_true rfl⟩) (pw_preV (va_recv hKc hPc (ci := 9) (q0 := 0) rfl rfl) hPc hKc hDc hN) rfl rfl hl.1 rfl (lv_room (Nat.le_of_ble_eq_true rfl)) dX2_greeting_2 ⟨Nat.le_of_ble_eq_true rfl, Nat.le_of_ble_eq_true rfl⟩) hS (fun q _ h => hFc q h) hFc (fun u t H1 locs ht hvm hw hB hz1 hk1 hS => ?_)
  obtain ⟨hP1, hK1, hD1⟩ := hB
  rw [ht] at hP1
  obtain ⟨hP, hD⟩ := va_join (wr := [(qg, .inr (2, [.int gn, .int gt, .int gl, .long ow]))]) (w1 := [(qt, .inr (9, [.int ((31 * tr) + 4)]))]) hP hD [1] [0] rfl rfl (by decide) (by decide) hk1 hFc hP1 hD1
  generalize H1 = H at hP hS ⊢
  have hP : va_P (dC, dI) vwCl [(qg, .inr (2, [.int gn, .int gt, .int gl, .long ow])), (qt, .inr (9, [.int ((31 * tr) + 4)]))] H := hP
  have hD : va_D _ [(qg, .inr (2, [.int gn, .int gt, .int gl, .long ow])), (qt, .inr (9, [.int ((31 * tr) + 4)]))] := hD
  refine lv_bipush (v := 10) hx hb dX2_greeting_5 (by decide) ?_
  refine lv_aload_n hx hb dX2_greeting_7 rfl (lv_at hl 0 rfl) ?_
  refine va_get (D := (dC, dI)) (ci := 2) (v := .int gn) (C := RX2) (T := TX2) (N := 4) hx hb hts hiX2 hown hK hP 0 rfl rfl 0 (by decide) (hts (.fieldLink RX2 9 "TributePitches$Gang" "number" "I") (List.mem_of_getElem? (i := 1) rfl)) (fun _ h9 => h9) rfl dX2_greeting_8 ?_
  refine lv_imul hx hb dX2_greeting_11 ?_
  refine lv_iconst (v := 0) hx hb dX2_greeting_12 (by decide) ?_
  refine lv_iadd hx hb dX2_greeting_13 ?_
  subst hQ
  have hP9 := hP.sub (ws' := [(qg, .inr (2, [.int gn, .int gt, .int gl, .long ow])), (qt, .inr (9, [.int ((31 * tr) + 4)]))]) [0, 1] rfl
  have hD9 := hD.sub (ws' := [(qg, .inr (2, [.int gn, .int gt, .int gl, .long ow])), (qt, .inr (9, [.int ((31 * tr) + 4)]))]) [0, 1] (by decide) rfl
  have hK9 := hK.sub (tys' := []) [] rfl
  exact W.iret (v := (10 * gn) + 0) hx hb hr (fun t ht hW => ⟨⟨(10 * gn) + 0, (), rfl, (by simp), ⟨by rw [ht]; exact hP9, va_K.moved hW.alike hK9, hD9⟩⟩, hS.F ht⟩) hS.2.2 dX2_greeting_14
set_option maxHeartbeats 4000000 in
set_option maxRecDepth 100000 in
theorem s_greet_1_1 (l : Launch) (dC : Nat → ClassId) (dI : Nat → Nat → Nat)  (sz : Nat) (qg : Nat) (gn : Int32) (gt : Int32) (gl : Int32) (ow : Int64) (qt : Nat) (tr : Int32)  : Met l yX1_greeting wsX1_greeting ({ frames := 1, cells := 0, slots := 0, locals := 30 }) (pw (dC, dI) [] [(qg, .inr (1, [.int gn, .int gt, .int gl, .long ow])), (qt, .inr (9, [.int tr]))] sz [.ref qg, .ref qt]) (va_Qi (fun r (_ : Unit) => r = 6) (fun _ t => bw (dC, dI) [] (va_A [(qg, .inr (1, [.int gn, .int gt, .int gl, .long ow])), (qt, .inr (9, [.int tr]))] sz) [(qg, .inr (1, [.int gn, .int gt, .int gl, .long ow])), (qt, .inr (9, [.int ((31 * tr) + 5)]))] t) (va_A [(qg, .inr (1, [.int gn, .int gt, .int gl, .long ow])), (qt, .inr (9, [.int tr]))] sz)) 0 0 (va_A [(qg, .inr (1, [.int gn, .int gt, .int gl, .long ow])), (qt, .inr (9, [.int tr]))] sz) := by
  refine pw_met (cc := cX1_greeting) (maxL := 2) (ret := (some .int)) (by decide) rfl (Nat.le_of_ble_eq_true rfl) ?_
  intro p e s m below meth c0 hx hb hr hml hown hlocks hnm hts hP hK hD hN hsz hA hS ls hl
  subst hsz
  have hl : lv_has ls 2 [(0, .ref qg), (1, .ref qt)] := hl
  generalize hQ : MQ _ _ _ _ _ _ _ = Q
  refine lv_aload_n hx hb dX1_greeting_0 rfl (lv_at hl 1 rfl) ?_
  refine lv_iconst (v := 5) hx hb dX1_greeting_1 (by decide) ?_
  have hPc := hP.sub (ws' := [(qt, .inr (9, [.int tr]))]) [1] rfl
  have hDc := hD.sub (ws' := [(qt, .inr (9, [.int tr]))]) [1] (by decide) rfl
  have hKc := hK.sub (tys' := []) [] rfl
  have hFc := va_free (wc := [(qt, .inr (9, [.int tr]))]) hD hS hA [1] rfl
  refine va_callv (va_runV (As := [.int 5]) (rest := []) ⟨hx, hb, hml, hown, hts⟩ (s_leave l dC dI  _ qt tr 5 ) (cwV 1 hts gX1_greeting_X9_leave rfl rfl rfl (by decide +kernel) ⟨Nat.le_of_ble_eq_true rfl, Nat.le_of_ble_eq_true rfl⟩) (pw_preV (va_recv hKc hPc (ci := 9) (q0 := 0) rfl rfl) hPc hKc hDc hN) rfl rfl hl.1 rfl (lv_room (Nat.le_of_ble_eq_true rfl)) dX1_greeting_2 ⟨Nat.le_of_ble_eq_true rfl, Nat.le_of_ble_eq_true rfl⟩) hS (fun q _ h => hFc q h) hFc (fun u t H1 locs ht hvm hw hB hz1 hk1 hS => ?_)
  obtain ⟨hP1, hK1, hD1⟩ := hB
  rw [ht] at hP1
  obtain ⟨hP, hD⟩ := va_join (wr := [(qg, .inr (1, [.int gn, .int gt, .int gl, .long ow]))]) (w1 := [(qt, .inr (9, [.int ((31 * tr) + 5)]))]) hP hD [1] [0] rfl rfl (by decide) (by decide) hk1 hFc hP1 hD1
  generalize H1 = H at hP hS ⊢
  have hP : va_P (dC, dI) vwCl [(qg, .inr (1, [.int gn, .int gt, .int gl, .long ow])), (qt, .inr (9, [.int ((31 * tr) + 5)]))] H := hP
  have hD : va_D _ [(qg, .inr (1, [.int gn, .int gt, .int gl, .long ow])), (qt, .inr (9, [.int ((31 * tr) + 5)]))] := hD
  refine lv_bipush (v := 6) hx hb dX1_greeting_5 (by decide) ?_
  subst hQ
  have hP9 := hP.sub (ws' := [(qg, .inr (1, [.int gn, .int gt, .int gl, .long ow])), (qt, .inr (9, [.int ((31 * tr) + 5)]))]) [0, 1] rfl
  have hD9 := hD.sub (ws' := [(qg, .inr (1, [.int gn, .int gt, .int gl, .long ow])), (qt, .inr (9, [.int ((31 * tr) + 5)]))]) [0, 1] (by decide) rfl
  have hK9 := hK.sub (tys' := []) [] rfl
  exact W.iret (v := 6) hx hb hr (fun t ht hW => ⟨⟨6, (), rfl, rfl, ⟨by rw [ht]; exact hP9, va_K.moved hW.alike hK9, hD9⟩⟩, hS.F ht⟩) hS.2.2 dX1_greeting_7
set_option maxHeartbeats 4000000 in
set_option maxRecDepth 100000 in
theorem s_greet_1_4 (l : Launch) (dC : Nat → ClassId) (dI : Nat → Nat → Nat)  (sz : Nat) (qg : Nat) (gn : Int32) (gt : Int32) (gl : Int32) (ow : Int64) (qt : Nat) (tr : Int32)  : Met l yX1_greeting wsX1_greeting ({ frames := 1, cells := 0, slots := 0, locals := 30 }) (pw (dC, dI) [] [(qg, .inr (4, [.int gn, .int gt, .int gl, .long ow])), (qt, .inr (9, [.int tr]))] sz [.ref qg, .ref qt]) (va_Qi (fun r (_ : Unit) => r = 6) (fun _ t => bw (dC, dI) [] (va_A [(qg, .inr (4, [.int gn, .int gt, .int gl, .long ow])), (qt, .inr (9, [.int tr]))] sz) [(qg, .inr (4, [.int gn, .int gt, .int gl, .long ow])), (qt, .inr (9, [.int ((31 * tr) + 5)]))] t) (va_A [(qg, .inr (4, [.int gn, .int gt, .int gl, .long ow])), (qt, .inr (9, [.int tr]))] sz)) 0 0 (va_A [(qg, .inr (4, [.int gn, .int gt, .int gl, .long ow])), (qt, .inr (9, [.int tr]))] sz) := by
  refine pw_met (cc := cX1_greeting) (maxL := 2) (ret := (some .int)) (by decide) rfl (Nat.le_of_ble_eq_true rfl) ?_
  intro p e s m below meth c0 hx hb hr hml hown hlocks hnm hts hP hK hD hN hsz hA hS ls hl
  subst hsz
  have hl : lv_has ls 2 [(0, .ref qg), (1, .ref qt)] := hl
  generalize hQ : MQ _ _ _ _ _ _ _ = Q
  refine lv_aload_n hx hb dX1_greeting_0 rfl (lv_at hl 1 rfl) ?_
  refine lv_iconst (v := 5) hx hb dX1_greeting_1 (by decide) ?_
  have hPc := hP.sub (ws' := [(qt, .inr (9, [.int tr]))]) [1] rfl
  have hDc := hD.sub (ws' := [(qt, .inr (9, [.int tr]))]) [1] (by decide) rfl
  have hKc := hK.sub (tys' := []) [] rfl
  have hFc := va_free (wc := [(qt, .inr (9, [.int tr]))]) hD hS hA [1] rfl
  refine va_callv (va_runV (As := [.int 5]) (rest := []) ⟨hx, hb, hml, hown, hts⟩ (s_leave l dC dI  _ qt tr 5 ) (cwV 1 hts gX1_greeting_X9_leave rfl rfl rfl (by decide +kernel) ⟨Nat.le_of_ble_eq_true rfl, Nat.le_of_ble_eq_true rfl⟩) (pw_preV (va_recv hKc hPc (ci := 9) (q0 := 0) rfl rfl) hPc hKc hDc hN) rfl rfl hl.1 rfl (lv_room (Nat.le_of_ble_eq_true rfl)) dX1_greeting_2 ⟨Nat.le_of_ble_eq_true rfl, Nat.le_of_ble_eq_true rfl⟩) hS (fun q _ h => hFc q h) hFc (fun u t H1 locs ht hvm hw hB hz1 hk1 hS => ?_)
  obtain ⟨hP1, hK1, hD1⟩ := hB
  rw [ht] at hP1
  obtain ⟨hP, hD⟩ := va_join (wr := [(qg, .inr (4, [.int gn, .int gt, .int gl, .long ow]))]) (w1 := [(qt, .inr (9, [.int ((31 * tr) + 5)]))]) hP hD [1] [0] rfl rfl (by decide) (by decide) hk1 hFc hP1 hD1
  generalize H1 = H at hP hS ⊢
  have hP : va_P (dC, dI) vwCl [(qg, .inr (4, [.int gn, .int gt, .int gl, .long ow])), (qt, .inr (9, [.int ((31 * tr) + 5)]))] H := hP
  have hD : va_D _ [(qg, .inr (4, [.int gn, .int gt, .int gl, .long ow])), (qt, .inr (9, [.int ((31 * tr) + 5)]))] := hD
  refine lv_bipush (v := 6) hx hb dX1_greeting_5 (by decide) ?_
  subst hQ
  have hP9 := hP.sub (ws' := [(qg, .inr (4, [.int gn, .int gt, .int gl, .long ow])), (qt, .inr (9, [.int ((31 * tr) + 5)]))]) [0, 1] rfl
  have hD9 := hD.sub (ws' := [(qg, .inr (4, [.int gn, .int gt, .int gl, .long ow])), (qt, .inr (9, [.int ((31 * tr) + 5)]))]) [0, 1] (by decide) rfl
  have hK9 := hK.sub (tys' := []) [] rfl
  exact W.iret (v := 6) hx hb hr (fun t ht hW => ⟨⟨6, (), rfl, rfl, ⟨by rw [ht]; exact hP9, va_K.moved hW.alike hK9, hD9⟩⟩, hS.F ht⟩) hS.2.2 dX1_greeting_7
set_option maxHeartbeats 4000000 in
set_option maxRecDepth 100000 in
theorem s_greet_4 (l : Launch) (dC : Nat → ClassId) (dI : Nat → Nat → Nat)  (sz : Nat) (qg : Nat) (gn : Int32) (gt : Int32) (gl : Int32) (ow : Int64) (qt : Nat) (tr : Int32)  : Met l yX4_greeting wsX4_greeting ({ frames := 2, cells := 0, slots := 0, locals := 60 }) (pw (dC, dI) [] [(qg, .inr (4, [.int gn, .int gt, .int gl, .long ow])), (qt, .inr (9, [.int tr]))] sz [.ref qg, .ref qt]) (va_Qi (fun r (_ : Unit) => r = 7) (fun _ t => bw (dC, dI) [] (va_A [(qg, .inr (4, [.int gn, .int gt, .int gl, .long ow])), (qt, .inr (9, [.int tr]))] sz) [(qg, .inr (4, [.int gn, .int gt, .int gl, .long ow])), (qt, .inr (9, [.int ((31 * ((31 * tr) + 6)) + 5)]))] t) (va_A [(qg, .inr (4, [.int gn, .int gt, .int gl, .long ow])), (qt, .inr (9, [.int tr]))] sz)) 0 0 (va_A [(qg, .inr (4, [.int gn, .int gt, .int gl, .long ow])), (qt, .inr (9, [.int tr]))] sz) := by
  refine pw_met (cc := cX4_greeting) (maxL := 2) (ret := (some .int)) (by decide) rfl (Nat.le_of_ble_eq_true rfl) ?_
  intro p e s m below meth c0 hx hb hr hml hown hlocks hnm hts hP hK hD hN hsz hA hS ls hl
  subst hsz
  have hl : lv_has ls 2 [(0, .ref qg), (1, .ref qt)] := hl
  generalize hQ : MQ _ _ _ _ _ _ _ = Q
  refine lv_aload_n hx hb dX4_greeting_0 rfl (lv_at hl 1 rfl) ?_
  refine lv_bipush (v := 6) hx hb dX4_greeting_1 (by decide) ?_
  have hPc := hP.sub (ws' := [(qt, .inr (9, [.int tr]))]) [1] rfl
  have hDc := hD.sub (ws' := [(qt, .inr (9, [.int tr]))]) [1] (by decide) rfl
  have hKc := hK.sub (tys' := []) [] rfl
  have hFc := va_free (wc := [(qt, .inr (9, [.int tr]))]) hD hS hA [1] rfl
  refine va_callv (va_runV (As := [.int 6]) (rest := []) ⟨hx, hb, hml, hown, hts⟩ (s_leave l dC dI  _ qt tr 6 ) (cwV 1 hts gX4_greeting_X9_leave rfl rfl rfl (by decide +kernel) ⟨Nat.le_of_ble_eq_true rfl, Nat.le_of_ble_eq_true rfl⟩) (pw_preV (va_recv hKc hPc (ci := 9) (q0 := 0) rfl rfl) hPc hKc hDc hN) rfl rfl hl.1 rfl (lv_room (Nat.le_of_ble_eq_true rfl)) dX4_greeting_3 ⟨Nat.le_of_ble_eq_true rfl, Nat.le_of_ble_eq_true rfl⟩) hS (fun q _ h => hFc q h) hFc (fun u t H1 locs ht hvm hw hB hz1 hk1 hS => ?_)
  obtain ⟨hP1, hK1, hD1⟩ := hB
  rw [ht] at hP1
  obtain ⟨hP, hD⟩ := va_join (wr := [(qg, .inr (4, [.int gn, .int gt, .int gl, .long ow]))]) (w1 := [(qt, .inr (9, [.int ((31 * tr) + 6)]))]) hP hD [1] [0] rfl rfl (by decide) (by decide) hk1 hFc hP1 hD1
  generalize H1 = H at hP hS ⊢
  have hP : va_P (dC, dI) vwCl [(qg, .inr (4, [.int gn, .int gt, .int gl, .long ow])), (qt, .inr (9, [.int ((31 * tr) + 6)]))] H := hP
  have hD : va_D _ [(qg, .inr (4, [.int gn, .int gt, .int gl, .long ow])), (qt, .inr (9, [.int ((31 * tr) + 6)]))] := hD
  refine lv_aload_n hx hb dX4_greeting_6 rfl (lv_at hl 0 rfl) ?_
  refine lv_aload_n hx hb dX4_greeting_7 rfl (lv_at hl 1 rfl) ?_
  have hPc := hP.sub (ws' := [(qg, .inr (4, [.int gn, .int gt, .int gl, .long ow])), (qt, .inr (9, [.int ((31 * tr) + 6)]))]) [0, 1] rfl
  have hDc := hD.sub (ws' := [(qg, .inr (4, [.int gn, .int gt, .int gl, .long ow])), (qt, .inr (9, [.int ((31 * tr) + 6)]))]) [0, 1] (by decide) rfl
  have hKc := hK.sub (tys' := []) [] rfl
  have hFc := va_free (wc := [(qg, .inr (4, [.int gn, .int gt, .int gl, .long ow])), (qt, .inr (9, [.int ((31 * tr) + 6)]))]) hD hS hA [0, 1] rfl
  refine va_calli (va_runSU (As := [.ref qt]) (rest := []) ((hKc.1 4 _ rfl).2) ⟨hx, hb, hml, hown, hts⟩ (s_greet_1_4 l dC dI  _ qg gn gt gl ow qt ((31 * tr) + 6) ) (va_cwSU 1 hts gX4_greeting_X1_greeting_s24 rfl rfl rfl (by decide +kernel) ⟨Nat.le_of_ble_eq_true rfl, Nat.le_of_ble_eq_true rfl⟩) (pw_preV (va_recv hKc hPc (ci := 4) (q0 := 0) rfl rfl) hPc hKc hDc hN) rfl rfl hl.1 rfl (lv_room (Nat.le_of_ble_eq_true rfl)) dX4_greeting_8 ⟨Nat.le_of_ble_eq_true rfl, Nat.le_of_ble_eq_true rfl⟩) hS (fun q _ h => hFc q h) hFc (fun r2 u t H1 locs ht hvm hw hB hz1 hk1 hS => ?_)
  have hr2 : r2 = 6 := hw
  obtain ⟨hP1, hK1, hD1⟩ := hB
  rw [ht] at hP1
  obtain ⟨hP, hD⟩ := va_join (wr := []) (w1 := [(qg, .inr (4, [.int gn, .int gt, .int gl, .long ow])), (qt, .inr (9, [.int ((31 * ((31 * tr) + 6)) + 5)]))]) hP hD [0, 1] [] rfl rfl (by decide) (by decide) hk1 hFc hP1 hD1
  generalize H1 = H at hP hS ⊢
  have hP : va_P (dC, dI) vwCl [(qg, .inr (4, [.int gn, .int gt, .int gl, .long ow])), (qt, .inr (9, [.int ((31 * ((31 * tr) + 6)) + 5)]))] H := hP
  have hD : va_D _ [(qg, .inr (4, [.int gn, .int gt, .int gl, .long ow])), (qt, .inr (9, [.int ((31 * ((31 * tr) + 6)) + 5)]))] := hD
  refine lv_iconst (v := 1) hx hb dX4_greeting_11 (by decide) ?_
  refine lv_iadd hx hb dX4_greeting_12 ?_
  subst hQ
  have hP9 := hP.sub (ws' := [(qg, .inr (4, [.int gn, .int gt, .int gl, .long ow])), (qt, .inr (9, [.int ((31 * ((31 * tr) + 6)) + 5)]))]) [0, 1] rfl
  have hD9 := hD.sub (ws' := [(qg, .inr (4, [.int gn, .int gt, .int gl, .long ow])), (qt, .inr (9, [.int ((31 * ((31 * tr) + 6)) + 5)]))]) [0, 1] (by decide) rfl
  have hK9 := hK.sub (tys' := []) [] rfl
  exact W.iret (v := r2 + 1) hx hb hr (fun t ht hW => ⟨⟨r2 + 1, (), rfl, (by rw [hr2]; decide), ⟨by rw [ht]; exact hP9, va_K.moved hW.alike hK9, hD9⟩⟩, hS.F ht⟩) hS.2.2 dX4_greeting_13
set_option maxHeartbeats 4000000 in
set_option maxRecDepth 100000 in
theorem s_debtTaken_1 (l : Launch) (dC : Nat → ClassId) (dI : Nat → Nat → Nat)  (sz : Nat) (qg : Nat) (gn : Int32) (gt : Int32) (gl : Int32) (ow : Int64)  : Met l yX2_debtTaken wsX2_debtTaken ({ frames := 0, cells := 0, slots := 0, locals := 0 }) (pw (dC, dI) [] [(qg, .inr (1, [.int gn, .int gt, .int gl, .long ow]))] sz [.ref qg]) (vp_Sl (fun r => r = ow)) 0 0 (fun _ => False) := by
  refine pw_met (cc := cX2_debtTaken) (maxL := 1) (ret := (some .long)) (by decide) rfl (Nat.le_of_ble_eq_true rfl) ?_
  intro p e s m below meth c0 hx hb hr hml hown hlocks hnm hts hP hK hD hN hsz hA hS ls hl
  have hl : lv_has ls 1 [(0, .ref qg)] := hl
  have hiX1 : ∀ w ∈ wsX10, w ∈ wsX2_debtTaken := fun _ h => List.mem_cons_of_mem _ (List.mem_append_left _ (List.mem_append_left _ (List.mem_append_right _ (h))))
  generalize hQ : MQ _ _ _ _ _ _ _ = Q
  refine lv_aload_n hx hb dX2_debtTaken_0 rfl (lv_at hl 0 rfl) ?_
  refine va_get (D := (dC, dI)) (ci := 1) (v := .long ow) (C := RX1) (T := TX1) (N := 4) hx hb hts hiX1 hown hK hP 0 rfl rfl 3 (by decide) (hts (.fieldLink RX2 15 "TributePitches$Gang" "owed" "J") (List.mem_of_getElem? (i := 1) rfl)) (fun _ h9 => h9) rfl dX2_debtTaken_1 ?_
  subst hQ
  exact W.lret (v := ow) hx hb hr (fun t ht hW => ⟨ow, rfl, rfl, ht⟩) (fun q h => absurd h List.not_mem_nil) dX2_debtTaken_4
set_option maxHeartbeats 4000000 in
set_option maxRecDepth 100000 in
theorem s_debtTaken_2 (l : Launch) (dC : Nat → ClassId) (dI : Nat → Nat → Nat)  (sz : Nat) (qg : Nat) (gn : Int32) (gt : Int32) (gl : Int32) (ow : Int64)  : Met l yX2_debtTaken wsX2_debtTaken ({ frames := 0, cells := 0, slots := 0, locals := 0 }) (pw (dC, dI) [] [(qg, .inr (2, [.int gn, .int gt, .int gl, .long ow]))] sz [.ref qg]) (vp_Sl (fun r => r = ow)) 0 0 (fun _ => False) := by
  refine pw_met (cc := cX2_debtTaken) (maxL := 1) (ret := (some .long)) (by decide) rfl (Nat.le_of_ble_eq_true rfl) ?_
  intro p e s m below meth c0 hx hb hr hml hown hlocks hnm hts hP hK hD hN hsz hA hS ls hl
  have hl : lv_has ls 1 [(0, .ref qg)] := hl
  have hiX2 : ∀ w ∈ wsX20, w ∈ wsX2_debtTaken := fun _ h => List.mem_cons_of_mem _ (List.mem_append_left _ (List.mem_append_right _ (h)))
  generalize hQ : MQ _ _ _ _ _ _ _ = Q
  refine lv_aload_n hx hb dX2_debtTaken_0 rfl (lv_at hl 0 rfl) ?_
  refine va_get (D := (dC, dI)) (ci := 2) (v := .long ow) (C := RX2) (T := TX2) (N := 4) hx hb hts hiX2 hown hK hP 0 rfl rfl 3 (by decide) (hts (.fieldLink RX2 15 "TributePitches$Gang" "owed" "J") (List.mem_of_getElem? (i := 1) rfl)) (fun _ h9 => h9) rfl dX2_debtTaken_1 ?_
  subst hQ
  exact W.lret (v := ow) hx hb hr (fun t ht hW => ⟨ow, rfl, rfl, ht⟩) (fun q h => absurd h List.not_mem_nil) dX2_debtTaken_4
set_option maxHeartbeats 4000000 in
set_option maxRecDepth 100000 in
theorem s_debtTaken_4 (l : Launch) (dC : Nat → ClassId) (dI : Nat → Nat → Nat)  (sz : Nat) (qg : Nat) (gn : Int32) (gt : Int32) (gl : Int32) (ow : Int64)  : Met l yX4_debtTaken wsX4_debtTaken ({ frames := 0, cells := 0, slots := 0, locals := 0 }) (pw (dC, dI) [] [(qg, .inr (4, [.int gn, .int gt, .int gl, .long ow]))] sz [.ref qg]) (vp_Sl (fun r => r = ow / 2)) 0 0 (fun _ => False) := by
  refine pw_met (cc := cX4_debtTaken) (maxL := 1) (ret := (some .long)) (by decide) rfl (Nat.le_of_ble_eq_true rfl) ?_
  intro p e s m below meth c0 hx hb hr hml hown hlocks hnm hts hP hK hD hN hsz hA hS ls hl
  have hl : lv_has ls 1 [(0, .ref qg)] := hl
  have hiX4 : ∀ w ∈ wsX40, w ∈ wsX4_debtTaken := fun _ h => List.mem_cons_of_mem _ (List.mem_append_right _ (h))
  generalize hQ : MQ _ _ _ _ _ _ _ = Q
  refine lv_aload_n hx hb dX4_debtTaken_0 rfl (lv_at hl 0 rfl) ?_
  refine va_get (D := (dC, dI)) (ci := 4) (v := .long ow) (C := RX4) (T := TX4) (N := 4) hx hb hts hiX4 hown hK hP 0 rfl rfl 3 (by decide) (hts (.fieldLink RX4 7 "TributePitches$OldHands" "owed" "J") (List.mem_of_getElem? (i := 1) rfl)) (fun x h => u_same (hts (.sameField "TributePitches$OldHands" "TributePitches$Gang" "owed" "J") (List.mem_of_getElem? (i := 2) rfl)) x h) rfl dX4_debtTaken_1 ?_
  refine lv_ldc2 (v := 2) hx hb hown (hts (.constantLong RX4 13 (2)) (List.mem_of_getElem? (i := 3) rfl)) dX4_debtTaken_4 ?_
  refine lv_ldiv hx hb dX4_debtTaken_7 (by decide) ?_
  subst hQ
  exact W.lret (v := ow / 2) hx hb hr (fun t ht hW => ⟨ow / 2, rfl, rfl, ht⟩) (fun q h => absurd h List.not_mem_nil) dX4_debtTaken_8
set_option maxHeartbeats 4000000 in
set_option maxRecDepth 100000 in
theorem s_costsBorne_2 (l : Launch) (dC : Nat → ClassId) (dI : Nat → Nat → Nat)  (sz : Nat) (qg : Nat) (gn : Int32) (gt : Int32) (gl : Int32) (ow : Int64) (co : Int64)  : Met l yX2_costsBorne wsX2_costsBorne ({ frames := 0, cells := 0, slots := 0, locals := 0 }) (pw (dC, dI) [] [(qg, .inr (2, [.int gn, .int gt, .int gl, .long ow]))] sz [.ref qg, .long co]) (vp_Sl (fun r => r = co)) 0 0 (fun _ => False) := by
  refine pw_met (cc := cX2_costsBorne) (maxL := 3) (ret := (some .long)) (by decide) rfl (Nat.le_of_ble_eq_true rfl) ?_
  intro p e s m below meth c0 hx hb hr hml hown hlocks hnm hts hP hK hD hN hsz hA hS ls hl
  have hl : lv_has ls 3 [(0, .ref qg), (1, .long co)] := hl
  generalize hQ : MQ _ _ _ _ _ _ _ = Q
  refine lv_lload_n hx hb dX2_costsBorne_0 rfl (lv_at hl 1 rfl) ?_
  subst hQ
  exact W.lret (v := co) hx hb hr (fun t ht hW => ⟨co, rfl, rfl, ht⟩) (fun q h => absurd h List.not_mem_nil) dX2_costsBorne_1
set_option maxHeartbeats 4000000 in
set_option maxRecDepth 100000 in
theorem s_costsBorne_1 (l : Launch) (dC : Nat → ClassId) (dI : Nat → Nat → Nat)  (sz : Nat) (qg : Nat) (gn : Int32) (gt : Int32) (gl : Int32) (ow : Int64) (co : Int64)  : Met l yX1_costsBorne wsX1_costsBorne ({ frames := 0, cells := 0, slots := 0, locals := 0 }) (pw (dC, dI) [] [(qg, .inr (1, [.int gn, .int gt, .int gl, .long ow]))] sz [.ref qg, .long co]) (vp_Sl (fun r => r = co / 2)) 0 0 (fun _ => False) := by
  refine pw_met (cc := cX1_costsBorne) (maxL := 3) (ret := (some .long)) (by decide) rfl (Nat.le_of_ble_eq_true rfl) ?_
  intro p e s m below meth c0 hx hb hr hml hown hlocks hnm hts hP hK hD hN hsz hA hS ls hl
  have hl : lv_has ls 3 [(0, .ref qg), (1, .long co)] := hl
  generalize hQ : MQ _ _ _ _ _ _ _ = Q
  refine lv_lload_n hx hb dX1_costsBorne_0 rfl (lv_at hl 1 rfl) ?_
  refine lv_ldc2 (v := 2) hx hb hown (hts (.constantLong RX1 7 (2)) (List.mem_of_getElem? (i := 1) rfl)) dX1_costsBorne_1 ?_
  refine lv_ldiv hx hb dX1_costsBorne_4 (by decide) ?_
  subst hQ
  exact W.lret (v := co / 2) hx hb hr (fun t ht hW => ⟨co / 2, rfl, rfl, ht⟩) (fun q h => absurd h List.not_mem_nil) dX1_costsBorne_5
set_option maxHeartbeats 4000000 in
set_option maxRecDepth 100000 in
theorem s_costsBorne_4 (l : Launch) (dC : Nat → ClassId) (dI : Nat → Nat → Nat)  (sz : Nat) (qg : Nat) (gn : Int32) (gt : Int32) (gl : Int32) (ow : Int64) (co : Int64)  : Met l yX1_costsBorne wsX1_costsBorne ({ frames := 0, cells := 0, slots := 0, locals := 0 }) (pw (dC, dI) [] [(qg, .inr (4, [.int gn, .int gt, .int gl, .long ow]))] sz [.ref qg, .long co]) (vp_Sl (fun r => r = co / 2)) 0 0 (fun _ => False) := by
  refine pw_met (cc := cX1_costsBorne) (maxL := 3) (ret := (some .long)) (by decide) rfl (Nat.le_of_ble_eq_true rfl) ?_
  intro p e s m below meth c0 hx hb hr hml hown hlocks hnm hts hP hK hD hN hsz hA hS ls hl
  have hl : lv_has ls 3 [(0, .ref qg), (1, .long co)] := hl
  generalize hQ : MQ _ _ _ _ _ _ _ = Q
  refine lv_lload_n hx hb dX1_costsBorne_0 rfl (lv_at hl 1 rfl) ?_
  refine lv_ldc2 (v := 2) hx hb hown (hts (.constantLong RX1 7 (2)) (List.mem_of_getElem? (i := 1) rfl)) dX1_costsBorne_1 ?_
  refine lv_ldiv hx hb dX1_costsBorne_4 (by decide) ?_
  subst hQ
  exact W.lret (v := co / 2) hx hb hr (fun t ht hW => ⟨co / 2, rfl, rfl, ht⟩) (fun q h => absurd h List.not_mem_nil) dX1_costsBorne_5
set_option maxHeartbeats 4000000 in
set_option maxRecDepth 100000 in
theorem s_X0_init (l : Launch) (dC : Nat → ClassId) (dI : Nat → Nat → Nat)  (sz : Nat) (qa : Nat) (qp : Nat) (sh : Int32)  : Met l yX0_init wsX0_init ({ frames := 1, cells := 0, slots := 0, locals := 12 }) (pw (dC, dI) [] [(qa, .inr (0, [.null, .int 0, .int 0, .null]))] sz [.ref qa, .ref qp, .int sh]) (va_Qv (fun (_ : Unit) => True) (fun _ t => bw (dC, dI) [] (va_A [(qa, .inr (0, [.null, .int 0, .int 0, .null]))] sz) [(qa, .inr (0, [.ref qp, .int sh, .int 0, .null]))] t) (va_A [(qa, .inr (0, [.null, .int 0, .int 0, .null]))] sz)) 0 0 (va_A [(qa, .inr (0, [.null, .int 0, .int 0, .null]))] sz) := by
  refine pw_met (cc := cX0_init) (maxL := 3) (ret := none) (by decide) rfl (Nat.le_of_ble_eq_true rfl) ?_
  intro p e s m below meth c0 hx hb hr hml hown hlocks hnm hts hP hK hD hN hsz hA hS ls hl
  subst hsz
  have hl : lv_has ls 3 [(0, .ref qa), (1, .ref qp), (2, .int sh)] := hl
  have hiX0 : ∀ w ∈ wsX00, w ∈ wsX0_init := fun _ h => List.mem_cons_of_mem _ (List.mem_append_right _ (h))
  generalize hQ : MQ _ _ _ _ _ _ _ = Q
  refine lv_aload_n hx hb dX0_init_0 rfl (lv_at hl 0 rfl) ?_
  refine W.objInit hx hb hown (hts (.methodLink RX0 1 objectInit) (List.mem_of_getElem? (i := 1) rfl)) (hts (.instanceMethod objectInit) (List.mem_of_getElem? (i := 2) rfl)) (hts _ (List.mem_of_getElem? (i := 3) rfl)) rfl (by rw [hml]; exact hl.1) rfl dX0_init_1 (Nat.le_of_ble_eq_true rfl) (Nat.le_of_ble_eq_true rfl) ?_
  refine W.eq (g2 := F0 m 4 ls []) rfl ?_
  refine lv_aload_n hx hb dX0_init_4 rfl (lv_at hl 0 rfl) ?_
  refine lv_aload_n hx hb dX0_init_5 rfl (lv_at hl 1 rfl) ?_
  refine va_putF (D := (dC, dI)) (ci := 0) (v := .ref qp) (ty := .object "TributePitches$Pitch") (C := RX0) (T := TX0) (N := 4) hx hb hts hiX0 tyX0 tyX0_ok nmX0 hown hK hP hD hS 0 rfl rfl 0 (by decide) (hts (.fieldLink RX0 7 "TributePitches$Auction" "pitch" "LTributePitches$Pitch;") (List.mem_of_getElem? (i := 4) rfl)) (fun _ h9 => h9) rfl hnm rfl (by decide +kernel) rfl rfl (Nat.le_of_ble_eq_true rfl) dX0_init_6 (fun H locs hP hD hS => ?_)
  have hP : va_P (dC, dI) vwCl [(qa, .inr (0, [.ref qp, .int 0, .int 0, .null]))] H := hP
  have hD : va_D _ [(qa, .inr (0, [.ref qp, .int 0, .int 0, .null]))] := hD
  refine lv_aload_n hx hb dX0_init_9 rfl (lv_at hl 0 rfl) ?_
  refine lv_iload_n hx hb dX0_init_10 rfl (lv_at hl 2 rfl) ?_
  refine va_put (D := (dC, dI)) (ci := 0) (v := .int sh) (ty := .int) (C := RX0) (T := TX0) (N := 4) hx hb hts hiX0 tyX0 tyX0_ok nmX0 hown hK hP hD hS 0 rfl rfl 1 (by decide) (hts (.fieldLink RX0 13 "TributePitches$Auction" "share" "I") (List.mem_of_getElem? (i := 5) rfl)) (fun _ h9 => h9) rfl (by decide +kernel) rfl rfl (Nat.le_of_ble_eq_true rfl) dX0_init_11 (fun H locs hP hD hS => ?_)
  have hP : va_P (dC, dI) vwCl [(qa, .inr (0, [.ref qp, .int sh, .int 0, .null]))] H := hP
  have hD : va_D _ [(qa, .inr (0, [.ref qp, .int sh, .int 0, .null]))] := hD
  subst hQ
  have hP9 := hP.sub (ws' := [(qa, .inr (0, [.ref qp, .int sh, .int 0, .null]))]) [0] rfl
  have hD9 := hD.sub (ws' := [(qa, .inr (0, [.ref qp, .int sh, .int 0, .null]))]) [0] (by decide) rfl
  have hK9 := hK.sub (tys' := []) [] rfl
  exact W.vret hx hb hr (fun t ht hW => ⟨⟨(), rfl, trivial, ⟨by rw [ht]; exact hP9, va_K.moved hW.alike hK9, hD9⟩⟩, hS.F ht⟩) hS.2.2 dX0_init_14
set_option maxHeartbeats 4000000 in
set_option maxRecDepth 100000 in
theorem s_mostShare (l : Launch) (dC : Nat → ClassId) (dI : Nat → Nat → Nat)  (sz : Nat) (qa : Nat) (a0 : Value) (a3 : Value) (sh : Int32) (bd : Int32)  : Met l yX0_mostShare wsX0_mostShare ({ frames := 0, cells := 0, slots := 0, locals := 0 }) (pw (dC, dI) [] [(qa, .inr (0, [a0, .int sh, .int bd, a3]))] sz [.ref qa]) (vp_Si (fun r => r = if bd = 0 then sh else sh - 1)) 0 0 (fun _ => False) := by
  refine pw_met (cc := cX0_mostShare) (maxL := 1) (ret := (some .int)) (by decide) rfl (Nat.le_of_ble_eq_true rfl) ?_
  intro p e s m below meth c0 hx hb hr hml hown hlocks hnm hts hP hK hD hN hsz hA hS ls hl
  have hl : lv_has ls 1 [(0, .ref qa)] := hl
  have hiX0 : ∀ w ∈ wsX00, w ∈ wsX0_mostShare := fun _ h => List.mem_cons_of_mem _ (List.mem_append_right _ (h))
  generalize hQ : MQ _ _ _ _ _ _ _ = Q
  refine lv_aload_n hx hb dX0_mostShare_0 rfl (lv_at hl 0 rfl) ?_
  refine va_get (D := (dC, dI)) (ci := 0) (v := .int bd) (C := RX0) (T := TX0) (N := 4) hx hb hts hiX0 hown hK hP 0 rfl rfl 2 (by decide) (hts (.fieldLink RX0 17 "TributePitches$Auction" "bids" "I") (List.mem_of_getElem? (i := 1) rfl)) (fun _ h9 => h9) rfl dX0_mostShare_1 ?_
  refine lv_if_ne (tgt := 14) hx hb dX0_mostShare_4 (by decide) (fun c1 => ?_) (fun c1 => ?_)
  · skip
    refine lv_aload_n hx hb dX0_mostShare_14 rfl (lv_at hl 0 rfl) ?_
    refine va_get (D := (dC, dI)) (ci := 0) (v := .int sh) (C := RX0) (T := TX0) (N := 4) hx hb hts hiX0 hown hK hP 0 rfl rfl 1 (by decide) (hts (.fieldLink RX0 13 "TributePitches$Auction" "share" "I") (List.mem_of_getElem? (i := 2) rfl)) (fun _ h9 => h9) rfl dX0_mostShare_15 ?_
    refine lv_iconst (v := 1) hx hb dX0_mostShare_18 (by decide) ?_
    refine lv_isub hx hb dX0_mostShare_19 ?_
    subst hQ
    exact W.iret (v := sh - 1) hx hb hr (fun t ht hW => ⟨sh - 1, rfl, (by simp [c1]), ht⟩) (fun q h => absurd h List.not_mem_nil) dX0_mostShare_20
  · skip
    refine lv_aload_n hx hb dX0_mostShare_7 rfl (lv_at hl 0 rfl) ?_
    refine va_get (D := (dC, dI)) (ci := 0) (v := .int sh) (C := RX0) (T := TX0) (N := 4) hx hb hts hiX0 hown hK hP 0 rfl rfl 1 (by decide) (hts (.fieldLink RX0 13 "TributePitches$Auction" "share" "I") (List.mem_of_getElem? (i := 2) rfl)) (fun _ h9 => h9) rfl dX0_mostShare_8 ?_
    refine lv_goto (tgt := 20) hx hb dX0_mostShare_11 (by decide) ?_
    subst hQ
    exact W.iret (v := sh) hx hb hr (fun t ht hW => ⟨sh, rfl, (by simp [c1]), ht⟩) (fun q h => absurd h List.not_mem_nil) dX0_mostShare_20
set_option maxHeartbeats 4000000 in
set_option maxRecDepth 100000 in
theorem s_X8_init (l : Launch) (dC : Nat → ClassId) (dI : Nat → Nat → Nat)  (sz : Nat) (qt : Nat) (qg : Nat) (qp : Nat) (nu : Int32) (sh : Int32)  : Met l yX8_init wsX8_init ({ frames := 1, cells := 0, slots := 0, locals := 12 }) (pw (dC, dI) [] [(qt, .inr (8, [.int 0, .int 0, .null, .null, .long 0, .long 0, .long 0, .long 0, .long 0, .long 0, .int 0, .int 0]))] sz [.ref qt, .int nu, .ref qg, .ref qp, .int sh]) (va_Qv (fun (_ : Unit) => True) (fun _ t => bw (dC, dI) [] (va_A [(qt, .inr (8, [.int 0, .int 0, .null, .null, .long 0, .long 0, .long 0, .long 0, .long 0, .long 0, .int 0, .int 0]))] sz) [(qt, .inr (8, [.int nu, .int sh, .ref qg, .ref qp, .long 0, .long 0, .long 0, .long 0, .long 0, .long 0, .int 0, .int 0]))] t) (va_A [(qt, .inr (8, [.int 0, .int 0, .null, .null, .long 0, .long 0, .long 0, .long 0, .long 0, .long 0, .int 0, .int 0]))] sz)) 0 0 (va_A [(qt, .inr (8, [.int 0, .int 0, .null, .null, .long 0, .long 0, .long 0, .long 0, .long 0, .long 0, .int 0, .int 0]))] sz) := by
  refine pw_met (cc := cX8_init) (maxL := 5) (ret := none) (by decide) rfl (Nat.le_of_ble_eq_true rfl) ?_
  intro p e s m below meth c0 hx hb hr hml hown hlocks hnm hts hP hK hD hN hsz hA hS ls hl
  subst hsz
  have hl : lv_has ls 5 [(0, .ref qt), (1, .int nu), (2, .ref qg), (3, .ref qp), (4, .int sh)] := hl
  have hiX8 : ∀ w ∈ wsX80, w ∈ wsX8_init := fun _ h => List.mem_cons_of_mem _ (List.mem_append_right _ (h))
  generalize hQ : MQ _ _ _ _ _ _ _ = Q
  refine lv_aload_n hx hb dX8_init_0 rfl (lv_at hl 0 rfl) ?_
  refine W.objInit hx hb hown (hts (.methodLink RX8 3 objectInit) (List.mem_of_getElem? (i := 1) rfl)) (hts (.instanceMethod objectInit) (List.mem_of_getElem? (i := 2) rfl)) (hts _ (List.mem_of_getElem? (i := 3) rfl)) rfl (by rw [hml]; exact hl.1) rfl dX8_init_1 (Nat.le_of_ble_eq_true rfl) (Nat.le_of_ble_eq_true rfl) ?_
  refine W.eq (g2 := F0 m 4 ls []) rfl ?_
  refine lv_aload_n hx hb dX8_init_4 rfl (lv_at hl 0 rfl) ?_
  refine lv_iload_n hx hb dX8_init_5 rfl (lv_at hl 1 rfl) ?_
  refine va_putF (D := (dC, dI)) (ci := 8) (v := .int nu) (ty := .int) (C := RX8) (T := TX8) (N := 12) hx hb hts hiX8 tyX8 tyX8_ok nmX8 hown hK hP hD hS 0 rfl rfl 0 (by decide) (hts (.fieldLink RX8 9 "TributePitches$Take" "number" "I") (List.mem_of_getElem? (i := 4) rfl)) (fun _ h9 => h9) rfl hnm rfl (by decide +kernel) rfl rfl (Nat.le_of_ble_eq_true rfl) dX8_init_6 (fun H locs hP hD hS => ?_)
  have hP : va_P (dC, dI) vwCl [(qt, .inr (8, [.int nu, .int 0, .null, .null, .long 0, .long 0, .long 0, .long 0, .long 0, .long 0, .int 0, .int 0]))] H := hP
  have hD : va_D _ [(qt, .inr (8, [.int nu, .int 0, .null, .null, .long 0, .long 0, .long 0, .long 0, .long 0, .long 0, .int 0, .int 0]))] := hD
  refine lv_aload_n hx hb dX8_init_9 rfl (lv_at hl 0 rfl) ?_
  refine lv_aload_n hx hb dX8_init_10 rfl (lv_at hl 2 rfl) ?_
  refine va_putF (D := (dC, dI)) (ci := 8) (v := .ref qg) (ty := .object "TributePitches$Gang") (C := RX8) (T := TX8) (N := 12) hx hb hts hiX8 tyX8 tyX8_ok nmX8 hown hK hP hD hS 0 rfl rfl 2 (by decide) (hts (.fieldLink RX8 15 "TributePitches$Take" "gang" "LTributePitches$Gang;") (List.mem_of_getElem? (i := 5) rfl)) (fun _ h9 => h9) rfl hnm rfl (by decide +kernel) rfl rfl (Nat.le_of_ble_eq_true rfl) dX8_init_11 (fun H locs hP hD hS => ?_)
  have hP : va_P (dC, dI) vwCl [(qt, .inr (8, [.int nu, .int 0, .ref qg, .null, .long 0, .long 0, .long 0, .long 0, .long 0, .long 0, .int 0, .int 0]))] H := hP
  have hD : va_D _ [(qt, .inr (8, [.int nu, .int 0, .ref qg, .null, .long 0, .long 0, .long 0, .long 0, .long 0, .long 0, .int 0, .int 0]))] := hD
  refine lv_aload_n hx hb dX8_init_14 rfl (lv_at hl 0 rfl) ?_
  refine lv_aload_n hx hb dX8_init_15 rfl (lv_at hl 3 rfl) ?_
  refine va_putF (D := (dC, dI)) (ci := 8) (v := .ref qp) (ty := .object "TributePitches$Pitch") (C := RX8) (T := TX8) (N := 12) hx hb hts hiX8 tyX8 tyX8_ok nmX8 hown hK hP hD hS 0 rfl rfl 3 (by decide) (hts (.fieldLink RX8 19 "TributePitches$Take" "pitch" "LTributePitches$Pitch;") (List.mem_of_getElem? (i := 6) rfl)) (fun _ h9 => h9) rfl hnm rfl (by decide +kernel) rfl rfl (Nat.le_of_ble_eq_true rfl) dX8_init_16 (fun H locs hP hD hS => ?_)
  have hP : va_P (dC, dI) vwCl [(qt, .inr (8, [.int nu, .int 0, .ref qg, .ref qp, .long 0, .long 0, .long 0, .long 0, .long 0, .long 0, .int 0, .int 0]))] H := hP
  have hD : va_D _ [(qt, .inr (8, [.int nu, .int 0, .ref qg, .ref qp, .long 0, .long 0, .long 0, .long 0, .long 0, .long 0, .int 0, .int 0]))] := hD
  refine lv_aload_n hx hb dX8_init_19 rfl (lv_at hl 0 rfl) ?_
  refine lv_iload hx hb dX8_init_20 (lv_at hl 4 rfl) ?_
  refine va_putF (D := (dC, dI)) (ci := 8) (v := .int sh) (ty := .int) (C := RX8) (T := TX8) (N := 12) hx hb hts hiX8 tyX8 tyX8_ok nmX8 hown hK hP hD hS 0 rfl rfl 1 (by decide) (hts (.fieldLink RX8 23 "TributePitches$Take" "share" "I") (List.mem_of_getElem? (i := 7) rfl)) (fun _ h9 => h9) rfl hnm rfl (by decide +kernel) rfl rfl (Nat.le_of_ble_eq_true rfl) dX8_init_22 (fun H locs hP hD hS => ?_)
  have hP : va_P (dC, dI) vwCl [(qt, .inr (8, [.int nu, .int sh, .ref qg, .ref qp, .long 0, .long 0, .long 0, .long 0, .long 0, .long 0, .int 0, .int 0]))] H := hP
  have hD : va_D _ [(qt, .inr (8, [.int nu, .int sh, .ref qg, .ref qp, .long 0, .long 0, .long 0, .long 0, .long 0, .long 0, .int 0, .int 0]))] := hD
  subst hQ
  have hP9 := hP.sub (ws' := [(qt, .inr (8, [.int nu, .int sh, .ref qg, .ref qp, .long 0, .long 0, .long 0, .long 0, .long 0, .long 0, .int 0, .int 0]))]) [0] rfl
  have hD9 := hD.sub (ws' := [(qt, .inr (8, [.int nu, .int sh, .ref qg, .ref qp, .long 0, .long 0, .long 0, .long 0, .long 0, .long 0, .int 0, .int 0]))]) [0] (by decide) rfl
  have hK9 := hK.sub (tys' := []) [] rfl
  exact W.vret hx hb hr (fun t ht hW => ⟨⟨(), rfl, trivial, ⟨by rw [ht]; exact hP9, va_K.moved hW.alike hK9, hD9⟩⟩, hS.F ht⟩) hS.2.2 dX8_init_25
set_option maxHeartbeats 4000000 in
set_option maxRecDepth 100000 in
theorem s_begin_1 (l : Launch) (dC : Nat → ClassId) (dI : Nat → Nat → Nat)  (sz : Nat) (qt : Nat) (qp : Nat) (qg : Nat) (gn : Int32) (gt : Int32) (gl : Int32) (ow : Int64) (k0 : Value) (k1 : Value) (k4 : Value) (k5 : Value) (k6 : Value) (k7 : Value) (k8 : Value) (k9 : Value) (k10 : Value) (k11 : Value) (p0 : Value) (p1 : Value) (p2 : Value) (p3 : Value) (p4 : Value) (p5 : Value) (p7 : Value) (pt : Int32)  : Met l yX8_begin wsX8_begin ({ frames := 0, cells := 0, slots := 0, locals := 0 }) (pw (dC, dI) [] [(qt, .inr (8, [k0, k1, .ref qg, .ref qp, k4, k5, k6, k7, k8, k9, k10, k11])), (qg, .inr (1, [.int gn, .int gt, .int gl, .long ow])), (qp, .inr (6, [p0, p1, p2, p3, p4, p5, .int pt, p7]))] sz [.ref qt]) (va_Qv (fun (_ : Unit) => True) (fun _ t => bw (dC, dI) [] (va_A [(qt, .inr (8, [k0, k1, .ref qg, .ref qp, k4, k5, k6, k7, k8, k9, k10, k11])), (qg, .inr (1, [.int gn, .int gt, .int gl, .long ow])), (qp, .inr (6, [p0, p1, p2, p3, p4, p5, .int pt, p7]))] sz) [(qt, .inr (8, [k0, k1, .ref qg, .ref qp, k4, k5, k6, k7, k8, k9, k10, k11])), (qg, .inr (1, [.int gn, .int (gt + 1), .int (gl + 1), .long ow])), (qp, .inr (6, [p0, p1, p2, p3, p4, p5, .int (pt + 1), .ref qt]))] t) (va_A [(qt, .inr (8, [k0, k1, .ref qg, .ref qp, k4, k5, k6, k7, k8, k9, k10, k11])), (qg, .inr (1, [.int gn, .int gt, .int gl, .long ow])), (qp, .inr (6, [p0, p1, p2, p3, p4, p5, .int pt, p7]))] sz)) 0 0 (va_A [(qt, .inr (8, [k0, k1, .ref qg, .ref qp, k4, k5, k6, k7, k8, k9, k10, k11])), (qg, .inr (1, [.int gn, .int gt, .int gl, .long ow])), (qp, .inr (6, [p0, p1, p2, p3, p4, p5, .int pt, p7]))] sz) := by
  refine pw_met (cc := cX8_begin) (maxL := 1) (ret := none) (by decide) rfl (Nat.le_of_ble_eq_true rfl) ?_
  intro p e s m below meth c0 hx hb hr hml hown hlocks hnm hts hP hK hD hN hsz hA hS ls hl
  subst hsz
  have hl : lv_has ls 1 [(0, .ref qt)] := hl
  have hiX1 : ∀ w ∈ wsX10, w ∈ wsX8_begin := fun _ h => List.mem_cons_of_mem _ (List.mem_append_left _ (List.mem_append_left _ (List.mem_append_right _ (h))))
  have hiX6 : ∀ w ∈ wsX60, w ∈ wsX8_begin := fun _ h => List.mem_cons_of_mem _ (List.mem_append_left _ (List.mem_append_left _ (List.mem_append_left _ (List.mem_append_right _ (h)))))
  have hiX8 : ∀ w ∈ wsX80, w ∈ wsX8_begin := fun _ h => List.mem_cons_of_mem _ (List.mem_append_left _ (List.mem_append_left _ (List.mem_append_left _ (List.mem_append_left _ (List.mem_append_right _ (h))))))
  generalize hQ : MQ _ _ _ _ _ _ _ = Q
  refine lv_aload_n hx hb dX8_begin_0 rfl (lv_at hl 0 rfl) ?_
  refine va_get (D := (dC, dI)) (ci := 8) (v := .ref qp) (C := RX8) (T := TX8) (N := 12) hx hb hts hiX8 hown hK hP 0 rfl rfl 3 (by decide) (hts (.fieldLink RX8 19 "TributePitches$Take" "pitch" "LTributePitches$Pitch;") (List.mem_of_getElem? (i := 1) rfl)) (fun _ h9 => h9) rfl dX8_begin_1 ?_
  refine lv_aload_n hx hb dX8_begin_4 rfl (lv_at hl 0 rfl) ?_
  refine va_put (D := (dC, dI)) (ci := 6) (v := .ref qt) (ty := .object "TributePitches$Take") (C := RX6) (T := TX6) (N := 8) hx hb hts hiX6 tyX6 tyX6_ok nmX6 hown hK hP hD hS 2 rfl rfl 7 (by decide) (hts (.fieldLink RX8 26 "TributePitches$Pitch" "take" "LTributePitches$Take;") (List.mem_of_getElem? (i := 2) rfl)) (fun _ h9 => h9) rfl (by decide +kernel) rfl rfl (Nat.le_of_ble_eq_true rfl) dX8_begin_5 (fun H locs hP hD hS => ?_)
  have hP : va_P (dC, dI) vwCl [(qt, .inr (8, [k0, k1, .ref qg, .ref qp, k4, k5, k6, k7, k8, k9, k10, k11])), (qg, .inr (1, [.int gn, .int gt, .int gl, .long ow])), (qp, .inr (6, [p0, p1, p2, p3, p4, p5, .int pt, .ref qt]))] H := hP
  have hD : va_D _ [(qt, .inr (8, [k0, k1, .ref qg, .ref qp, k4, k5, k6, k7, k8, k9, k10, k11])), (qg, .inr (1, [.int gn, .int gt, .int gl, .long ow])), (qp, .inr (6, [p0, p1, p2, p3, p4, p5, .int pt, .ref qt]))] := hD
  refine lv_aload_n hx hb dX8_begin_8 rfl (lv_at hl 0 rfl) ?_
  refine va_get (D := (dC, dI)) (ci := 8) (v := .ref qp) (C := RX8) (T := TX8) (N := 12) hx hb hts hiX8 hown hK hP 0 rfl rfl 3 (by decide) (hts (.fieldLink RX8 19 "TributePitches$Take" "pitch" "LTributePitches$Pitch;") (List.mem_of_getElem? (i := 1) rfl)) (fun _ h9 => h9) rfl dX8_begin_9 ?_
  refine lv_dup hx hb dX8_begin_12 rfl ?_
  refine va_get (D := (dC, dI)) (ci := 6) (v := .int pt) (C := RX6) (T := TX6) (N := 8) hx hb hts hiX6 hown hK hP 2 rfl rfl 6 (by decide) (hts (.fieldLink RX8 32 "TributePitches$Pitch" "takesHad" "I") (List.mem_of_getElem? (i := 3) rfl)) (fun _ h9 => h9) rfl dX8_begin_13 ?_
  refine lv_iconst (v := 1) hx hb dX8_begin_16 (by decide) ?_
  refine lv_iadd hx hb dX8_begin_17 ?_
  refine va_put (D := (dC, dI)) (ci := 6) (v := .int (pt + 1)) (ty := .int) (C := RX6) (T := TX6) (N := 8) hx hb hts hiX6 tyX6 tyX6_ok nmX6 hown hK hP hD hS 2 rfl rfl 6 (by decide) (hts (.fieldLink RX8 32 "TributePitches$Pitch" "takesHad" "I") (List.mem_of_getElem? (i := 3) rfl)) (fun _ h9 => h9) rfl (by decide +kernel) rfl rfl (Nat.le_of_ble_eq_true rfl) dX8_begin_18 (fun H locs hP hD hS => ?_)
  have hP : va_P (dC, dI) vwCl [(qt, .inr (8, [k0, k1, .ref qg, .ref qp, k4, k5, k6, k7, k8, k9, k10, k11])), (qg, .inr (1, [.int gn, .int gt, .int gl, .long ow])), (qp, .inr (6, [p0, p1, p2, p3, p4, p5, .int (pt + 1), .ref qt]))] H := hP
  have hD : va_D _ [(qt, .inr (8, [k0, k1, .ref qg, .ref qp, k4, k5, k6, k7, k8, k9, k10, k11])), (qg, .inr (1, [.int gn, .int gt, .int gl, .long ow])), (qp, .inr (6, [p0, p1, p2, p3, p4, p5, .int (pt + 1), .ref qt]))] := hD
  refine lv_aload_n hx hb dX8_begin_21 rfl (lv_at hl 0 rfl) ?_
  refine va_get (D := (dC, dI)) (ci := 8) (v := .ref qg) (C := RX8) (T := TX8) (N := 12) hx hb hts hiX8 hown hK hP 0 rfl rfl 2 (by decide) (hts (.fieldLink RX8 15 "TributePitches$Take" "gang" "LTributePitches$Gang;") (List.mem_of_getElem? (i := 4) rfl)) (fun _ h9 => h9) rfl dX8_begin_22 ?_
  refine lv_dup hx hb dX8_begin_25 rfl ?_
  refine va_get (D := (dC, dI)) (ci := 1) (v := .int gt) (C := RX1) (T := TX1) (N := 4) hx hb hts hiX1 hown hK hP 1 rfl rfl 1 (by decide) (hts (.fieldLink RX8 35 "TributePitches$Gang" "takesHad" "I") (List.mem_of_getElem? (i := 5) rfl)) (fun _ h9 => h9) rfl dX8_begin_26 ?_
  refine lv_iconst (v := 1) hx hb dX8_begin_29 (by decide) ?_
  refine lv_iadd hx hb dX8_begin_30 ?_
  refine va_put (D := (dC, dI)) (ci := 1) (v := .int (gt + 1)) (ty := .int) (C := RX1) (T := TX1) (N := 4) hx hb hts hiX1 tyX1 tyX1_ok nmX1 hown hK hP hD hS 1 rfl rfl 1 (by decide) (hts (.fieldLink RX8 35 "TributePitches$Gang" "takesHad" "I") (List.mem_of_getElem? (i := 5) rfl)) (fun _ h9 => h9) rfl (by decide +kernel) rfl rfl (Nat.le_of_ble_eq_true rfl) dX8_begin_31 (fun H locs hP hD hS => ?_)
  have hP : va_P (dC, dI) vwCl [(qt, .inr (8, [k0, k1, .ref qg, .ref qp, k4, k5, k6, k7, k8, k9, k10, k11])), (qg, .inr (1, [.int gn, .int (gt + 1), .int gl, .long ow])), (qp, .inr (6, [p0, p1, p2, p3, p4, p5, .int (pt + 1), .ref qt]))] H := hP
  have hD : va_D _ [(qt, .inr (8, [k0, k1, .ref qg, .ref qp, k4, k5, k6, k7, k8, k9, k10, k11])), (qg, .inr (1, [.int gn, .int (gt + 1), .int gl, .long ow])), (qp, .inr (6, [p0, p1, p2, p3, p4, p5, .int (pt + 1), .ref qt]))] := hD
  refine lv_aload_n hx hb dX8_begin_34 rfl (lv_at hl 0 rfl) ?_
  refine va_get (D := (dC, dI)) (ci := 8) (v := .ref qg) (C := RX8) (T := TX8) (N := 12) hx hb hts hiX8 hown hK hP 0 rfl rfl 2 (by decide) (hts (.fieldLink RX8 15 "TributePitches$Take" "gang" "LTributePitches$Gang;") (List.mem_of_getElem? (i := 4) rfl)) (fun _ h9 => h9) rfl dX8_begin_35 ?_
  refine lv_dup hx hb dX8_begin_38 rfl ?_
  refine va_get (D := (dC, dI)) (ci := 1) (v := .int gl) (C := RX1) (T := TX1) (N := 4) hx hb hts hiX1 hown hK hP 1 rfl rfl 2 (by decide) (hts (.fieldLink RX8 38 "TributePitches$Gang" "letPitches" "I") (List.mem_of_getElem? (i := 6) rfl)) (fun _ h9 => h9) rfl dX8_begin_39 ?_
  refine lv_iconst (v := 1) hx hb dX8_begin_42 (by decide) ?_
  refine lv_iadd hx hb dX8_begin_43 ?_
  refine va_put (D := (dC, dI)) (ci := 1) (v := .int (gl + 1)) (ty := .int) (C := RX1) (T := TX1) (N := 4) hx hb hts hiX1 tyX1 tyX1_ok nmX1 hown hK hP hD hS 1 rfl rfl 2 (by decide) (hts (.fieldLink RX8 38 "TributePitches$Gang" "letPitches" "I") (List.mem_of_getElem? (i := 6) rfl)) (fun _ h9 => h9) rfl (by decide +kernel) rfl rfl (Nat.le_of_ble_eq_true rfl) dX8_begin_44 (fun H locs hP hD hS => ?_)
  have hP : va_P (dC, dI) vwCl [(qt, .inr (8, [k0, k1, .ref qg, .ref qp, k4, k5, k6, k7, k8, k9, k10, k11])), (qg, .inr (1, [.int gn, .int (gt + 1), .int (gl + 1), .long ow])), (qp, .inr (6, [p0, p1, p2, p3, p4, p5, .int (pt + 1), .ref qt]))] H := hP
  have hD : va_D _ [(qt, .inr (8, [k0, k1, .ref qg, .ref qp, k4, k5, k6, k7, k8, k9, k10, k11])), (qg, .inr (1, [.int gn, .int (gt + 1), .int (gl + 1), .long ow])), (qp, .inr (6, [p0, p1, p2, p3, p4, p5, .int (pt + 1), .ref qt]))] := hD
  subst hQ
  have hP9 := hP.sub (ws' := [(qt, .inr (8, [k0, k1, .ref qg, .ref qp, k4, k5, k6, k7, k8, k9, k10, k11])), (qg, .inr (1, [.int gn, .int (gt + 1), .int (gl + 1), .long ow])), (qp, .inr (6, [p0, p1, p2, p3, p4, p5, .int (pt + 1), .ref qt]))]) [0, 1, 2] rfl
  have hD9 := hD.sub (ws' := [(qt, .inr (8, [k0, k1, .ref qg, .ref qp, k4, k5, k6, k7, k8, k9, k10, k11])), (qg, .inr (1, [.int gn, .int (gt + 1), .int (gl + 1), .long ow])), (qp, .inr (6, [p0, p1, p2, p3, p4, p5, .int (pt + 1), .ref qt]))]) [0, 1, 2] (by decide) rfl
  have hK9 := hK.sub (tys' := []) [] rfl
  exact W.vret hx hb hr (fun t ht hW => ⟨⟨(), rfl, trivial, ⟨by rw [ht]; exact hP9, va_K.moved hW.alike hK9, hD9⟩⟩, hS.F ht⟩) hS.2.2 dX8_begin_47
set_option maxHeartbeats 4000000 in
set_option maxRecDepth 100000 in
theorem s_begin_2 (l : Launch) (dC : Nat → ClassId) (dI : Nat → Nat → Nat)  (sz : Nat) (qt : Nat) (qp : Nat) (qg : Nat) (gn : Int32) (gt : Int32) (gl : Int32) (ow : Int64) (k0 : Value) (k1 : Value) (k4 : Value) (k5 : Value) (k6 : Value) (k7 : Value) (k8 : Value) (k9 : Value) (k10 : Value) (k11 : Value) (p0 : Value) (p1 : Value) (p2 : Value) (p3 : Value) (p4 : Value) (p5 : Value) (p7 : Value) (pt : Int32)  : Met l yX8_begin wsX8_begin ({ frames := 0, cells := 0, slots := 0, locals := 0 }) (pw (dC, dI) [] [(qt, .inr (8, [k0, k1, .ref qg, .ref qp, k4, k5, k6, k7, k8, k9, k10, k11])), (qg, .inr (2, [.int gn, .int gt, .int gl, .long ow])), (qp, .inr (6, [p0, p1, p2, p3, p4, p5, .int pt, p7]))] sz [.ref qt]) (va_Qv (fun (_ : Unit) => True) (fun _ t => bw (dC, dI) [] (va_A [(qt, .inr (8, [k0, k1, .ref qg, .ref qp, k4, k5, k6, k7, k8, k9, k10, k11])), (qg, .inr (2, [.int gn, .int gt, .int gl, .long ow])), (qp, .inr (6, [p0, p1, p2, p3, p4, p5, .int pt, p7]))] sz) [(qt, .inr (8, [k0, k1, .ref qg, .ref qp, k4, k5, k6, k7, k8, k9, k10, k11])), (qg, .inr (2, [.int gn, .int (gt + 1), .int (gl + 1), .long ow])), (qp, .inr (6, [p0, p1, p2, p3, p4, p5, .int (pt + 1), .ref qt]))] t) (va_A [(qt, .inr (8, [k0, k1, .ref qg, .ref qp, k4, k5, k6, k7, k8, k9, k10, k11])), (qg, .inr (2, [.int gn, .int gt, .int gl, .long ow])), (qp, .inr (6, [p0, p1, p2, p3, p4, p5, .int pt, p7]))] sz)) 0 0 (va_A [(qt, .inr (8, [k0, k1, .ref qg, .ref qp, k4, k5, k6, k7, k8, k9, k10, k11])), (qg, .inr (2, [.int gn, .int gt, .int gl, .long ow])), (qp, .inr (6, [p0, p1, p2, p3, p4, p5, .int pt, p7]))] sz) := by
  refine pw_met (cc := cX8_begin) (maxL := 1) (ret := none) (by decide) rfl (Nat.le_of_ble_eq_true rfl) ?_
  intro p e s m below meth c0 hx hb hr hml hown hlocks hnm hts hP hK hD hN hsz hA hS ls hl
  subst hsz
  have hl : lv_has ls 1 [(0, .ref qt)] := hl
  have hiX2 : ∀ w ∈ wsX20, w ∈ wsX8_begin := fun _ h => List.mem_cons_of_mem _ (List.mem_append_left _ (List.mem_append_right _ (h)))
  have hiX6 : ∀ w ∈ wsX60, w ∈ wsX8_begin := fun _ h => List.mem_cons_of_mem _ (List.mem_append_left _ (List.mem_append_left _ (List.mem_append_left _ (List.mem_append_right _ (h)))))
  have hiX8 : ∀ w ∈ wsX80, w ∈ wsX8_begin := fun _ h => List.mem_cons_of_mem _ (List.mem_append_left _ (List.mem_append_left _ (List.mem_append_left _ (List.mem_append_left _ (List.mem_append_right _ (h))))))
  generalize hQ : MQ _ _ _ _ _ _ _ = Q
  refine lv_aload_n hx hb dX8_begin_0 rfl (lv_at hl 0 rfl) ?_
  refine va_get (D := (dC, dI)) (ci := 8) (v := .ref qp) (C := RX8) (T := TX8) (N := 12) hx hb hts hiX8 hown hK hP 0 rfl rfl 3 (by decide) (hts (.fieldLink RX8 19 "TributePitches$Take" "pitch" "LTributePitches$Pitch;") (List.mem_of_getElem? (i := 1) rfl)) (fun _ h9 => h9) rfl dX8_begin_1 ?_
  refine lv_aload_n hx hb dX8_begin_4 rfl (lv_at hl 0 rfl) ?_
  refine va_put (D := (dC, dI)) (ci := 6) (v := .ref qt) (ty := .object "TributePitches$Take") (C := RX6) (T := TX6) (N := 8) hx hb hts hiX6 tyX6 tyX6_ok nmX6 hown hK hP hD hS 2 rfl rfl 7 (by decide) (hts (.fieldLink RX8 26 "TributePitches$Pitch" "take" "LTributePitches$Take;") (List.mem_of_getElem? (i := 2) rfl)) (fun _ h9 => h9) rfl (by decide +kernel) rfl rfl (Nat.le_of_ble_eq_true rfl) dX8_begin_5 (fun H locs hP hD hS => ?_)
  have hP : va_P (dC, dI) vwCl [(qt, .inr (8, [k0, k1, .ref qg, .ref qp, k4, k5, k6, k7, k8, k9, k10, k11])), (qg, .inr (2, [.int gn, .int gt, .int gl, .long ow])), (qp, .inr (6, [p0, p1, p2, p3, p4, p5, .int pt, .ref qt]))] H := hP
  have hD : va_D _ [(qt, .inr (8, [k0, k1, .ref qg, .ref qp, k4, k5, k6, k7, k8, k9, k10, k11])), (qg, .inr (2, [.int gn, .int gt, .int gl, .long ow])), (qp, .inr (6, [p0, p1, p2, p3, p4, p5, .int pt, .ref qt]))] := hD
  refine lv_aload_n hx hb dX8_begin_8 rfl (lv_at hl 0 rfl) ?_
  refine va_get (D := (dC, dI)) (ci := 8) (v := .ref qp) (C := RX8) (T := TX8) (N := 12) hx hb hts hiX8 hown hK hP 0 rfl rfl 3 (by decide) (hts (.fieldLink RX8 19 "TributePitches$Take" "pitch" "LTributePitches$Pitch;") (List.mem_of_getElem? (i := 1) rfl)) (fun _ h9 => h9) rfl dX8_begin_9 ?_
  refine lv_dup hx hb dX8_begin_12 rfl ?_
  refine va_get (D := (dC, dI)) (ci := 6) (v := .int pt) (C := RX6) (T := TX6) (N := 8) hx hb hts hiX6 hown hK hP 2 rfl rfl 6 (by decide) (hts (.fieldLink RX8 32 "TributePitches$Pitch" "takesHad" "I") (List.mem_of_getElem? (i := 3) rfl)) (fun _ h9 => h9) rfl dX8_begin_13 ?_
  refine lv_iconst (v := 1) hx hb dX8_begin_16 (by decide) ?_
  refine lv_iadd hx hb dX8_begin_17 ?_
  refine va_put (D := (dC, dI)) (ci := 6) (v := .int (pt + 1)) (ty := .int) (C := RX6) (T := TX6) (N := 8) hx hb hts hiX6 tyX6 tyX6_ok nmX6 hown hK hP hD hS 2 rfl rfl 6 (by decide) (hts (.fieldLink RX8 32 "TributePitches$Pitch" "takesHad" "I") (List.mem_of_getElem? (i := 3) rfl)) (fun _ h9 => h9) rfl (by decide +kernel) rfl rfl (Nat.le_of_ble_eq_true rfl) dX8_begin_18 (fun H locs hP hD hS => ?_)
  have hP : va_P (dC, dI) vwCl [(qt, .inr (8, [k0, k1, .ref qg, .ref qp, k4, k5, k6, k7, k8, k9, k10, k11])), (qg, .inr (2, [.int gn, .int gt, .int gl, .long ow])), (qp, .inr (6, [p0, p1, p2, p3, p4, p5, .int (pt + 1), .ref qt]))] H := hP
  have hD : va_D _ [(qt, .inr (8, [k0, k1, .ref qg, .ref qp, k4, k5, k6, k7, k8, k9, k10, k11])), (qg, .inr (2, [.int gn, .int gt, .int gl, .long ow])), (qp, .inr (6, [p0, p1, p2, p3, p4, p5, .int (pt + 1), .ref qt]))] := hD
  refine lv_aload_n hx hb dX8_begin_21 rfl (lv_at hl 0 rfl) ?_
  refine va_get (D := (dC, dI)) (ci := 8) (v := .ref qg) (C := RX8) (T := TX8) (N := 12) hx hb hts hiX8 hown hK hP 0 rfl rfl 2 (by decide) (hts (.fieldLink RX8 15 "TributePitches$Take" "gang" "LTributePitches$Gang;") (List.mem_of_getElem? (i := 4) rfl)) (fun _ h9 => h9) rfl dX8_begin_22 ?_
  refine lv_dup hx hb dX8_begin_25 rfl ?_
  refine va_get (D := (dC, dI)) (ci := 2) (v := .int gt) (C := RX2) (T := TX2) (N := 4) hx hb hts hiX2 hown hK hP 1 rfl rfl 1 (by decide) (hts (.fieldLink RX8 35 "TributePitches$Gang" "takesHad" "I") (List.mem_of_getElem? (i := 5) rfl)) (fun _ h9 => h9) rfl dX8_begin_26 ?_
  refine lv_iconst (v := 1) hx hb dX8_begin_29 (by decide) ?_
  refine lv_iadd hx hb dX8_begin_30 ?_
  refine va_put (D := (dC, dI)) (ci := 2) (v := .int (gt + 1)) (ty := .int) (C := RX2) (T := TX2) (N := 4) hx hb hts hiX2 tyX2 tyX2_ok nmX2 hown hK hP hD hS 1 rfl rfl 1 (by decide) (hts (.fieldLink RX8 35 "TributePitches$Gang" "takesHad" "I") (List.mem_of_getElem? (i := 5) rfl)) (fun _ h9 => h9) rfl (by decide +kernel) rfl rfl (Nat.le_of_ble_eq_true rfl) dX8_begin_31 (fun H locs hP hD hS => ?_)
  have hP : va_P (dC, dI) vwCl [(qt, .inr (8, [k0, k1, .ref qg, .ref qp, k4, k5, k6, k7, k8, k9, k10, k11])), (qg, .inr (2, [.int gn, .int (gt + 1), .int gl, .long ow])), (qp, .inr (6, [p0, p1, p2, p3, p4, p5, .int (pt + 1), .ref qt]))] H := hP
  have hD : va_D _ [(qt, .inr (8, [k0, k1, .ref qg, .ref qp, k4, k5, k6, k7, k8, k9, k10, k11])), (qg, .inr (2, [.int gn, .int (gt + 1), .int gl, .long ow])), (qp, .inr (6, [p0, p1, p2, p3, p4, p5, .int (pt + 1), .ref qt]))] := hD
  refine lv_aload_n hx hb dX8_begin_34 rfl (lv_at hl 0 rfl) ?_
  refine va_get (D := (dC, dI)) (ci := 8) (v := .ref qg) (C := RX8) (T := TX8) (N := 12) hx hb hts hiX8 hown hK hP 0 rfl rfl 2 (by decide) (hts (.fieldLink RX8 15 "TributePitches$Take" "gang" "LTributePitches$Gang;") (List.mem_of_getElem? (i := 4) rfl)) (fun _ h9 => h9) rfl dX8_begin_35 ?_
  refine lv_dup hx hb dX8_begin_38 rfl ?_
  refine va_get (D := (dC, dI)) (ci := 2) (v := .int gl) (C := RX2) (T := TX2) (N := 4) hx hb hts hiX2 hown hK hP 1 rfl rfl 2 (by decide) (hts (.fieldLink RX8 38 "TributePitches$Gang" "letPitches" "I") (List.mem_of_getElem? (i := 6) rfl)) (fun _ h9 => h9) rfl dX8_begin_39 ?_
  refine lv_iconst (v := 1) hx hb dX8_begin_42 (by decide) ?_
  refine lv_iadd hx hb dX8_begin_43 ?_
  refine va_put (D := (dC, dI)) (ci := 2) (v := .int (gl + 1)) (ty := .int) (C := RX2) (T := TX2) (N := 4) hx hb hts hiX2 tyX2 tyX2_ok nmX2 hown hK hP hD hS 1 rfl rfl 2 (by decide) (hts (.fieldLink RX8 38 "TributePitches$Gang" "letPitches" "I") (List.mem_of_getElem? (i := 6) rfl)) (fun _ h9 => h9) rfl (by decide +kernel) rfl rfl (Nat.le_of_ble_eq_true rfl) dX8_begin_44 (fun H locs hP hD hS => ?_)
  have hP : va_P (dC, dI) vwCl [(qt, .inr (8, [k0, k1, .ref qg, .ref qp, k4, k5, k6, k7, k8, k9, k10, k11])), (qg, .inr (2, [.int gn, .int (gt + 1), .int (gl + 1), .long ow])), (qp, .inr (6, [p0, p1, p2, p3, p4, p5, .int (pt + 1), .ref qt]))] H := hP
  have hD : va_D _ [(qt, .inr (8, [k0, k1, .ref qg, .ref qp, k4, k5, k6, k7, k8, k9, k10, k11])), (qg, .inr (2, [.int gn, .int (gt + 1), .int (gl + 1), .long ow])), (qp, .inr (6, [p0, p1, p2, p3, p4, p5, .int (pt + 1), .ref qt]))] := hD
  subst hQ
  have hP9 := hP.sub (ws' := [(qt, .inr (8, [k0, k1, .ref qg, .ref qp, k4, k5, k6, k7, k8, k9, k10, k11])), (qg, .inr (2, [.int gn, .int (gt + 1), .int (gl + 1), .long ow])), (qp, .inr (6, [p0, p1, p2, p3, p4, p5, .int (pt + 1), .ref qt]))]) [0, 1, 2] rfl
  have hD9 := hD.sub (ws' := [(qt, .inr (8, [k0, k1, .ref qg, .ref qp, k4, k5, k6, k7, k8, k9, k10, k11])), (qg, .inr (2, [.int gn, .int (gt + 1), .int (gl + 1), .long ow])), (qp, .inr (6, [p0, p1, p2, p3, p4, p5, .int (pt + 1), .ref qt]))]) [0, 1, 2] (by decide) rfl
  have hK9 := hK.sub (tys' := []) [] rfl
  exact W.vret hx hb hr (fun t ht hW => ⟨⟨(), rfl, trivial, ⟨by rw [ht]; exact hP9, va_K.moved hW.alike hK9, hD9⟩⟩, hS.F ht⟩) hS.2.2 dX8_begin_47
set_option maxHeartbeats 4000000 in
set_option maxRecDepth 100000 in
theorem s_begin_4 (l : Launch) (dC : Nat → ClassId) (dI : Nat → Nat → Nat)  (sz : Nat) (qt : Nat) (qp : Nat) (qg : Nat) (gn : Int32) (gt : Int32) (gl : Int32) (ow : Int64) (k0 : Value) (k1 : Value) (k4 : Value) (k5 : Value) (k6 : Value) (k7 : Value) (k8 : Value) (k9 : Value) (k10 : Value) (k11 : Value) (p0 : Value) (p1 : Value) (p2 : Value) (p3 : Value) (p4 : Value) (p5 : Value) (p7 : Value) (pt : Int32)  : Met l yX8_begin wsX8_begin ({ frames := 0, cells := 0, slots := 0, locals := 0 }) (pw (dC, dI) [] [(qt, .inr (8, [k0, k1, .ref qg, .ref qp, k4, k5, k6, k7, k8, k9, k10, k11])), (qg, .inr (4, [.int gn, .int gt, .int gl, .long ow])), (qp, .inr (6, [p0, p1, p2, p3, p4, p5, .int pt, p7]))] sz [.ref qt]) (va_Qv (fun (_ : Unit) => True) (fun _ t => bw (dC, dI) [] (va_A [(qt, .inr (8, [k0, k1, .ref qg, .ref qp, k4, k5, k6, k7, k8, k9, k10, k11])), (qg, .inr (4, [.int gn, .int gt, .int gl, .long ow])), (qp, .inr (6, [p0, p1, p2, p3, p4, p5, .int pt, p7]))] sz) [(qt, .inr (8, [k0, k1, .ref qg, .ref qp, k4, k5, k6, k7, k8, k9, k10, k11])), (qg, .inr (4, [.int gn, .int (gt + 1), .int (gl + 1), .long ow])), (qp, .inr (6, [p0, p1, p2, p3, p4, p5, .int (pt + 1), .ref qt]))] t) (va_A [(qt, .inr (8, [k0, k1, .ref qg, .ref qp, k4, k5, k6, k7, k8, k9, k10, k11])), (qg, .inr (4, [.int gn, .int gt, .int gl, .long ow])), (qp, .inr (6, [p0, p1, p2, p3, p4, p5, .int pt, p7]))] sz)) 0 0 (va_A [(qt, .inr (8, [k0, k1, .ref qg, .ref qp, k4, k5, k6, k7, k8, k9, k10, k11])), (qg, .inr (4, [.int gn, .int gt, .int gl, .long ow])), (qp, .inr (6, [p0, p1, p2, p3, p4, p5, .int pt, p7]))] sz) := by
  refine pw_met (cc := cX8_begin) (maxL := 1) (ret := none) (by decide) rfl (Nat.le_of_ble_eq_true rfl) ?_
  intro p e s m below meth c0 hx hb hr hml hown hlocks hnm hts hP hK hD hN hsz hA hS ls hl
  subst hsz
  have hl : lv_has ls 1 [(0, .ref qt)] := hl
  have hiX4 : ∀ w ∈ wsX40, w ∈ wsX8_begin := fun _ h => List.mem_cons_of_mem _ (List.mem_append_right _ (h))
  have hiX6 : ∀ w ∈ wsX60, w ∈ wsX8_begin := fun _ h => List.mem_cons_of_mem _ (List.mem_append_left _ (List.mem_append_left _ (List.mem_append_left _ (List.mem_append_right _ (h)))))
  have hiX8 : ∀ w ∈ wsX80, w ∈ wsX8_begin := fun _ h => List.mem_cons_of_mem _ (List.mem_append_left _ (List.mem_append_left _ (List.mem_append_left _ (List.mem_append_left _ (List.mem_append_right _ (h))))))
  generalize hQ : MQ _ _ _ _ _ _ _ = Q
  refine lv_aload_n hx hb dX8_begin_0 rfl (lv_at hl 0 rfl) ?_
  refine va_get (D := (dC, dI)) (ci := 8) (v := .ref qp) (C := RX8) (T := TX8) (N := 12) hx hb hts hiX8 hown hK hP 0 rfl rfl 3 (by decide) (hts (.fieldLink RX8 19 "TributePitches$Take" "pitch" "LTributePitches$Pitch;") (List.mem_of_getElem? (i := 1) rfl)) (fun _ h9 => h9) rfl dX8_begin_1 ?_
  refine lv_aload_n hx hb dX8_begin_4 rfl (lv_at hl 0 rfl) ?_
  refine va_put (D := (dC, dI)) (ci := 6) (v := .ref qt) (ty := .object "TributePitches$Take") (C := RX6) (T := TX6) (N := 8) hx hb hts hiX6 tyX6 tyX6_ok nmX6 hown hK hP hD hS 2 rfl rfl 7 (by decide) (hts (.fieldLink RX8 26 "TributePitches$Pitch" "take" "LTributePitches$Take;") (List.mem_of_getElem? (i := 2) rfl)) (fun _ h9 => h9) rfl (by decide +kernel) rfl rfl (Nat.le_of_ble_eq_true rfl) dX8_begin_5 (fun H locs hP hD hS => ?_)
  have hP : va_P (dC, dI) vwCl [(qt, .inr (8, [k0, k1, .ref qg, .ref qp, k4, k5, k6, k7, k8, k9, k10, k11])), (qg, .inr (4, [.int gn, .int gt, .int gl, .long ow])), (qp, .inr (6, [p0, p1, p2, p3, p4, p5, .int pt, .ref qt]))] H := hP
  have hD : va_D _ [(qt, .inr (8, [k0, k1, .ref qg, .ref qp, k4, k5, k6, k7, k8, k9, k10, k11])), (qg, .inr (4, [.int gn, .int gt, .int gl, .long ow])), (qp, .inr (6, [p0, p1, p2, p3, p4, p5, .int pt, .ref qt]))] := hD
  refine lv_aload_n hx hb dX8_begin_8 rfl (lv_at hl 0 rfl) ?_
  refine va_get (D := (dC, dI)) (ci := 8) (v := .ref qp) (C := RX8) (T := TX8) (N := 12) hx hb hts hiX8 hown hK hP 0 rfl rfl 3 (by decide) (hts (.fieldLink RX8 19 "TributePitches$Take" "pitch" "LTributePitches$Pitch;") (List.mem_of_getElem? (i := 1) rfl)) (fun _ h9 => h9) rfl dX8_begin_9 ?_
  refine lv_dup hx hb dX8_begin_12 rfl ?_
  refine va_get (D := (dC, dI)) (ci := 6) (v := .int pt) (C := RX6) (T := TX6) (N := 8) hx hb hts hiX6 hown hK hP 2 rfl rfl 6 (by decide) (hts (.fieldLink RX8 32 "TributePitches$Pitch" "takesHad" "I") (List.mem_of_getElem? (i := 3) rfl)) (fun _ h9 => h9) rfl dX8_begin_13 ?_
  refine lv_iconst (v := 1) hx hb dX8_begin_16 (by decide) ?_
  refine lv_iadd hx hb dX8_begin_17 ?_
  refine va_put (D := (dC, dI)) (ci := 6) (v := .int (pt + 1)) (ty := .int) (C := RX6) (T := TX6) (N := 8) hx hb hts hiX6 tyX6 tyX6_ok nmX6 hown hK hP hD hS 2 rfl rfl 6 (by decide) (hts (.fieldLink RX8 32 "TributePitches$Pitch" "takesHad" "I") (List.mem_of_getElem? (i := 3) rfl)) (fun _ h9 => h9) rfl (by decide +kernel) rfl rfl (Nat.le_of_ble_eq_true rfl) dX8_begin_18 (fun H locs hP hD hS => ?_)
  have hP : va_P (dC, dI) vwCl [(qt, .inr (8, [k0, k1, .ref qg, .ref qp, k4, k5, k6, k7, k8, k9, k10, k11])), (qg, .inr (4, [.int gn, .int gt, .int gl, .long ow])), (qp, .inr (6, [p0, p1, p2, p3, p4, p5, .int (pt + 1), .ref qt]))] H := hP
  have hD : va_D _ [(qt, .inr (8, [k0, k1, .ref qg, .ref qp, k4, k5, k6, k7, k8, k9, k10, k11])), (qg, .inr (4, [.int gn, .int gt, .int gl, .long ow])), (qp, .inr (6, [p0, p1, p2, p3, p4, p5, .int (pt + 1), .ref qt]))] := hD
  refine lv_aload_n hx hb dX8_begin_21 rfl (lv_at hl 0 rfl) ?_
  refine va_get (D := (dC, dI)) (ci := 8) (v := .ref qg) (C := RX8) (T := TX8) (N := 12) hx hb hts hiX8 hown hK hP 0 rfl rfl 2 (by decide) (hts (.fieldLink RX8 15 "TributePitches$Take" "gang" "LTributePitches$Gang;") (List.mem_of_getElem? (i := 4) rfl)) (fun _ h9 => h9) rfl dX8_begin_22 ?_
  refine lv_dup hx hb dX8_begin_25 rfl ?_
  refine va_get (D := (dC, dI)) (ci := 4) (v := .int gt) (C := RX4) (T := TX4) (N := 4) hx hb hts hiX4 hown hK hP 1 rfl rfl 1 (by decide) (hts (.fieldLink RX8 35 "TributePitches$Gang" "takesHad" "I") (List.mem_of_getElem? (i := 5) rfl)) (fun _ h9 => h9) rfl dX8_begin_26 ?_
  refine lv_iconst (v := 1) hx hb dX8_begin_29 (by decide) ?_
  refine lv_iadd hx hb dX8_begin_30 ?_
  refine va_put (D := (dC, dI)) (ci := 4) (v := .int (gt + 1)) (ty := .int) (C := RX4) (T := TX4) (N := 4) hx hb hts hiX4 tyX4 tyX4_ok nmX4 hown hK hP hD hS 1 rfl rfl 1 (by decide) (hts (.fieldLink RX8 35 "TributePitches$Gang" "takesHad" "I") (List.mem_of_getElem? (i := 5) rfl)) (fun _ h9 => h9) rfl (by decide +kernel) rfl rfl (Nat.le_of_ble_eq_true rfl) dX8_begin_31 (fun H locs hP hD hS => ?_)
  have hP : va_P (dC, dI) vwCl [(qt, .inr (8, [k0, k1, .ref qg, .ref qp, k4, k5, k6, k7, k8, k9, k10, k11])), (qg, .inr (4, [.int gn, .int (gt + 1), .int gl, .long ow])), (qp, .inr (6, [p0, p1, p2, p3, p4, p5, .int (pt + 1), .ref qt]))] H := hP
  have hD : va_D _ [(qt, .inr (8, [k0, k1, .ref qg, .ref qp, k4, k5, k6, k7, k8, k9, k10, k11])), (qg, .inr (4, [.int gn, .int (gt + 1), .int gl, .long ow])), (qp, .inr (6, [p0, p1, p2, p3, p4, p5, .int (pt + 1), .ref qt]))] := hD
  refine lv_aload_n hx hb dX8_begin_34 rfl (lv_at hl 0 rfl) ?_
  refine va_get (D := (dC, dI)) (ci := 8) (v := .ref qg) (C := RX8) (T := TX8) (N := 12) hx hb hts hiX8 hown hK hP 0 rfl rfl 2 (by decide) (hts (.fieldLink RX8 15 "TributePitches$Take" "gang" "LTributePitches$Gang;") (List.mem_of_getElem? (i := 4) rfl)) (fun _ h9 => h9) rfl dX8_begin_35 ?_
  refine lv_dup hx hb dX8_begin_38 rfl ?_
  refine va_get (D := (dC, dI)) (ci := 4) (v := .int gl) (C := RX4) (T := TX4) (N := 4) hx hb hts hiX4 hown hK hP 1 rfl rfl 2 (by decide) (hts (.fieldLink RX8 38 "TributePitches$Gang" "letPitches" "I") (List.mem_of_getElem? (i := 6) rfl)) (fun _ h9 => h9) rfl dX8_begin_39 ?_
  refine lv_iconst (v := 1) hx hb dX8_begin_42 (by decide) ?_
  refine lv_iadd hx hb dX8_begin_43 ?_
  refine va_put (D := (dC, dI)) (ci := 4) (v := .int (gl + 1)) (ty := .int) (C := RX4) (T := TX4) (N := 4) hx hb hts hiX4 tyX4 tyX4_ok nmX4 hown hK hP hD hS 1 rfl rfl 2 (by decide) (hts (.fieldLink RX8 38 "TributePitches$Gang" "letPitches" "I") (List.mem_of_getElem? (i := 6) rfl)) (fun _ h9 => h9) rfl (by decide +kernel) rfl rfl (Nat.le_of_ble_eq_true rfl) dX8_begin_44 (fun H locs hP hD hS => ?_)
  have hP : va_P (dC, dI) vwCl [(qt, .inr (8, [k0, k1, .ref qg, .ref qp, k4, k5, k6, k7, k8, k9, k10, k11])), (qg, .inr (4, [.int gn, .int (gt + 1), .int (gl + 1), .long ow])), (qp, .inr (6, [p0, p1, p2, p3, p4, p5, .int (pt + 1), .ref qt]))] H := hP
  have hD : va_D _ [(qt, .inr (8, [k0, k1, .ref qg, .ref qp, k4, k5, k6, k7, k8, k9, k10, k11])), (qg, .inr (4, [.int gn, .int (gt + 1), .int (gl + 1), .long ow])), (qp, .inr (6, [p0, p1, p2, p3, p4, p5, .int (pt + 1), .ref qt]))] := hD
  subst hQ
  have hP9 := hP.sub (ws' := [(qt, .inr (8, [k0, k1, .ref qg, .ref qp, k4, k5, k6, k7, k8, k9, k10, k11])), (qg, .inr (4, [.int gn, .int (gt + 1), .int (gl + 1), .long ow])), (qp, .inr (6, [p0, p1, p2, p3, p4, p5, .int (pt + 1), .ref qt]))]) [0, 1, 2] rfl
  have hD9 := hD.sub (ws' := [(qt, .inr (8, [k0, k1, .ref qg, .ref qp, k4, k5, k6, k7, k8, k9, k10, k11])), (qg, .inr (4, [.int gn, .int (gt + 1), .int (gl + 1), .long ow])), (qp, .inr (6, [p0, p1, p2, p3, p4, p5, .int (pt + 1), .ref qt]))]) [0, 1, 2] (by decide) rfl
  have hK9 := hK.sub (tys' := []) [] rfl
  exact W.vret hx hb hr (fun t ht hW => ⟨⟨(), rfl, trivial, ⟨by rw [ht]; exact hP9, va_K.moved hW.alike hK9, hD9⟩⟩, hS.F ht⟩) hS.2.2 dX8_begin_47
set_option maxHeartbeats 4000000 in
set_option maxRecDepth 100000 in
theorem s_end_1 (l : Launch) (dC : Nat → ClassId) (dI : Nat → Nat → Nat)  (sz : Nat) (qt : Nat) (qp : Nat) (qg : Nat) (gn : Int32) (gt : Int32) (gl : Int32) (ow : Int64) (k0 : Value) (k4 : Value) (k5 : Value) (k9 : Value) (k10 : Value) (k11 : Value) (p0 : Value) (p1 : Value) (p2 : Value) (p3 : Value) (p4 : Value) (p5 : Value) (p6 : Value) (p7 : Value) (sh : Int32) (wo : Int64) (co : Int64) (ah : Int64)  : Met l yX8_end wsX8_end ({ frames := 1, cells := 0, slots := 0, locals := 30 }) (pw (dC, dI) [] [(qt, .inr (8, [k0, .int sh, .ref qg, .ref qp, k4, k5, .long wo, .long co, .long ah, k9, k10, k11])), (qg, .inr (1, [.int gn, .int gt, .int gl, .long ow])), (qp, .inr (6, [p0, p1, p2, p3, p4, p5, p6, p7]))] sz [.ref qt]) (va_Qv (fun (_ : Unit) => True) (fun _ t => bw (dC, dI) [] (va_A [(qt, .inr (8, [k0, .int sh, .ref qg, .ref qp, k4, k5, .long wo, .long co, .long ah, k9, k10, k11])), (qg, .inr (1, [.int gn, .int gt, .int gl, .long ow])), (qp, .inr (6, [p0, p1, p2, p3, p4, p5, p6, p7]))] sz) [(qt, .inr (8, [k0, .int sh, .ref qg, .ref qp, k4, k5, .long wo, .long co, .long ah, .long (if 0 < (((((sh.toInt64 * wo) / 240) - (co / 2)) - ah) - ow) then (((((sh.toInt64 * wo) / 240) - (co / 2)) - ah) - ow) else 0), k10, .int 1])), (qg, .inr (1, [.int gn, .int gt, .int (gl - 1), .long (ow + (((if 0 < (((((sh.toInt64 * wo) / 240) - (co / 2)) - ah) - ow) then (((((sh.toInt64 * wo) / 240) - (co / 2)) - ah) - ow) else 0) - (((((sh.toInt64 * wo) / 240) - (co / 2)) - ah) - ow)) - ow))])), (qp, .inr (6, [p0, p1, p2, p3, p4, p5, p6, .null]))] t) (va_A [(qt, .inr (8, [k0, .int sh, .ref qg, .ref qp, k4, k5, .long wo, .long co, .long ah, k9, k10, k11])), (qg, .inr (1, [.int gn, .int gt, .int gl, .long ow])), (qp, .inr (6, [p0, p1, p2, p3, p4, p5, p6, p7]))] sz)) 0 0 (va_A [(qt, .inr (8, [k0, .int sh, .ref qg, .ref qp, k4, k5, .long wo, .long co, .long ah, k9, k10, k11])), (qg, .inr (1, [.int gn, .int gt, .int gl, .long ow])), (qp, .inr (6, [p0, p1, p2, p3, p4, p5, p6, p7]))] sz) := by
  refine pw_met (cc := cX8_end) (maxL := 5) (ret := none) (by decide) rfl (Nat.le_of_ble_eq_true rfl) ?_
  intro p e s m below meth c0 hx hb hr hml hown hlocks hnm hts hP hK hD hN hsz hA hS ls hl
  subst hsz
  have hl : lv_has ls 5 [(0, .ref qt)] := hl
  have hiX1 : ∀ w ∈ wsX10, w ∈ wsX8_end := fun _ h => List.mem_cons_of_mem _ (List.mem_append_left _ (List.mem_append_left _ (List.mem_append_left _ (List.mem_append_right _ (h)))))
  have hiX6 : ∀ w ∈ wsX60, w ∈ wsX8_end := fun _ h => List.mem_cons_of_mem _ (List.mem_append_right _ (h))
  have hiX8 : ∀ w ∈ wsX80, w ∈ wsX8_end := fun _ h => List.mem_cons_of_mem _ (List.mem_append_left _ (List.mem_append_left _ (List.mem_append_left _ (List.mem_append_left _ (List.mem_append_right _ (h))))))
  generalize hQ : MQ _ _ _ _ _ _ _ = Q
  refine lv_aload_n hx hb dX8_end_0 rfl (lv_at hl 0 rfl) ?_
  refine va_get (D := (dC, dI)) (ci := 8) (v := .ref qg) (C := RX8) (T := TX8) (N := 12) hx hb hts hiX8 hown hK hP 0 rfl rfl 2 (by decide) (hts (.fieldLink RX8 15 "TributePitches$Take" "gang" "LTributePitches$Gang;") (List.mem_of_getElem? (i := 1) rfl)) (fun _ h9 => h9) rfl dX8_end_1 ?_
  have hPc := hP.sub (ws' := [(qg, .inr (1, [.int gn, .int gt, .int gl, .long ow]))]) [1] rfl
  have hDc := hD.sub (ws' := [(qg, .inr (1, [.int gn, .int gt, .int gl, .long ow]))]) [1] (by decide) rfl
  have hKc := hK.sub (tys' := []) [] rfl
  refine vp_callSl (va_Run.run (va_runU (As := []) (rest := []) ⟨hx, hb, hml, hown, hts⟩ (s_debtTaken_1 l dC dI  _ qg gn gt gl ow ) (va_cwU 0 hts gX8_end_X2_debtTaken_u41X1 rfl rfl rfl rfl (by decide +kernel) ⟨Nat.le_of_ble_eq_true rfl, Nat.le_of_ble_eq_true rfl⟩) (pw_preV (va_recv hKc hPc (ci := 1) (q0 := 0) rfl rfl) hPc hKc hDc hN) rfl rfl hl.1 rfl (lv_room (Nat.le_of_ble_eq_true rfl)) dX8_end_4 ⟨Nat.le_of_ble_eq_true rfl, Nat.le_of_ble_eq_true rfl⟩)) (fun r1 hr1 => ?_)
  have hr1 : r1 = ow := hr1
  have hr1 := hr1.symm
  subst hr1
  refine lv_lstore_n (lv' := [(1, .long ow), (0, .ref qt)]) hx hb dX8_end_7 rfl hl (by decide) rfl (fun ls hl => ?_)
  refine lv_aload_n hx hb dX8_end_8 rfl (lv_at hl 1 rfl) ?_
  refine va_get (D := (dC, dI)) (ci := 8) (v := .int sh) (C := RX8) (T := TX8) (N := 12) hx hb hts hiX8 hown hK hP 0 rfl rfl 1 (by decide) (hts (.fieldLink RX8 23 "TributePitches$Take" "share" "I") (List.mem_of_getElem? (i := 2) rfl)) (fun _ h9 => h9) rfl dX8_end_9 ?_
  refine lv_i2l (v := sh.toInt64) hx hb dX8_end_12 rfl ?_
  refine lv_aload_n hx hb dX8_end_13 rfl (lv_at hl 1 rfl) ?_
  refine va_get (D := (dC, dI)) (ci := 8) (v := .long wo) (C := RX8) (T := TX8) (N := 12) hx hb hts hiX8 hown hK hP 0 rfl rfl 6 (by decide) (hts (.fieldLink RX8 45 "TributePitches$Take" "worths" "J") (List.mem_of_getElem? (i := 3) rfl)) (fun _ h9 => h9) rfl dX8_end_14 ?_
  refine lv_lmul hx hb dX8_end_17 ?_
  refine lv_ldc2 (v := 240) hx hb hown (hts (.constantLong RX8 49 (240)) (List.mem_of_getElem? (i := 4) rfl)) dX8_end_18 ?_
  refine lv_ldiv hx hb dX8_end_21 (by decide) ?_
  refine lv_aload_n hx hb dX8_end_22 rfl (lv_at hl 1 rfl) ?_
  refine va_get (D := (dC, dI)) (ci := 8) (v := .ref qg) (C := RX8) (T := TX8) (N := 12) hx hb hts hiX8 hown hK hP 0 rfl rfl 2 (by decide) (hts (.fieldLink RX8 15 "TributePitches$Take" "gang" "LTributePitches$Gang;") (List.mem_of_getElem? (i := 1) rfl)) (fun _ h9 => h9) rfl dX8_end_23 ?_
  refine lv_aload_n hx hb dX8_end_26 rfl (lv_at hl 1 rfl) ?_
  refine va_get (D := (dC, dI)) (ci := 8) (v := .long co) (C := RX8) (T := TX8) (N := 12) hx hb hts hiX8 hown hK hP 0 rfl rfl 7 (by decide) (hts (.fieldLink RX8 51 "TributePitches$Take" "costs" "J") (List.mem_of_getElem? (i := 5) rfl)) (fun _ h9 => h9) rfl dX8_end_27 ?_
  have hPc := hP.sub (ws' := [(qg, .inr (1, [.int gn, .int gt, .int gl, .long ow]))]) [1] rfl
  have hDc := hD.sub (ws' := [(qg, .inr (1, [.int gn, .int gt, .int gl, .long ow]))]) [1] (by decide) rfl
  have hKc := hK.sub (tys' := []) [] rfl
  refine vp_callSl (va_Run.run (va_runU (As := [.long co]) (rest := [.long ((sh.toInt64 * wo) / 240)]) ⟨hx, hb, hml, hown, hts⟩ (s_costsBorne_1 l dC dI  _ qg gn gt gl ow co ) (va_cwO 1 hts gX8_end_X1_costsBorne_u54X1 rfl rfl rfl (b0 := cX2_costsBorne) (m0 := 3) (r0 := (some .long)) (by decide +kernel) (by decide +kernel) ⟨Nat.le_of_ble_eq_true rfl, Nat.le_of_ble_eq_true rfl⟩) (pw_preV (va_recv hKc hPc (ci := 1) (q0 := 0) rfl rfl) hPc hKc hDc hN) rfl rfl hl.1 rfl (lv_room (Nat.le_of_ble_eq_true rfl)) dX8_end_30 ⟨Nat.le_of_ble_eq_true rfl, Nat.le_of_ble_eq_true rfl⟩)) (fun r2 hr2 => ?_)
  have hr2 : r2 = co / 2 := hr2
  have hr2 := hr2.symm
  subst hr2
  refine lv_lsub hx hb dX8_end_33 ?_
  refine lv_aload_n hx hb dX8_end_34 rfl (lv_at hl 1 rfl) ?_
  refine va_get (D := (dC, dI)) (ci := 8) (v := .long ah) (C := RX8) (T := TX8) (N := 12) hx hb hts hiX8 hown hK hP 0 rfl rfl 8 (by decide) (hts (.fieldLink RX8 58 "TributePitches$Take" "ahead" "J") (List.mem_of_getElem? (i := 6) rfl)) (fun _ h9 => h9) rfl dX8_end_35 ?_
  refine lv_lsub hx hb dX8_end_38 ?_
  refine lv_lload_n hx hb dX8_end_39 rfl (lv_at hl 0 rfl) ?_
  refine lv_lsub hx hb dX8_end_40 ?_
  refine lv_lstore_n (lv' := [(3, .long (((((sh.toInt64 * wo) / 240) - (co / 2)) - ah) - ow)), (1, .long ow), (0, .ref qt)]) hx hb dX8_end_41 rfl hl (by decide) rfl (fun ls hl => ?_)
  refine lv_aload_n hx hb dX8_end_42 rfl (lv_at hl 2 rfl) ?_
  refine lv_lload_n hx hb dX8_end_43 rfl (lv_at hl 0 rfl) ?_
  refine lv_lconst (v := 0) hx hb dX8_end_44 (by decide) ?_
  refine va_mmax_long hx hb (hml.trans hl.1.symm) hown (hts (.methodLink RX8 61 Lib.MathLoose.max_long.x) (List.mem_of_getElem? (i := 7) rfl)) (hts (.static Lib.MathLoose.max_long.x) (List.mem_of_getElem? (i := 8) rfl)) (hts (.initialized "java/lang/Math") (List.mem_of_getElem? (i := 9) rfl)) (hts (.code Lib.MathLoose.max_long.x Lib.MathLoose.max_long.code 4 (some .long)) (List.mem_of_getElem? (i := 10) rfl)) (Nat.le_of_ble_eq_true rfl) (Nat.le_of_ble_eq_true rfl) (Nat.le_of_ble_eq_true rfl) (Nat.le_of_ble_eq_true rfl) dX8_end_45 ?_
  refine va_put (D := (dC, dI)) (ci := 8) (v := .long (if 0 < (((((sh.toInt64 * wo) / 240) - (co / 2)) - ah) - ow) then (((((sh.toInt64 * wo) / 240) - (co / 2)) - ah) - ow) else 0)) (ty := .long) (C := RX8) (T := TX8) (N := 12) hx hb hts hiX8 tyX8 tyX8_ok nmX8 hown hK hP hD hS 0 rfl rfl 9 (by decide) (hts (.fieldLink RX8 67 "TributePitches$Take" "pay" "J") (List.mem_of_getElem? (i := 11) rfl)) (fun _ h9 => h9) rfl (by decide +kernel) rfl rfl (Nat.le_of_ble_eq_true rfl) dX8_end_48 (fun H locs hP hD hS => ?_)
  have hP : va_P (dC, dI) vwCl [(qt, .inr (8, [k0, .int sh, .ref qg, .ref qp, k4, k5, .long wo, .long co, .long ah, .long (if 0 < (((((sh.toInt64 * wo) / 240) - (co / 2)) - ah) - ow) then (((((sh.toInt64 * wo) / 240) - (co / 2)) - ah) - ow) else 0), k10, k11])), (qg, .inr (1, [.int gn, .int gt, .int gl, .long ow])), (qp, .inr (6, [p0, p1, p2, p3, p4, p5, p6, p7]))] H := hP
  have hD : va_D _ [(qt, .inr (8, [k0, .int sh, .ref qg, .ref qp, k4, k5, .long wo, .long co, .long ah, .long (if 0 < (((((sh.toInt64 * wo) / 240) - (co / 2)) - ah) - ow) then (((((sh.toInt64 * wo) / 240) - (co / 2)) - ah) - ow) else 0), k10, k11])), (qg, .inr (1, [.int gn, .int gt, .int gl, .long ow])), (qp, .inr (6, [p0, p1, p2, p3, p4, p5, p6, p7]))] := hD
  refine lv_aload_n hx hb dX8_end_51 rfl (lv_at hl 2 rfl) ?_
  refine va_get (D := (dC, dI)) (ci := 8) (v := .ref qg) (C := RX8) (T := TX8) (N := 12) hx hb hts hiX8 hown hK hP 0 rfl rfl 2 (by decide) (hts (.fieldLink RX8 15 "TributePitches$Take" "gang" "LTributePitches$Gang;") (List.mem_of_getElem? (i := 1) rfl)) (fun _ h9 => h9) rfl dX8_end_52 ?_
  refine lv_dup hx hb dX8_end_55 rfl ?_
  refine va_get (D := (dC, dI)) (ci := 1) (v := .long ow) (C := RX1) (T := TX1) (N := 4) hx hb hts hiX1 hown hK hP 1 rfl rfl 3 (by decide) (hts (.fieldLink RX8 70 "TributePitches$Gang" "owed" "J") (List.mem_of_getElem? (i := 12) rfl)) (fun _ h9 => h9) rfl dX8_end_56 ?_
  refine lv_aload_n hx hb dX8_end_59 rfl (lv_at hl 2 rfl) ?_
  refine va_get (D := (dC, dI)) (ci := 8) (v := .long (if 0 < (((((sh.toInt64 * wo) / 240) - (co / 2)) - ah) - ow) then (((((sh.toInt64 * wo) / 240) - (co / 2)) - ah) - ow) else 0)) (C := RX8) (T := TX8) (N := 12) hx hb hts hiX8 hown hK hP 0 rfl rfl 9 (by decide) (hts (.fieldLink RX8 67 "TributePitches$Take" "pay" "J") (List.mem_of_getElem? (i := 11) rfl)) (fun _ h9 => h9) rfl dX8_end_60 ?_
  refine lv_lload_n hx hb dX8_end_63 rfl (lv_at hl 0 rfl) ?_
  refine lv_lsub hx hb dX8_end_64 ?_
  refine lv_lload_n hx hb dX8_end_65 rfl (lv_at hl 1 rfl) ?_
  refine lv_lsub hx hb dX8_end_66 ?_
  refine lv_ladd hx hb dX8_end_67 ?_
  refine va_put (D := (dC, dI)) (ci := 1) (v := .long (ow + (((if 0 < (((((sh.toInt64 * wo) / 240) - (co / 2)) - ah) - ow) then (((((sh.toInt64 * wo) / 240) - (co / 2)) - ah) - ow) else 0) - (((((sh.toInt64 * wo) / 240) - (co / 2)) - ah) - ow)) - ow))) (ty := .long) (C := RX1) (T := TX1) (N := 4) hx hb hts hiX1 tyX1 tyX1_ok nmX1 hown hK hP hD hS 1 rfl rfl 3 (by decide) (hts (.fieldLink RX8 70 "TributePitches$Gang" "owed" "J") (List.mem_of_getElem? (i := 12) rfl)) (fun _ h9 => h9) rfl (by decide +kernel) rfl rfl (Nat.le_of_ble_eq_true rfl) dX8_end_68 (fun H locs hP hD hS => ?_)
  have hP : va_P (dC, dI) vwCl [(qt, .inr (8, [k0, .int sh, .ref qg, .ref qp, k4, k5, .long wo, .long co, .long ah, .long (if 0 < (((((sh.toInt64 * wo) / 240) - (co / 2)) - ah) - ow) then (((((sh.toInt64 * wo) / 240) - (co / 2)) - ah) - ow) else 0), k10, k11])), (qg, .inr (1, [.int gn, .int gt, .int gl, .long (ow + (((if 0 < (((((sh.toInt64 * wo) / 240) - (co / 2)) - ah) - ow) then (((((sh.toInt64 * wo) / 240) - (co / 2)) - ah) - ow) else 0) - (((((sh.toInt64 * wo) / 240) - (co / 2)) - ah) - ow)) - ow))])), (qp, .inr (6, [p0, p1, p2, p3, p4, p5, p6, p7]))] H := hP
  have hD : va_D _ [(qt, .inr (8, [k0, .int sh, .ref qg, .ref qp, k4, k5, .long wo, .long co, .long ah, .long (if 0 < (((((sh.toInt64 * wo) / 240) - (co / 2)) - ah) - ow) then (((((sh.toInt64 * wo) / 240) - (co / 2)) - ah) - ow) else 0), k10, k11])), (qg, .inr (1, [.int gn, .int gt, .int gl, .long (ow + (((if 0 < (((((sh.toInt64 * wo) / 240) - (co / 2)) - ah) - ow) then (((((sh.toInt64 * wo) / 240) - (co / 2)) - ah) - ow) else 0) - (((((sh.toInt64 * wo) / 240) - (co / 2)) - ah) - ow)) - ow))])), (qp, .inr (6, [p0, p1, p2, p3, p4, p5, p6, p7]))] := hD
  refine lv_aload_n hx hb dX8_end_71 rfl (lv_at hl 2 rfl) ?_
  refine lv_iconst (v := 1) hx hb dX8_end_72 (by decide) ?_
  refine va_put (D := (dC, dI)) (ci := 8) (v := .int 1) (ty := .boolean) (C := RX8) (T := TX8) (N := 12) hx hb hts hiX8 tyX8 tyX8_ok nmX8 hown hK hP hD hS 0 rfl rfl 11 (by decide) (hts (.fieldLink RX8 73 "TributePitches$Take" "settled" "Z") (List.mem_of_getElem? (i := 13) rfl)) (fun _ h9 => h9) rfl (by decide +kernel) rfl rfl (Nat.le_of_ble_eq_true rfl) dX8_end_73 (fun H locs hP hD hS => ?_)
  have hP : va_P (dC, dI) vwCl [(qt, .inr (8, [k0, .int sh, .ref qg, .ref qp, k4, k5, .long wo, .long co, .long ah, .long (if 0 < (((((sh.toInt64 * wo) / 240) - (co / 2)) - ah) - ow) then (((((sh.toInt64 * wo) / 240) - (co / 2)) - ah) - ow) else 0), k10, .int 1])), (qg, .inr (1, [.int gn, .int gt, .int gl, .long (ow + (((if 0 < (((((sh.toInt64 * wo) / 240) - (co / 2)) - ah) - ow) then (((((sh.toInt64 * wo) / 240) - (co / 2)) - ah) - ow) else 0) - (((((sh.toInt64 * wo) / 240) - (co / 2)) - ah) - ow)) - ow))])), (qp, .inr (6, [p0, p1, p2, p3, p4, p5, p6, p7]))] H := hP
  have hD : va_D _ [(qt, .inr (8, [k0, .int sh, .ref qg, .ref qp, k4, k5, .long wo, .long co, .long ah, .long (if 0 < (((((sh.toInt64 * wo) / 240) - (co / 2)) - ah) - ow) then (((((sh.toInt64 * wo) / 240) - (co / 2)) - ah) - ow) else 0), k10, .int 1])), (qg, .inr (1, [.int gn, .int gt, .int gl, .long (ow + (((if 0 < (((((sh.toInt64 * wo) / 240) - (co / 2)) - ah) - ow) then (((((sh.toInt64 * wo) / 240) - (co / 2)) - ah) - ow) else 0) - (((((sh.toInt64 * wo) / 240) - (co / 2)) - ah) - ow)) - ow))])), (qp, .inr (6, [p0, p1, p2, p3, p4, p5, p6, p7]))] := hD
  refine lv_aload_n hx hb dX8_end_76 rfl (lv_at hl 2 rfl) ?_
  refine va_get (D := (dC, dI)) (ci := 8) (v := .ref qg) (C := RX8) (T := TX8) (N := 12) hx hb hts hiX8 hown hK hP 0 rfl rfl 2 (by decide) (hts (.fieldLink RX8 15 "TributePitches$Take" "gang" "LTributePitches$Gang;") (List.mem_of_getElem? (i := 1) rfl)) (fun _ h9 => h9) rfl dX8_end_77 ?_
  refine lv_dup hx hb dX8_end_80 rfl ?_
  refine va_get (D := (dC, dI)) (ci := 1) (v := .int gl) (C := RX1) (T := TX1) (N := 4) hx hb hts hiX1 hown hK hP 1 rfl rfl 2 (by decide) (hts (.fieldLink RX8 38 "TributePitches$Gang" "letPitches" "I") (List.mem_of_getElem? (i := 14) rfl)) (fun _ h9 => h9) rfl dX8_end_81 ?_
  refine lv_iconst (v := 1) hx hb dX8_end_84 (by decide) ?_
  refine lv_isub hx hb dX8_end_85 ?_
  refine va_put (D := (dC, dI)) (ci := 1) (v := .int (gl - 1)) (ty := .int) (C := RX1) (T := TX1) (N := 4) hx hb hts hiX1 tyX1 tyX1_ok nmX1 hown hK hP hD hS 1 rfl rfl 2 (by decide) (hts (.fieldLink RX8 38 "TributePitches$Gang" "letPitches" "I") (List.mem_of_getElem? (i := 14) rfl)) (fun _ h9 => h9) rfl (by decide +kernel) rfl rfl (Nat.le_of_ble_eq_true rfl) dX8_end_86 (fun H locs hP hD hS => ?_)
  have hP : va_P (dC, dI) vwCl [(qt, .inr (8, [k0, .int sh, .ref qg, .ref qp, k4, k5, .long wo, .long co, .long ah, .long (if 0 < (((((sh.toInt64 * wo) / 240) - (co / 2)) - ah) - ow) then (((((sh.toInt64 * wo) / 240) - (co / 2)) - ah) - ow) else 0), k10, .int 1])), (qg, .inr (1, [.int gn, .int gt, .int (gl - 1), .long (ow + (((if 0 < (((((sh.toInt64 * wo) / 240) - (co / 2)) - ah) - ow) then (((((sh.toInt64 * wo) / 240) - (co / 2)) - ah) - ow) else 0) - (((((sh.toInt64 * wo) / 240) - (co / 2)) - ah) - ow)) - ow))])), (qp, .inr (6, [p0, p1, p2, p3, p4, p5, p6, p7]))] H := hP
  have hD : va_D _ [(qt, .inr (8, [k0, .int sh, .ref qg, .ref qp, k4, k5, .long wo, .long co, .long ah, .long (if 0 < (((((sh.toInt64 * wo) / 240) - (co / 2)) - ah) - ow) then (((((sh.toInt64 * wo) / 240) - (co / 2)) - ah) - ow) else 0), k10, .int 1])), (qg, .inr (1, [.int gn, .int gt, .int (gl - 1), .long (ow + (((if 0 < (((((sh.toInt64 * wo) / 240) - (co / 2)) - ah) - ow) then (((((sh.toInt64 * wo) / 240) - (co / 2)) - ah) - ow) else 0) - (((((sh.toInt64 * wo) / 240) - (co / 2)) - ah) - ow)) - ow))])), (qp, .inr (6, [p0, p1, p2, p3, p4, p5, p6, p7]))] := hD
  refine lv_aload_n hx hb dX8_end_89 rfl (lv_at hl 2 rfl) ?_
  refine va_get (D := (dC, dI)) (ci := 8) (v := .ref qp) (C := RX8) (T := TX8) (N := 12) hx hb hts hiX8 hown hK hP 0 rfl rfl 3 (by decide) (hts (.fieldLink RX8 19 "TributePitches$Take" "pitch" "LTributePitches$Pitch;") (List.mem_of_getElem? (i := 15) rfl)) (fun _ h9 => h9) rfl dX8_end_90 ?_
  refine lv_null hx hb dX8_end_93 ?_
  refine va_put (D := (dC, dI)) (ci := 6) (v := .null) (ty := .object "TributePitches$Take") (C := RX6) (T := TX6) (N := 8) hx hb hts hiX6 tyX6 tyX6_ok nmX6 hown hK hP hD hS 2 rfl rfl 7 (by decide) (hts (.fieldLink RX8 26 "TributePitches$Pitch" "take" "LTributePitches$Take;") (List.mem_of_getElem? (i := 16) rfl)) (fun _ h9 => h9) rfl (by decide +kernel) rfl rfl (Nat.le_of_ble_eq_true rfl) dX8_end_94 (fun H locs hP hD hS => ?_)
  have hP : va_P (dC, dI) vwCl [(qt, .inr (8, [k0, .int sh, .ref qg, .ref qp, k4, k5, .long wo, .long co, .long ah, .long (if 0 < (((((sh.toInt64 * wo) / 240) - (co / 2)) - ah) - ow) then (((((sh.toInt64 * wo) / 240) - (co / 2)) - ah) - ow) else 0), k10, .int 1])), (qg, .inr (1, [.int gn, .int gt, .int (gl - 1), .long (ow + (((if 0 < (((((sh.toInt64 * wo) / 240) - (co / 2)) - ah) - ow) then (((((sh.toInt64 * wo) / 240) - (co / 2)) - ah) - ow) else 0) - (((((sh.toInt64 * wo) / 240) - (co / 2)) - ah) - ow)) - ow))])), (qp, .inr (6, [p0, p1, p2, p3, p4, p5, p6, .null]))] H := hP
  have hD : va_D _ [(qt, .inr (8, [k0, .int sh, .ref qg, .ref qp, k4, k5, .long wo, .long co, .long ah, .long (if 0 < (((((sh.toInt64 * wo) / 240) - (co / 2)) - ah) - ow) then (((((sh.toInt64 * wo) / 240) - (co / 2)) - ah) - ow) else 0), k10, .int 1])), (qg, .inr (1, [.int gn, .int gt, .int (gl - 1), .long (ow + (((if 0 < (((((sh.toInt64 * wo) / 240) - (co / 2)) - ah) - ow) then (((((sh.toInt64 * wo) / 240) - (co / 2)) - ah) - ow) else 0) - (((((sh.toInt64 * wo) / 240) - (co / 2)) - ah) - ow)) - ow))])), (qp, .inr (6, [p0, p1, p2, p3, p4, p5, p6, .null]))] := hD
  subst hQ
  have hP9 := hP.sub (ws' := [(qt, .inr (8, [k0, .int sh, .ref qg, .ref qp, k4, k5, .long wo, .long co, .long ah, .long (if 0 < (((((sh.toInt64 * wo) / 240) - (co / 2)) - ah) - ow) then (((((sh.toInt64 * wo) / 240) - (co / 2)) - ah) - ow) else 0), k10, .int 1])), (qg, .inr (1, [.int gn, .int gt, .int (gl - 1), .long (ow + (((if 0 < (((((sh.toInt64 * wo) / 240) - (co / 2)) - ah) - ow) then (((((sh.toInt64 * wo) / 240) - (co / 2)) - ah) - ow) else 0) - (((((sh.toInt64 * wo) / 240) - (co / 2)) - ah) - ow)) - ow))])), (qp, .inr (6, [p0, p1, p2, p3, p4, p5, p6, .null]))]) [0, 1, 2] rfl
  have hD9 := hD.sub (ws' := [(qt, .inr (8, [k0, .int sh, .ref qg, .ref qp, k4, k5, .long wo, .long co, .long ah, .long (if 0 < (((((sh.toInt64 * wo) / 240) - (co / 2)) - ah) - ow) then (((((sh.toInt64 * wo) / 240) - (co / 2)) - ah) - ow) else 0), k10, .int 1])), (qg, .inr (1, [.int gn, .int gt, .int (gl - 1), .long (ow + (((if 0 < (((((sh.toInt64 * wo) / 240) - (co / 2)) - ah) - ow) then (((((sh.toInt64 * wo) / 240) - (co / 2)) - ah) - ow) else 0) - (((((sh.toInt64 * wo) / 240) - (co / 2)) - ah) - ow)) - ow))])), (qp, .inr (6, [p0, p1, p2, p3, p4, p5, p6, .null]))]) [0, 1, 2] (by decide) rfl
  have hK9 := hK.sub (tys' := []) [] rfl
  exact W.vret hx hb hr (fun t ht hW => ⟨⟨(), rfl, trivial, ⟨by rw [ht]; exact hP9, va_K.moved hW.alike hK9, hD9⟩⟩, hS.F ht⟩) hS.2.2 dX8_end_97
set_option maxHeartbeats 4000000 in
set_option maxRecDepth 100000 in
theorem s_end_2 (l : Launch) (dC : Nat → ClassId) (dI : Nat → Nat → Nat)  (sz : Nat) (qt : Nat) (qp : Nat) (qg : Nat) (gn : Int32) (gt : Int32) (gl : Int32) (ow : Int64) (k0 : Value) (k4 : Value) (k5 : Value) (k9 : Value) (k10 : Value) (k11 : Value) (p0 : Value) (p1 : Value) (p2 : Value) (p3 : Value) (p4 : Value) (p5 : Value) (p6 : Value) (p7 : Value) (sh : Int32) (wo : Int64) (co : Int64) (ah : Int64)  : Met l yX8_end wsX8_end ({ frames := 1, cells := 0, slots := 0, locals := 30 }) (pw (dC, dI) [] [(qt, .inr (8, [k0, .int sh, .ref qg, .ref qp, k4, k5, .long wo, .long co, .long ah, k9, k10, k11])), (qg, .inr (2, [.int gn, .int gt, .int gl, .long ow])), (qp, .inr (6, [p0, p1, p2, p3, p4, p5, p6, p7]))] sz [.ref qt]) (va_Qv (fun (_ : Unit) => True) (fun _ t => bw (dC, dI) [] (va_A [(qt, .inr (8, [k0, .int sh, .ref qg, .ref qp, k4, k5, .long wo, .long co, .long ah, k9, k10, k11])), (qg, .inr (2, [.int gn, .int gt, .int gl, .long ow])), (qp, .inr (6, [p0, p1, p2, p3, p4, p5, p6, p7]))] sz) [(qt, .inr (8, [k0, .int sh, .ref qg, .ref qp, k4, k5, .long wo, .long co, .long ah, .long (if 0 < (((((sh.toInt64 * wo) / 240) - co) - ah) - ow) then (((((sh.toInt64 * wo) / 240) - co) - ah) - ow) else 0), k10, .int 1])), (qg, .inr (2, [.int gn, .int gt, .int (gl - 1), .long (ow + (((if 0 < (((((sh.toInt64 * wo) / 240) - co) - ah) - ow) then (((((sh.toInt64 * wo) / 240) - co) - ah) - ow) else 0) - (((((sh.toInt64 * wo) / 240) - co) - ah) - ow)) - ow))])), (qp, .inr (6, [p0, p1, p2, p3, p4, p5, p6, .null]))] t) (va_A [(qt, .inr (8, [k0, .int sh, .ref qg, .ref qp, k4, k5, .long wo, .long co, .long ah, k9, k10, k11])), (qg, .inr (2, [.int gn, .int gt, .int gl, .long ow])), (qp, .inr (6, [p0, p1, p2, p3, p4, p5, p6, p7]))] sz)) 0 0 (va_A [(qt, .inr (8, [k0, .int sh, .ref qg, .ref qp, k4, k5, .long wo, .long co, .long ah, k9, k10, k11])), (qg, .inr (2, [.int gn, .int gt, .int gl, .long ow])), (qp, .inr (6, [p0, p1, p2, p3, p4, p5, p6, p7]))] sz) := by
  refine pw_met (cc := cX8_end) (maxL := 5) (ret := none) (by decide) rfl (Nat.le_of_ble_eq_true rfl) ?_
  intro p e s m below meth c0 hx hb hr hml hown hlocks hnm hts hP hK hD hN hsz hA hS ls hl
  subst hsz
  have hl : lv_has ls 5 [(0, .ref qt)] := hl
  have hiX2 : ∀ w ∈ wsX20, w ∈ wsX8_end := fun _ h => List.mem_cons_of_mem _ (List.mem_append_left _ (List.mem_append_left _ (List.mem_append_right _ (h))))
  have hiX6 : ∀ w ∈ wsX60, w ∈ wsX8_end := fun _ h => List.mem_cons_of_mem _ (List.mem_append_right _ (h))
  have hiX8 : ∀ w ∈ wsX80, w ∈ wsX8_end := fun _ h => List.mem_cons_of_mem _ (List.mem_append_left _ (List.mem_append_left _ (List.mem_append_left _ (List.mem_append_left _ (List.mem_append_right _ (h))))))
  generalize hQ : MQ _ _ _ _ _ _ _ = Q
  refine lv_aload_n hx hb dX8_end_0 rfl (lv_at hl 0 rfl) ?_
  refine va_get (D := (dC, dI)) (ci := 8) (v := .ref qg) (C := RX8) (T := TX8) (N := 12) hx hb hts hiX8 hown hK hP 0 rfl rfl 2 (by decide) (hts (.fieldLink RX8 15 "TributePitches$Take" "gang" "LTributePitches$Gang;") (List.mem_of_getElem? (i := 1) rfl)) (fun _ h9 => h9) rfl dX8_end_1 ?_
  have hPc := hP.sub (ws' := [(qg, .inr (2, [.int gn, .int gt, .int gl, .long ow]))]) [1] rfl
  have hDc := hD.sub (ws' := [(qg, .inr (2, [.int gn, .int gt, .int gl, .long ow]))]) [1] (by decide) rfl
  have hKc := hK.sub (tys' := []) [] rfl
  refine vp_callSl (va_Run.run (va_runV (As := []) (rest := []) ⟨hx, hb, hml, hown, hts⟩ (s_debtTaken_2 l dC dI  _ qg gn gt gl ow ) (cwV 0 hts gX8_end_X2_debtTaken rfl rfl rfl (by decide +kernel) ⟨Nat.le_of_ble_eq_true rfl, Nat.le_of_ble_eq_true rfl⟩) (pw_preV (va_recv hKc hPc (ci := 2) (q0 := 0) rfl rfl) hPc hKc hDc hN) rfl rfl hl.1 rfl (lv_room (Nat.le_of_ble_eq_true rfl)) dX8_end_4 ⟨Nat.le_of_ble_eq_true rfl, Nat.le_of_ble_eq_true rfl⟩)) (fun r1 hr1 => ?_)
  have hr1 : r1 = ow := hr1
  have hr1 := hr1.symm
  subst hr1
  refine lv_lstore_n (lv' := [(1, .long ow), (0, .ref qt)]) hx hb dX8_end_7 rfl hl (by decide) rfl (fun ls hl => ?_)
  refine lv_aload_n hx hb dX8_end_8 rfl (lv_at hl 1 rfl) ?_
  refine va_get (D := (dC, dI)) (ci := 8) (v := .int sh) (C := RX8) (T := TX8) (N := 12) hx hb hts hiX8 hown hK hP 0 rfl rfl 1 (by decide) (hts (.fieldLink RX8 23 "TributePitches$Take" "share" "I") (List.mem_of_getElem? (i := 2) rfl)) (fun _ h9 => h9) rfl dX8_end_9 ?_
  refine lv_i2l (v := sh.toInt64) hx hb dX8_end_12 rfl ?_
  refine lv_aload_n hx hb dX8_end_13 rfl (lv_at hl 1 rfl) ?_
  refine va_get (D := (dC, dI)) (ci := 8) (v := .long wo) (C := RX8) (T := TX8) (N := 12) hx hb hts hiX8 hown hK hP 0 rfl rfl 6 (by decide) (hts (.fieldLink RX8 45 "TributePitches$Take" "worths" "J") (List.mem_of_getElem? (i := 3) rfl)) (fun _ h9 => h9) rfl dX8_end_14 ?_
  refine lv_lmul hx hb dX8_end_17 ?_
  refine lv_ldc2 (v := 240) hx hb hown (hts (.constantLong RX8 49 (240)) (List.mem_of_getElem? (i := 4) rfl)) dX8_end_18 ?_
  refine lv_ldiv hx hb dX8_end_21 (by decide) ?_
  refine lv_aload_n hx hb dX8_end_22 rfl (lv_at hl 1 rfl) ?_
  refine va_get (D := (dC, dI)) (ci := 8) (v := .ref qg) (C := RX8) (T := TX8) (N := 12) hx hb hts hiX8 hown hK hP 0 rfl rfl 2 (by decide) (hts (.fieldLink RX8 15 "TributePitches$Take" "gang" "LTributePitches$Gang;") (List.mem_of_getElem? (i := 1) rfl)) (fun _ h9 => h9) rfl dX8_end_23 ?_
  refine lv_aload_n hx hb dX8_end_26 rfl (lv_at hl 1 rfl) ?_
  refine va_get (D := (dC, dI)) (ci := 8) (v := .long co) (C := RX8) (T := TX8) (N := 12) hx hb hts hiX8 hown hK hP 0 rfl rfl 7 (by decide) (hts (.fieldLink RX8 51 "TributePitches$Take" "costs" "J") (List.mem_of_getElem? (i := 5) rfl)) (fun _ h9 => h9) rfl dX8_end_27 ?_
  have hPc := hP.sub (ws' := [(qg, .inr (2, [.int gn, .int gt, .int gl, .long ow]))]) [1] rfl
  have hDc := hD.sub (ws' := [(qg, .inr (2, [.int gn, .int gt, .int gl, .long ow]))]) [1] (by decide) rfl
  have hKc := hK.sub (tys' := []) [] rfl
  refine vp_callSl (va_Run.run (va_runV (As := [.long co]) (rest := [.long ((sh.toInt64 * wo) / 240)]) ⟨hx, hb, hml, hown, hts⟩ (s_costsBorne_2 l dC dI  _ qg gn gt gl ow co ) (cwV 1 hts gX8_end_X2_costsBorne rfl rfl rfl (by decide +kernel) ⟨Nat.le_of_ble_eq_true rfl, Nat.le_of_ble_eq_true rfl⟩) (pw_preV (va_recv hKc hPc (ci := 2) (q0 := 0) rfl rfl) hPc hKc hDc hN) rfl rfl hl.1 rfl (lv_room (Nat.le_of_ble_eq_true rfl)) dX8_end_30 ⟨Nat.le_of_ble_eq_true rfl, Nat.le_of_ble_eq_true rfl⟩)) (fun r2 hr2 => ?_)
  have hr2 : r2 = co := hr2
  have hr2 := hr2.symm
  subst hr2
  refine lv_lsub hx hb dX8_end_33 ?_
  refine lv_aload_n hx hb dX8_end_34 rfl (lv_at hl 1 rfl) ?_
  refine va_get (D := (dC, dI)) (ci := 8) (v := .long ah) (C := RX8) (T := TX8) (N := 12) hx hb hts hiX8 hown hK hP 0 rfl rfl 8 (by decide) (hts (.fieldLink RX8 58 "TributePitches$Take" "ahead" "J") (List.mem_of_getElem? (i := 6) rfl)) (fun _ h9 => h9) rfl dX8_end_35 ?_
  refine lv_lsub hx hb dX8_end_38 ?_
  refine lv_lload_n hx hb dX8_end_39 rfl (lv_at hl 0 rfl) ?_
  refine lv_lsub hx hb dX8_end_40 ?_
  refine lv_lstore_n (lv' := [(3, .long (((((sh.toInt64 * wo) / 240) - co) - ah) - ow)), (1, .long ow), (0, .ref qt)]) hx hb dX8_end_41 rfl hl (by decide) rfl (fun ls hl => ?_)
  refine lv_aload_n hx hb dX8_end_42 rfl (lv_at hl 2 rfl) ?_
  refine lv_lload_n hx hb dX8_end_43 rfl (lv_at hl 0 rfl) ?_
  refine lv_lconst (v := 0) hx hb dX8_end_44 (by decide) ?_
  refine va_mmax_long hx hb (hml.trans hl.1.symm) hown (hts (.methodLink RX8 61 Lib.MathLoose.max_long.x) (List.mem_of_getElem? (i := 7) rfl)) (hts (.static Lib.MathLoose.max_long.x) (List.mem_of_getElem? (i := 8) rfl)) (hts (.initialized "java/lang/Math") (List.mem_of_getElem? (i := 9) rfl)) (hts (.code Lib.MathLoose.max_long.x Lib.MathLoose.max_long.code 4 (some .long)) (List.mem_of_getElem? (i := 10) rfl)) (Nat.le_of_ble_eq_true rfl) (Nat.le_of_ble_eq_true rfl) (Nat.le_of_ble_eq_true rfl) (Nat.le_of_ble_eq_true rfl) dX8_end_45 ?_
  refine va_put (D := (dC, dI)) (ci := 8) (v := .long (if 0 < (((((sh.toInt64 * wo) / 240) - co) - ah) - ow) then (((((sh.toInt64 * wo) / 240) - co) - ah) - ow) else 0)) (ty := .long) (C := RX8) (T := TX8) (N := 12) hx hb hts hiX8 tyX8 tyX8_ok nmX8 hown hK hP hD hS 0 rfl rfl 9 (by decide) (hts (.fieldLink RX8 67 "TributePitches$Take" "pay" "J") (List.mem_of_getElem? (i := 11) rfl)) (fun _ h9 => h9) rfl (by decide +kernel) rfl rfl (Nat.le_of_ble_eq_true rfl) dX8_end_48 (fun H locs hP hD hS => ?_)
  have hP : va_P (dC, dI) vwCl [(qt, .inr (8, [k0, .int sh, .ref qg, .ref qp, k4, k5, .long wo, .long co, .long ah, .long (if 0 < (((((sh.toInt64 * wo) / 240) - co) - ah) - ow) then (((((sh.toInt64 * wo) / 240) - co) - ah) - ow) else 0), k10, k11])), (qg, .inr (2, [.int gn, .int gt, .int gl, .long ow])), (qp, .inr (6, [p0, p1, p2, p3, p4, p5, p6, p7]))] H := hP
  have hD : va_D _ [(qt, .inr (8, [k0, .int sh, .ref qg, .ref qp, k4, k5, .long wo, .long co, .long ah, .long (if 0 < (((((sh.toInt64 * wo) / 240) - co) - ah) - ow) then (((((sh.toInt64 * wo) / 240) - co) - ah) - ow) else 0), k10, k11])), (qg, .inr (2, [.int gn, .int gt, .int gl, .long ow])), (qp, .inr (6, [p0, p1, p2, p3, p4, p5, p6, p7]))] := hD
  refine lv_aload_n hx hb dX8_end_51 rfl (lv_at hl 2 rfl) ?_
  refine va_get (D := (dC, dI)) (ci := 8) (v := .ref qg) (C := RX8) (T := TX8) (N := 12) hx hb hts hiX8 hown hK hP 0 rfl rfl 2 (by decide) (hts (.fieldLink RX8 15 "TributePitches$Take" "gang" "LTributePitches$Gang;") (List.mem_of_getElem? (i := 1) rfl)) (fun _ h9 => h9) rfl dX8_end_52 ?_
  refine lv_dup hx hb dX8_end_55 rfl ?_
  refine va_get (D := (dC, dI)) (ci := 2) (v := .long ow) (C := RX2) (T := TX2) (N := 4) hx hb hts hiX2 hown hK hP 1 rfl rfl 3 (by decide) (hts (.fieldLink RX8 70 "TributePitches$Gang" "owed" "J") (List.mem_of_getElem? (i := 12) rfl)) (fun _ h9 => h9) rfl dX8_end_56 ?_
  refine lv_aload_n hx hb dX8_end_59 rfl (lv_at hl 2 rfl) ?_
  refine va_get (D := (dC, dI)) (ci := 8) (v := .long (if 0 < (((((sh.toInt64 * wo) / 240) - co) - ah) - ow) then (((((sh.toInt64 * wo) / 240) - co) - ah) - ow) else 0)) (C := RX8) (T := TX8) (N := 12) hx hb hts hiX8 hown hK hP 0 rfl rfl 9 (by decide) (hts (.fieldLink RX8 67 "TributePitches$Take" "pay" "J") (List.mem_of_getElem? (i := 11) rfl)) (fun _ h9 => h9) rfl dX8_end_60 ?_
  refine lv_lload_n hx hb dX8_end_63 rfl (lv_at hl 0 rfl) ?_
  refine lv_lsub hx hb dX8_end_64 ?_
  refine lv_lload_n hx hb dX8_end_65 rfl (lv_at hl 1 rfl) ?_
  refine lv_lsub hx hb dX8_end_66 ?_
  refine lv_ladd hx hb dX8_end_67 ?_
  refine va_put (D := (dC, dI)) (ci := 2) (v := .long (ow + (((if 0 < (((((sh.toInt64 * wo) / 240) - co) - ah) - ow) then (((((sh.toInt64 * wo) / 240) - co) - ah) - ow) else 0) - (((((sh.toInt64 * wo) / 240) - co) - ah) - ow)) - ow))) (ty := .long) (C := RX2) (T := TX2) (N := 4) hx hb hts hiX2 tyX2 tyX2_ok nmX2 hown hK hP hD hS 1 rfl rfl 3 (by decide) (hts (.fieldLink RX8 70 "TributePitches$Gang" "owed" "J") (List.mem_of_getElem? (i := 12) rfl)) (fun _ h9 => h9) rfl (by decide +kernel) rfl rfl (Nat.le_of_ble_eq_true rfl) dX8_end_68 (fun H locs hP hD hS => ?_)
  have hP : va_P (dC, dI) vwCl [(qt, .inr (8, [k0, .int sh, .ref qg, .ref qp, k4, k5, .long wo, .long co, .long ah, .long (if 0 < (((((sh.toInt64 * wo) / 240) - co) - ah) - ow) then (((((sh.toInt64 * wo) / 240) - co) - ah) - ow) else 0), k10, k11])), (qg, .inr (2, [.int gn, .int gt, .int gl, .long (ow + (((if 0 < (((((sh.toInt64 * wo) / 240) - co) - ah) - ow) then (((((sh.toInt64 * wo) / 240) - co) - ah) - ow) else 0) - (((((sh.toInt64 * wo) / 240) - co) - ah) - ow)) - ow))])), (qp, .inr (6, [p0, p1, p2, p3, p4, p5, p6, p7]))] H := hP
  have hD : va_D _ [(qt, .inr (8, [k0, .int sh, .ref qg, .ref qp, k4, k5, .long wo, .long co, .long ah, .long (if 0 < (((((sh.toInt64 * wo) / 240) - co) - ah) - ow) then (((((sh.toInt64 * wo) / 240) - co) - ah) - ow) else 0), k10, k11])), (qg, .inr (2, [.int gn, .int gt, .int gl, .long (ow + (((if 0 < (((((sh.toInt64 * wo) / 240) - co) - ah) - ow) then (((((sh.toInt64 * wo) / 240) - co) - ah) - ow) else 0) - (((((sh.toInt64 * wo) / 240) - co) - ah) - ow)) - ow))])), (qp, .inr (6, [p0, p1, p2, p3, p4, p5, p6, p7]))] := hD
  refine lv_aload_n hx hb dX8_end_71 rfl (lv_at hl 2 rfl) ?_
  refine lv_iconst (v := 1) hx hb dX8_end_72 (by decide) ?_
  refine va_put (D := (dC, dI)) (ci := 8) (v := .int 1) (ty := .boolean) (C := RX8) (T := TX8) (N := 12) hx hb hts hiX8 tyX8 tyX8_ok nmX8 hown hK hP hD hS 0 rfl rfl 11 (by decide) (hts (.fieldLink RX8 73 "TributePitches$Take" "settled" "Z") (List.mem_of_getElem? (i := 13) rfl)) (fun _ h9 => h9) rfl (by decide +kernel) rfl rfl (Nat.le_of_ble_eq_true rfl) dX8_end_73 (fun H locs hP hD hS => ?_)
  have hP : va_P (dC, dI) vwCl [(qt, .inr (8, [k0, .int sh, .ref qg, .ref qp, k4, k5, .long wo, .long co, .long ah, .long (if 0 < (((((sh.toInt64 * wo) / 240) - co) - ah) - ow) then (((((sh.toInt64 * wo) / 240) - co) - ah) - ow) else 0), k10, .int 1])), (qg, .inr (2, [.int gn, .int gt, .int gl, .long (ow + (((if 0 < (((((sh.toInt64 * wo) / 240) - co) - ah) - ow) then (((((sh.toInt64 * wo) / 240) - co) - ah) - ow) else 0) - (((((sh.toInt64 * wo) / 240) - co) - ah) - ow)) - ow))])), (qp, .inr (6, [p0, p1, p2, p3, p4, p5, p6, p7]))] H := hP
  have hD : va_D _ [(qt, .inr (8, [k0, .int sh, .ref qg, .ref qp, k4, k5, .long wo, .long co, .long ah, .long (if 0 < (((((sh.toInt64 * wo) / 240) - co) - ah) - ow) then (((((sh.toInt64 * wo) / 240) - co) - ah) - ow) else 0), k10, .int 1])), (qg, .inr (2, [.int gn, .int gt, .int gl, .long (ow + (((if 0 < (((((sh.toInt64 * wo) / 240) - co) - ah) - ow) then (((((sh.toInt64 * wo) / 240) - co) - ah) - ow) else 0) - (((((sh.toInt64 * wo) / 240) - co) - ah) - ow)) - ow))])), (qp, .inr (6, [p0, p1, p2, p3, p4, p5, p6, p7]))] := hD
  refine lv_aload_n hx hb dX8_end_76 rfl (lv_at hl 2 rfl) ?_
  refine va_get (D := (dC, dI)) (ci := 8) (v := .ref qg) (C := RX8) (T := TX8) (N := 12) hx hb hts hiX8 hown hK hP 0 rfl rfl 2 (by decide) (hts (.fieldLink RX8 15 "TributePitches$Take" "gang" "LTributePitches$Gang;") (List.mem_of_getElem? (i := 1) rfl)) (fun _ h9 => h9) rfl dX8_end_77 ?_
  refine lv_dup hx hb dX8_end_80 rfl ?_
  refine va_get (D := (dC, dI)) (ci := 2) (v := .int gl) (C := RX2) (T := TX2) (N := 4) hx hb hts hiX2 hown hK hP 1 rfl rfl 2 (by decide) (hts (.fieldLink RX8 38 "TributePitches$Gang" "letPitches" "I") (List.mem_of_getElem? (i := 14) rfl)) (fun _ h9 => h9) rfl dX8_end_81 ?_
  refine lv_iconst (v := 1) hx hb dX8_end_84 (by decide) ?_
  refine lv_isub hx hb dX8_end_85 ?_
  refine va_put (D := (dC, dI)) (ci := 2) (v := .int (gl - 1)) (ty := .int) (C := RX2) (T := TX2) (N := 4) hx hb hts hiX2 tyX2 tyX2_ok nmX2 hown hK hP hD hS 1 rfl rfl 2 (by decide) (hts (.fieldLink RX8 38 "TributePitches$Gang" "letPitches" "I") (List.mem_of_getElem? (i := 14) rfl)) (fun _ h9 => h9) rfl (by decide +kernel) rfl rfl (Nat.le_of_ble_eq_true rfl) dX8_end_86 (fun H locs hP hD hS => ?_)
  have hP : va_P (dC, dI) vwCl [(qt, .inr (8, [k0, .int sh, .ref qg, .ref qp, k4, k5, .long wo, .long co, .long ah, .long (if 0 < (((((sh.toInt64 * wo) / 240) - co) - ah) - ow) then (((((sh.toInt64 * wo) / 240) - co) - ah) - ow) else 0), k10, .int 1])), (qg, .inr (2, [.int gn, .int gt, .int (gl - 1), .long (ow + (((if 0 < (((((sh.toInt64 * wo) / 240) - co) - ah) - ow) then (((((sh.toInt64 * wo) / 240) - co) - ah) - ow) else 0) - (((((sh.toInt64 * wo) / 240) - co) - ah) - ow)) - ow))])), (qp, .inr (6, [p0, p1, p2, p3, p4, p5, p6, p7]))] H := hP
  have hD : va_D _ [(qt, .inr (8, [k0, .int sh, .ref qg, .ref qp, k4, k5, .long wo, .long co, .long ah, .long (if 0 < (((((sh.toInt64 * wo) / 240) - co) - ah) - ow) then (((((sh.toInt64 * wo) / 240) - co) - ah) - ow) else 0), k10, .int 1])), (qg, .inr (2, [.int gn, .int gt, .int (gl - 1), .long (ow + (((if 0 < (((((sh.toInt64 * wo) / 240) - co) - ah) - ow) then (((((sh.toInt64 * wo) / 240) - co) - ah) - ow) else 0) - (((((sh.toInt64 * wo) / 240) - co) - ah) - ow)) - ow))])), (qp, .inr (6, [p0, p1, p2, p3, p4, p5, p6, p7]))] := hD
  refine lv_aload_n hx hb dX8_end_89 rfl (lv_at hl 2 rfl) ?_
  refine va_get (D := (dC, dI)) (ci := 8) (v := .ref qp) (C := RX8) (T := TX8) (N := 12) hx hb hts hiX8 hown hK hP 0 rfl rfl 3 (by decide) (hts (.fieldLink RX8 19 "TributePitches$Take" "pitch" "LTributePitches$Pitch;") (List.mem_of_getElem? (i := 15) rfl)) (fun _ h9 => h9) rfl dX8_end_90 ?_
  refine lv_null hx hb dX8_end_93 ?_
  refine va_put (D := (dC, dI)) (ci := 6) (v := .null) (ty := .object "TributePitches$Take") (C := RX6) (T := TX6) (N := 8) hx hb hts hiX6 tyX6 tyX6_ok nmX6 hown hK hP hD hS 2 rfl rfl 7 (by decide) (hts (.fieldLink RX8 26 "TributePitches$Pitch" "take" "LTributePitches$Take;") (List.mem_of_getElem? (i := 16) rfl)) (fun _ h9 => h9) rfl (by decide +kernel) rfl rfl (Nat.le_of_ble_eq_true rfl) dX8_end_94 (fun H locs hP hD hS => ?_)
  have hP : va_P (dC, dI) vwCl [(qt, .inr (8, [k0, .int sh, .ref qg, .ref qp, k4, k5, .long wo, .long co, .long ah, .long (if 0 < (((((sh.toInt64 * wo) / 240) - co) - ah) - ow) then (((((sh.toInt64 * wo) / 240) - co) - ah) - ow) else 0), k10, .int 1])), (qg, .inr (2, [.int gn, .int gt, .int (gl - 1), .long (ow + (((if 0 < (((((sh.toInt64 * wo) / 240) - co) - ah) - ow) then (((((sh.toInt64 * wo) / 240) - co) - ah) - ow) else 0) - (((((sh.toInt64 * wo) / 240) - co) - ah) - ow)) - ow))])), (qp, .inr (6, [p0, p1, p2, p3, p4, p5, p6, .null]))] H := hP
  have hD : va_D _ [(qt, .inr (8, [k0, .int sh, .ref qg, .ref qp, k4, k5, .long wo, .long co, .long ah, .long (if 0 < (((((sh.toInt64 * wo) / 240) - co) - ah) - ow) then (((((sh.toInt64 * wo) / 240) - co) - ah) - ow) else 0), k10, .int 1])), (qg, .inr (2, [.int gn, .int gt, .int (gl - 1), .long (ow + (((if 0 < (((((sh.toInt64 * wo) / 240) - co) - ah) - ow) then (((((sh.toInt64 * wo) / 240) - co) - ah) - ow) else 0) - (((((sh.toInt64 * wo) / 240) - co) - ah) - ow)) - ow))])), (qp, .inr (6, [p0, p1, p2, p3, p4, p5, p6, .null]))] := hD
  subst hQ
  have hP9 := hP.sub (ws' := [(qt, .inr (8, [k0, .int sh, .ref qg, .ref qp, k4, k5, .long wo, .long co, .long ah, .long (if 0 < (((((sh.toInt64 * wo) / 240) - co) - ah) - ow) then (((((sh.toInt64 * wo) / 240) - co) - ah) - ow) else 0), k10, .int 1])), (qg, .inr (2, [.int gn, .int gt, .int (gl - 1), .long (ow + (((if 0 < (((((sh.toInt64 * wo) / 240) - co) - ah) - ow) then (((((sh.toInt64 * wo) / 240) - co) - ah) - ow) else 0) - (((((sh.toInt64 * wo) / 240) - co) - ah) - ow)) - ow))])), (qp, .inr (6, [p0, p1, p2, p3, p4, p5, p6, .null]))]) [0, 1, 2] rfl
  have hD9 := hD.sub (ws' := [(qt, .inr (8, [k0, .int sh, .ref qg, .ref qp, k4, k5, .long wo, .long co, .long ah, .long (if 0 < (((((sh.toInt64 * wo) / 240) - co) - ah) - ow) then (((((sh.toInt64 * wo) / 240) - co) - ah) - ow) else 0), k10, .int 1])), (qg, .inr (2, [.int gn, .int gt, .int (gl - 1), .long (ow + (((if 0 < (((((sh.toInt64 * wo) / 240) - co) - ah) - ow) then (((((sh.toInt64 * wo) / 240) - co) - ah) - ow) else 0) - (((((sh.toInt64 * wo) / 240) - co) - ah) - ow)) - ow))])), (qp, .inr (6, [p0, p1, p2, p3, p4, p5, p6, .null]))]) [0, 1, 2] (by decide) rfl
  have hK9 := hK.sub (tys' := []) [] rfl
  exact W.vret hx hb hr (fun t ht hW => ⟨⟨(), rfl, trivial, ⟨by rw [ht]; exact hP9, va_K.moved hW.alike hK9, hD9⟩⟩, hS.F ht⟩) hS.2.2 dX8_end_97
set_option maxHeartbeats 4000000 in
set_option maxRecDepth 100000 in
theorem s_end_4 (l : Launch) (dC : Nat → ClassId) (dI : Nat → Nat → Nat)  (sz : Nat) (qt : Nat) (qp : Nat) (qg : Nat) (gn : Int32) (gt : Int32) (gl : Int32) (ow : Int64) (k0 : Value) (k4 : Value) (k5 : Value) (k9 : Value) (k10 : Value) (k11 : Value) (p0 : Value) (p1 : Value) (p2 : Value) (p3 : Value) (p4 : Value) (p5 : Value) (p6 : Value) (p7 : Value) (sh : Int32) (wo : Int64) (co : Int64) (ah : Int64)  : Met l yX8_end wsX8_end ({ frames := 1, cells := 0, slots := 0, locals := 30 }) (pw (dC, dI) [] [(qt, .inr (8, [k0, .int sh, .ref qg, .ref qp, k4, k5, .long wo, .long co, .long ah, k9, k10, k11])), (qg, .inr (4, [.int gn, .int gt, .int gl, .long ow])), (qp, .inr (6, [p0, p1, p2, p3, p4, p5, p6, p7]))] sz [.ref qt]) (va_Qv (fun (_ : Unit) => True) (fun _ t => bw (dC, dI) [] (va_A [(qt, .inr (8, [k0, .int sh, .ref qg, .ref qp, k4, k5, .long wo, .long co, .long ah, k9, k10, k11])), (qg, .inr (4, [.int gn, .int gt, .int gl, .long ow])), (qp, .inr (6, [p0, p1, p2, p3, p4, p5, p6, p7]))] sz) [(qt, .inr (8, [k0, .int sh, .ref qg, .ref qp, k4, k5, .long wo, .long co, .long ah, .long (if 0 < (((((sh.toInt64 * wo) / 240) - (co / 2)) - ah) - (ow / 2)) then (((((sh.toInt64 * wo) / 240) - (co / 2)) - ah) - (ow / 2)) else 0), k10, .int 1])), (qg, .inr (4, [.int gn, .int gt, .int (gl - 1), .long (ow + (((if 0 < (((((sh.toInt64 * wo) / 240) - (co / 2)) - ah) - (ow / 2)) then (((((sh.toInt64 * wo) / 240) - (co / 2)) - ah) - (ow / 2)) else 0) - (((((sh.toInt64 * wo) / 240) - (co / 2)) - ah) - (ow / 2))) - (ow / 2)))])), (qp, .inr (6, [p0, p1, p2, p3, p4, p5, p6, .null]))] t) (va_A [(qt, .inr (8, [k0, .int sh, .ref qg, .ref qp, k4, k5, .long wo, .long co, .long ah, k9, k10, k11])), (qg, .inr (4, [.int gn, .int gt, .int gl, .long ow])), (qp, .inr (6, [p0, p1, p2, p3, p4, p5, p6, p7]))] sz)) 0 0 (va_A [(qt, .inr (8, [k0, .int sh, .ref qg, .ref qp, k4, k5, .long wo, .long co, .long ah, k9, k10, k11])), (qg, .inr (4, [.int gn, .int gt, .int gl, .long ow])), (qp, .inr (6, [p0, p1, p2, p3, p4, p5, p6, p7]))] sz) := by
  refine pw_met (cc := cX8_end) (maxL := 5) (ret := none) (by decide) rfl (Nat.le_of_ble_eq_true rfl) ?_
  intro p e s m below meth c0 hx hb hr hml hown hlocks hnm hts hP hK hD hN hsz hA hS ls hl
  subst hsz
  have hl : lv_has ls 5 [(0, .ref qt)] := hl
  have hiX4 : ∀ w ∈ wsX40, w ∈ wsX8_end := fun _ h => List.mem_cons_of_mem _ (List.mem_append_left _ (List.mem_append_right _ (h)))
  have hiX6 : ∀ w ∈ wsX60, w ∈ wsX8_end := fun _ h => List.mem_cons_of_mem _ (List.mem_append_right _ (h))
  have hiX8 : ∀ w ∈ wsX80, w ∈ wsX8_end := fun _ h => List.mem_cons_of_mem _ (List.mem_append_left _ (List.mem_append_left _ (List.mem_append_left _ (List.mem_append_left _ (List.mem_append_right _ (h))))))
  generalize hQ : MQ _ _ _ _ _ _ _ = Q
  refine lv_aload_n hx hb dX8_end_0 rfl (lv_at hl 0 rfl) ?_
  refine va_get (D := (dC, dI)) (ci := 8) (v := .ref qg) (C := RX8) (T := TX8) (N := 12) hx hb hts hiX8 hown hK hP 0 rfl rfl 2 (by decide) (hts (.fieldLink RX8 15 "TributePitches$Take" "gang" "LTributePitches$Gang;") (List.mem_of_getElem? (i := 1) rfl)) (fun _ h9 => h9) rfl dX8_end_1 ?_
  have hPc := hP.sub (ws' := [(qg, .inr (4, [.int gn, .int gt, .int gl, .long ow]))]) [1] rfl
  have hDc := hD.sub (ws' := [(qg, .inr (4, [.int gn, .int gt, .int gl, .long ow]))]) [1] (by decide) rfl
  have hKc := hK.sub (tys' := []) [] rfl
  refine vp_callSl (va_Run.run (va_runU (As := []) (rest := []) ⟨hx, hb, hml, hown, hts⟩ (s_debtTaken_4 l dC dI  _ qg gn gt gl ow ) (va_cwO 0 hts gX8_end_X4_debtTaken_u41X4 rfl rfl rfl (b0 := cX2_debtTaken) (m0 := 1) (r0 := (some .long)) (by decide +kernel) (by decide +kernel) ⟨Nat.le_of_ble_eq_true rfl, Nat.le_of_ble_eq_true rfl⟩) (pw_preV (va_recv hKc hPc (ci := 4) (q0 := 0) rfl rfl) hPc hKc hDc hN) rfl rfl hl.1 rfl (lv_room (Nat.le_of_ble_eq_true rfl)) dX8_end_4 ⟨Nat.le_of_ble_eq_true rfl, Nat.le_of_ble_eq_true rfl⟩)) (fun r1 hr1 => ?_)
  have hr1 : r1 = ow / 2 := hr1
  have hr1 := hr1.symm
  subst hr1
  refine lv_lstore_n (lv' := [(1, .long (ow / 2)), (0, .ref qt)]) hx hb dX8_end_7 rfl hl (by decide) rfl (fun ls hl => ?_)
  refine lv_aload_n hx hb dX8_end_8 rfl (lv_at hl 1 rfl) ?_
  refine va_get (D := (dC, dI)) (ci := 8) (v := .int sh) (C := RX8) (T := TX8) (N := 12) hx hb hts hiX8 hown hK hP 0 rfl rfl 1 (by decide) (hts (.fieldLink RX8 23 "TributePitches$Take" "share" "I") (List.mem_of_getElem? (i := 2) rfl)) (fun _ h9 => h9) rfl dX8_end_9 ?_
  refine lv_i2l (v := sh.toInt64) hx hb dX8_end_12 rfl ?_
  refine lv_aload_n hx hb dX8_end_13 rfl (lv_at hl 1 rfl) ?_
  refine va_get (D := (dC, dI)) (ci := 8) (v := .long wo) (C := RX8) (T := TX8) (N := 12) hx hb hts hiX8 hown hK hP 0 rfl rfl 6 (by decide) (hts (.fieldLink RX8 45 "TributePitches$Take" "worths" "J") (List.mem_of_getElem? (i := 3) rfl)) (fun _ h9 => h9) rfl dX8_end_14 ?_
  refine lv_lmul hx hb dX8_end_17 ?_
  refine lv_ldc2 (v := 240) hx hb hown (hts (.constantLong RX8 49 (240)) (List.mem_of_getElem? (i := 4) rfl)) dX8_end_18 ?_
  refine lv_ldiv hx hb dX8_end_21 (by decide) ?_
  refine lv_aload_n hx hb dX8_end_22 rfl (lv_at hl 1 rfl) ?_
  refine va_get (D := (dC, dI)) (ci := 8) (v := .ref qg) (C := RX8) (T := TX8) (N := 12) hx hb hts hiX8 hown hK hP 0 rfl rfl 2 (by decide) (hts (.fieldLink RX8 15 "TributePitches$Take" "gang" "LTributePitches$Gang;") (List.mem_of_getElem? (i := 1) rfl)) (fun _ h9 => h9) rfl dX8_end_23 ?_
  refine lv_aload_n hx hb dX8_end_26 rfl (lv_at hl 1 rfl) ?_
  refine va_get (D := (dC, dI)) (ci := 8) (v := .long co) (C := RX8) (T := TX8) (N := 12) hx hb hts hiX8 hown hK hP 0 rfl rfl 7 (by decide) (hts (.fieldLink RX8 51 "TributePitches$Take" "costs" "J") (List.mem_of_getElem? (i := 5) rfl)) (fun _ h9 => h9) rfl dX8_end_27 ?_
  have hPc := hP.sub (ws' := [(qg, .inr (4, [.int gn, .int gt, .int gl, .long ow]))]) [1] rfl
  have hDc := hD.sub (ws' := [(qg, .inr (4, [.int gn, .int gt, .int gl, .long ow]))]) [1] (by decide) rfl
  have hKc := hK.sub (tys' := []) [] rfl
  refine vp_callSl (va_Run.run (va_runU (As := [.long co]) (rest := [.long ((sh.toInt64 * wo) / 240)]) ⟨hx, hb, hml, hown, hts⟩ (s_costsBorne_4 l dC dI  _ qg gn gt gl ow co ) (va_cwO 1 hts gX8_end_X1_costsBorne_u54X4 rfl rfl rfl (b0 := cX2_costsBorne) (m0 := 3) (r0 := (some .long)) (by decide +kernel) (by decide +kernel) ⟨Nat.le_of_ble_eq_true rfl, Nat.le_of_ble_eq_true rfl⟩) (pw_preV (va_recv hKc hPc (ci := 4) (q0 := 0) rfl rfl) hPc hKc hDc hN) rfl rfl hl.1 rfl (lv_room (Nat.le_of_ble_eq_true rfl)) dX8_end_30 ⟨Nat.le_of_ble_eq_true rfl, Nat.le_of_ble_eq_true rfl⟩)) (fun r2 hr2 => ?_)
  have hr2 : r2 = co / 2 := hr2
  have hr2 := hr2.symm
  subst hr2
  refine lv_lsub hx hb dX8_end_33 ?_
  refine lv_aload_n hx hb dX8_end_34 rfl (lv_at hl 1 rfl) ?_
  refine va_get (D := (dC, dI)) (ci := 8) (v := .long ah) (C := RX8) (T := TX8) (N := 12) hx hb hts hiX8 hown hK hP 0 rfl rfl 8 (by decide) (hts (.fieldLink RX8 58 "TributePitches$Take" "ahead" "J") (List.mem_of_getElem? (i := 6) rfl)) (fun _ h9 => h9) rfl dX8_end_35 ?_
  refine lv_lsub hx hb dX8_end_38 ?_
  refine lv_lload_n hx hb dX8_end_39 rfl (lv_at hl 0 rfl) ?_
  refine lv_lsub hx hb dX8_end_40 ?_
  refine lv_lstore_n (lv' := [(3, .long (((((sh.toInt64 * wo) / 240) - (co / 2)) - ah) - (ow / 2))), (1, .long (ow / 2)), (0, .ref qt)]) hx hb dX8_end_41 rfl hl (by decide) rfl (fun ls hl => ?_)
  refine lv_aload_n hx hb dX8_end_42 rfl (lv_at hl 2 rfl) ?_
  refine lv_lload_n hx hb dX8_end_43 rfl (lv_at hl 0 rfl) ?_
  refine lv_lconst (v := 0) hx hb dX8_end_44 (by decide) ?_
  refine va_mmax_long hx hb (hml.trans hl.1.symm) hown (hts (.methodLink RX8 61 Lib.MathLoose.max_long.x) (List.mem_of_getElem? (i := 7) rfl)) (hts (.static Lib.MathLoose.max_long.x) (List.mem_of_getElem? (i := 8) rfl)) (hts (.initialized "java/lang/Math") (List.mem_of_getElem? (i := 9) rfl)) (hts (.code Lib.MathLoose.max_long.x Lib.MathLoose.max_long.code 4 (some .long)) (List.mem_of_getElem? (i := 10) rfl)) (Nat.le_of_ble_eq_true rfl) (Nat.le_of_ble_eq_true rfl) (Nat.le_of_ble_eq_true rfl) (Nat.le_of_ble_eq_true rfl) dX8_end_45 ?_
  refine va_put (D := (dC, dI)) (ci := 8) (v := .long (if 0 < (((((sh.toInt64 * wo) / 240) - (co / 2)) - ah) - (ow / 2)) then (((((sh.toInt64 * wo) / 240) - (co / 2)) - ah) - (ow / 2)) else 0)) (ty := .long) (C := RX8) (T := TX8) (N := 12) hx hb hts hiX8 tyX8 tyX8_ok nmX8 hown hK hP hD hS 0 rfl rfl 9 (by decide) (hts (.fieldLink RX8 67 "TributePitches$Take" "pay" "J") (List.mem_of_getElem? (i := 11) rfl)) (fun _ h9 => h9) rfl (by decide +kernel) rfl rfl (Nat.le_of_ble_eq_true rfl) dX8_end_48 (fun H locs hP hD hS => ?_)
  have hP : va_P (dC, dI) vwCl [(qt, .inr (8, [k0, .int sh, .ref qg, .ref qp, k4, k5, .long wo, .long co, .long ah, .long (if 0 < (((((sh.toInt64 * wo) / 240) - (co / 2)) - ah) - (ow / 2)) then (((((sh.toInt64 * wo) / 240) - (co / 2)) - ah) - (ow / 2)) else 0), k10, k11])), (qg, .inr (4, [.int gn, .int gt, .int gl, .long ow])), (qp, .inr (6, [p0, p1, p2, p3, p4, p5, p6, p7]))] H := hP
  have hD : va_D _ [(qt, .inr (8, [k0, .int sh, .ref qg, .ref qp, k4, k5, .long wo, .long co, .long ah, .long (if 0 < (((((sh.toInt64 * wo) / 240) - (co / 2)) - ah) - (ow / 2)) then (((((sh.toInt64 * wo) / 240) - (co / 2)) - ah) - (ow / 2)) else 0), k10, k11])), (qg, .inr (4, [.int gn, .int gt, .int gl, .long ow])), (qp, .inr (6, [p0, p1, p2, p3, p4, p5, p6, p7]))] := hD
  refine lv_aload_n hx hb dX8_end_51 rfl (lv_at hl 2 rfl) ?_
  refine va_get (D := (dC, dI)) (ci := 8) (v := .ref qg) (C := RX8) (T := TX8) (N := 12) hx hb hts hiX8 hown hK hP 0 rfl rfl 2 (by decide) (hts (.fieldLink RX8 15 "TributePitches$Take" "gang" "LTributePitches$Gang;") (List.mem_of_getElem? (i := 1) rfl)) (fun _ h9 => h9) rfl dX8_end_52 ?_
  refine lv_dup hx hb dX8_end_55 rfl ?_
  refine va_get (D := (dC, dI)) (ci := 4) (v := .long ow) (C := RX4) (T := TX4) (N := 4) hx hb hts hiX4 hown hK hP 1 rfl rfl 3 (by decide) (hts (.fieldLink RX8 70 "TributePitches$Gang" "owed" "J") (List.mem_of_getElem? (i := 12) rfl)) (fun _ h9 => h9) rfl dX8_end_56 ?_
  refine lv_aload_n hx hb dX8_end_59 rfl (lv_at hl 2 rfl) ?_
  refine va_get (D := (dC, dI)) (ci := 8) (v := .long (if 0 < (((((sh.toInt64 * wo) / 240) - (co / 2)) - ah) - (ow / 2)) then (((((sh.toInt64 * wo) / 240) - (co / 2)) - ah) - (ow / 2)) else 0)) (C := RX8) (T := TX8) (N := 12) hx hb hts hiX8 hown hK hP 0 rfl rfl 9 (by decide) (hts (.fieldLink RX8 67 "TributePitches$Take" "pay" "J") (List.mem_of_getElem? (i := 11) rfl)) (fun _ h9 => h9) rfl dX8_end_60 ?_
  refine lv_lload_n hx hb dX8_end_63 rfl (lv_at hl 0 rfl) ?_
  refine lv_lsub hx hb dX8_end_64 ?_
  refine lv_lload_n hx hb dX8_end_65 rfl (lv_at hl 1 rfl) ?_
  refine lv_lsub hx hb dX8_end_66 ?_
  refine lv_ladd hx hb dX8_end_67 ?_
  refine va_put (D := (dC, dI)) (ci := 4) (v := .long (ow + (((if 0 < (((((sh.toInt64 * wo) / 240) - (co / 2)) - ah) - (ow / 2)) then (((((sh.toInt64 * wo) / 240) - (co / 2)) - ah) - (ow / 2)) else 0) - (((((sh.toInt64 * wo) / 240) - (co / 2)) - ah) - (ow / 2))) - (ow / 2)))) (ty := .long) (C := RX4) (T := TX4) (N := 4) hx hb hts hiX4 tyX4 tyX4_ok nmX4 hown hK hP hD hS 1 rfl rfl 3 (by decide) (hts (.fieldLink RX8 70 "TributePitches$Gang" "owed" "J") (List.mem_of_getElem? (i := 12) rfl)) (fun _ h9 => h9) rfl (by decide +kernel) rfl rfl (Nat.le_of_ble_eq_true rfl) dX8_end_68 (fun H locs hP hD hS => ?_)
  have hP : va_P (dC, dI) vwCl [(qt, .inr (8, [k0, .int sh, .ref qg, .ref qp, k4, k5, .long wo, .long co, .long ah, .long (if 0 < (((((sh.toInt64 * wo) / 240) - (co / 2)) - ah) - (ow / 2)) then (((((sh.toInt64 * wo) / 240) - (co / 2)) - ah) - (ow / 2)) else 0), k10, k11])), (qg, .inr (4, [.int gn, .int gt, .int gl, .long (ow + (((if 0 < (((((sh.toInt64 * wo) / 240) - (co / 2)) - ah) - (ow / 2)) then (((((sh.toInt64 * wo) / 240) - (co / 2)) - ah) - (ow / 2)) else 0) - (((((sh.toInt64 * wo) / 240) - (co / 2)) - ah) - (ow / 2))) - (ow / 2)))])), (qp, .inr (6, [p0, p1, p2, p3, p4, p5, p6, p7]))] H := hP
  have hD : va_D _ [(qt, .inr (8, [k0, .int sh, .ref qg, .ref qp, k4, k5, .long wo, .long co, .long ah, .long (if 0 < (((((sh.toInt64 * wo) / 240) - (co / 2)) - ah) - (ow / 2)) then (((((sh.toInt64 * wo) / 240) - (co / 2)) - ah) - (ow / 2)) else 0), k10, k11])), (qg, .inr (4, [.int gn, .int gt, .int gl, .long (ow + (((if 0 < (((((sh.toInt64 * wo) / 240) - (co / 2)) - ah) - (ow / 2)) then (((((sh.toInt64 * wo) / 240) - (co / 2)) - ah) - (ow / 2)) else 0) - (((((sh.toInt64 * wo) / 240) - (co / 2)) - ah) - (ow / 2))) - (ow / 2)))])), (qp, .inr (6, [p0, p1, p2, p3, p4, p5, p6, p7]))] := hD
  refine lv_aload_n hx hb dX8_end_71 rfl (lv_at hl 2 rfl) ?_
  refine lv_iconst (v := 1) hx hb dX8_end_72 (by decide) ?_
  refine va_put (D := (dC, dI)) (ci := 8) (v := .int 1) (ty := .boolean) (C := RX8) (T := TX8) (N := 12) hx hb hts hiX8 tyX8 tyX8_ok nmX8 hown hK hP hD hS 0 rfl rfl 11 (by decide) (hts (.fieldLink RX8 73 "TributePitches$Take" "settled" "Z") (List.mem_of_getElem? (i := 13) rfl)) (fun _ h9 => h9) rfl (by decide +kernel) rfl rfl (Nat.le_of_ble_eq_true rfl) dX8_end_73 (fun H locs hP hD hS => ?_)
  have hP : va_P (dC, dI) vwCl [(qt, .inr (8, [k0, .int sh, .ref qg, .ref qp, k4, k5, .long wo, .long co, .long ah, .long (if 0 < (((((sh.toInt64 * wo) / 240) - (co / 2)) - ah) - (ow / 2)) then (((((sh.toInt64 * wo) / 240) - (co / 2)) - ah) - (ow / 2)) else 0), k10, .int 1])), (qg, .inr (4, [.int gn, .int gt, .int gl, .long (ow + (((if 0 < (((((sh.toInt64 * wo) / 240) - (co / 2)) - ah) - (ow / 2)) then (((((sh.toInt64 * wo) / 240) - (co / 2)) - ah) - (ow / 2)) else 0) - (((((sh.toInt64 * wo) / 240) - (co / 2)) - ah) - (ow / 2))) - (ow / 2)))])), (qp, .inr (6, [p0, p1, p2, p3, p4, p5, p6, p7]))] H := hP
  have hD : va_D _ [(qt, .inr (8, [k0, .int sh, .ref qg, .ref qp, k4, k5, .long wo, .long co, .long ah, .long (if 0 < (((((sh.toInt64 * wo) / 240) - (co / 2)) - ah) - (ow / 2)) then (((((sh.toInt64 * wo) / 240) - (co / 2)) - ah) - (ow / 2)) else 0), k10, .int 1])), (qg, .inr (4, [.int gn, .int gt, .int gl, .long (ow + (((if 0 < (((((sh.toInt64 * wo) / 240) - (co / 2)) - ah) - (ow / 2)) then (((((sh.toInt64 * wo) / 240) - (co / 2)) - ah) - (ow / 2)) else 0) - (((((sh.toInt64 * wo) / 240) - (co / 2)) - ah) - (ow / 2))) - (ow / 2)))])), (qp, .inr (6, [p0, p1, p2, p3, p4, p5, p6, p7]))] := hD
  refine lv_aload_n hx hb dX8_end_76 rfl (lv_at hl 2 rfl) ?_
  refine va_get (D := (dC, dI)) (ci := 8) (v := .ref qg) (C := RX8) (T := TX8) (N := 12) hx hb hts hiX8 hown hK hP 0 rfl rfl 2 (by decide) (hts (.fieldLink RX8 15 "TributePitches$Take" "gang" "LTributePitches$Gang;") (List.mem_of_getElem? (i := 1) rfl)) (fun _ h9 => h9) rfl dX8_end_77 ?_
  refine lv_dup hx hb dX8_end_80 rfl ?_
  refine va_get (D := (dC, dI)) (ci := 4) (v := .int gl) (C := RX4) (T := TX4) (N := 4) hx hb hts hiX4 hown hK hP 1 rfl rfl 2 (by decide) (hts (.fieldLink RX8 38 "TributePitches$Gang" "letPitches" "I") (List.mem_of_getElem? (i := 14) rfl)) (fun _ h9 => h9) rfl dX8_end_81 ?_
  refine lv_iconst (v := 1) hx hb dX8_end_84 (by decide) ?_
  refine lv_isub hx hb dX8_end_85 ?_
  refine va_put (D := (dC, dI)) (ci := 4) (v := .int (gl - 1)) (ty := .int) (C := RX4) (T := TX4) (N := 4) hx hb hts hiX4 tyX4 tyX4_ok nmX4 hown hK hP hD hS 1 rfl rfl 2 (by decide) (hts (.fieldLink RX8 38 "TributePitches$Gang" "letPitches" "I") (List.mem_of_getElem? (i := 14) rfl)) (fun _ h9 => h9) rfl (by decide +kernel) rfl rfl (Nat.le_of_ble_eq_true rfl) dX8_end_86 (fun H locs hP hD hS => ?_)
  have hP : va_P (dC, dI) vwCl [(qt, .inr (8, [k0, .int sh, .ref qg, .ref qp, k4, k5, .long wo, .long co, .long ah, .long (if 0 < (((((sh.toInt64 * wo) / 240) - (co / 2)) - ah) - (ow / 2)) then (((((sh.toInt64 * wo) / 240) - (co / 2)) - ah) - (ow / 2)) else 0), k10, .int 1])), (qg, .inr (4, [.int gn, .int gt, .int (gl - 1), .long (ow + (((if 0 < (((((sh.toInt64 * wo) / 240) - (co / 2)) - ah) - (ow / 2)) then (((((sh.toInt64 * wo) / 240) - (co / 2)) - ah) - (ow / 2)) else 0) - (((((sh.toInt64 * wo) / 240) - (co / 2)) - ah) - (ow / 2))) - (ow / 2)))])), (qp, .inr (6, [p0, p1, p2, p3, p4, p5, p6, p7]))] H := hP
  have hD : va_D _ [(qt, .inr (8, [k0, .int sh, .ref qg, .ref qp, k4, k5, .long wo, .long co, .long ah, .long (if 0 < (((((sh.toInt64 * wo) / 240) - (co / 2)) - ah) - (ow / 2)) then (((((sh.toInt64 * wo) / 240) - (co / 2)) - ah) - (ow / 2)) else 0), k10, .int 1])), (qg, .inr (4, [.int gn, .int gt, .int (gl - 1), .long (ow + (((if 0 < (((((sh.toInt64 * wo) / 240) - (co / 2)) - ah) - (ow / 2)) then (((((sh.toInt64 * wo) / 240) - (co / 2)) - ah) - (ow / 2)) else 0) - (((((sh.toInt64 * wo) / 240) - (co / 2)) - ah) - (ow / 2))) - (ow / 2)))])), (qp, .inr (6, [p0, p1, p2, p3, p4, p5, p6, p7]))] := hD
  refine lv_aload_n hx hb dX8_end_89 rfl (lv_at hl 2 rfl) ?_
  refine va_get (D := (dC, dI)) (ci := 8) (v := .ref qp) (C := RX8) (T := TX8) (N := 12) hx hb hts hiX8 hown hK hP 0 rfl rfl 3 (by decide) (hts (.fieldLink RX8 19 "TributePitches$Take" "pitch" "LTributePitches$Pitch;") (List.mem_of_getElem? (i := 15) rfl)) (fun _ h9 => h9) rfl dX8_end_90 ?_
  refine lv_null hx hb dX8_end_93 ?_
  refine va_put (D := (dC, dI)) (ci := 6) (v := .null) (ty := .object "TributePitches$Take") (C := RX6) (T := TX6) (N := 8) hx hb hts hiX6 tyX6 tyX6_ok nmX6 hown hK hP hD hS 2 rfl rfl 7 (by decide) (hts (.fieldLink RX8 26 "TributePitches$Pitch" "take" "LTributePitches$Take;") (List.mem_of_getElem? (i := 16) rfl)) (fun _ h9 => h9) rfl (by decide +kernel) rfl rfl (Nat.le_of_ble_eq_true rfl) dX8_end_94 (fun H locs hP hD hS => ?_)
  have hP : va_P (dC, dI) vwCl [(qt, .inr (8, [k0, .int sh, .ref qg, .ref qp, k4, k5, .long wo, .long co, .long ah, .long (if 0 < (((((sh.toInt64 * wo) / 240) - (co / 2)) - ah) - (ow / 2)) then (((((sh.toInt64 * wo) / 240) - (co / 2)) - ah) - (ow / 2)) else 0), k10, .int 1])), (qg, .inr (4, [.int gn, .int gt, .int (gl - 1), .long (ow + (((if 0 < (((((sh.toInt64 * wo) / 240) - (co / 2)) - ah) - (ow / 2)) then (((((sh.toInt64 * wo) / 240) - (co / 2)) - ah) - (ow / 2)) else 0) - (((((sh.toInt64 * wo) / 240) - (co / 2)) - ah) - (ow / 2))) - (ow / 2)))])), (qp, .inr (6, [p0, p1, p2, p3, p4, p5, p6, .null]))] H := hP
  have hD : va_D _ [(qt, .inr (8, [k0, .int sh, .ref qg, .ref qp, k4, k5, .long wo, .long co, .long ah, .long (if 0 < (((((sh.toInt64 * wo) / 240) - (co / 2)) - ah) - (ow / 2)) then (((((sh.toInt64 * wo) / 240) - (co / 2)) - ah) - (ow / 2)) else 0), k10, .int 1])), (qg, .inr (4, [.int gn, .int gt, .int (gl - 1), .long (ow + (((if 0 < (((((sh.toInt64 * wo) / 240) - (co / 2)) - ah) - (ow / 2)) then (((((sh.toInt64 * wo) / 240) - (co / 2)) - ah) - (ow / 2)) else 0) - (((((sh.toInt64 * wo) / 240) - (co / 2)) - ah) - (ow / 2))) - (ow / 2)))])), (qp, .inr (6, [p0, p1, p2, p3, p4, p5, p6, .null]))] := hD
  subst hQ
  have hP9 := hP.sub (ws' := [(qt, .inr (8, [k0, .int sh, .ref qg, .ref qp, k4, k5, .long wo, .long co, .long ah, .long (if 0 < (((((sh.toInt64 * wo) / 240) - (co / 2)) - ah) - (ow / 2)) then (((((sh.toInt64 * wo) / 240) - (co / 2)) - ah) - (ow / 2)) else 0), k10, .int 1])), (qg, .inr (4, [.int gn, .int gt, .int (gl - 1), .long (ow + (((if 0 < (((((sh.toInt64 * wo) / 240) - (co / 2)) - ah) - (ow / 2)) then (((((sh.toInt64 * wo) / 240) - (co / 2)) - ah) - (ow / 2)) else 0) - (((((sh.toInt64 * wo) / 240) - (co / 2)) - ah) - (ow / 2))) - (ow / 2)))])), (qp, .inr (6, [p0, p1, p2, p3, p4, p5, p6, .null]))]) [0, 1, 2] rfl
  have hD9 := hD.sub (ws' := [(qt, .inr (8, [k0, .int sh, .ref qg, .ref qp, k4, k5, .long wo, .long co, .long ah, .long (if 0 < (((((sh.toInt64 * wo) / 240) - (co / 2)) - ah) - (ow / 2)) then (((((sh.toInt64 * wo) / 240) - (co / 2)) - ah) - (ow / 2)) else 0), k10, .int 1])), (qg, .inr (4, [.int gn, .int gt, .int (gl - 1), .long (ow + (((if 0 < (((((sh.toInt64 * wo) / 240) - (co / 2)) - ah) - (ow / 2)) then (((((sh.toInt64 * wo) / 240) - (co / 2)) - ah) - (ow / 2)) else 0) - (((((sh.toInt64 * wo) / 240) - (co / 2)) - ah) - (ow / 2))) - (ow / 2)))])), (qp, .inr (6, [p0, p1, p2, p3, p4, p5, p6, .null]))]) [0, 1, 2] (by decide) rfl
  have hK9 := hK.sub (tys' := []) [] rfl
  exact W.vret hx hb hr (fun t ht hW => ⟨⟨(), rfl, trivial, ⟨by rw [ht]; exact hP9, va_K.moved hW.alike hK9, hD9⟩⟩, hS.F ht⟩) hS.2.2 dX8_end_97
set_option maxHeartbeats 4000000 in
set_option maxRecDepth 100000 in
theorem s_X5_init (l : Launch) (dC : Nat → ClassId) (dI : Nat → Nat → Nat)  (sz : Nat) (qk : Nat) (qp : Nat) (go : Int32)  : Met l yX5_init wsX5_init ({ frames := 1, cells := 0, slots := 0, locals := 12 }) (pw (dC, dI) [] [(qk, .inr (5, [.null, .int 0]))] sz [.ref qk, .ref qp, .int go]) (va_Qv (fun (_ : Unit) => True) (fun _ t => bw (dC, dI) [] (va_A [(qk, .inr (5, [.null, .int 0]))] sz) [(qk, .inr (5, [.ref qp, .int go]))] t) (va_A [(qk, .inr (5, [.null, .int 0]))] sz)) 0 0 (va_A [(qk, .inr (5, [.null, .int 0]))] sz) := by
  refine pw_met (cc := cX5_init) (maxL := 3) (ret := none) (by decide) rfl (Nat.le_of_ble_eq_true rfl) ?_
  intro p e s m below meth c0 hx hb hr hml hown hlocks hnm hts hP hK hD hN hsz hA hS ls hl
  subst hsz
  have hl : lv_has ls 3 [(0, .ref qk), (1, .ref qp), (2, .int go)] := hl
  have hiX5 : ∀ w ∈ wsX50, w ∈ wsX5_init := fun _ h => List.mem_cons_of_mem _ (List.mem_append_right _ (h))
  generalize hQ : MQ _ _ _ _ _ _ _ = Q
  refine lv_aload_n hx hb dX5_init_0 rfl (lv_at hl 0 rfl) ?_
  refine W.objInit hx hb hown (hts (.methodLink RX5 1 objectInit) (List.mem_of_getElem? (i := 1) rfl)) (hts (.instanceMethod objectInit) (List.mem_of_getElem? (i := 2) rfl)) (hts _ (List.mem_of_getElem? (i := 3) rfl)) rfl (by rw [hml]; exact hl.1) rfl dX5_init_1 (Nat.le_of_ble_eq_true rfl) (Nat.le_of_ble_eq_true rfl) ?_
  refine W.eq (g2 := F0 m 4 ls []) rfl ?_
  refine lv_aload_n hx hb dX5_init_4 rfl (lv_at hl 0 rfl) ?_
  refine lv_aload_n hx hb dX5_init_5 rfl (lv_at hl 1 rfl) ?_
  refine va_putF (D := (dC, dI)) (ci := 5) (v := .ref qp) (ty := .object "TributePitches$Pitch") (C := RX5) (T := TX5) (N := 2) hx hb hts hiX5 tyX5 tyX5_ok nmX5 hown hK hP hD hS 0 rfl rfl 0 (by decide) (hts (.fieldLink RX5 7 "TributePitches$Parcel" "pitch" "LTributePitches$Pitch;") (List.mem_of_getElem? (i := 4) rfl)) (fun _ h9 => h9) rfl hnm rfl (by decide +kernel) rfl rfl (Nat.le_of_ble_eq_true rfl) dX5_init_6 (fun H locs hP hD hS => ?_)
  have hP : va_P (dC, dI) vwCl [(qk, .inr (5, [.ref qp, .int 0]))] H := hP
  have hD : va_D _ [(qk, .inr (5, [.ref qp, .int 0]))] := hD
  refine lv_aload_n hx hb dX5_init_9 rfl (lv_at hl 0 rfl) ?_
  refine lv_iload_n hx hb dX5_init_10 rfl (lv_at hl 2 rfl) ?_
  refine va_putF (D := (dC, dI)) (ci := 5) (v := .int go) (ty := .int) (C := RX5) (T := TX5) (N := 2) hx hb hts hiX5 tyX5 tyX5_ok nmX5 hown hK hP hD hS 0 rfl rfl 1 (by decide) (hts (.fieldLink RX5 13 "TributePitches$Parcel" "goodness" "I") (List.mem_of_getElem? (i := 5) rfl)) (fun _ h9 => h9) rfl hnm rfl (by decide +kernel) rfl rfl (Nat.le_of_ble_eq_true rfl) dX5_init_11 (fun H locs hP hD hS => ?_)
  have hP : va_P (dC, dI) vwCl [(qk, .inr (5, [.ref qp, .int go]))] H := hP
  have hD : va_D _ [(qk, .inr (5, [.ref qp, .int go]))] := hD
  subst hQ
  have hP9 := hP.sub (ws' := [(qk, .inr (5, [.ref qp, .int go]))]) [0] rfl
  have hD9 := hD.sub (ws' := [(qk, .inr (5, [.ref qp, .int go]))]) [0] (by decide) rfl
  have hK9 := hK.sub (tys' := []) [] rfl
  exact W.vret hx hb hr (fun t ht hW => ⟨⟨(), rfl, trivial, ⟨by rw [ht]; exact hP9, va_K.moved hW.alike hK9, hD9⟩⟩, hS.F ht⟩) hS.2.2 dX5_init_14
set_option maxHeartbeats 4000000 in
set_option maxRecDepth 100000 in
theorem c_X6_init (l : Launch) (dC : Nat → ClassId) (dI : Nat → Nat → Nat)  (sz : Nat) (qp : Nat) (b0 : Int32) (b1 : Int32) (b2 : Int32) (b3 : Int32) (b4 : Int32) (b5 : Int32)  : Met l yX6_init wsX6_init ({ frames := 1, cells := 0, slots := 0, locals := 12 }) (pw (dC, dI) [] [(qp, .inr (6, [.int 0, .int 0, .int 0, .int 0, .int 0, .int 0, .int 0, .null]))] sz [.ref qp, .int b0, .int b1, .int b2, .int b3, .int b4, .int b5]) (va_Qv (fun (_ : Unit) => True) (fun _ t => bw (dC, dI) [] (va_A [(qp, .inr (6, [.int 0, .int 0, .int 0, .int 0, .int 0, .int 0, .int 0, .null]))] sz) [(qp, .inr (6, [.int b0, .int b1, .int b2, .int b3, .int b4, .int b5, .int 0, .null]))] t) (va_A [(qp, .inr (6, [.int 0, .int 0, .int 0, .int 0, .int 0, .int 0, .int 0, .null]))] sz)) 0 0 (va_A [(qp, .inr (6, [.int 0, .int 0, .int 0, .int 0, .int 0, .int 0, .int 0, .null]))] sz) := by
  refine pw_met (cc := cX6_init) (maxL := 7) (ret := none) (by decide) rfl (Nat.le_of_ble_eq_true rfl) ?_
  intro p e s m below meth c0 hx hb hr hml hown hlocks hnm hts hP hK hD hN hsz hA hS ls hl
  subst hsz
  have hl : lv_has ls 7 [(0, .ref qp), (1, .int b0), (2, .int b1), (3, .int b2), (4, .int b3), (5, .int b4), (6, .int b5)] := hl
  have hiX6 : ∀ w ∈ wsX60, w ∈ wsX6_init := fun _ h => List.mem_cons_of_mem _ (List.mem_append_right _ (h))
  generalize hQ : MQ _ _ _ _ _ _ _ = Q
  refine lv_aload_n hx hb dX6_init_0 rfl (lv_at hl 0 rfl) ?_
  refine W.objInit hx hb hown (hts (.methodLink RX6 1 objectInit) (List.mem_of_getElem? (i := 1) rfl)) (hts (.instanceMethod objectInit) (List.mem_of_getElem? (i := 2) rfl)) (hts _ (List.mem_of_getElem? (i := 3) rfl)) rfl (by rw [hml]; exact hl.1) rfl dX6_init_1 (Nat.le_of_ble_eq_true rfl) (Nat.le_of_ble_eq_true rfl) ?_
  refine W.eq (g2 := F0 m 4 ls []) rfl ?_
  refine lv_aload_n hx hb dX6_init_4 rfl (lv_at hl 0 rfl) ?_
  refine lv_iload_n hx hb dX6_init_5 rfl (lv_at hl 1 rfl) ?_
  refine va_putF (D := (dC, dI)) (ci := 6) (v := .int b0) (ty := .int) (C := RX6) (T := TX6) (N := 8) hx hb hts hiX6 tyX6 tyX6_ok nmX6 hown hK hP hD hS 0 rfl rfl 0 (by decide) (hts (.fieldLink RX6 7 "TributePitches$Pitch" "number" "I") (List.mem_of_getElem? (i := 4) rfl)) (fun _ h9 => h9) rfl hnm rfl (by decide +kernel) rfl rfl (Nat.le_of_ble_eq_true rfl) dX6_init_6 (fun H locs hP hD hS => ?_)
  have hP : va_P (dC, dI) vwCl [(qp, .inr (6, [.int b0, .int 0, .int 0, .int 0, .int 0, .int 0, .int 0, .null]))] H := hP
  have hD : va_D _ [(qp, .inr (6, [.int b0, .int 0, .int 0, .int 0, .int 0, .int 0, .int 0, .null]))] := hD
  refine lv_aload_n hx hb dX6_init_9 rfl (lv_at hl 0 rfl) ?_
  refine lv_iload_n hx hb dX6_init_10 rfl (lv_at hl 2 rfl) ?_
  refine va_putF (D := (dC, dI)) (ci := 6) (v := .int b1) (ty := .int) (C := RX6) (T := TX6) (N := 8) hx hb hts hiX6 tyX6 tyX6_ok nmX6 hown hK hP hD hS 0 rfl rfl 1 (by decide) (hts (.fieldLink RX6 13 "TributePitches$Pitch" "x" "I") (List.mem_of_getElem? (i := 5) rfl)) (fun _ h9 => h9) rfl hnm rfl (by decide +kernel) rfl rfl (Nat.le_of_ble_eq_true rfl) dX6_init_11 (fun H locs hP hD hS => ?_)
  have hP : va_P (dC, dI) vwCl [(qp, .inr (6, [.int b0, .int b1, .int 0, .int 0, .int 0, .int 0, .int 0, .null]))] H := hP
  have hD : va_D _ [(qp, .inr (6, [.int b0, .int b1, .int 0, .int 0, .int 0, .int 0, .int 0, .null]))] := hD
  refine lv_aload_n hx hb dX6_init_14 rfl (lv_at hl 0 rfl) ?_
  refine lv_iload_n hx hb dX6_init_15 rfl (lv_at hl 3 rfl) ?_
  refine va_putF (D := (dC, dI)) (ci := 6) (v := .int b2) (ty := .int) (C := RX6) (T := TX6) (N := 8) hx hb hts hiX6 tyX6 tyX6_ok nmX6 hown hK hP hD hS 0 rfl rfl 2 (by decide) (hts (.fieldLink RX6 16 "TributePitches$Pitch" "y" "I") (List.mem_of_getElem? (i := 6) rfl)) (fun _ h9 => h9) rfl hnm rfl (by decide +kernel) rfl rfl (Nat.le_of_ble_eq_true rfl) dX6_init_16 (fun H locs hP hD hS => ?_)
  have hP : va_P (dC, dI) vwCl [(qp, .inr (6, [.int b0, .int b1, .int b2, .int 0, .int 0, .int 0, .int 0, .null]))] H := hP
  have hD : va_D _ [(qp, .inr (6, [.int b0, .int b1, .int b2, .int 0, .int 0, .int 0, .int 0, .null]))] := hD
  refine lv_aload_n hx hb dX6_init_19 rfl (lv_at hl 0 rfl) ?_
  refine lv_iload hx hb dX6_init_20 (lv_at hl 4 rfl) ?_
  refine va_putF (D := (dC, dI)) (ci := 6) (v := .int b3) (ty := .int) (C := RX6) (T := TX6) (N := 8) hx hb hts hiX6 tyX6 tyX6_ok nmX6 hown hK hP hD hS 0 rfl rfl 3 (by decide) (hts (.fieldLink RX6 19 "TributePitches$Pitch" "x2" "I") (List.mem_of_getElem? (i := 7) rfl)) (fun _ h9 => h9) rfl hnm rfl (by decide +kernel) rfl rfl (Nat.le_of_ble_eq_true rfl) dX6_init_22 (fun H locs hP hD hS => ?_)
  have hP : va_P (dC, dI) vwCl [(qp, .inr (6, [.int b0, .int b1, .int b2, .int b3, .int 0, .int 0, .int 0, .null]))] H := hP
  have hD : va_D _ [(qp, .inr (6, [.int b0, .int b1, .int b2, .int b3, .int 0, .int 0, .int 0, .null]))] := hD
  refine lv_aload_n hx hb dX6_init_25 rfl (lv_at hl 0 rfl) ?_
  refine lv_iload hx hb dX6_init_26 (lv_at hl 5 rfl) ?_
  refine va_putF (D := (dC, dI)) (ci := 6) (v := .int b4) (ty := .int) (C := RX6) (T := TX6) (N := 8) hx hb hts hiX6 tyX6 tyX6_ok nmX6 hown hK hP hD hS 0 rfl rfl 4 (by decide) (hts (.fieldLink RX6 22 "TributePitches$Pitch" "y2" "I") (List.mem_of_getElem? (i := 8) rfl)) (fun _ h9 => h9) rfl hnm rfl (by decide +kernel) rfl rfl (Nat.le_of_ble_eq_true rfl) dX6_init_28 (fun H locs hP hD hS => ?_)
  have hP : va_P (dC, dI) vwCl [(qp, .inr (6, [.int b0, .int b1, .int b2, .int b3, .int b4, .int 0, .int 0, .null]))] H := hP
  have hD : va_D _ [(qp, .inr (6, [.int b0, .int b1, .int b2, .int b3, .int b4, .int 0, .int 0, .null]))] := hD
  refine lv_aload_n hx hb dX6_init_31 rfl (lv_at hl 0 rfl) ?_
  refine lv_iload hx hb dX6_init_32 (lv_at hl 6 rfl) ?_
  refine va_putF (D := (dC, dI)) (ci := 6) (v := .int b5) (ty := .int) (C := RX6) (T := TX6) (N := 8) hx hb hts hiX6 tyX6 tyX6_ok nmX6 hown hK hP hD hS 0 rfl rfl 5 (by decide) (hts (.fieldLink RX6 25 "TributePitches$Pitch" "tons" "I") (List.mem_of_getElem? (i := 9) rfl)) (fun _ h9 => h9) rfl hnm rfl (by decide +kernel) rfl rfl (Nat.le_of_ble_eq_true rfl) dX6_init_34 (fun H locs hP hD hS => ?_)
  have hP : va_P (dC, dI) vwCl [(qp, .inr (6, [.int b0, .int b1, .int b2, .int b3, .int b4, .int b5, .int 0, .null]))] H := hP
  have hD : va_D _ [(qp, .inr (6, [.int b0, .int b1, .int b2, .int b3, .int b4, .int b5, .int 0, .null]))] := hD
  subst hQ
  have hP9 := hP.sub (ws' := [(qp, .inr (6, [.int b0, .int b1, .int b2, .int b3, .int b4, .int b5, .int 0, .null]))]) [0] rfl
  have hD9 := hD.sub (ws' := [(qp, .inr (6, [.int b0, .int b1, .int b2, .int b3, .int b4, .int b5, .int 0, .null]))]) [0] (by decide) rfl
  have hK9 := hK.sub (tys' := []) [] rfl
  exact W.vret hx hb hr (fun t ht hW => ⟨⟨(), rfl, trivial, ⟨by rw [ht]; exact hP9, va_K.moved hW.alike hK9, hD9⟩⟩, hS.F ht⟩) hS.2.2 dX6_init_37
set_option maxHeartbeats 4000000 in
set_option maxRecDepth 100000 in
theorem s_meets (l : Launch) (dC : Nat → ClassId) (dI : Nat → Nat → Nat)  (sz : Nat) (qp : Nat) (p0 : Value) (p5 : Value) (p6 : Value) (p7 : Value) (x : Int32) (y : Int32) (xx : Int32) (yy : Int32) (le : Int32) (to : Int32) (ri : Int32) (bo : Int32)  : Met l yX6_meets wsX6_meets ({ frames := 0, cells := 0, slots := 0, locals := 0 }) (pw (dC, dI) [] [(qp, .inr (6, [p0, .int x, .int y, .int xx, .int yy, p5, p6, p7]))] sz [.ref qp, .int le, .int to, .int ri, .int bo]) (vp_Si (fun r => r = if x ≤ ri ∧ le ≤ xx ∧ y ≤ bo ∧ to ≤ yy then 1 else 0)) 0 0 (fun _ => False) := by
  refine pw_met (cc := cX6_meets) (maxL := 5) (ret := (some .boolean)) (by decide) rfl (Nat.le_of_ble_eq_true rfl) ?_
  intro p e s m below meth c0 hx hb hr hml hown hlocks hnm hts hP hK hD hN hsz hA hS ls hl
  have hl : lv_has ls 5 [(0, .ref qp), (1, .int le), (2, .int to), (3, .int ri), (4, .int bo)] := hl
  have hiX6 : ∀ w ∈ wsX60, w ∈ wsX6_meets := fun _ h => List.mem_cons_of_mem _ (List.mem_append_right _ (h))
  generalize hQ : MQ _ _ _ _ _ _ _ = Q
  refine lv_aload_n hx hb dX6_meets_0 rfl (lv_at hl 0 rfl) ?_
  refine va_get (D := (dC, dI)) (ci := 6) (v := .int x) (C := RX6) (T := TX6) (N := 8) hx hb hts hiX6 hown hK hP 0 rfl rfl 1 (by decide) (hts (.fieldLink RX6 13 "TributePitches$Pitch" "x" "I") (List.mem_of_getElem? (i := 1) rfl)) (fun _ h9 => h9) rfl dX6_meets_1 ?_
  refine lv_iload_n hx hb dX6_meets_4 rfl (lv_at hl 3 rfl) ?_
  refine lv_icmp_gt (tgt := 37) hx hb dX6_meets_5 (by decide) (fun c1 => ?_) (fun c1 => ?_)
  · skip
    refine lv_iconst (v := 0) hx hb dX6_meets_37 (by decide) ?_
    subst hQ
    exact W.zret (v := 0) hx hb hr rfl (fun t ht hW => ⟨0, rfl, (by rw [if_neg (fun q => absurd c1 (Int32.not_lt.mpr q.1))]), ht⟩) (fun q h => absurd h List.not_mem_nil) dX6_meets_38
  · skip
    refine lv_iload_n hx hb dX6_meets_8 rfl (lv_at hl 1 rfl) ?_
    refine lv_aload_n hx hb dX6_meets_9 rfl (lv_at hl 0 rfl) ?_
    refine va_get (D := (dC, dI)) (ci := 6) (v := .int xx) (C := RX6) (T := TX6) (N := 8) hx hb hts hiX6 hown hK hP 0 rfl rfl 3 (by decide) (hts (.fieldLink RX6 19 "TributePitches$Pitch" "x2" "I") (List.mem_of_getElem? (i := 2) rfl)) (fun _ h9 => h9) rfl dX6_meets_10 ?_
    refine lv_icmp_gt (tgt := 37) hx hb dX6_meets_13 (by decide) (fun c2 => ?_) (fun c2 => ?_)
    · skip
      refine lv_iconst (v := 0) hx hb dX6_meets_37 (by decide) ?_
      subst hQ
      exact W.zret (v := 0) hx hb hr rfl (fun t ht hW => ⟨0, rfl, (by rw [if_neg (fun q => absurd c2 (Int32.not_lt.mpr q.2.1))]), ht⟩) (fun q h => absurd h List.not_mem_nil) dX6_meets_38
    · skip
      refine lv_aload_n hx hb dX6_meets_16 rfl (lv_at hl 0 rfl) ?_
      refine va_get (D := (dC, dI)) (ci := 6) (v := .int y) (C := RX6) (T := TX6) (N := 8) hx hb hts hiX6 hown hK hP 0 rfl rfl 2 (by decide) (hts (.fieldLink RX6 16 "TributePitches$Pitch" "y" "I") (List.mem_of_getElem? (i := 3) rfl)) (fun _ h9 => h9) rfl dX6_meets_17 ?_
      refine lv_iload hx hb dX6_meets_20 (lv_at hl 4 rfl) ?_
      refine lv_icmp_gt (tgt := 37) hx hb dX6_meets_22 (by decide) (fun c3 => ?_) (fun c3 => ?_)
      · skip
        refine lv_iconst (v := 0) hx hb dX6_meets_37 (by decide) ?_
        subst hQ
        exact W.zret (v := 0) hx hb hr rfl (fun t ht hW => ⟨0, rfl, (by rw [if_neg (fun q => absurd c3 (Int32.not_lt.mpr q.2.2.1))]), ht⟩) (fun q h => absurd h List.not_mem_nil) dX6_meets_38
      · skip
        refine lv_iload_n hx hb dX6_meets_25 rfl (lv_at hl 2 rfl) ?_
        refine lv_aload_n hx hb dX6_meets_26 rfl (lv_at hl 0 rfl) ?_
        refine va_get (D := (dC, dI)) (ci := 6) (v := .int yy) (C := RX6) (T := TX6) (N := 8) hx hb hts hiX6 hown hK hP 0 rfl rfl 4 (by decide) (hts (.fieldLink RX6 22 "TributePitches$Pitch" "y2" "I") (List.mem_of_getElem? (i := 4) rfl)) (fun _ h9 => h9) rfl dX6_meets_27 ?_
        refine lv_icmp_gt (tgt := 37) hx hb dX6_meets_30 (by decide) (fun c4 => ?_) (fun c4 => ?_)
        · skip
          refine lv_iconst (v := 0) hx hb dX6_meets_37 (by decide) ?_
          subst hQ
          exact W.zret (v := 0) hx hb hr rfl (fun t ht hW => ⟨0, rfl, (by rw [if_neg (fun q => absurd c4 (Int32.not_lt.mpr q.2.2.2))]), ht⟩) (fun q h => absurd h List.not_mem_nil) dX6_meets_38
        · skip
          refine lv_iconst (v := 1) hx hb dX6_meets_33 (by decide) ?_
          refine lv_goto (tgt := 38) hx hb dX6_meets_34 (by decide) ?_
          subst hQ
          exact W.zret (v := 1) hx hb hr rfl (fun t ht hW => ⟨1, rfl, (by rw [if_pos ⟨Int32.not_lt.mp c1, Int32.not_lt.mp c2, Int32.not_lt.mp c3, Int32.not_lt.mp c4⟩]), ht⟩) (fun q h => absurd h List.not_mem_nil) dX6_meets_38
