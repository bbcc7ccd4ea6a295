set_option maxHeartbeats 4000000 in
set_option maxRecDepth 100000 in
theorem c_X11_meetNeighbour (l : Launch) (dC : Nat → ClassId) (dI : Nat → Nat → Nat) (cI : ClassId) (sz : Nat) (qm : Nat) (w0 : Value) (w1 : Value) (w2 : Value) (w3 : Value) (w6 : Value) (w7 : Value) (w8 : Value) (w9 : Value) (w10 : Value) (w11 : Value) (w12 : Value) (w13 : Value) (w14 : Value) (w15 : Value) (w16 : Value) (w17 : Value) (w18 : Value) (w19 : Value) (w20 : Value) (w21 : Value) (w22 : Value) (w23 : Value) (w24 : Value) (w25 : Value) (w26 : Value) (w27 : Value) (w28 : Value) (w29 : Value) (w30 : Value) (w31 : Value) (w32 : Value) (w33 : Value) (w34 : Value) (w35 : Value) (w36 : Value) (w37 : Value) (w38 : Value) (nl : Nat) (nh : Nat) (sq : Int32) (x : Int32) (y : Int32) (dd : Int32) (gl : Nat → Int32) (gh : Nat → Int32) (hq : vp_in sq 48) (hna : ∀ i j : Nat, i < 48 → j < 48 → ¬ gl i < gl j - dd ∧ ¬ gh j + dd < gh i) : Met l yX11_meetNeighbour wsX11_meetNeighbour ({ frames := 2, cells := 0, slots := 0, locals := 60 }) (pw (dC, dI) [(cI, .int)] [(qm, .inr (11, [w0, w1, w2, w3, .ref nl, .ref nh, w6, w7, w8, w9, w10, w11, w12, w13, w14, w15, w16, w17, w18, w19, w20, w21, w22, w23, w24, w25, w26, w27, w28, w29, w30, w31, w32, w33, w34, w35, w36, w37, w38])), (nl, .inl (cI, 48, .inl gl)), (nh, .inl (cI, 48, .inl gh))] sz [.ref qm, .int sq, .int x, .int y, .int dd]) (va_Sv (fun _ => True)) 0 0 (fun _ => False) := by
  refine pw_met (cc := cX11_meetNeighbour) (maxL := 5) (ret := none) (by decide) rfl (Nat.le_of_ble_eq_true rfl) ?_
  intro p e s m below meth c0 hx hb hr hml hown hlocks hnm hts hP hK hD hN hsz hA hS ls hl
  have hl : lv_has ls 5 [(0, .ref qm), (1, .int sq), (2, .int x), (3, .int y), (4, .int dd)] := hl
  have hiX11 : ∀ w ∈ wsX110, w ∈ wsX11_meetNeighbour := by decide +kernel
  refine lv_iload_n hx hb dX11_meetNeighbour_0 rfl (lv_at hl 2 rfl) ?_
  refine lv_iload_n hx hb dX11_meetNeighbour_1 rfl (lv_at hl 3 rfl) ?_
  refine vp_callSi (va_Run.run (va_runS (As := [.int x, .int y]) (rest := []) ⟨hx, hb, hml, hown, hts⟩ (c_X11_isSquare l x y ) (va_cwS 2 hts gX11_meetNeighbour_X11_isSquare rfl rfl rfl (by decide +kernel) ⟨Nat.le_of_ble_eq_true rfl, Nat.le_of_ble_eq_true rfl⟩) (p0_preS hN) rfl rfl hl.1 rfl (lv_room (Nat.le_of_ble_eq_true rfl)) dX11_meetNeighbour_2 ⟨Nat.le_of_ble_eq_true rfl, Nat.le_of_ble_eq_true rfl⟩)) (fun r1 hr1 => ?_)
  have hr1 : r1 = if (0 ≤ x ∧ x ≤ 7) ∧ (0 ≤ y ∧ y ≤ 5) then 1 else 0 := hr1
  refine lv_if_eq (tgt := 41) hx hb dX11_meetNeighbour_5 (by decide) (fun c2 => ?_) (fun c2 => ?_)
  · skip
    have c2 := (fa_bool_prop hr1).1.mp c2
    exact W.vret hx hb hr (fun t ht hW => ⟨rfl, trivial, ht⟩) (fun q h => absurd h List.not_mem_nil) dX11_meetNeighbour_41
  · skip
    have c2 := (fa_bool_prop hr1).2.mp c2
    refine lv_aload_n hx hb dX11_meetNeighbour_8 rfl (lv_at hl 0 rfl) ?_
    refine lv_iload_n hx hb dX11_meetNeighbour_9 rfl (lv_at hl 1 rfl) ?_
    refine lv_aload_n hx hb dX11_meetNeighbour_10 rfl (lv_at hl 0 rfl) ?_
    refine va_get (D := (dC, dI)) (ci := 11) (v := .ref nl) (C := RX11) (T := TX11) (N := 39) hx hb hts hiX11 hown hK hP 0 rfl rfl 4 (by decide) (hts (.fieldLink RX11 16 "TributePitchesModel" "newLow" "[I") (by decide +kernel)) (fun _ h9 => h9) rfl dX11_meetNeighbour_11 ?_
    refine lv_bipush (v := 8) hx hb dX11_meetNeighbour_14 (by decide) ?_
    refine lv_iload_n hx hb dX11_meetNeighbour_16 rfl (lv_at hl 3 rfl) ?_
    refine lv_imul hx hb dX11_meetNeighbour_17 ?_
    refine lv_iload_n hx hb dX11_meetNeighbour_18 rfl (lv_at hl 2 rfl) ?_
    refine lv_iadd hx hb dX11_meetNeighbour_19 ?_
    refine va_iald hx hb hK hP 1 0 rfl rfl (sq_in c2) dX11_meetNeighbour_20 ?_
    refine lv_iload hx hb dX11_meetNeighbour_21 (lv_at hl 4 rfl) ?_
    refine lv_isub hx hb dX11_meetNeighbour_23 ?_
    refine lv_aload_n hx hb dX11_meetNeighbour_24 rfl (lv_at hl 0 rfl) ?_
    refine va_get (D := (dC, dI)) (ci := 11) (v := .ref nh) (C := RX11) (T := TX11) (N := 39) hx hb hts hiX11 hown hK hP 0 rfl rfl 5 (by decide) (hts (.fieldLink RX11 19 "TributePitchesModel" "newHigh" "[I") (by decide +kernel)) (fun _ h9 => h9) rfl dX11_meetNeighbour_25 ?_
    refine lv_bipush (v := 8) hx hb dX11_meetNeighbour_28 (by decide) ?_
    refine lv_iload_n hx hb dX11_meetNeighbour_30 rfl (lv_at hl 3 rfl) ?_
    refine lv_imul hx hb dX11_meetNeighbour_31 ?_
    refine lv_iload_n hx hb dX11_meetNeighbour_32 rfl (lv_at hl 2 rfl) ?_
    refine lv_iadd hx hb dX11_meetNeighbour_33 ?_
    refine va_iald hx hb hK hP 2 0 rfl rfl (sq_in c2) dX11_meetNeighbour_34 ?_
    refine lv_iload hx hb dX11_meetNeighbour_35 (lv_at hl 4 rfl) ?_
    refine lv_iadd hx hb dX11_meetNeighbour_37 ?_
    have hPc := hP.sub (ws' := [(qm, .inr (11, [w0, w1, w2, w3, .ref nl, .ref nh, w6, w7, w8, w9, w10, w11, w12, w13, w14, w15, w16, w17, w18, w19, w20, w21, w22, w23, w24, w25, w26, w27, w28, w29, w30, w31, w32, w33, w34, w35, w36, w37, w38])), (nl, .inl (cI, 48, .inl gl)), (nh, .inl (cI, 48, .inl gh))]) [0, 1, 2] rfl
    have hDc := hD.sub (ws' := [(qm, .inr (11, [w0, w1, w2, w3, .ref nl, .ref nh, w6, w7, w8, w9, w10, w11, w12, w13, w14, w15, w16, w17, w18, w19, w20, w21, w22, w23, w24, w25, w26, w27, w28, w29, w30, w31, w32, w33, w34, w35, w36, w37, w38])), (nl, .inl (cI, 48, .inl gl)), (nh, .inl (cI, 48, .inl gh))]) [0, 1, 2] (by decide) rfl
    have hKc := hK.sub (tys' := [(cI, .int)]) [0] rfl
    refine va_csv (va_Run.run (va_runV (As := [.int sq, .int ((gl ((8 * y) + x).toNatClampNeg) - dd), .int ((gh ((8 * y) + x).toNatClampNeg) + dd)]) (rest := []) ⟨hx, hb, hml, hown, hts⟩ (c_X11_meet0 l dC dI cI _ qm w0 w1 w2 w3 w6 w7 w8 w9 w10 w11 w12 w13 w14 w15 w16 w17 w18 w19 w20 w21 w22 w23 w24 w25 w26 w27 w28 w29 w30 w31 w32 w33 w34 w35 w36 w37 w38 nl nh sq ((gl ((8 * y) + x).toNatClampNeg) - dd) ((gh ((8 * y) + x).toNatClampNeg) + dd) gl gh hq (Int32.not_lt.mp (hna _ _ (vp_in_lt hq) (vp_in_lt (sq_in c2))).1) (Int32.not_lt.mp (hna _ _ (vp_in_lt hq) (vp_in_lt (sq_in c2))).2)) (cwV 3 hts gX11_meetNeighbour_X11_meet rfl rfl rfl (by decide +kernel) ⟨Nat.le_of_ble_eq_true rfl, Nat.le_of_ble_eq_true rfl⟩) (pw_preV (va_recv hKc hPc (ci := 11) (q0 := 0) rfl rfl) hPc hKc hDc hN) rfl rfl hl.1 rfl (lv_room (Nat.le_of_ble_eq_true rfl)) dX11_meetNeighbour_38 ⟨Nat.le_of_ble_eq_true rfl, Nat.le_of_ble_eq_true rfl⟩)) (fun hr3 => ?_)
    exact W.vret hx hb hr (fun t ht hW => ⟨rfl, trivial, ht⟩) (fun q h => absurd h List.not_mem_nil) dX11_meetNeighbour_41
