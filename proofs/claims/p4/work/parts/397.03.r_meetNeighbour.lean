set_option maxHeartbeats 4000000 in
set_option maxRecDepth 100000 in
theorem r_meetNeighbour (l : Launch) (dC : Nat → ClassId) (dI : Nat → Nat → Nat) (cI : ClassId) (sz : Nat) (qm : Nat) (w0 : Value) (w1 : Value) (w2 : Value) (w3 : Value) (w7 : Value) (w8 : Value) (w9 : Value) (w10 : Value) (w11 : Value) (w12 : Value) (w13 : Value) (w14 : Value) (w15 : Value) (w16 : Value) (w17 : Value) (w18 : Value) (w19 : Value) (w20 : Value) (w21 : Value) (w22 : Value) (w23 : Value) (w24 : Value) (w25 : Value) (w26 : Value) (w27 : Value) (w28 : Value) (w29 : Value) (w30 : Value) (w31 : Value) (w32 : Value) (w33 : Value) (w34 : Value) (w35 : Value) (w36 : Value) (w37 : Value) (w38 : Value) (nl : Nat) (nh : Nat) (a : Nat) (x : Int32) (y : Int32) (dd : Int32) (ch : Int32) (gl : Nat → Int32) (gh : Nat → Int32) (ha : a < 48) : Met l yX11_meetNeighbour wsX11_meetNeighbour ({ frames := 2, cells := 0, slots := 0, locals := 60 }) (pw (dC, dI) [(cI, .int)] [(qm, .inr (11, [w0, w1, w2, w3, .ref nl, .ref nh, .int ch, w7, w8, w9, w10, w11, w12, w13, w14, w15, w16, w17, w18, w19, w20, w21, w22, w23, w24, w25, w26, w27, w28, w29, w30, w31, w32, w33, w34, w35, w36, w37, w38])), (nl, .inl (cI, 48, .inl gl)), (nh, .inl (cI, 48, .inl gh))] sz [.ref qm, .int (nI a), .int x, .int y, .int dd]) (va_Qv (fun (u : (Nat → Int32) × (Nat → Int32) × (Int32)) => (¬ ((0 ≤ x ∧ x ≤ 7) ∧ (0 ≤ y ∧ y ≤ 5)) ∧ (u.1) = gl ∧ (u.2.1) = gh ∧ (u.2.2) = ch) ∨ (∃ b, b < 48 ∧ ((0 ≤ x ∧ x ≤ 7) ∧ (0 ≤ y ∧ y ≤ 5)) ∧ 8 * y + x = nI b ∧ (u.1) = tcL a (gl b - dd) gl ∧ (u.2.1) = tcH a (gh b + dd) gh ∧ (u.2.2) = (if gl a < gl b - dd ∨ gh b + dd < gh a then 1 else ch))) (fun u t => bw (dC, dI) [(cI, .int)] (va_A [(qm, .inr (11, [w0, w1, w2, w3, .ref nl, .ref nh, .int ch, w7, w8, w9, w10, w11, w12, w13, w14, w15, w16, w17, w18, w19, w20, w21, w22, w23, w24, w25, w26, w27, w28, w29, w30, w31, w32, w33, w34, w35, w36, w37, w38])), (nl, .inl (cI, 48, .inl gl)), (nh, .inl (cI, 48, .inl gh))] sz) [(qm, .inr (11, [w0, w1, w2, w3, .ref nl, .ref nh, .int (u.2.2), w7, w8, w9, w10, w11, w12, w13, w14, w15, w16, w17, w18, w19, w20, w21, w22, w23, w24, w25, w26, w27, w28, w29, w30, w31, w32, w33, w34, w35, w36, w37, w38])), (nl, .inl (cI, 48, .inl (u.1))), (nh, .inl (cI, 48, .inl (u.2.1)))] t) (va_A [(qm, .inr (11, [w0, w1, w2, w3, .ref nl, .ref nh, .int ch, w7, w8, w9, w10, w11, w12, w13, w14, w15, w16, w17, w18, w19, w20, w21, w22, w23, w24, w25, w26, w27, w28, w29, w30, w31, w32, w33, w34, w35, w36, w37, w38])), (nl, .inl (cI, 48, .inl gl)), (nh, .inl (cI, 48, .inl gh))] sz)) 0 0 (va_A [(qm, .inr (11, [w0, w1, w2, w3, .ref nl, .ref nh, .int ch, w7, w8, w9, w10, w11, w12, w13, w14, w15, w16, w17, w18, w19, w20, w21, w22, w23, w24, w25, w26, w27, w28, w29, w30, w31, w32, w33, w34, w35, w36, w37, w38])), (nl, .inl (cI, 48, .inl gl)), (nh, .inl (cI, 48, .inl gh))] sz) := by
  refine pw_met (cc := cX11_meetNeighbour) (maxL := 5) (ret := none) (by decide) rfl (Nat.le_of_ble_eq_true rfl) ?_
  intro p e s m below meth c0 hx hb hr hml hown hlocks hnm hts hP hK hD hN hsz hA hS ls hl
  subst hsz
  have hl : lv_has ls 5 [(0, .ref qm), (1, .int (nI a)), (2, .int x), (3, .int y), (4, .int dd)] := hl
  have hiX11 : ∀ w ∈ wsX110, w ∈ wsX11_meetNeighbour := by decide +kernel
  generalize hQ : MQ _ _ _ _ _ _ _ = Q
  refine lv_iload_n hx hb dX11_meetNeighbour_0 rfl (lv_at hl 2 rfl) ?_
  refine lv_iload_n hx hb dX11_meetNeighbour_1 rfl (lv_at hl 3 rfl) ?_
  refine vp_callSi (va_Run.run (va_runS (As := [.int x, .int y]) (rest := []) ⟨hx, hb, hml, hown, hts⟩ (c_X11_isSquare l x y ) (va_cwS 2 hts gX11_meetNeighbour_X11_isSquare rfl rfl rfl (by decide +kernel) ⟨Nat.le_of_ble_eq_true rfl, Nat.le_of_ble_eq_true rfl⟩) (p0_preS hN) rfl rfl hl.1 rfl (lv_room (Nat.le_of_ble_eq_true rfl)) dX11_meetNeighbour_2 ⟨Nat.le_of_ble_eq_true rfl, Nat.le_of_ble_eq_true rfl⟩)) (fun r1 hr1 => ?_)
  have hr1 : r1 = if (0 ≤ x ∧ x ≤ 7) ∧ (0 ≤ y ∧ y ≤ 5) then 1 else 0 := hr1
  refine lv_if_eq (tgt := 41) hx hb dX11_meetNeighbour_5 (by decide) (fun c2 => ?_) (fun c2 => ?_)
  · skip
    have c2 := (fa_bool_prop hr1).1.mp c2
    subst hQ
    have hP9 := hP.sub (ws' := [(qm, .inr (11, [w0, w1, w2, w3, .ref nl, .ref nh, .int ch, w7, w8, w9, w10, w11, w12, w13, w14, w15, w16, w17, w18, w19, w20, w21, w22, w23, w24, w25, w26, w27, w28, w29, w30, w31, w32, w33, w34, w35, w36, w37, w38])), (nl, .inl (cI, 48, .inl gl)), (nh, .inl (cI, 48, .inl gh))]) [0, 1, 2] rfl
    have hD9 := hD.sub (ws' := [(qm, .inr (11, [w0, w1, w2, w3, .ref nl, .ref nh, .int ch, w7, w8, w9, w10, w11, w12, w13, w14, w15, w16, w17, w18, w19, w20, w21, w22, w23, w24, w25, w26, w27, w28, w29, w30, w31, w32, w33, w34, w35, w36, w37, w38])), (nl, .inl (cI, 48, .inl gl)), (nh, .inl (cI, 48, .inl gh))]) [0, 1, 2] (by decide) rfl
    have hK9 := hK
    exact W.vret hx hb hr (fun t ht hW => ⟨⟨(gl, gh, ch), rfl, (Or.inl ⟨c2, rfl, rfl, rfl⟩), by rw [ht]; exact hP9, va_K.moved hW.alike hK9, hD9⟩, hS.F ht⟩) hS.2.2 dX11_meetNeighbour_41
  · skip
    have c2 := (fa_bool_prop hr1).2.mp c2
    obtain ⟨b, hb9, eb⟩ := sqN c2
    refine lv_aload_n hx hb dX11_meetNeighbour_8 rfl (lv_at hl 0 rfl) ?_
    refine lv_iload_n hx hb dX11_meetNeighbour_9 rfl (lv_at hl 1 rfl) ?_
    refine lv_aload_n hx hb dX11_meetNeighbour_10 rfl (lv_at hl 0 rfl) ?_
    refine va_get (D := (dC, dI)) (ci := 11) (v := .ref nl) (C := RX11) (T := TX11) (N := 39) hx hb hts hiX11 hown hK hP 0 rfl rfl 4 (by decide) (hts (.fieldLink RX11 16 "TributePitchesModel" "newLow" "[I") (by decide +kernel)) (fun _ h9 => h9) rfl dX11_meetNeighbour_11 ?_
    refine lv_bipush (v := 8) hx hb dX11_meetNeighbour_14 (by decide) ?_
    refine lv_iload_n hx hb dX11_meetNeighbour_16 rfl (lv_at hl 3 rfl) ?_
    refine lv_imul hx hb dX11_meetNeighbour_17 ?_
    refine lv_iload_n hx hb dX11_meetNeighbour_18 rfl (lv_at hl 2 rfl) ?_
    refine lv_iadd hx hb dX11_meetNeighbour_19 ?_
    refine lv_topi (fun vz evz => ?_)
    have evz : vz = nI b := by rw [evz]; exact eb
    subst evz
    refine va_iald hx hb hK hP 1 0 rfl rfl (vp_in_nI (by omega) (by omega)) dX11_meetNeighbour_20 ?_
    refine lv_topi (fun v3 ev3 => ?_)
    have ev3 : v3 = gl b := by rw [ev3]; rw [nI_clamp (by omega)]
    subst ev3
    refine lv_iload hx hb dX11_meetNeighbour_21 (lv_at hl 4 rfl) ?_
    refine lv_isub hx hb dX11_meetNeighbour_23 ?_
    refine lv_aload_n hx hb dX11_meetNeighbour_24 rfl (lv_at hl 0 rfl) ?_
    refine va_get (D := (dC, dI)) (ci := 11) (v := .ref nh) (C := RX11) (T := TX11) (N := 39) hx hb hts hiX11 hown hK hP 0 rfl rfl 5 (by decide) (hts (.fieldLink RX11 19 "TributePitchesModel" "newHigh" "[I") (by decide +kernel)) (fun _ h9 => h9) rfl dX11_meetNeighbour_25 ?_
    refine lv_bipush (v := 8) hx hb dX11_meetNeighbour_28 (by decide) ?_
    refine lv_iload_n hx hb dX11_meetNeighbour_30 rfl (lv_at hl 3 rfl) ?_
    refine lv_imul hx hb dX11_meetNeighbour_31 ?_
    refine lv_iload_n hx hb dX11_meetNeighbour_32 rfl (lv_at hl 2 rfl) ?_
    refine lv_iadd hx hb dX11_meetNeighbour_33 ?_
    refine lv_topi (fun vz evz => ?_)
    have evz : vz = nI b := by rw [evz]; exact eb
    subst evz
    refine va_iald hx hb hK hP 2 0 rfl rfl (vp_in_nI (by omega) (by omega)) dX11_meetNeighbour_34 ?_
    refine lv_topi (fun v4 ev4 => ?_)
    have ev4 : v4 = gh b := by rw [ev4]; rw [nI_clamp (by omega)]
    subst ev4
    refine lv_iload hx hb dX11_meetNeighbour_35 (lv_at hl 4 rfl) ?_
    refine lv_iadd hx hb dX11_meetNeighbour_37 ?_
    have hPc := hP.sub (ws' := [(qm, .inr (11, [w0, w1, w2, w3, .ref nl, .ref nh, .int ch, w7, w8, w9, w10, w11, w12, w13, w14, w15, w16, w17, w18, w19, w20, w21, w22, w23, w24, w25, w26, w27, w28, w29, w30, w31, w32, w33, w34, w35, w36, w37, w38])), (nl, .inl (cI, 48, .inl gl)), (nh, .inl (cI, 48, .inl gh))]) [0, 1, 2] rfl
    have hDc := hD.sub (ws' := [(qm, .inr (11, [w0, w1, w2, w3, .ref nl, .ref nh, .int ch, w7, w8, w9, w10, w11, w12, w13, w14, w15, w16, w17, w18, w19, w20, w21, w22, w23, w24, w25, w26, w27, w28, w29, w30, w31, w32, w33, w34, w35, w36, w37, w38])), (nl, .inl (cI, 48, .inl gl)), (nh, .inl (cI, 48, .inl gh))]) [0, 1, 2] (by decide) rfl
    have hKc := hK.sub (tys' := [(cI, .int)]) [0] rfl
    have hFc := va_free (wc := [(qm, .inr (11, [w0, w1, w2, w3, .ref nl, .ref nh, .int ch, w7, w8, w9, w10, w11, w12, w13, w14, w15, w16, w17, w18, w19, w20, w21, w22, w23, w24, w25, w26, w27, w28, w29, w30, w31, w32, w33, w34, w35, w36, w37, w38])), (nl, .inl (cI, 48, .inl gl)), (nh, .inl (cI, 48, .inl gh))]) hD hS hA [0, 1, 2] rfl
    refine va_callv (va_runV (As := [.int (nI a), .int ((gl b) - dd), .int ((gh b) + dd)]) (rest := []) ⟨hx, hb, hml, hown, hts⟩ (r_meet l dC dI cI _ qm w0 w1 w2 w3 w7 w8 w9 w10 w11 w12 w13 w14 w15 w16 w17 w18 w19 w20 w21 w22 w23 w24 w25 w26 w27 w28 w29 w30 w31 w32 w33 w34 w35 w36 w37 w38 nl nh a ((gl b) - dd) ((gh b) + dd) ch gl gh ha) (cwV 3 hts gX11_meetNeighbour_X11_meet rfl rfl rfl (by decide +kernel) ⟨Nat.le_of_ble_eq_true rfl, Nat.le_of_ble_eq_true rfl⟩) (pw_preV (va_recv hKc hPc (ci := 11) (q0 := 0) rfl rfl) hPc hKc hDc hN) rfl rfl hl.1 rfl (lv_room (Nat.le_of_ble_eq_true rfl)) dX11_meetNeighbour_38 ⟨Nat.le_of_ble_eq_true rfl, Nat.le_of_ble_eq_true rfl⟩) hS (fun q _ h => hFc q h) hFc (fun u t H1 locs ht hvm hw hB hz1 hk1 hS => ?_)
    obtain ⟨al_6, ah_7, cq_8⟩ := u
    have hr5 : al_6 = tcL a ((gl b) - dd) gl ∧ ah_7 = tcH a ((gh b) + dd) gh ∧ cq_8 = (if gl a < ((gl b) - dd) ∨ ((gh b) + dd) < gh a then 1 else ch) := hw
    obtain ⟨hP1, hK1, hD1⟩ := hB
    rw [ht] at hP1
    obtain ⟨hP, hD⟩ := va_join (wr := []) (w1 := [(qm, .inr (11, [w0, w1, w2, w3, .ref nl, .ref nh, .int cq_8, w7, w8, w9, w10, w11, w12, w13, w14, w15, w16, w17, w18, w19, w20, w21, w22, w23, w24, w25, w26, w27, w28, w29, w30, w31, w32, w33, w34, w35, w36, w37, w38])), (nl, .inl (cI, 48, .inl al_6)), (nh, .inl (cI, 48, .inl ah_7))]) hP hD [0, 1, 2] [] rfl rfl (by decide) (by decide) hk1 hFc hP1 hD1
    generalize H1 = H at hP hS ⊢
    have hP : va_P (dC, dI) vwCl [(qm, .inr (11, [w0, w1, w2, w3, .ref nl, .ref nh, .int cq_8, w7, w8, w9, w10, w11, w12, w13, w14, w15, w16, w17, w18, w19, w20, w21, w22, w23, w24, w25, w26, w27, w28, w29, w30, w31, w32, w33, w34, w35, w36, w37, w38])), (nl, .inl (cI, 48, .inl al_6)), (nh, .inl (cI, 48, .inl ah_7))] H := hP
    have hD : va_D _ [(qm, .inr (11, [w0, w1, w2, w3, .ref nl, .ref nh, .int cq_8, w7, w8, w9, w10, w11, w12, w13, w14, w15, w16, w17, w18, w19, w20, w21, w22, w23, w24, w25, w26, w27, w28, w29, w30, w31, w32, w33, w34, w35, w36, w37, w38])), (nl, .inl (cI, 48, .inl al_6)), (nh, .inl (cI, 48, .inl ah_7))] := hD
    subst hQ
    have hP9 := hP.sub (ws' := [(qm, .inr (11, [w0, w1, w2, w3, .ref nl, .ref nh, .int cq_8, w7, w8, w9, w10, w11, w12, w13, w14, w15, w16, w17, w18, w19, w20, w21, w22, w23, w24, w25, w26, w27, w28, w29, w30, w31, w32, w33, w34, w35, w36, w37, w38])), (nl, .inl (cI, 48, .inl al_6)), (nh, .inl (cI, 48, .inl ah_7))]) [0, 1, 2] rfl
    have hD9 := hD.sub (ws' := [(qm, .inr (11, [w0, w1, w2, w3, .ref nl, .ref nh, .int cq_8, w7, w8, w9, w10, w11, w12, w13, w14, w15, w16, w17, w18, w19, w20, w21, w22, w23, w24, w25, w26, w27, w28, w29, w30, w31, w32, w33, w34, w35, w36, w37, w38])), (nl, .inl (cI, 48, .inl al_6)), (nh, .inl (cI, 48, .inl ah_7))]) [0, 1, 2] (by decide) rfl
    have hK9 := hK
    exact W.vret hx hb hr (fun t ht hW => ⟨⟨(al_6, ah_7, cq_8), rfl, (Or.inr ⟨b, hb9, c2, eb, hr5.1, hr5.2.1, hr5.2.2⟩), by rw [ht]; exact hP9, va_K.moved hW.alike hK9, hD9⟩, hS.F ht⟩) hS.2.2 dX11_meetNeighbour_41
