set_option maxHeartbeats 4000000 in
set_option maxRecDepth 100000 in
theorem r_meet (l : Launch) (dC : Nat → ClassId) (dI : Nat → Nat → Nat) (cI : ClassId) (sz : Nat) (qm : Nat) (w0 : Value) (w1 : Value) (w2 : Value) (w3 : Value) (w7 : Value) (w8 : Value) (w9 : Value) (w10 : Value) (w11 : Value) (w12 : Value) (w13 : Value) (w14 : Value) (w15 : Value) (w16 : Value) (w17 : Value) (w18 : Value) (w19 : Value) (w20 : Value) (w21 : Value) (w22 : Value) (w23 : Value) (w24 : Value) (w25 : Value) (w26 : Value) (w27 : Value) (w28 : Value) (w29 : Value) (w30 : Value) (w31 : Value) (w32 : Value) (w33 : Value) (w34 : Value) (w35 : Value) (w36 : Value) (w37 : Value) (w38 : Value) (nl : Nat) (nh : Nat) (a : Nat) (lo : Int32) (hi : Int32) (ch : Int32) (gl : Nat → Int32) (gh : Nat → Int32) (ha : a < 48) : Met l yX11_meet wsX11_meet ({ frames := 0, cells := 0, slots := 0, locals := 0 }) (pw (dC, dI) [(cI, .int)] [(qm, .inr (11, [w0, w1, w2, w3, .ref nl, .ref nh, .int ch, w7, w8, w9, w10, w11, w12, w13, w14, w15, w16, w17, w18, w19, w20, w21, w22, w23, w24, w25, w26, w27, w28, w29, w30, w31, w32, w33, w34, w35, w36, w37, w38])), (nl, .inl (cI, 48, .inl gl)), (nh, .inl (cI, 48, .inl gh))] sz [.ref qm, .int (nI a), .int lo, .int hi]) (va_Qv (fun (u : (Nat → Int32) × (Nat → Int32) × (Int32)) => (u.1) = tcL a lo gl ∧ (u.2.1) = tcH a hi gh ∧ (u.2.2) = (if gl a < lo ∨ hi < gh a then 1 else ch)) (fun u t => bw (dC, dI) [(cI, .int)] (va_A [(qm, .inr (11, [w0, w1, w2, w3, .ref nl, .ref nh, .int ch, w7, w8, w9, w10, w11, w12, w13, w14, w15, w16, w17, w18, w19, w20, w21, w22, w23, w24, w25, w26, w27, w28, w29, w30, w31, w32, w33, w34, w35, w36, w37, w38])), (nl, .inl (cI, 48, .inl gl)), (nh, .inl (cI, 48, .inl gh))] sz) [(qm, .inr (11, [w0, w1, w2, w3, .ref nl, .ref nh, .int (u.2.2), w7, w8, w9, w10, w11, w12, w13, w14, w15, w16, w17, w18, w19, w20, w21, w22, w23, w24, w25, w26, w27, w28, w29, w30, w31, w32, w33, w34, w35, w36, w37, w38])), (nl, .inl (cI, 48, .inl (u.1))), (nh, .inl (cI, 48, .inl (u.2.1)))] t) (va_A [(qm, .inr (11, [w0, w1, w2, w3, .ref nl, .ref nh, .int ch, w7, w8, w9, w10, w11, w12, w13, w14, w15, w16, w17, w18, w19, w20, w21, w22, w23, w24, w25, w26, w27, w28, w29, w30, w31, w32, w33, w34, w35, w36, w37, w38])), (nl, .inl (cI, 48, .inl gl)), (nh, .inl (cI, 48, .inl gh))] sz)) 0 0 (va_A [(qm, .inr (11, [w0, w1, w2, w3, .ref nl, .ref nh, .int ch, w7, w8, w9, w10, w11, w12, w13, w14, w15, w16, w17, w18, w19, w20, w21, w22, w23, w24, w25, w26, w27, w28, w29, w30, w31, w32, w33, w34, w35, w36, w37, w38])), (nl, .inl (cI, 48, .inl gl)), (nh, .inl (cI, 48, .inl gh))] sz) := by
  refine pw_met (cc := cX11_meet) (maxL := 4) (ret := none) (by decide) rfl (Nat.le_of_ble_eq_true rfl) ?_
  intro p e s m below meth c0 hx hb hr hml hown hlocks hnm hts hP hK hD hN hsz hA hS ls hl
  subst hsz
  have hl : lv_has ls 4 [(0, .ref qm), (1, .int (nI a)), (2, .int lo), (3, .int hi)] := hl
  have hiX11 : ∀ w ∈ wsX110, w ∈ wsX11_meet := by decide +kernel
  generalize hQ : MQ _ _ _ _ _ _ _ = Q
  refine lv_iload_n hx hb dX11_meet_0 rfl (lv_at hl 2 rfl) ?_
  refine lv_aload_n hx hb dX11_meet_1 rfl (lv_at hl 0 rfl) ?_
  refine va_get (D := (dC, dI)) (ci := 11) (v := .ref nl) (C := RX11) (T := TX11) (N := 39) hx hb hts hiX11 hown hK hP 0 rfl rfl 4 (by decide) (hts (.fieldLink RX11 16 "TributePitchesModel" "newLow" "[I") (by decide +kernel)) (fun _ h9 => h9) rfl dX11_meet_2 ?_
  refine lv_iload_n hx hb dX11_meet_5 rfl (lv_at hl 1 rfl) ?_
  refine va_iald hx hb hK hP 1 0 rfl rfl (vp_in_nI (by omega) (by omega)) dX11_meet_6 ?_
  refine lv_topi (fun v1 ev1 => ?_)
  have ev1 : v1 = gl a := by rw [ev1]; rw [nI_clamp (by omega)]
  subst ev1
  refine lv_icmp_le (tgt := 22) hx hb dX11_meet_7 (by decide) (fun c2 => ?_) (fun c2 => ?_)
  · skip
    refine lv_iload_n hx hb dX11_meet_22 rfl (lv_at hl 3 rfl) ?_
    refine lv_aload_n hx hb dX11_meet_23 rfl (lv_at hl 0 rfl) ?_
    refine va_get (D := (dC, dI)) (ci := 11) (v := .ref nh) (C := RX11) (T := TX11) (N := 39) hx hb hts hiX11 hown hK hP 0 rfl rfl 5 (by decide) (hts (.fieldLink RX11 19 "TributePitchesModel" "newHigh" "[I") (by decide +kernel)) (fun _ h9 => h9) rfl dX11_meet_24 ?_
    refine lv_iload_n hx hb dX11_meet_27 rfl (lv_at hl 1 rfl) ?_
    refine va_iald hx hb hK hP 2 0 rfl rfl (vp_in_nI (by omega) (by omega)) dX11_meet_28 ?_
    refine lv_topi (fun v3 ev3 => ?_)
    have ev3 : v3 = gh a := by rw [ev3]; rw [nI_clamp (by omega)]
    subst ev3
    refine lv_icmp_ge (tgt := 44) hx hb dX11_meet_29 (by decide) (fun c4 => ?_) (fun c4 => ?_)
    · skip
      subst hQ
      have hP9 := hP.sub (ws' := [(qm, .inr (11, [w0, w1, w2, w3, .ref nl, .ref nh, .int ch, w7, w8, w9, w10, w11, w12, w13, w14, w15, w16, w17, w18, w19, w20, w21, w22, w23, w24, w25, w26, w27, w28, w29, w30, w31, w32, w33, w34, w35, w36, w37, w38])), (nl, .inl (cI, 48, .inl gl)), (nh, .inl (cI, 48, .inl gh))]) [0, 1, 2] rfl
      have hD9 := hD.sub (ws' := [(qm, .inr (11, [w0, w1, w2, w3, .ref nl, .ref nh, .int ch, w7, w8, w9, w10, w11, w12, w13, w14, w15, w16, w17, w18, w19, w20, w21, w22, w23, w24, w25, w26, w27, w28, w29, w30, w31, w32, w33, w34, w35, w36, w37, w38])), (nl, .inl (cI, 48, .inl gl)), (nh, .inl (cI, 48, .inl gh))]) [0, 1, 2] (by decide) rfl
      have hK9 := hK
      exact W.vret hx hb hr (fun t ht hW => ⟨⟨(gl, gh, ch), rfl, ⟨(by rw [tcL, if_neg (Int32.not_lt.mpr c2)]; exact (fa_upd_same rfl).symm), (by rw [tcH, if_neg (Int32.not_lt.mpr c4)]; exact (fa_upd_same rfl).symm), (by rw [if_neg (fun q => q.elim (fun z => absurd z (Int32.not_lt.mpr c2)) (fun z => absurd z (Int32.not_lt.mpr c4)))])⟩, by rw [ht]; exact hP9, va_K.moved hW.alike hK9, hD9⟩, hS.F ht⟩) hS.2.2 dX11_meet_44
    · skip
      refine lv_aload_n hx hb dX11_meet_32 rfl (lv_at hl 0 rfl) ?_
      refine va_get (D := (dC, dI)) (ci := 11) (v := .ref nh) (C := RX11) (T := TX11) (N := 39) hx hb hts hiX11 hown hK hP 0 rfl rfl 5 (by decide) (hts (.fieldLink RX11 19 "TributePitchesModel" "newHigh" "[I") (by decide +kernel)) (fun _ h9 => h9) rfl dX11_meet_33 ?_
      refine lv_iload_n hx hb dX11_meet_36 rfl (lv_at hl 1 rfl) ?_
      refine lv_iload_n hx hb dX11_meet_37 rfl (lv_at hl 3 rfl) ?_
      refine va_iast hx hb hK hP hD hS 2 0 rfl rfl (vp_in_nI (by omega) (by omega)) dX11_meet_38 (fun H locs hP hD hS => ?_)
      rw [nI_clamp (n := a) (by omega)] at hP hD
      have hP : va_P (dC, dI) vwCl [(qm, .inr (11, [w0, w1, w2, w3, .ref nl, .ref nh, .int ch, w7, w8, w9, w10, w11, w12, w13, w14, w15, w16, w17, w18, w19, w20, w21, w22, w23, w24, w25, w26, w27, w28, w29, w30, w31, w32, w33, w34, w35, w36, w37, w38])), (nl, .inl (cI, 48, .inl gl)), (nh, .inl (cI, 48, .inl (upd gh a hi)))] H := hP
      have hD : va_D _ [(qm, .inr (11, [w0, w1, w2, w3, .ref nl, .ref nh, .int ch, w7, w8, w9, w10, w11, w12, w13, w14, w15, w16, w17, w18, w19, w20, w21, w22, w23, w24, w25, w26, w27, w28, w29, w30, w31, w32, w33, w34, w35, w36, w37, w38])), (nl, .inl (cI, 48, .inl gl)), (nh, .inl (cI, 48, .inl (upd gh a hi)))] := hD
      refine lv_aload_n hx hb dX11_meet_39 rfl (lv_at hl 0 rfl) ?_
      refine lv_iconst (v := 1) hx hb dX11_meet_40 (by decide) ?_
      refine va_put (D := (dC, dI)) (ci := 11) (v := .int 1) (ty := .boolean) (C := RX11) (T := TX11) (N := 39) hx hb hts hiX11 tyX11 tyX11_ok nmX11 hown hK hP hD hS 0 rfl rfl 6 (by decide) (hts (.fieldLink RX11 117 "TributePitchesModel" "isChanged" "Z") (by decide +kernel)) (fun _ h9 => h9) rfl (by decide +kernel) rfl rfl (Nat.le_of_ble_eq_true rfl) dX11_meet_41 (fun H locs hP hD hS => ?_)
      have hP : va_P (dC, dI) vwCl [(qm, .inr (11, [w0, w1, w2, w3, .ref nl, .ref nh, .int 1, w7, w8, w9, w10, w11, w12, w13, w14, w15, w16, w17, w18, w19, w20, w21, w22, w23, w24, w25, w26, w27, w28, w29, w30, w31, w32, w33, w34, w35, w36, w37, w38])), (nl, .inl (cI, 48, .inl gl)), (nh, .inl (cI, 48, .inl (upd gh a hi)))] H := hP
      have hD : va_D _ [(qm, .inr (11, [w0, w1, w2, w3, .ref nl, .ref nh, .int 1, w7, w8, w9, w10, w11, w12, w13, w14, w15, w16, w17, w18, w19, w20, w21, w22, w23, w24, w25, w26, w27, w28, w29, w30, w31, w32, w33, w34, w35, w36, w37, w38])), (nl, .inl (cI, 48, .inl gl)), (nh, .inl (cI, 48, .inl (upd gh a hi)))] := hD
      subst hQ
      have hP9 := hP.sub (ws' := [(qm, .inr (11, [w0, w1, w2, w3, .ref nl, .ref nh, .int 1, w7, w8, w9, w10, w11, w12, w13, w14, w15, w16, w17, w18, w19, w20, w21, w22, w23, w24, w25, w26, w27, w28, w29, w30, w31, w32, w33, w34, w35, w36, w37, w38])), (nl, .inl (cI, 48, .inl gl)), (nh, .inl (cI, 48, .inl (upd gh a hi)))]) [0, 1, 2] rfl
      have hD9 := hD.sub (ws' := [(qm, .inr (11, [w0, w1, w2, w3, .ref nl, .ref nh, .int 1, w7, w8, w9, w10, w11, w12, w13, w14, w15, w16, w17, w18, w19, w20, w21, w22, w23, w24, w25, w26, w27, w28, w29, w30, w31, w32, w33, w34, w35, w36, w37, w38])), (nl, .inl (cI, 48, .inl gl)), (nh, .inl (cI, 48, .inl (upd gh a hi)))]) [0, 1, 2] (by decide) rfl
      have hK9 := hK
      exact W.vret hx hb hr (fun t ht hW => ⟨⟨(gl, upd gh a hi, 1), rfl, ⟨(by rw [tcL, if_neg (Int32.not_lt.mpr c2)]; exact (fa_upd_same rfl).symm), (by rw [tcH, if_pos (Int32.not_le.mp c4)]), (by rw [if_pos (Or.inr (Int32.not_le.mp c4))])⟩, by rw [ht]; exact hP9, va_K.moved hW.alike hK9, hD9⟩, hS.F ht⟩) hS.2.2 dX11_meet_44
  · skip
    refine lv_aload_n hx hb dX11_meet_10 rfl (lv_at hl 0 rfl) ?_
    refine va_get (D := (dC, dI)) (ci := 11) (v := .ref nl) (C := RX11) (T := TX11) (N := 39) hx hb hts hiX11 hown hK hP 0 rfl rfl 4 (by decide) (hts (.fieldLink RX11 16 "TributePitchesModel" "newLow" "[I") (by decide +kernel)) (fun _ h9 => h9) rfl dX11_meet_11 ?_
    refine lv_iload_n hx hb dX11_meet_14 rfl (lv_at hl 1 rfl) ?_
    refine lv_iload_n hx hb dX11_meet_15 rfl (lv_at hl 2 rfl) ?_
    refine va_iast hx hb hK hP hD hS 1 0 rfl rfl (vp_in_nI (by omega) (by omega)) dX11_meet_16 (fun H locs hP hD hS => ?_)
    rw [nI_clamp (n := a) (by omega)] at hP hD
    have hP : va_P (dC, dI) vwCl [(qm, .inr (11, [w0, w1, w2, w3, .ref nl, .ref nh, .int ch, w7, w8, w9, w10, w11, w12, w13, w14, w15, w16, w17, w18, w19, w20, w21, w22, w23, w24, w25, w26, w27, w28, w29, w30, w31, w32, w33, w34, w35, w36, w37, w38])), (nl, .inl (cI, 48, .inl (upd gl a lo))), (nh, .inl (cI, 48, .inl gh))] H := hP
    have hD : va_D _ [(qm, .inr (11, [w0, w1, w2, w3, .ref nl, .ref nh, .int ch, w7, w8, w9, w10, w11, w12, w13, w14, w15, w16, w17, w18, w19, w20, w21, w22, w23, w24, w25, w26, w27, w28, w29, w30, w31, w32, w33, w34, w35, w36, w37, w38])), (nl, .inl (cI, 48, .inl (upd gl a lo))), (nh, .inl (cI, 48, .inl gh))] := hD
    refine lv_aload_n hx hb dX11_meet_17 rfl (lv_at hl 0 rfl) ?_
    refine lv_iconst (v := 1) hx hb dX11_meet_18 (by decide) ?_
    refine va_put (D := (dC, dI)) (ci := 11) (v := .int 1) (ty := .boolean) (C := RX11) (T := TX11) (N := 39) hx hb hts hiX11 tyX11 tyX11_ok nmX11 hown hK hP hD hS 0 rfl rfl 6 (by decide) (hts (.fieldLink RX11 117 "TributePitchesModel" "isChanged" "Z") (by decide +kernel)) (fun _ h9 => h9) rfl (by decide +kernel) rfl rfl (Nat.le_of_ble_eq_true rfl) dX11_meet_19 (fun H locs hP hD hS => ?_)
    have hP : va_P (dC, dI) vwCl [(qm, .inr (11, [w0, w1, w2, w3, .ref nl, .ref nh, .int 1, w7, w8, w9, w10, w11, w12, w13, w14, w15, w16, w17, w18, w19, w20, w21, w22, w23, w24, w25, w26, w27, w28, w29, w30, w31, w32, w33, w34, w35, w36, w37, w38])), (nl, .inl (cI, 48, .inl (upd gl a lo))), (nh, .inl (cI, 48, .inl gh))] H := hP
    have hD : va_D _ [(qm, .inr (11, [w0, w1, w2, w3, .ref nl, .ref nh, .int 1, w7, w8, w9, w10, w11, w12, w13, w14, w15, w16, w17, w18, w19, w20, w21, w22, w23, w24, w25, w26, w27, w28, w29, w30, w31, w32, w33, w34, w35, w36, w37, w38])), (nl, .inl (cI, 48, .inl (upd gl a lo))), (nh, .inl (cI, 48, .inl gh))] := hD
    refine lv_iload_n hx hb dX11_meet_22 rfl (lv_at hl 3 rfl) ?_
    refine lv_aload_n hx hb dX11_meet_23 rfl (lv_at hl 0 rfl) ?_
    refine va_get (D := (dC, dI)) (ci := 11) (v := .ref nh) (C := RX11) (T := TX11) (N := 39) hx hb hts hiX11 hown hK hP 0 rfl rfl 5 (by decide) (hts (.fieldLink RX11 19 "TributePitchesModel" "newHigh" "[I") (by decide +kernel)) (fun _ h9 => h9) rfl dX11_meet_24 ?_
    refine lv_iload_n hx hb dX11_meet_27 rfl (lv_at hl 1 rfl) ?_
    refine va_iald hx hb hK hP 2 0 rfl rfl (vp_in_nI (by omega) (by omega)) dX11_meet_28 ?_
    refine lv_topi (fun v5 ev5 => ?_)
    have ev5 : v5 = gh a := by rw [ev5]; rw [nI_clamp (by omega)]
    subst ev5
    refine lv_icmp_ge (tgt := 44) hx hb dX11_meet_29 (by decide) (fun c6 => ?_) (fun c6 => ?_)
    · skip
      subst hQ
      have hP9 := hP.sub (ws' := [(qm, .inr (11, [w0, w1, w2, w3, .ref nl, .ref nh, .int 1, w7, w8, w9, w10, w11, w12, w13, w14, w15, w16, w17, w18, w19, w20, w21, w22, w23, w24, w25, w26, w27, w28, w29, w30, w31, w32, w33, w34, w35, w36, w37, w38])), (nl, .inl (cI, 48, .inl (upd gl a lo))), (nh, .inl (cI, 48, .inl gh))]) [0, 1, 2] rfl
      have hD9 := hD.sub (ws' := [(qm, .inr (11, [w0, w1, w2, w3, .ref nl, .ref nh, .int 1, w7, w8, w9, w10, w11, w12, w13, w14, w15, w16, w17, w18, w19, w20, w21, w22, w23, w24, w25, w26, w27, w28, w29, w30, w31, w32, w33, w34, w35, w36, w37, w38])), (nl, .inl (cI, 48, .inl (upd gl a lo))), (nh, .inl (cI, 48, .inl gh))]) [0, 1, 2] (by decide) rfl
      have hK9 := hK
      exact W.vret hx hb hr (fun t ht hW => ⟨⟨(upd gl a lo, gh, 1), rfl, ⟨(by rw [tcL, if_pos (Int32.not_le.mp c2)]), (by rw [tcH, if_neg (Int32.not_lt.mpr c6)]; exact (fa_upd_same rfl).symm), (by rw [if_pos (Or.inl (Int32.not_le.mp c2))])⟩, by rw [ht]; exact hP9, va_K.moved hW.alike hK9, hD9⟩, hS.F ht⟩) hS.2.2 dX11_meet_44
    · skip
      refine lv_aload_n hx hb dX11_meet_32 rfl (lv_at hl 0 rfl) ?_
      refine va_get (D := (dC, dI)) (ci := 11) (v := .ref nh) (C := RX11) (T := TX11) (N := 39) hx hb hts hiX11 hown hK hP 0 rfl rfl 5 (by decide) (hts (.fieldLink RX11 19 "TributePitchesModel" "newHigh" "[I") (by decide +kernel)) (fun _ h9 => h9) rfl dX11_meet_33 ?_
      refine lv_iload_n hx hb dX11_meet_36 rfl (lv_at hl 1 rfl) ?_
      refine lv_iload_n hx hb dX11_meet_37 rfl (lv_at hl 3 rfl) ?_
      refine va_iast hx hb hK hP hD hS 2 0 rfl rfl (vp_in_nI (by omega) (by omega)) dX11_meet_38 (fun H locs hP hD hS => ?_)
      rw [nI_clamp (n := a) (by omega)] at hP hD
      have hP : va_P (dC, dI) vwCl [(qm, .inr (11, [w0, w1, w2, w3, .ref nl, .ref nh, .int 1, w7, w8, w9, w10, w11, w12, w13, w14, w15, w16, w17, w18, w19, w20, w21, w22, w23, w24, w25, w26, w27, w28, w29, w30, w31, w32, w33, w34, w35, w36, w37, w38])), (nl, .inl (cI, 48, .inl (upd gl a lo))), (nh, .inl (cI, 48, .inl (upd gh a hi)))] H := hP
      have hD : va_D _ [(qm, .inr (11, [w0, w1, w2, w3, .ref nl, .ref nh, .int 1, w7, w8, w9, w10, w11, w12, w13, w14, w15, w16, w17, w18, w19, w20, w21, w22, w23, w24, w25, w26, w27, w28, w29, w30, w31, w32, w33, w34, w35, w36, w37, w38])), (nl, .inl (cI, 48, .inl (upd gl a lo))), (nh, .inl (cI, 48, .inl (upd gh a hi)))] := hD
      refine lv_aload_n hx hb dX11_meet_39 rfl (lv_at hl 0 rfl) ?_
      refine lv_iconst (v := 1) hx hb dX11_meet_40 (by decide) ?_
      refine va_put (D := (dC, dI)) (ci := 11) (v := .int 1) (ty := .boolean) (C := RX11) (T := TX11) (N := 39) hx hb hts hiX11 tyX11 tyX11_ok nmX11 hown hK hP hD hS 0 rfl rfl 6 (by decide) (hts (.fieldLink RX11 117 "TributePitchesModel" "isChanged" "Z") (by decide +kernel)) (fun _ h9 => h9) rfl (by decide +kernel) rfl rfl (Nat.le_of_ble_eq_true rfl) dX11_meet_41 (fun H locs hP hD hS => ?_)
      have hP : va_P (dC, dI) vwCl [(qm, .inr (11, [w0, w1, w2, w3, .ref nl, .ref nh, .int 1, w7, w8, w9, w10, w11, w12, w13, w14, w15, w16, w17, w18, w19, w20, w21, w22, w23, w24, w25, w26, w27, w28, w29, w30, w31, w32, w33, w34, w35, w36, w37, w38])), (nl, .inl (cI, 48, .inl (upd gl a lo))), (nh, .inl (cI, 48, .inl (upd gh a hi)))] H := hP
      have hD : va_D _ [(qm, .inr (11, [w0, w1, w2, w3, .ref nl, .ref nh, .int 1, w7, w8, w9, w10, w11, w12, w13, w14, w15, w16, w17, w18, w19, w20, w21, w22, w23, w24, w25, w26, w27, w28, w29, w30, w31, w32, w33, w34, w35, w36, w37, w38])), (nl, .inl (cI, 48, .inl (upd gl a lo))), (nh, .inl (cI, 48, .inl (upd gh a hi)))] := hD
      subst hQ
      have hP9 := hP.sub (ws' := [(qm, .inr (11, [w0, w1, w2, w3, .ref nl, .ref nh, .int 1, w7, w8, w9, w10, w11, w12, w13, w14, w15, w16, w17, w18, w19, w20, w21, w22, w23, w24, w25, w26, w27, w28, w29, w30, w31, w32, w33, w34, w35, w36, w37, w38])), (nl, .inl (cI, 48, .inl (upd gl a lo))), (nh, .inl (cI, 48, .inl (upd gh a hi)))]) [0, 1, 2] rfl
      have hD9 := hD.sub (ws' := [(qm, .inr (11, [w0, w1, w2, w3, .ref nl, .ref nh, .int 1, w7, w8, w9, w10, w11, w12, w13, w14, w15, w16, w17, w18, w19, w20, w21, w22, w23, w24, w25, w26, w27, w28, w29, w30, w31, w32, w33, w34, w35, w36, w37, w38])), (nl, .inl (cI, 48, .inl (upd gl a lo))), (nh, .inl (cI, 48, .inl (upd gh a hi)))]) [0, 1, 2] (by decide) rfl
      have hK9 := hK
      exact W.vret hx hb hr (fun t ht hW => ⟨⟨(upd gl a lo, upd gh a hi, 1), rfl, ⟨(by rw [tcL, if_pos (Int32.not_le.mp c2)]), (by rw [tcH, if_pos (Int32.not_le.mp c6)]), (by rw [if_pos (Or.inl (Int32.not_le.mp c2))])⟩, by rw [ht]; exact hP9, va_K.moved hW.alike hK9, hD9⟩, hS.F ht⟩) hS.2.2 dX11_meet_44
