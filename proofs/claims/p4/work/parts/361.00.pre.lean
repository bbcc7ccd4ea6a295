/-! the reference's world on every state -/
abbrev RS2 : Type := (Nat → Int32) × (Nat → Nat) × (Nat → Nat → Int32) × (Nat → Nat → Int64)
abbrev rs_i (z : RS2) : Nat → Int32 := z.1
abbrev rs_n (z : RS2) : Nat → Nat := z.2.1
abbrev rs_I (z : RS2) : Nat → Nat → Int32 := z.2.2.1
abbrev rs_L (z : RS2) : Nat → Nat → Int64 := z.2.2.2
def rcO (qm : Nat) (ad : Nat → Nat) (z : RS2) : Nat × va_E := (qm, .inr (11, [.int (rs_i z 0), .int (rs_i z 1), .ref (ad 2), .ref (ad 3), .ref (ad 4), .ref (ad 5), .int (rs_i z 6), .ref (ad 7), .ref (ad 8), .ref (ad 9), .ref (ad 10), .int (nI (rs_n z 0)), .ref (ad 12), .ref (ad 13), .ref (ad 14), .ref (ad 15), .ref (ad 16), .int (nI (rs_n z 1)), .ref (ad 18), .ref (ad 19), .int (rs_i z 20), .int (rs_i z 21), .int (rs_i z 22), .int (rs_i z 23), .int (nI (rs_n z 2)), .ref (ad 25), .ref (ad 26), .ref (ad 27), .ref (ad 28), .ref (ad 29), .ref (ad 30), .ref (ad 31), .ref (ad 32), .ref (ad 33), .int (nI (rs_n z 3)), .ref (ad 35), .ref (ad 36), .ref (ad 37), .int (rs_i z 38)]))
def rcI (cI : ClassId) (ad : Nat → Nat) (z : RS2) (k n : Nat) : Nat × va_E := (ad k, .inl (cI, n, .inl (rs_I z k)))
def rcJ (cI : ClassId) (ad : Nat → Nat) (z : RS2) (k n : Nat) : Nat × va_E := (ad k, .inl (cI, n, .inr (.inl (rs_L z k))))
def rW (qm : Nat) (cI cJ cZ : ClassId) (ad : Nat → Nat) (z : RS2) : va_W := [rcO qm ad z, rcI cI ad z 2 48, rcI cI ad z 3 48, rcI cI ad z 4 48, rcI cI ad z 5 48, rcI cI ad z 7 4, rcI cI ad z 8 4, rcI cI ad z 9 192, rcI cI ad z 10 48, rcI cI ad z 12 12, rcI cI ad z 13 12, rcI cI ad z 14 12, rcI cI ad z 15 12, rcI cI ad z 16 12, rcI cI ad z 18 8, rcJ cJ ad z 19 8, rcI cI ad z 25 40, rcI cI ad z 26 40, rcI cI ad z 27 40, rcI cZ ad z 28 40, rcJ cJ ad z 29 40, rcJ cJ ad z 30 40, rcJ cJ ad z 31 40, rcJ cJ ad z 32 40, rcJ cJ ad z 33 40, rcI cI ad z 35 80, rcI cI ad z 36 80, rcI cI ad z 37 80]
/-- what holds of the reference between calls -/
def invR (z : RS2) : Prop := (rs_n z 0 ≤ 12 ∧ rs_n z 1 ≤ 8 ∧ rs_n z 2 ≤ 40 ∧ rs_n z 3 ≤ 80) ∧ (0 ≤ (rs_i z 1).toInt ∧ (rs_i z 1).toInt ≤ 1000) ∧ (∀ j, j < 48 → 0 ≤ (rs_I z 2 j).toInt ∧ (rs_I z 2 j).toInt ≤ 1000 ∧ 0 ≤ (rs_I z 3 j).toInt ∧ (rs_I z 3 j).toInt ≤ 1000) ∧ (∀ k, k < 4 → -1 ≤ (rs_I z 7 k).toInt ∧ (rs_I z 7 k).toInt ≤ 48) ∧ (rs_i z 20 = -9 ∨ ((∃ p, p < rs_n z 0 ∧ rs_i z 20 = nI p) ∧ (rs_i z 22 = 0 ∨ ∃ g, g < rs_n z 1 ∧ rs_i z 23 = nI g))) ∧ (∀ t, t < rs_n z 2 → (∃ g, g < rs_n z 1 ∧ rs_I z 25 t = nI g) ∧ ∃ p, p < rs_n z 0 ∧ rs_I z 26 t = nI p) ∧ (∀ k, k < rs_n z 3 → ∃ t, t < rs_n z 2 ∧ rs_I z 35 k = nI t)
set_option maxHeartbeats 4000000 in
set_option maxRecDepth 100000 in
theorem c_X11_refused (l : Launch) (dC : Nat → ClassId) (dI : Nat → Nat → Nat)  (sz : Nat) (qm : Nat) (w0 : Value) (w1 : Value) (w2 : Value) (w3 : Value) (w4 : Value) (w5 : Value) (w6 : Value) (w7 : Value) (w8 : Value) (w9 : Value) (w10 : Value) (w11 : Value) (w12 : Value) (w13 : Value) (w14 : Value) (w15 : Value) (w16 : Value) (w17 : Value) (w18 : Value) (w19 : Value) (w20 : Value) (w21 : Value) (w22 : Value) (w23 : Value) (w24 : Value) (w25 : Value) (w26 : Value) (w27 : Value) (w28 : Value) (w29 : Value) (w30 : Value) (w31 : Value) (w32 : Value) (w33 : Value) (w34 : Value) (w35 : Value) (w36 : Value) (w37 : Value) (w38 : Value) (k : Int32)  : Met l yX11_refused wsX11_refused ({ frames := 0, cells := 0, slots := 0, locals := 0 }) (pw (dC, dI) [] [(qm, .inr (11, [w0, w1, w2, w3, w4, w5, w6, w7, w8, w9, w10, w11, w12, w13, w14, w15, w16, w17, w18, w19, w20, w21, w22, w23, w24, w25, w26, w27, w28, w29, w30, w31, w32, w33, w34, w35, w36, w37, w38]))] sz [.ref qm, .int k]) (va_Qi (fun r (_ : Unit) => r = k) (fun _ t => bw (dC, dI) [] (va_A [(qm, .inr (11, [w0, w1, w2, w3, w4, w5, w6, w7, w8, w9, w10, w11, w12, w13, w14, w15, w16, w17, w18, w19, w20, w21, w22, w23, w24, w25, w26, w27, w28, w29, w30, w31, w32, w33, w34, w35, w36, w37, w38]))] sz) [(qm, .inr (11, [.int 0, w1, w2, w3, w4, w5, w6, w7, w8, w9, w10, w11, w12, w13, w14, w15, w16, w17, w18, w19, w20, w21, w22, w23, w24, w25, w26, w27, w28, w29, w30, w31, w32, w33, w34, w35, w36, w37, w38]))] t) (va_A [(qm, .inr (11, [w0, w1, w2, w3, w4, w5, w6, w7, w8, w9, w10, w11, w12, w13, w14, w15, w16, w17, w18, w19, w20, w21, w22, w23, w24, w25, w26, w27, w28, w29, w30, w31, w32, w33, w34, w35, w36, w37, w38]))] sz)) 0 0 (va_A [(qm, .inr (11, [w0, w1, w2, w3, w4, w5, w6, w7, w8, w9, w10, w11, w12, w13, w14, w15, w16, w17, w18, w19, w20, w21, w22, w23, w24, w25, w26, w27, w28, w29, w30, w31, w32, w33, w34, w35, w36, w37, w38]))] sz) := by
  refine pw_met (cc := cX11_refused) (maxL := 2) (ret := (some .int)) (by decide) rfl (Nat.le_of_ble_eq_true rfl) ?_
  intro p e s m below meth c0 hx hb hr hml hown hlocks hnm hts hP hK hD hN hsz hA hS ls hl
  subst hsz
  have hl : lv_has ls 2 [(0, .ref qm), (1, .int k)] := hl
  have hiX11 : ∀ w ∈ wsX110, w ∈ wsX11_refused := by decide +kernel
  generalize hQ : MQ _ _ _ _ _ _ _ = Q
  refine lv_aload_n hx hb dX11_refused_0 rfl (lv_at hl 0 rfl) ?_
  refine lv_iconst (v := 0) hx hb dX11_refused_1 (by decide) ?_
  refine va_put (D := (dC, dI)) (ci := 11) (v := .int 0) (ty := .int) (C := RX11) (T := TX11) (N := 39) hx hb hts hiX11 tyX11 tyX11_ok nmX11 hown hK hP hD hS 0 rfl rfl 0 (by decide) (hts (.fieldLink RX11 102 "TributePitchesModel" "fault" "I") (by decide +kernel)) (fun _ h9 => h9) rfl (by decide +kernel) rfl rfl (Nat.le_of_ble_eq_true rfl) dX11_refused_2 (fun H locs hP hD hS => ?_)
  have hP : va_P (dC, dI) vwCl [(qm, .inr (11, [.int 0, w1, w2, w3, w4, w5, w6, w7, w8, w9, w10, w11, w12, w13, w14, w15, w16, w17, w18, w19, w20, w21, w22, w23, w24, w25, w26, w27, w28, w29, w30, w31, w32, w33, w34, w35, w36, w37, w38]))] H := hP
  have hD : va_D _ [(qm, .inr (11, [.int 0, w1, w2, w3, w4, w5, w6, w7, w8, w9, w10, w11, w12, w13, w14, w15, w16, w17, w18, w19, w20, w21, w22, w23, w24, w25, w26, w27, w28, w29, w30, w31, w32, w33, w34, w35, w36, w37, w38]))] := hD
  refine lv_iload_n hx hb dX11_refused_5 rfl (lv_at hl 1 rfl) ?_
  subst hQ
  have hP9 := hP.sub (ws' := [(qm, .inr (11, [.int 0, w1, w2, w3, w4, w5, w6, w7, w8, w9, w10, w11, w12, w13, w14, w15, w16, w17, w18, w19, w20, w21, w22, w23, w24, w25, w26, w27, w28, w29, w30, w31, w32, w33, w34, w35, w36, w37, w38]))]) [0] rfl
  have hD9 := hD.sub (ws' := [(qm, .inr (11, [.int 0, w1, w2, w3, w4, w5, w6, w7, w8, w9, w10, w11, w12, w13, w14, w15, w16, w17, w18, w19, w20, w21, w22, w23, w24, w25, w26, w27, w28, w29, w30, w31, w32, w33, w34, w35, w36, w37, w38]))]) [0] (by decide) rfl
  have hK9 := hK.sub (tys' := []) [] rfl
  exact W.iret (v := k) hx hb hr (fun t ht hW => ⟨⟨k, (), rfl, rfl, ⟨by rw [ht]; exact hP9, va_K.moved hW.alike hK9, hD9⟩⟩, hS.F ht⟩) hS.2.2 dX11_refused_6
set_option maxHeartbeats 4000000 in
set_option maxRecDepth 100000 in
theorem c_X11_failed (l : Launch) (dC : Nat → ClassId) (dI : Nat → Nat → Nat)  (sz : Nat) (qm : Nat) (w0 : Value) (w1 : Value) (w2 : Value) (w3 : Value) (w4 : Value) (w5 : Value) (w6 : Value) (w7 : Value) (w8 : Value) (w9 : Value) (w10 : Value) (w11 : Value) (w12 : Value) (w13 : Value) (w14 : Value) (w15 : Value) (w16 : Value) (w17 : Value) (w18 : Value) (w19 : Value) (w20 : Value) (w21 : Value) (w22 : Value) (w23 : Value) (w24 : Value) (w25 : Value) (w26 : Value) (w27 : Value) (w28 : Value) (w29 : Value) (w30 : Value) (w31 : Value) (w32 : Value) (w33 : Value) (w34 : Value) (w35 : Value) (w36 : Value) (w37 : Value) (w38 : Value) (k : Int32)  : Met l yX11_failed wsX11_failed ({ frames := 0, cells := 0, slots := 0, locals := 0 }) (pw (dC, dI) [] [(qm, .inr (11, [w0, w1, w2, w3, w4, w5, w6, w7, w8, w9, w10, w11, w12, w13, w14, w15, w16, w17, w18, w19, w20, w21, w22, w23, w24, w25, w26, w27, w28, w29, w30, w31, w32, w33, w34, w35, w36, w37, w38]))] sz [.ref qm, .int k]) (va_Qi (fun r (_ : Unit) => r = -10 - k) (fun _ t => bw (dC, dI) [] (va_A [(qm, .inr (11, [w0, w1, w2, w3, w4, w5, w6, w7, w8, w9, w10, w11, w12, w13, w14, w15, w16, w17, w18, w19, w20, w21, w22, w23, w24, w25, w26, w27, w28, w29, w30, w31, w32, w33, w34, w35, w36, w37, w38]))] sz) [(qm, .inr (11, [.int k, w1, w2, w3, w4, w5, w6, w7, w8, w9, w10, w11, w12, w13, w14, w15, w16, w17, w18, w19, w20, w21, w22, w23, w24, w25, w26, w27, w28, w29, w30, w31, w32, w33, w34, w35, w36, w37, w38]))] t) (va_A [(qm, .inr (11, [w0, w1, w2, w3, w4, w5, w6, w7, w8, w9, w10, w11, w12, w13, w14, w15, w16, w17, w18, w19, w20, w21, w22, w23, w24, w25, w26, w27, w28, w29, w30, w31, w32, w33, w34, w35, w36, w37, w38]))] sz)) 0 0 (va_A [(qm, .inr (11, [w0, w1, w2, w3, w4, w5, w6, w7, w8, w9, w10, w11, w12, w13, w14, w15, w16, w17, w18, w19, w20, w21, w22, w23, w24, w25, w26, w27, w28, w29, w30, w31, w32, w33, w34, w35, w36, w37, w38]))] sz) := by
  refine pw_met (cc := cX11_failed) (maxL := 2) (ret := (some .int)) (by decide) rfl (Nat.le_of_ble_eq_true rfl) ?_
  intro p e s m below meth c0 hx hb hr hml hown hlocks hnm hts hP hK hD hN hsz hA hS ls hl
  subst hsz
  have hl : lv_has ls 2 [(0, .ref qm), (1, .int k)] := hl
  have hiX11 : ∀ w ∈ wsX110, w ∈ wsX11_failed := by decide +kernel
  generalize hQ : MQ _ _ _ _ _ _ _ = Q
  refine lv_aload_n hx hb dX11_failed_0 rfl (lv_at hl 0 rfl) ?_
  refine lv_iload_n hx hb dX11_failed_1 rfl (lv_at hl 1 rfl) ?_
  refine va_put (D := (dC, dI)) (ci := 11) (v := .int k) (ty := .int) (C := RX11) (T := TX11) (N := 39) hx hb hts hiX11 tyX11 tyX11_ok nmX11 hown hK hP hD hS 0 rfl rfl 0 (by decide) (hts (.fieldLink RX11 102 "TributePitchesModel" "fault" "I") (by decide +kernel)) (fun _ h9 => h9) rfl (by decide +kernel) rfl rfl (Nat.le_of_ble_eq_true rfl) dX11_failed_2 (fun H locs hP hD hS => ?_)
  have hP : va_P (dC, dI) vwCl [(qm, .inr (11, [.int k, w1, w2, w3, w4, w5, w6, w7, w8, w9, w10, w11, w12, w13, w14, w15, w16, w17, w18, w19, w20, w21, w22, w23, w24, w25, w26, w27, w28, w29, w30, w31, w32, w33, w34, w35, w36, w37, w38]))] H := hP
  have hD : va_D _ [(qm, .inr (11, [.int k, w1, w2, w3, w4, w5, w6, w7, w8, w9, w10, w11, w12, w13, w14, w15, w16, w17, w18, w19, w20, w21, w22, w23, w24, w25, w26, w27, w28, w29, w30, w31, w32, w33, w34, w35, w36, w37, w38]))] := hD
  refine lv_bipush (v := (-10)) hx hb dX11_failed_5 (by decide) ?_
  refine lv_iload_n hx hb dX11_failed_7 rfl (lv_at hl 1 rfl) ?_
  refine lv_isub hx hb dX11_failed_8 ?_
  subst hQ
  have hP9 := hP.sub (ws' := [(qm, .inr (11, [.int k, w1, w2, w3, w4, w5, w6, w7, w8, w9, w10, w11, w12, w13, w14, w15, w16, w17, w18, w19, w20, w21, w22, w23, w24, w25, w26, w27, w28, w29, w30, w31, w32, w33, w34, w35, w36, w37, w38]))]) [0] rfl
  have hD9 := hD.sub (ws' := [(qm, .inr (11, [.int k, w1, w2, w3, w4, w5, w6, w7, w8, w9, w10, w11, w12, w13, w14, w15, w16, w17, w18, w19, w20, w21, w22, w23, w24, w25, w26, w27, w28, w29, w30, w31, w32, w33, w34, w35, w36, w37, w38]))]) [0] (by decide) rfl
  have hK9 := hK.sub (tys' := []) [] rfl
  exact W.iret (v := (-10) - k) hx hb hr (fun t ht hW => ⟨⟨(-10) - k, (), rfl, rfl, ⟨by rw [ht]; exact hP9, va_K.moved hW.alike hK9, hD9⟩⟩, hS.F ht⟩) hS.2.2 dX11_failed_9
set_option maxHeartbeats 4000000 in
set_option maxRecDepth 100000 in
theorem c_X11_failedLong (l : Launch) (dC : Nat → ClassId) (dI : Nat → Nat → Nat)  (sz : Nat) (qm : Nat) (w0 : Value) (w1 : Value) (w2 : Value) (w3 : Value) (w4 : Value) (w5 : Value) (w6 : Value) (w7 : Value) (w8 : Value) (w9 : Value) (w10 : Value) (w11 : Value) (w12 : Value) (w13 : Value) (w14 : Value) (w15 : Value) (w16 : Value) (w17 : Value) (w18 : Value) (w19 : Value) (w20 : Value) (w21 : Value) (w22 : Value) (w23 : Value) (w24 : Value) (w25 : Value) (w26 : Value) (w27 : Value) (w28 : Value) (w29 : Value) (w30 : Value) (w31 : Value) (w32 : Value) (w33 : Value) (w34 : Value) (w35 : Value) (w36 : Value) (w37 : Value) (w38 : Value) (k : Int32)  : Met l yX11_failedLong wsX11_failedLong ({ frames := 1, cells := 0, slots := 0, locals := 30 }) (pw (dC, dI) [] [(qm, .inr (11, [w0, w1, w2, w3, w4, w5, w6, w7, w8, w9, w10, w11, w12, w13, w14, w15, w16, w17, w18, w19, w20, w21, w22, w23, w24, w25, w26, w27, w28, w29, w30, w31, w32, w33, w34, w35, w36, w37, w38]))] sz [.ref qm, .int k]) (va_Ql (fun r (_ : Unit) => r = (-9223372036854775808)) (fun _ t => bw (dC, dI) [] (va_A [(qm, .inr (11, [w0, w1, w2, w3, w4, w5, w6, w7, w8, w9, w10, w11, w12, w13, w14, w15, w16, w17, w18, w19, w20, w21, w22, w23, w24, w25, w26, w27, w28, w29, w30, w31, w32, w33, w34, w35, w36, w37, w38]))] sz) [(qm, .inr (11, [.int k, w1, w2, w3, w4, w5, w6, w7, w8, w9, w10, w11, w12, w13, w14, w15, w16, w17, w18, w19, w20, w21, w22, w23, w24, w25, w26, w27, w28, w29, w30, w31, w32, w33, w34, w35, w36, w37, w38]))] t) (va_A [(qm, .inr (11, [w0, w1, w2, w3, w4, w5, w6, w7, w8, w9, w10, w11, w12, w13, w14, w15, w16, w17, w18, w19, w20, w21, w22, w23, w24, w25, w26, w27, w28, w29, w30, w31, w32, w33, w34, w35, w36, w37, w38]))] sz)) 0 0 (va_A [(qm, .inr (11, [w0, w1, w2, w3, w4, w5, w6, w7, w8, w9, w10, w11, w12, w13, w14, w15, w16, w17, w18, w19, w20, w21, w22, w23, w24, w25, w26, w27, w28, w29, w30, w31, w32, w33, w34, w35, w36, w37, w38]))] sz) := by
  refine pw_met (cc := cX11_failedLong) (maxL := 2) (ret := (some .long)) (by decide) rfl (Nat.le_of_ble_eq_true rfl) ?_
  intro p e s m below meth c0 hx hb hr hml hown hlocks hnm hts hP hK hD hN hsz hA hS ls hl
  subst hsz
  have hl : lv_has ls 2 [(0, .ref qm), (1, .int k)] := hl
  have hiX11 : ∀ w ∈ wsX110, w ∈ wsX11_failedLong := by decide +kernel
  generalize hQ : MQ _ _ _ _ _ _ _ = Q
  refine lv_aload_n hx hb dX11_failedLong_0 rfl (lv_at hl 0 rfl) ?_
  refine lv_iload_n hx hb dX11_failedLong_1 rfl (lv_at hl 1 rfl) ?_
  refine va_put (D := (dC, dI)) (ci := 11) (v := .int k) (ty := .int) (C := RX11) (T := TX11) (N := 39) hx hb hts hiX11 tyX11 tyX11_ok nmX11 hown hK hP hD hS 0 rfl rfl 0 (by decide) (hts (.fieldLink RX11 102 "TributePitchesModel" "fault" "I") (by decide +kernel)) (fun _ h9 => h9) rfl (by decide +kernel) rfl rfl (Nat.le_of_ble_eq_true rfl) dX11_failedLong_2 (fun H locs hP hD hS => ?_)
  have hP : va_P (dC, dI) vwCl [(qm, .inr (11, [.int k, w1, w2, w3, w4, w5, w6, w7, w8, w9, w10, w11, w12, w13, w14, w15, w16, w17, w18, w19, w20, w21, w22, w23, w24, w25, w26, w27, w28, w29, w30, w31, w32, w33, w34, w35, w36, w37, w38]))] H := hP
  have hD : va_D _ [(qm, .inr (11, [.int k, w1, w2, w3, w4, w5, w6, w7, w8, w9, w10, w11, w12, w13, w14, w15, w16, w17, w18, w19, w20, w21, w22, w23, w24, w25, w26, w27, w28, w29, w30, w31, w32, w33, w34, w35, w36, w37, w38]))] := hD
  refine vp_callSl (va_Run.run (va_runS (As := []) (rest := []) ⟨hx, hb, hml, hown, hts⟩ (c_X11_lost l  ) (va_cwS 0 hts gX11_failedLong_X11_lost rfl rfl rfl (by decide +kernel) ⟨Nat.le_of_ble_eq_true rfl, Nat.le_of_ble_eq_true rfl⟩) (p0_preS hN) rfl rfl hl.1 rfl (lv_room (Nat.le_of_ble_eq_true rfl)) dX11_failedLong_5 ⟨Nat.le_of_ble_eq_true rfl, Nat.le_of_ble_eq_true rfl⟩)) (fun r1 hr1 => ?_)
  have hr1 : r1 = (-9223372036854775808) := hr1
  subst hr1
  subst hQ
  have hP9 := hP.sub (ws' := [(qm, .inr (11, [.int k, w1, w2, w3, w4, w5, w6, w7, w8, w9, w10, w11, w12, w13, w14, w15, w16, w17, w18, w19, w20, w21, w22, w23, w24, w25, w26, w27, w28, w29, w30, w31, w32, w33, w34, w35, w36, w37, w38]))]) [0] rfl
  have hD9 := hD.sub (ws' := [(qm, .inr (11, [.int k, w1, w2, w3, w4, w5, w6, w7, w8, w9, w10, w11, w12, w13, w14, w15, w16, w17, w18, w19, w20, w21, w22, w23, w24, w25, w26, w27, w28, w29, w30, w31, w32, w33, w34, w35, w36, w37, w38]))]) [0] (by decide) rfl
  have hK9 := hK.sub (tys' := []) [] rfl
  exact W.lret (v := (-9223372036854775808)) hx hb hr (fun t ht hW => ⟨⟨(-9223372036854775808), (), rfl, rfl, ⟨by rw [ht]; exact hP9, va_K.moved hW.alike hK9, hD9⟩⟩, hS.F ht⟩) hS.2.2 dX11_failedLong_8
theorem shYes {j : Nat} (h : j < 4) : 0 ≤ nI j ∧ nI j ≤ 3 := ⟨nI_pos' (by omega), show nI j ≤ nI 3 from nI_le (by omega) (by omega)⟩
theorem inv_size {z : RS2} {j : Nat} {x : Int32} {a : Nat → Int32} (hI : invR z) (hj : j < 4) (h1 : -1 ≤ x.toInt) (h2 : x.toInt ≤ 48) : invR (rs_i z, rs_n z, va_up (rs_I z) 7 (upd (rs_I z 7) j x), rs_L z) := by
  obtain ⟨h0, hfar, hlh, hss, hsold, htk, hpk⟩ := hI
  refine ⟨h0, hfar, hlh, (fun k hk => ?_), hsold, htk, hpk⟩
  show -1 ≤ (upd (rs_I z 7) j x k).toInt ∧ (upd (rs_I z 7) j x k).toInt ≤ 48
  by_cases h9 : k = j
  · rw [h9, pk_us]; exact ⟨h1, h2⟩
  · rw [pk_un h9]; exact hss k hk
