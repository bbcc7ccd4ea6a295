set_option maxHeartbeats 4000000 in
set_option maxRecDepth 100000 in
theorem c_X11_pitch (l : Launch) (dC : Nat → ClassId) (dI : Nat → Nat → Nat) (cI : ClassId) (sz : Nat) (qm : Nat) (w0 : Value) (w1 : Value) (w2 : Value) (w3 : Value) (w4 : Value) (w5 : Value) (w6 : Value) (w7 : Value) (w8 : Value) (w9 : Value) (w10 : Value) (w17 : Value) (w18 : Value) (w19 : Value) (w20 : Value) (w21 : Value) (w22 : Value) (w23 : Value) (w24 : Value) (w25 : Value) (w26 : Value) (w27 : Value) (w28 : Value) (w29 : Value) (w30 : Value) (w31 : Value) (w32 : Value) (w33 : Value) (w34 : Value) (w35 : Value) (w36 : Value) (w37 : Value) (w38 : Value) (p0 : Nat) (p1 : Nat) (p2 : Nat) (p3 : Nat) (p4 : Nat) (x : Int32) (y : Int32) (xx : Int32) (yy : Int32) (tn : Int32) (f0 : Nat → Int32) (f1 : Nat → Int32) (f2 : Nat → Int32) (f3 : Nat → Int32) (f4 : Nat → Int32)  : Met l yX11_pitch wsX11_pitch ({ frames := 2, cells := 0, slots := 0, locals := 60 }) (pw (dC, dI) [(cI, .int)] [(qm, .inr (11, [w0, w1, w2, w3, w4, w5, w6, w7, w8, w9, w10, .int 0, .ref p0, .ref p1, .ref p2, .ref p3, .ref p4, w17, w18, w19, w20, w21, w22, w23, w24, w25, w26, w27, w28, w29, w30, w31, w32, w33, w34, w35, w36, w37, w38])), (p0, .inl (cI, 12, .inl f0)), (p1, .inl (cI, 12, .inl f1)), (p2, .inl (cI, 12, .inl f2)), (p3, .inl (cI, 12, .inl f3)), (p4, .inl (cI, 12, .inl f4))] sz [.ref qm, .int x, .int y, .int xx, .int yy, .int tn]) (va_Qi (fun r (_ : Unit) => r = sp_pitch x y xx yy tn) (fun _ _ => True) (va_A [(qm, .inr (11, [w0, w1, w2, w3, w4, w5, w6, w7, w8, w9, w10, .int 0, .ref p0, .ref p1, .ref p2, .ref p3, .ref p4, w17, w18, w19, w20, w21, w22, w23, w24, w25, w26, w27, w28, w29, w30, w31, w32, w33, w34, w35, w36, w37, w38])), (p0, .inl (cI, 12, .inl f0)), (p1, .inl (cI, 12, .inl f1)), (p2, .inl (cI, 12, .inl f2)), (p3, .inl (cI, 12, .inl f3)), (p4, .inl (cI, 12, .inl f4))] sz)) 0 0 (va_A [(qm, .inr (11, [w0, w1, w2, w3, w4, w5, w6, w7, w8, w9, w10, .int 0, .ref p0, .ref p1, .ref p2, .ref p3, .ref p4, w17, w18, w19, w20, w21, w22, w23, w24, w25, w26, w27, w28, w29, w30, w31, w32, w33, w34, w35, w36, w37, w38])), (p0, .inl (cI, 12, .inl f0)), (p1, .inl (cI, 12, .inl f1)), (p2, .inl (cI, 12, .inl f2)), (p3, .inl (cI, 12, .inl f3)), (p4, .inl (cI, 12, .inl f4))] sz) := by
  refine pw_met (cc := cX11_pitch) (maxL := 7) (ret := (some .int)) (by decide) rfl (Nat.le_of_ble_eq_true rfl) ?_
  intro p e s m below meth c0 hx hb hr hml hown hlocks hnm hts hP hK hD hN hsz hA hS ls hl
  subst hsz
  have hl : lv_has ls 7 [(0, .ref qm), (1, .int x), (2, .int y), (3, .int xx), (4, .int yy), (5, .int tn)] := hl
  have hiX11 : ∀ w ∈ wsX110, w ∈ wsX11_pitch := by decide +kernel
  refine lv_iload_n hx hb dX11_pitch_0 rfl (lv_at hl 1 rfl) ?_
  refine lv_iload_n hx hb dX11_pitch_1 rfl (lv_at hl 2 rfl) ?_
  refine vp_callSi (va_Run.run (va_runS (As := [.int x, .int y]) (rest := []) ⟨hx, hb, hml, hown, hts⟩ (c_X11_isSquare l x y ) (va_cwS 2 hts gX11_pitch_X11_isSquare rfl rfl rfl (by decide +kernel) ⟨Nat.le_of_ble_eq_true rfl, Nat.le_of_ble_eq_true rfl⟩) (p0_preS hN) rfl rfl hl.1 rfl (lv_room (Nat.le_of_ble_eq_true rfl)) dX11_pitch_2 ⟨Nat.le_of_ble_eq_true rfl, Nat.le_of_ble_eq_true rfl⟩)) (fun r1 hr1 => ?_)
  have hr1 : r1 = if (0 ≤ x ∧ x ≤ 7) ∧ (0 ≤ y ∧ y ≤ 5) then 1 else 0 := hr1
  refine lv_if_eq (tgt := 17) hx hb dX11_pitch_5 (by decide) (fun c2 => ?_) (fun c2 => ?_)
  · skip
    have c2 := (fa_bool_prop hr1).1.mp c2
    refine lv_iconst (v := (-1)) hx hb dX11_pitch_17 (by decide) ?_
    exact W.iret (v := (-1)) hx hb hr (fun t ht hW => ⟨⟨(-1), (), rfl, (by simp [sp_pitch, c2]), trivial⟩, hS.F ht⟩) hS.2.2 dX11_pitch_18
  · skip
    have c2 := (fa_bool_prop hr1).2.mp c2
    refine lv_iload_n hx hb dX11_pitch_8 rfl (lv_at hl 3 rfl) ?_
    refine lv_iload hx hb dX11_pitch_9 (lv_at hl 4 rfl) ?_
    refine vp_callSi (va_Run.run (va_runS (As := [.int xx, .int yy]) (rest := []) ⟨hx, hb, hml, hown, hts⟩ (c_X11_isSquare l xx yy ) (va_cwS 2 hts gX11_pitch_X11_isSquare rfl rfl rfl (by decide +kernel) ⟨Nat.le_of_ble_eq_true rfl, Nat.le_of_ble_eq_true rfl⟩) (p0_preS hN) rfl rfl hl.1 rfl (lv_room (Nat.le_of_ble_eq_true rfl)) dX11_pitch_11 ⟨Nat.le_of_ble_eq_true rfl, Nat.le_of_ble_eq_true rfl⟩)) (fun r3 hr3 => ?_)
    have hr3 : r3 = if (0 ≤ xx ∧ xx ≤ 7) ∧ (0 ≤ yy ∧ yy ≤ 5) then 1 else 0 := hr3
    refine lv_if_ne (tgt := 19) hx hb dX11_pitch_14 (by decide) (fun c4 => ?_) (fun c4 => ?_)
    · skip
      have c4 := (fa_bool_prop hr3).2.mp c4
      refine lv_iload_n hx hb dX11_pitch_19 rfl (lv_at hl 1 rfl) ?_
      refine lv_iload_n hx hb dX11_pitch_20 rfl (lv_at hl 3 rfl) ?_
      refine lv_icmp_gt (tgt := 43) hx hb dX11_pitch_21 (by decide) (fun c5 => ?_) (fun c5 => ?_)
      · skip
        refine lv_bipush (v := (-2)) hx hb dX11_pitch_43 (by decide) ?_
        exact W.iret (v := (-2)) hx hb hr (fun t ht hW => ⟨⟨(-2), (), rfl, (by simp [sp_pitch, c2, c4, c5]), trivial⟩, hS.F ht⟩) hS.2.2 dX11_pitch_45
      · skip
        refine lv_iload_n hx hb dX11_pitch_24 rfl (lv_at hl 2 rfl) ?_
        refine lv_iload hx hb dX11_pitch_25 (lv_at hl 4 rfl) ?_
        refine lv_icmp_gt (tgt := 43) hx hb dX11_pitch_27 (by decide) (fun c6 => ?_) (fun c6 => ?_)
        · skip
          refine lv_bipush (v := (-2)) hx hb dX11_pitch_43 (by decide) ?_
          exact W.iret (v := (-2)) hx hb hr (fun t ht hW => ⟨⟨(-2), (), rfl, (by simp [sp_pitch, c2, c4, c5, c6]), trivial⟩, hS.F ht⟩) hS.2.2 dX11_pitch_45
        · skip
          refine lv_iload hx hb dX11_pitch_30 (lv_at hl 5 rfl) ?_
          refine lv_i2l (v := tn.toInt64) hx hb dX11_pitch_32 rfl ?_
          refine lv_lconst (v := 1) hx hb dX11_pitch_33 (by decide) ?_
          refine lv_ldc2 (v := 100) hx hb hown (hts (.constantLong RX11 173 (100)) (by decide +kernel)) dX11_pitch_34 ?_
          refine vp_callSi (va_Run.run (va_runS (As := [.long tn.toInt64, .long 1, .long 100]) (rest := []) ⟨hx, hb, hml, hown, hts⟩ (c_X11_in l tn.toInt64 1 100 ) (va_cwS 3 hts gX11_pitch_X11_in rfl rfl rfl (by decide +kernel) ⟨Nat.le_of_ble_eq_true rfl, Nat.le_of_ble_eq_true rfl⟩) (p0_preS hN) rfl rfl hl.1 rfl (lv_room (Nat.le_of_ble_eq_true rfl)) dX11_pitch_37 ⟨Nat.le_of_ble_eq_true rfl, Nat.le_of_ble_eq_true rfl⟩)) (fun r7 hr7 => ?_)
          have hr7 : r7 = if 1 ≤ tn.toInt64 ∧ tn.toInt64 ≤ 100 then 1 else 0 := hr7
          have hr7 := hr7.trans (in_w _ 1 100 (by decide) (by decide))
          refine lv_if_ne (tgt := 46) hx hb dX11_pitch_40 (by decide) (fun c8 => ?_) (fun c8 => ?_)
          · skip
            have c8 := (fa_bool_prop hr7).2.mp c8
            refine lv_iconst (v := 0) hx hb dX11_pitch_46 (by decide) ?_
            refine lv_istore (lv' := [(6, .int 0), (0, .ref qm), (1, .int x), (2, .int y), (3, .int xx), (4, .int yy), (5, .int tn)]) hx hb dX11_pitch_47 hl (by decide) rfl (fun ls hl => ?_)
            refine lv_iload hx hb dX11_pitch_49 (lv_at hl 0 rfl) ?_
            refine lv_aload_n hx hb dX11_pitch_51 rfl (lv_at hl 1 rfl) ?_
            refine va_get (D := (dC, dI)) (ci := 11) (v := .int 0) (C := RX11) (T := TX11) (N := 39) hx hb hts hiX11 hown hK hP 0 rfl rfl 11 (by decide) (hts (.fieldLink RX11 170 "TributePitchesModel" "pitches" "I") (by decide +kernel)) (fun _ h9 => h9) rfl dX11_pitch_52 ?_
            refine lv_icmp_ge (tgt := 112) hx hb dX11_pitch_55 (by decide) (fun c9 => ?_) (fun c9 => ?_)
            · skip
              refine lv_aload_n hx hb dX11_pitch_112 rfl (lv_at hl 1 rfl) ?_
              refine va_get (D := (dC, dI)) (ci := 11) (v := .int 0) (C := RX11) (T := TX11) (N := 39) hx hb hts hiX11 hown hK hP 0 rfl rfl 11 (by decide) (hts (.fieldLink RX11 170 "TributePitchesModel" "pitches" "I") (by decide +kernel)) (fun _ h9 => h9) rfl dX11_pitch_113 ?_
              refine lv_bipush (v := 12) hx hb dX11_pitch_116 (by decide) ?_
              refine lv_icmp_ne (tgt := 124) hx hb dX11_pitch_118 (by decide) (fun c10 => ?_) (fun c10 => ?_)
              · skip
                refine lv_aload_n hx hb dX11_pitch_124 rfl (lv_at hl 1 rfl) ?_
                refine va_get (D := (dC, dI)) (ci := 11) (v := .ref p0) (C := RX11) (T := TX11) (N := 39) hx hb hts hiX11 hown hK hP 0 rfl rfl 12 (by decide) (hts (.fieldLink RX11 34 "TributePitchesModel" "fromX" "[I") (by decide +kernel)) (fun _ h9 => h9) rfl dX11_pitch_125 ?_
                refine lv_aload_n hx hb dX11_pitch_128 rfl (lv_at hl 1 rfl) ?_
                refine va_get (D := (dC, dI)) (ci := 11) (v := .int 0) (C := RX11) (T := TX11) (N := 39) hx hb hts hiX11 hown hK hP 0 rfl rfl 11 (by decide) (hts (.fieldLink RX11 170 "TributePitchesModel" "pitches" "I") (by decide +kernel)) (fun _ h9 => h9) rfl dX11_pitch_129 ?_
                refine lv_iload_n hx hb dX11_pitch_132 rfl (lv_at hl 2 rfl) ?_
                refine va_iast hx hb hK hP hD hS 1 0 rfl rfl (by unfold vp_in; decide) dX11_pitch_133 (fun H locs hP hD hS => ?_)
                have hP : va_P (dC, dI) vwCl [(qm, .inr (11, [w0, w1, w2, w3, w4, w5, w6, w7, w8, w9, w10, .int 0, .ref p0, .ref p1, .ref p2, .ref p3, .ref p4, w17, w18, w19, w20, w21, w22, w23, w24, w25, w26, w27, w28, w29, w30, w31, w32, w33, w34, w35, w36, w37, w38])), (p0, .inl (cI, 12, .inl (upd f0 (0 : Int32).toNatClampNeg x))), (p1, .inl (cI, 12, .inl f1)), (p2, .inl (cI, 12, .inl f2)), (p3, .inl (cI, 12, .inl f3)), (p4, .inl (cI, 12, .inl f4))] H := hP
                have hD : va_D _ [(qm, .inr (11, [w0, w1, w2, w3, w4, w5, w6, w7, w8, w9, w10, .int 0, .ref p0, .ref p1, .ref p2, .ref p3, .ref p4, w17, w18, w19, w20, w21, w22, w23, w24, w25, w26, w27, w28, w29, w30, w31, w32, w33, w34, w35, w36, w37, w38])), (p0, .inl (cI, 12, .inl (upd f0 (0 : Int32).toNatClampNeg x))), (p1, .inl (cI, 12, .inl f1)), (p2, .inl (cI, 12, .inl f2)), (p3, .inl (cI, 12, .inl f3)), (p4, .inl (cI, 12, .inl f4))] := hD
                refine lv_aload_n hx hb dX11_pitch_134 rfl (lv_at hl 1 rfl) ?_
                refine va_get (D := (dC, dI)) (ci := 11) (v := .ref p1) (C := RX11) (T := TX11) (N := 39) hx hb hts hiX11 hown hK hP 0 rfl rfl 13 (by decide) (hts (.fieldLink RX11 37 "TributePitchesModel" "fromY" "[I") (by decide +kernel)) (fun _ h9 => h9) rfl dX11_pitch_135 ?_
                refine lv_aload_n hx hb dX11_pitch_138 rfl (lv_at hl 1 rfl) ?_
                refine va_get (D := (dC, dI)) (ci := 11) (v := .int 0) (C := RX11) (T := TX11) (N := 39) hx hb hts hiX11 hown hK hP 0 rfl rfl 11 (by decide) (hts (.fieldLink RX11 170 "TributePitchesModel" "pitches" "I") (by decide +kernel)) (fun _ h9 => h9) rfl dX11_pitch_139 ?_
                refine lv_iload_n hx hb dX11_pitch_142 rfl (lv_at hl 3 rfl) ?_
                refine va_iast hx hb hK hP hD hS 2 0 rfl rfl (by unfold vp_in; decide) dX11_pitch_143 (fun H locs hP hD hS => ?_)
                have hP : va_P (dC, dI) vwCl [(qm, .inr (11, [w0, w1, w2, w3, w4, w5, w6, w7, w8, w9, w10, .int 0, .ref p0, .ref p1, .ref p2, .ref p3, .ref p4, w17, w18, w19, w20, w21, w22, w23, w24, w25, w26, w27, w28, w29, w30, w31, w32, w33, w34, w35, w36, w37, w38])), (p0, .inl (cI, 12, .inl (upd f0 (0 : Int32).toNatClampNeg x))), (p1, .inl (cI, 12, .inl (upd f1 (0 : Int32).toNatClampNeg y))), (p2, .inl (cI, 12, .inl f2)), (p3, .inl (cI, 12, .inl f3)), (p4, .inl (cI, 12, .inl f4))] H := hP
                have hD : va_D _ [(qm, .inr (11, [w0, w1, w2, w3, w4, w5, w6, w7, w8, w9, w10, .int 0, .ref p0, .ref p1, .ref p2, .ref p3, .ref p4, w17, w18, w19, w20, w21, w22, w23, w24, w25, w26, w27, w28, w29, w30, w31, w32, w33, w34, w35, w36, w37, w38])), (p0, .inl (cI, 12, .inl (upd f0 (0 : Int32).toNatClampNeg x))), (p1, .inl (cI, 12, .inl (upd f1 (0 : Int32).toNatClampNeg y))), (p2, .inl (cI, 12, .inl f2)), (p3, .inl (cI, 12, .inl f3)), (p4, .inl (cI, 12, .inl f4))] := hD
                refine lv_aload_n hx hb dX11_pitch_144 rfl (lv_at hl 1 rfl) ?_
                refine va_get (D := (dC, dI)) (ci := 11) (v := .ref p2) (C := RX11) (T := TX11) (N := 39) hx hb hts hiX11 hown hK hP 0 rfl rfl 14 (by decide) (hts (.fieldLink RX11 40 "TributePitchesModel" "toX" "[I") (by decide +kernel)) (fun _ h9 => h9) rfl dX11_pitch_145 ?_
                refine lv_aload_n hx hb dX11_pitch_148 rfl (lv_at hl 1 rfl) ?_
                refine va_get (D := (dC, dI)) (ci := 11) (v := .int 0) (C := RX11) (T := TX11) (N := 39) hx hb hts hiX11 hown hK hP 0 rfl rfl 11 (by decide) (hts (.fieldLink RX11 170 "TributePitchesModel" "pitches" "I") (by decide +kernel)) (fun _ h9 => h9) rfl dX11_pitch_149 ?_
                refine lv_iload_n hx hb dX11_pitch_152 rfl (lv_at hl 4 rfl) ?_
                refine va_iast hx hb hK hP hD hS 3 0 rfl rfl (by unfold vp_in; decide) dX11_pitch_153 (fun H locs hP hD hS => ?_)
                have hP : va_P (dC, dI) vwCl [(qm, .inr (11, [w0, w1, w2, w3, w4, w5, w6, w7, w8, w9, w10, .int 0, .ref p0, .ref p1, .ref p2, .ref p3, .ref p4, w17, w18, w19, w20, w21, w22, w23, w24, w25, w26, w27, w28, w29, w30, w31, w32, w33, w34, w35, w36, w37, w38])), (p0, .inl (cI, 12, .inl (upd f0 (0 : Int32).toNatClampNeg x))), (p1, .inl (cI, 12, .inl (upd f1 (0 : Int32).toNatClampNeg y))), (p2, .inl (cI, 12, .inl (upd f2 (0 : Int32).toNatClampNeg xx))), (p3, .inl (cI, 12, .inl f3)), (p4, .inl (cI, 12, .inl f4))] H := hP
                have hD : va_D _ [(qm, .inr (11, [w0, w1, w2, w3, w4, w5, w6, w7, w8, w9, w10, .int 0, .ref p0, .ref p1, .ref p2, .ref p3, .ref p4, w17, w18, w19, w20, w21, w22, w23, w24, w25, w26, w27, w28, w29, w30, w31, w32, w33, w34, w35, w36, w37, w38])), (p0, .inl (cI, 12, .inl (upd f0 (0 : Int32).toNatClampNeg x))), (p1, .inl (cI, 12, .inl (upd f1 (0 : Int32).toNatClampNeg y))), (p2, .inl (cI, 12, .inl (upd f2 (0 : Int32).toNatClampNeg xx))), (p3, .inl (cI, 12, .inl f3)), (p4, .inl (cI, 12, .inl f4))] := hD
                refine lv_aload_n hx hb dX11_pitch_154 rfl (lv_at hl 1 rfl) ?_
                refine va_get (D := (dC, dI)) (ci := 11) (v := .ref p3) (C := RX11) (T := TX11) (N := 39) hx hb hts hiX11 hown hK hP 0 rfl rfl 15 (by decide) (hts (.fieldLink RX11 43 "TributePitchesModel" "toY" "[I") (by decide +kernel)) (fun _ h9 => h9) rfl dX11_pitch_155 ?_
                refine lv_aload_n hx hb dX11_pitch_158 rfl (lv_at hl 1 rfl) ?_
                refine va_get (D := (dC, dI)) (ci := 11) (v := .int 0) (C := RX11) (T := TX11) (N := 39) hx hb hts hiX11 hown hK hP 0 rfl rfl 11 (by decide) (hts (.fieldLink RX11 170 "TributePitchesModel" "pitches" "I") (by decide +kernel)) (fun _ h9 => h9) rfl dX11_pitch_159 ?_
                refine lv_iload hx hb dX11_pitch_162 (lv_at hl 5 rfl) ?_
                refine va_iast hx hb hK hP hD hS 4 0 rfl rfl (by unfold vp_in; decide) dX11_pitch_164 (fun H locs hP hD hS => ?_)
                have hP : va_P (dC, dI) vwCl [(qm, .inr (11, [w0, w1, w2, w3, w4, w5, w6, w7, w8, w9, w10, .int 0, .ref p0, .ref p1, .ref p2, .ref p3, .ref p4, w17, w18, w19, w20, w21, w22, w23, w24, w25, w26, w27, w28, w29, w30, w31, w32, w33, w34, w35, w36, w37, w38])), (p0, .inl (cI, 12, .inl (upd f0 (0 : Int32).toNatClampNeg x))), (p1, .inl (cI, 12, .inl (upd f1 (0 : Int32).toNatClampNeg y))), (p2, .inl (cI, 12, .inl (upd f2 (0 : Int32).toNatClampNeg xx))), (p3, .inl (cI, 12, .inl (upd f3 (0 : Int32).toNatClampNeg yy))), (p4, .inl (cI, 12, .inl f4))] H := hP
                have hD : va_D _ [(qm, .inr (11, [w0, w1, w2, w3, w4, w5, w6, w7, w8, w9, w10, .int 0, .ref p0, .ref p1, .ref p2, .ref p3, .ref p4, w17, w18, w19, w20, w21, w22, w23, w24, w25, w26, w27, w28, w29, w30, w31, w32, w33, w34, w35, w36, w37, w38])), (p0, .inl (cI, 12, .inl (upd f0 (0 : Int32).toNatClampNeg x))), (p1, .inl (cI, 12, .inl (upd f1 (0 : Int32).toNatClampNeg y))), (p2, .inl (cI, 12, .inl (upd f2 (0 : Int32).toNatClampNeg xx))), (p3, .inl (cI, 12, .inl (upd f3 (0 : Int32).toNatClampNeg yy))), (p4, .inl (cI, 12, .inl f4))] := hD
                refine lv_aload_n hx hb dX11_pitch_165 rfl (lv_at hl 1 rfl) ?_
                refine va_get (D := (dC, dI)) (ci := 11) (v := .ref p4) (C := RX11) (T := TX11) (N := 39) hx hb hts hiX11 hown hK hP 0 rfl rfl 16 (by decide) (hts (.fieldLink RX11 46 "TributePitchesModel" "tonsOf" "[I") (by decide +kernel)) (fun _ h9 => h9) rfl dX11_pitch_166 ?_
                refine lv_aload_n hx hb dX11_pitch_169 rfl (lv_at hl 1 rfl) ?_
                refine va_get (D := (dC, dI)) (ci := 11) (v := .int 0) (C := RX11) (T := TX11) (N := 39) hx hb hts hiX11 hown hK hP 0 rfl rfl 11 (by decide) (hts (.fieldLink RX11 170 "TributePitchesModel" "pitches" "I") (by decide +kernel)) (fun _ h9 => h9) rfl dX11_pitch_170 ?_
                refine lv_iload hx hb dX11_pitch_173 (lv_at hl 6 rfl) ?_
                refine va_iast hx hb hK hP hD hS 5 0 rfl rfl (by unfold vp_in; decide) dX11_pitch_175 (fun H locs hP hD hS => ?_)
                have hP : va_P (dC, dI) vwCl [(qm, .inr (11, [w0, w1, w2, w3, w4, w5, w6, w7, w8, w9, w10, .int 0, .ref p0, .ref p1, .ref p2, .ref p3, .ref p4, w17, w18, w19, w20, w21, w22, w23, w24, w25, w26, w27, w28, w29, w30, w31, w32, w33, w34, w35, w36, w37, w38])), (p0, .inl (cI, 12, .inl (upd f0 (0 : Int32).toNatClampNeg x))), (p1, .inl (cI, 12, .inl (upd f1 (0 : Int32).toNatClampNeg y))), (p2, .inl (cI, 12, .inl (upd f2 (0 : Int32).toNatClampNeg xx))), (p3, .inl (cI, 12, .inl (upd f3 (0 : Int32).toNatClampNeg yy))), (p4, .inl (cI, 12, .inl (upd f4 (0 : Int32).toNatClampNeg tn)))] H := hP
                have hD : va_D _ [(qm, .inr (11, [w0, w1, w2, w3, w4, w5, w6, w7, w8, w9, w10, .int 0, .ref p0, .ref p1, .ref p2, .ref p3, .ref p4, w17, w18, w19, w20, w21, w22, w23, w24, w25, w26, w27, w28, w29, w30, w31, w32, w33, w34, w35, w36, w37, w38])), (p0, .inl (cI, 12, .inl (upd f0 (0 : Int32).toNatClampNeg x))), (p1, .inl (cI, 12, .inl (upd f1 (0 : Int32).toNatClampNeg y))), (p2, .inl (cI, 12, .inl (upd f2 (0 : Int32).toNatClampNeg xx))), (p3, .inl (cI, 12, .inl (upd f3 (0 : Int32).toNatClampNeg yy))), (p4, .inl (cI, 12, .inl (upd f4 (0 : Int32).toNatClampNeg tn)))] := hD
                refine lv_aload_n hx hb dX11_pitch_176 rfl (lv_at hl 1 rfl) ?_
                refine lv_dup hx hb dX11_pitch_177 rfl ?_
                refine va_get (D := (dC, dI)) (ci := 11) (v := .int 0) (C := RX11) (T := TX11) (N := 39) hx hb hts hiX11 hown hK hP 0 rfl rfl 11 (by decide) (hts (.fieldLink RX11 170 "TributePitchesModel" "pitches" "I") (by decide +kernel)) (fun _ h9 => h9) rfl dX11_pitch_178 ?_
                refine lv_iconst (v := 1) hx hb dX11_pitch_181 (by decide) ?_
                refine lv_iadd hx hb dX11_pitch_182 ?_
                refine lv_topi (fun v11 ev11 => ?_)
                have ev11 : v11 = 1 := by rw [ev11]; decide
                subst ev11
                refine va_put (D := (dC, dI)) (ci := 11) (v := .int 1) (ty := .int) (C := RX11) (T := TX11) (N := 39) hx hb hts hiX11 tyX11 tyX11_ok nmX11 hown hK hP hD hS 0 rfl rfl 11 (by decide) (hts (.fieldLink RX11 170 "TributePitchesModel" "pitches" "I") (by decide +kernel)) (fun _ h9 => h9) rfl (by decide +kernel) rfl rfl (Nat.le_of_ble_eq_true rfl) dX11_pitch_183 (fun H locs hP hD hS => ?_)
                have hP : va_P (dC, dI) vwCl [(qm, .inr (11, [w0, w1, w2, w3, w4, w5, w6, w7, w8, w9, w10, .int 1, .ref p0, .ref p1, .ref p2, .ref p3, .ref p4, w17, w18, w19, w20, w21, w22, w23, w24, w25, w26, w27, w28, w29, w30, w31, w32, w33, w34, w35, w36, w37, w38])), (p0, .inl (cI, 12, .inl (upd f0 (0 : Int32).toNatClampNeg x))), (p1, .inl (cI, 12, .inl (upd f1 (0 : Int32).toNatClampNeg y))), (p2, .inl (cI, 12, .inl (upd f2 (0 : Int32).toNatClampNeg xx))), (p3, .inl (cI, 12, .inl (upd f3 (0 : Int32).toNatClampNeg yy))), (p4, .inl (cI, 12, .inl (upd f4 (0 : Int32).toNatClampNeg tn)))] H := hP
                have hD : va_D _ [(qm, .inr (11, [w0, w1, w2, w3, w4, w5, w6, w7, w8, w9, w10, .int 1, .ref p0, .ref p1, .ref p2, .ref p3, .ref p4, w17, w18, w19, w20, w21, w22, w23, w24, w25, w26, w27, w28, w29, w30, w31, w32, w33, w34, w35, w36, w37, w38])), (p0, .inl (cI, 12, .inl (upd f0 (0 : Int32).toNatClampNeg x))), (p1, .inl (cI, 12, .inl (upd f1 (0 : Int32).toNatClampNeg y))), (p2, .inl (cI, 12, .inl (upd f2 (0 : Int32).toNatClampNeg xx))), (p3, .inl (cI, 12, .inl (upd f3 (0 : Int32).toNatClampNeg yy))), (p4, .inl (cI, 12, .inl (upd f4 (0 : Int32).toNatClampNeg tn)))] := hD
                refine lv_aload_n hx hb dX11_pitch_186 rfl (lv_at hl 1 rfl) ?_
                refine va_get (D := (dC, dI)) (ci := 11) (v := .int 1) (C := RX11) (T := TX11) (N := 39) hx hb hts hiX11 hown hK hP 0 rfl rfl 11 (by decide) (hts (.fieldLink RX11 170 "TributePitchesModel" "pitches" "I") (by decide +kernel)) (fun _ h9 => h9) rfl dX11_pitch_187 ?_
                refine lv_iconst (v := 1) hx hb dX11_pitch_190 (by decide) ?_
                refine lv_isub hx hb dX11_pitch_191 ?_
                refine lv_topi (fun v12 ev12 => ?_)
                have ev12 : v12 = 0 := by rw [ev12]; decide
                subst ev12
                exact W.iret (v := 0) hx hb hr (fun t ht hW => ⟨⟨0, (), rfl, (by simp [sp_pitch, c2, c4, c5, c6, c8, c9, c10]), trivial⟩, hS.F ht⟩) hS.2.2 dX11_pitch_192
              · exact absurd c10 (by decide)
            · exact absurd c9 (by decide)
          · skip
            have c8 := (fa_bool_prop hr7).1.mp c8
            refine lv_bipush (v := (-2)) hx hb dX11_pitch_43 (by decide) ?_
            exact W.iret (v := (-2)) hx hb hr (fun t ht hW => ⟨⟨(-2), (), rfl, (by simp [sp_pitch, c2, c4, c5, c6, c8]), trivial⟩, hS.F ht⟩) hS.2.2 dX11_pitch_45
    · skip
      have c4 := (fa_bool_prop hr3).1.mp c4
      refine lv_iconst (v := (-1)) hx hb dX11_pitch_17 (by decide) ?_
      exact W.iret (v := (-1)) hx hb hr (fun t ht hW => ⟨⟨(-1), (), rfl, (by simp [sp_pitch, c2, c4]), trivial⟩, hS.F ht⟩) hS.2.2 dX11_pitch_18
