set_option maxHeartbeats 4000000 in
set_option maxRecDepth 100000 in
theorem c_X11_noCell (l : Launch) (dC : Nat → ClassId) (dI : Nat → Nat → Nat) (cI : ClassId) (sz : Nat) (qm : Nat) (w0 : Value) (w1 : Value) (w2 : Value) (w3 : Value) (w4 : Value) (w5 : Value) (w6 : Value) (w8 : Value) (w9 : Value) (w10 : Value) (w11 : Value) (w12 : Value) (w13 : Value) (w14 : Value) (w15 : Value) (w16 : Value) (w17 : Value) (w18 : Value) (w19 : Value) (w20 : Value) (w21 : Value) (w22 : Value) (w23 : Value) (w24 : Value) (w25 : Value) (w26 : Value) (w27 : Value) (w28 : Value) (w29 : Value) (w30 : Value) (w31 : Value) (w32 : Value) (w33 : Value) (w34 : Value) (w35 : Value) (w36 : Value) (w37 : Value) (w38 : Value) (ss : Nat) (k : Int32) (i : Int32) (hk : 0 ≤ k ∧ k ≤ 3) : Met l yX11_noCell wsX11_noCell ({ frames := 1, cells := 0, slots := 0, locals := 30 }) (pw (dC, dI) [(cI, .int)] [(qm, .inr (11, [w0, w1, w2, w3, w4, w5, w6, .ref ss, w8, w9, w10, w11, w12, w13, w14, w15, w16, w17, w18, w19, w20, w21, w22, w23, w24, w25, w26, w27, w28, w29, w30, w31, w32, w33, w34, w35, w36, w37, w38])), (ss, .inl (cI, 4, .inl (fun _ => (-1))))] sz [.ref qm, .int k, .int i]) (vp_Si (fun r => r = 1)) 0 0 (fun _ => False) := by
  refine pw_met (cc := cX11_noCell) (maxL := 3) (ret := (some .int)) (by decide) rfl (Nat.le_of_ble_eq_true rfl) ?_
  intro p e s m below meth c0 hx hb hr hml hown hlocks hnm hts hP hK hD hN hsz hA hS ls hl
  have hl : lv_has ls 3 [(0, .ref qm), (1, .int k), (2, .int i)] := hl
  have hiX11 : ∀ w ∈ wsX110, w ∈ wsX11_noCell := by decide +kernel
  refine lv_aload_n hx hb dX11_noCell_0 rfl (lv_at hl 0 rfl) ?_
  refine va_get (D := (dC, dI)) (ci := 11) (v := .ref ss) (C := RX11) (T := TX11) (N := 39) hx hb hts hiX11 hown hK hP 0 rfl rfl 7 (by decide) (hts (.fieldLink RX11 22 "TributePitchesModel" "sheetSize" "[I") (by decide +kernel)) (fun _ h9 => h9) rfl dX11_noCell_1 ?_
  refine lv_iload_n hx hb dX11_noCell_4 rfl (lv_at hl 1 rfl) ?_
  refine va_iald hx hb hK hP 1 0 rfl rfl (in4 hk) dX11_noCell_5 ?_
  refine W.eq (g2 := F0 m 6 ls [.int (-1)]) rfl ?_
  refine lv_if_ge (tgt := 13) hx hb dX11_noCell_6 (by decide) (fun c1 => ?_) (fun c1 => ?_)
  · exact absurd c1 (by decide)
  · skip
    refine lv_iconst (v := 1) hx hb dX11_noCell_9 (by decide) ?_
    refine lv_goto (tgt := 36) hx hb dX11_noCell_10 (by decide) ?_
    exact W.iret (v := 1) hx hb hr (fun t ht hW => ⟨1, rfl, rfl, ht⟩) (fun q h => absurd h List.not_mem_nil) dX11_noCell_36
set_option maxHeartbeats 4000000 in
set_option maxRecDepth 100000 in
theorem c_X11_lose (l : Launch) (dC : Nat → ClassId) (dI : Nat → Nat → Nat) (cI : ClassId) (sz : Nat) (qm : Nat) (w0 : Value) (w1 : Value) (w2 : Value) (w3 : Value) (w4 : Value) (w5 : Value) (w6 : Value) (w8 : Value) (w9 : Value) (w10 : Value) (w11 : Value) (w12 : Value) (w13 : Value) (w14 : Value) (w15 : Value) (w16 : Value) (w17 : Value) (w18 : Value) (w19 : Value) (w20 : Value) (w21 : Value) (w22 : Value) (w23 : Value) (w24 : Value) (w25 : Value) (w26 : Value) (w27 : Value) (w28 : Value) (w29 : Value) (w30 : Value) (w31 : Value) (w32 : Value) (w33 : Value) (w34 : Value) (w35 : Value) (w36 : Value) (w37 : Value) (w38 : Value) (ss : Nat) (k : Int32)  : Met l yX11_lose wsX11_lose ({ frames := 3, cells := 0, slots := 0, locals := 90 }) (pw (dC, dI) [(cI, .int)] [(qm, .inr (11, [w0, w1, w2, w3, w4, w5, w6, .ref ss, w8, w9, w10, w11, w12, w13, w14, w15, w16, w17, w18, w19, w20, w21, w22, w23, w24, w25, w26, w27, w28, w29, w30, w31, w32, w33, w34, w35, w36, w37, w38])), (ss, .inl (cI, 4, .inl (fun _ => (-1))))] sz [.ref qm, .int k]) (va_Qi (fun r (_ : Unit) => r = sp_lose k) (fun _ _ => True) (va_A [(qm, .inr (11, [w0, w1, w2, w3, w4, w5, w6, .ref ss, w8, w9, w10, w11, w12, w13, w14, w15, w16, w17, w18, w19, w20, w21, w22, w23, w24, w25, w26, w27, w28, w29, w30, w31, w32, w33, w34, w35, w36, w37, w38])), (ss, .inl (cI, 4, .inl (fun _ => (-1))))] sz)) 0 0 (va_A [(qm, .inr (11, [w0, w1, w2, w3, w4, w5, w6, .ref ss, w8, w9, w10, w11, w12, w13, w14, w15, w16, w17, w18, w19, w20, w21, w22, w23, w24, w25, w26, w27, w28, w29, w30, w31, w32, w33, w34, w35, w36, w37, w38])), (ss, .inl (cI, 4, .inl (fun _ => (-1))))] sz) := by
  refine pw_met (cc := cX11_lose) (maxL := 3) (ret := (some .int)) (by decide) rfl (Nat.le_of_ble_eq_true rfl) ?_
  intro p e s m below meth c0 hx hb hr hml hown hlocks hnm hts hP hK hD hN hsz hA hS ls hl
  subst hsz
  have hl : lv_has ls 3 [(0, .ref qm), (1, .int k)] := hl
  have hiX11 : ∀ w ∈ wsX110, w ∈ wsX11_lose := by decide +kernel
  refine lv_iload_n hx hb dX11_lose_0 rfl (lv_at hl 1 rfl) ?_
  refine vp_callSi (va_Run.run (va_runS (As := [.int k]) (rest := []) ⟨hx, hb, hml, hown, hts⟩ (c_X11_noSheet l k ) (va_cwS 1 hts gX11_lose_X11_noSheet rfl rfl rfl (by decide +kernel) ⟨Nat.le_of_ble_eq_true rfl, Nat.le_of_ble_eq_true rfl⟩) (p0_preS hN) rfl rfl hl.1 rfl (lv_room (Nat.le_of_ble_eq_true rfl)) dX11_lose_1 ⟨Nat.le_of_ble_eq_true rfl, Nat.le_of_ble_eq_true rfl⟩)) (fun r1 hr1 => ?_)
  have hr1 : r1 = if ¬ (0 ≤ k ∧ k ≤ 3) then 1 else 0 := hr1
  refine lv_if_eq (tgt := 9) hx hb dX11_lose_4 (by decide) (fun c2 => ?_) (fun c2 => ?_)
  · skip
    have c2 := (fa_bool_prop hr1).1.mp c2
    have c2 := Decidable.not_not.mp c2
    refine lv_aload_n hx hb dX11_lose_9 rfl (lv_at hl 0 rfl) ?_
    refine va_get (D := (dC, dI)) (ci := 11) (v := .ref ss) (C := RX11) (T := TX11) (N := 39) hx hb hts hiX11 hown hK hP 0 rfl rfl 7 (by decide) (hts (.fieldLink RX11 22 "TributePitchesModel" "sheetSize" "[I") (by decide +kernel)) (fun _ h9 => h9) rfl dX11_lose_10 ?_
    refine lv_iload_n hx hb dX11_lose_13 rfl (lv_at hl 1 rfl) ?_
    refine va_iald hx hb hK hP 1 0 rfl rfl (in4 c2) dX11_lose_14 ?_
    refine W.eq (g2 := F0 m 15 ls [.int (-1)]) rfl ?_
    refine lv_if_ge (tgt := 22) hx hb dX11_lose_15 (by decide) (fun c3 => ?_) (fun c3 => ?_)
    · exact absurd c3 (by decide)
    · skip
      refine lv_iconst (v := 0) hx hb dX11_lose_18 (by decide) ?_
      refine lv_goto (tgt := 23) hx hb dX11_lose_19 (by decide) ?_
      refine lv_istore_n (lv' := [(2, .int 0), (0, .ref qm), (1, .int k)]) hx hb dX11_lose_23 rfl hl (by decide) rfl (fun ls hl => ?_)
      refine lv_aload_n hx hb dX11_lose_24 rfl (lv_at hl 1 rfl) ?_
      refine va_get (D := (dC, dI)) (ci := 11) (v := .ref ss) (C := RX11) (T := TX11) (N := 39) hx hb hts hiX11 hown hK hP 0 rfl rfl 7 (by decide) (hts (.fieldLink RX11 22 "TributePitchesModel" "sheetSize" "[I") (by decide +kernel)) (fun _ h9 => h9) rfl dX11_lose_25 ?_
      refine lv_iload_n hx hb dX11_lose_28 rfl (lv_at hl 2 rfl) ?_
      refine lv_iconst (v := (-1)) hx hb dX11_lose_29 (by decide) ?_
      refine va_iast hx hb hK hP hD hS 1 0 rfl rfl (in4 c2) dX11_lose_30 (fun H locs hP hD hS => ?_)
      have hP : va_P (dC, dI) vwCl [(qm, .inr (11, [w0, w1, w2, w3, w4, w5, w6, .ref ss, w8, w9, w10, w11, w12, w13, w14, w15, w16, w17, w18, w19, w20, w21, w22, w23, w24, w25, w26, w27, w28, w29, w30, w31, w32, w33, w34, w35, w36, w37, w38])), (ss, .inl (cI, 4, .inl (upd (fun _ => (-1)) (k).toNatClampNeg (-1))))] H := hP
      have hD : va_D _ [(qm, .inr (11, [w0, w1, w2, w3, w4, w5, w6, .ref ss, w8, w9, w10, w11, w12, w13, w14, w15, w16, w17, w18, w19, w20, w21, w22, w23, w24, w25, w26, w27, w28, w29, w30, w31, w32, w33, w34, w35, w36, w37, w38])), (ss, .inl (cI, 4, .inl (upd (fun _ => (-1)) (k).toNatClampNeg (-1))))] := hD
      refine lv_iload_n hx hb dX11_lose_31 rfl (lv_at hl 0 rfl) ?_
      exact W.iret (v := 0) hx hb hr (fun t ht hW => ⟨⟨0, (), rfl, (by simp [sp_lose, c2, c3]), trivial⟩, hS.F ht⟩) hS.2.2 dX11_lose_32
  · skip
    have c2 := (fa_bool_prop hr1).2.mp c2
    refine lv_iconst (v := (-1)) hx hb dX11_lose_7 (by decide) ?_
    exact W.iret (v := (-1)) hx hb hr (fun t ht hW => ⟨⟨(-1), (), rfl, (by simp [sp_lose, c2]), trivial⟩, hS.F ht⟩) hS.2.2 dX11_lose_8
set_option maxHeartbeats 4000000 in
set_option maxRecDepth 100000 in
theorem c_X11_put (l : Launch) (dC : Nat → ClassId) (dI : Nat → Nat → Nat) (cI : ClassId) (sz : Nat) (qm : Nat) (w0 : Value) (w1 : Value) (w2 : Value) (w3 : Value) (w4 : Value) (w5 : Value) (w6 : Value) (w8 : Value) (w9 : Value) (w10 : Value) (w11 : Value) (w12 : Value) (w13 : Value) (w14 : Value) (w15 : Value) (w16 : Value) (w17 : Value) (w18 : Value) (w19 : Value) (w20 : Value) (w21 : Value) (w22 : Value) (w23 : Value) (w24 : Value) (w25 : Value) (w26 : Value) (w27 : Value) (w28 : Value) (w29 : Value) (w30 : Value) (w31 : Value) (w32 : Value) (w33 : Value) (w34 : Value) (w35 : Value) (w36 : Value) (w37 : Value) (w38 : Value) (ss : Nat) (k : Int32) (i : Int32) (v : Int32)  : Met l yX11_put wsX11_put ({ frames := 3, cells := 0, slots := 0, locals := 90 }) (pw (dC, dI) [(cI, .int)] [(qm, .inr (11, [w0, w1, w2, w3, w4, w5, w6, .ref ss, w8, w9, w10, w11, w12, w13, w14, w15, w16, w17, w18, w19, w20, w21, w22, w23, w24, w25, w26, w27, w28, w29, w30, w31, w32, w33, w34, w35, w36, w37, w38])), (ss, .inl (cI, 4, .inl (fun _ => (-1))))] sz [.ref qm, .int k, .int i, .int v]) (va_Qi (fun r (_ : Unit) => r = sp_put k) (fun _ _ => True) (va_A [(qm, .inr (11, [w0, w1, w2, w3, w4, w5, w6, .ref ss, w8, w9, w10, w11, w12, w13, w14, w15, w16, w17, w18, w19, w20, w21, w22, w23, w24, w25, w26, w27, w28, w29, w30, w31, w32, w33, w34, w35, w36, w37, w38])), (ss, .inl (cI, 4, .inl (fun _ => (-1))))] sz)) 0 0 (va_A [(qm, .inr (11, [w0, w1, w2, w3, w4, w5, w6, .ref ss, w8, w9, w10, w11, w12, w13, w14, w15, w16, w17, w18, w19, w20, w21, w22, w23, w24, w25, w26, w27, w28, w29, w30, w31, w32, w33, w34, w35, w36, w37, w38])), (ss, .inl (cI, 4, .inl (fun _ => (-1))))] sz) := by
  refine pw_met (cc := cX11_put) (maxL := 4) (ret := (some .int)) (by decide) rfl (Nat.le_of_ble_eq_true rfl) ?_
  intro p e s m below meth c0 hx hb hr hml hown hlocks hnm hts hP hK hD hN hsz hA hS ls hl
  subst hsz
  have hl : lv_has ls 4 [(0, .ref qm), (1, .int k), (2, .int i), (3, .int v)] := hl
  refine lv_iload_n hx hb dX11_put_0 rfl (lv_at hl 1 rfl) ?_
  refine vp_callSi (va_Run.run (va_runS (As := [.int k]) (rest := []) ⟨hx, hb, hml, hown, hts⟩ (c_X11_noSheet l k ) (va_cwS 1 hts gX11_put_X11_noSheet rfl rfl rfl (by decide +kernel) ⟨Nat.le_of_ble_eq_true rfl, Nat.le_of_ble_eq_true rfl⟩) (p0_preS hN) rfl rfl hl.1 rfl (lv_room (Nat.le_of_ble_eq_true rfl)) dX11_put_1 ⟨Nat.le_of_ble_eq_true rfl, Nat.le_of_ble_eq_true rfl⟩)) (fun r1 hr1 => ?_)
  have hr1 : r1 = if ¬ (0 ≤ k ∧ k ≤ 3) then 1 else 0 := hr1
  refine lv_if_eq (tgt := 13) hx hb dX11_put_4 (by decide) (fun c2 => ?_) (fun c2 => ?_)
  · skip
    have c2 := (fa_bool_prop hr1).1.mp c2
    have c2 := Decidable.not_not.mp c2
    refine lv_aload_n hx hb dX11_put_13 rfl (lv_at hl 0 rfl) ?_
    refine lv_iload_n hx hb dX11_put_14 rfl (lv_at hl 1 rfl) ?_
    refine lv_iload_n hx hb dX11_put_15 rfl (lv_at hl 2 rfl) ?_
    have hPc := hP.sub (ws' := [(qm, .inr (11, [w0, w1, w2, w3, w4, w5, w6, .ref ss, w8, w9, w10, w11, w12, w13, w14, w15, w16, w17, w18, w19, w20, w21, w22, w23, w24, w25, w26, w27, w28, w29, w30, w31, w32, w33, w34, w35, w36, w37, w38])), (ss, .inl (cI, 4, .inl (fun _ => (-1))))]) [0, 1] rfl
    have hDc := hD.sub (ws' := [(qm, .inr (11, [w0, w1, w2, w3, w4, w5, w6, .ref ss, w8, w9, w10, w11, w12, w13, w14, w15, w16, w17, w18, w19, w20, w21, w22, w23, w24, w25, w26, w27, w28, w29, w30, w31, w32, w33, w34, w35, w36, w37, w38])), (ss, .inl (cI, 4, .inl (fun _ => (-1))))]) [0, 1] (by decide) rfl
    have hKc := hK.sub (tys' := [(cI, .int)]) [0] rfl
    refine vp_callSi (va_Run.run (va_runV (As := [.int k, .int i]) (rest := []) ⟨hx, hb, hml, hown, hts⟩ (c_X11_noCell l dC dI cI _ qm w0 w1 w2 w3 w4 w5 w6 w8 w9 w10 w11 w12 w13 w14 w15 w16 w17 w18 w19 w20 w21 w22 w23 w24 w25 w26 w27 w28 w29 w30 w31 w32 w33 w34 w35 w36 w37 w38 ss k i c2) (cwV 2 hts gX11_put_X11_noCell rfl rfl rfl (by decide +kernel) ⟨Nat.le_of_ble_eq_true rfl, Nat.le_of_ble_eq_true rfl⟩) (pw_preV (va_recv hKc hPc (ci := 11) (q0 := 0) rfl rfl) hPc hKc hDc hN) rfl rfl hl.1 rfl (lv_room (Nat.le_of_ble_eq_true rfl)) dX11_put_16 ⟨Nat.le_of_ble_eq_true rfl, Nat.le_of_ble_eq_true rfl⟩)) (fun r3 hr3 => ?_)
    have hr3 : r3 = 1 := hr3
    subst hr3
    refine lv_if_le (tgt := 33) hx hb dX11_put_19 (by decide) (fun c4 => ?_) (fun c4 => ?_)
    · exact absurd c4 (by decide)
    · skip
      refine lv_aload_n hx hb dX11_put_22 rfl (lv_at hl 0 rfl) ?_
      refine lv_aload_n hx hb dX11_put_23 rfl (lv_at hl 0 rfl) ?_
      refine lv_iload_n hx hb dX11_put_24 rfl (lv_at hl 1 rfl) ?_
      refine lv_iload_n hx hb dX11_put_25 rfl (lv_at hl 2 rfl) ?_
      have hPc := hP.sub (ws' := [(qm, .inr (11, [w0, w1, w2, w3, w4, w5, w6, .ref ss, w8, w9, w10, w11, w12, w13, w14, w15, w16, w17, w18, w19, w20, w21, w22, w23, w24, w25, w26, w27, w28, w29, w30, w31, w32, w33, w34, w35, w36, w37, w38])), (ss, .inl (cI, 4, .inl (fun _ => (-1))))]) [0, 1] rfl
      have hDc := hD.sub (ws' := [(qm, .inr (11, [w0, w1, w2, w3, w4, w5, w6, .ref ss, w8, w9, w10, w11, w12, w13, w14, w15, w16, w17, w18, w19, w20, w21, w22, w23, w24, w25, w26, w27, w28, w29, w30, w31, w32, w33, w34, w35, w36, w37, w38])), (ss, .inl (cI, 4, .inl (fun _ => (-1))))]) [0, 1] (by decide) rfl
      have hKc := hK.sub (tys' := [(cI, .int)]) [0] rfl
      refine vp_callSi (va_Run.run (va_runV (As := [.int k, .int i]) (rest := [.ref qm]) ⟨hx, hb, hml, hown, hts⟩ (c_X11_noCell l dC dI cI _ qm w0 w1 w2 w3 w4 w5 w6 w8 w9 w10 w11 w12 w13 w14 w15 w16 w17 w18 w19 w20 w21 w22 w23 w24 w25 w26 w27 w28 w29 w30 w31 w32 w33 w34 w35 w36 w37 w38 ss k i c2) (cwV 2 hts gX11_put_X11_noCell rfl rfl rfl (by decide +kernel) ⟨Nat.le_of_ble_eq_true rfl, Nat.le_of_ble_eq_true rfl⟩) (pw_preV (va_recv hKc hPc (ci := 11) (q0 := 0) rfl rfl) hPc hKc hDc hN) rfl rfl hl.1 rfl (lv_room (Nat.le_of_ble_eq_true rfl)) dX11_put_26 ⟨Nat.le_of_ble_eq_true rfl, Nat.le_of_ble_eq_true rfl⟩)) (fun r5 hr5 => ?_)
      have hr5 : r5 = 1 := hr5
      subst hr5
      have hPc := hP.sub (ws' := [(qm, .inr (11, [w0, w1, w2, w3, w4, w5, w6, .ref ss, w8, w9, w10, w11, w12, w13, w14, w15, w16, w17, w18, w19, w20, w21, w22, w23, w24, w25, w26, w27, w28, w29, w30, w31, w32, w33, w34, w35, w36, w37, w38]))]) [0] rfl
      have hDc := hD.sub (ws' := [(qm, .inr (11, [w0, w1, w2, w3, w4, w5, w6, .ref ss, w8, w9, w10, w11, w12, w13, w14, w15, w16, w17, w18, w19, w20, w21, w22, w23, w24, w25, w26, w27, w28, w29, w30, w31, w32, w33, w34, w35, w36, w37, w38]))]) [0] (by decide) rfl
      have hKc := hK.sub (tys' := []) [] rfl
      have hFc := va_free (wc := [(qm, .inr (11, [w0, w1, w2, w3, w4, w5, w6, .ref ss, w8, w9, w10, w11, w12, w13, w14, w15, w16, w17, w18, w19, w20, w21, w22, w23, w24, w25, w26, w27, w28, w29, w30, w31, w32, w33, w34, w35, w36, w37, w38]))]) hD hS hA [0] rfl
      refine va_calli (va_runV (As := [.int 1]) (rest := []) ⟨hx, hb, hml, hown, hts⟩ (c_X11_failed l dC dI  _ qm w0 w1 w2 w3 w4 w5 w6 (.ref ss) w8 w9 w10 w11 w12 w13 w14 w15 w16 w17 w18 w19 w20 w21 w22 w23 w24 w25 w26 w27 w28 w29 w30 w31 w32 w33 w34 w35 w36 w37 w38 1 ) (cwV 1 hts gX11_put_X11_failed rfl rfl rfl (by decide +kernel) ⟨Nat.le_of_ble_eq_true rfl, Nat.le_of_ble_eq_true rfl⟩) (pw_preV (va_recv hKc hPc (ci := 11) (q0 := 0) rfl rfl) hPc hKc hDc hN) rfl rfl hl.1 rfl (lv_room (Nat.le_of_ble_eq_true rfl)) dX11_put_29 ⟨Nat.le_of_ble_eq_true rfl, Nat.le_of_ble_eq_true rfl⟩) hS (fun q _ h => hFc q h) hFc (fun r6 u t H1 locs ht hvm hw hB hz1 hk1 hS => ?_)
      have hr6 : r6 = -10 - 1 := hw
      obtain ⟨hP1, hK1, hD1⟩ := hB
      rw [ht] at hP1
      obtain ⟨hP, hD⟩ := va_join (wr := [(ss, .inl (cI, 4, .inl (fun _ => (-1))))]) (w1 := [(qm, .inr (11, [.int 1, w1, w2, w3, w4, w5, w6, .ref ss, w8, w9, w10, w11, w12, w13, w14, w15, w16, w17, w18, w19, w20, w21, w22, w23, w24, w25, w26, w27, w28, w29, w30, w31, w32, w33, w34, w35, w36, w37, w38]))]) hP hD [0] [1] rfl rfl (by decide) (by decide) hk1 hFc hP1 hD1
      generalize H1 = H at hP hS ⊢
      have hP : va_P (dC, dI) vwCl [(ss, .inl (cI, 4, .inl (fun _ => (-1)))), (qm, .inr (11, [.int 1, w1, w2, w3, w4, w5, w6, .ref ss, w8, w9, w10, w11, w12, w13, w14, w15, w16, w17, w18, w19, w20, w21, w22, w23, w24, w25, w26, w27, w28, w29, w30, w31, w32, w33, w34, w35, w36, w37, w38]))] H := hP
      have hD : va_D _ [(ss, .inl (cI, 4, .inl (fun _ => (-1)))), (qm, .inr (11, [.int 1, w1, w2, w3, w4, w5, w6, .ref ss, w8, w9, w10, w11, w12, w13, w14, w15, w16, w17, w18, w19, w20, w21, w22, w23, w24, w25, w26, w27, w28, w29, w30, w31, w32, w33, w34, w35, w36, w37, w38]))] := hD
      exact W.iret (v := r6) hx hb hr (fun t ht hW => ⟨⟨r6, (), rfl, (by rw [hr6]; simp [sp_put, c2, c4]), trivial⟩, hS.F ht⟩) hS.2.2 dX11_put_32
  · skip
    have c2 := (fa_bool_prop hr1).2.mp c2
    refine lv_aload_n hx hb dX11_put_7 rfl (lv_at hl 0 rfl) ?_
    refine lv_iconst (v := (-1)) hx hb dX11_put_8 (by decide) ?_
    have hPc := hP.sub (ws' := [(qm, .inr (11, [w0, w1, w2, w3, w4, w5, w6, .ref ss, w8, w9, w10, w11, w12, w13, w14, w15, w16, w17, w18, w19, w20, w21, w22, w23, w24, w25, w26, w27, w28, w29, w30, w31, w32, w33, w34, w35, w36, w37, w38]))]) [0] rfl
    have hDc := hD.sub (ws' := [(qm, .inr (11, [w0, w1, w2, w3, w4, w5, w6, .ref ss, w8, w9, w10, w11, w12, w13, w14, w15, w16, w17, w18, w19, w20, w21, w22, w23, w24, w25, w26, w27, w28, w29, w30, w31, w32, w33, w34, w35, w36, w37, w38]))]) [0] (by decide) rfl
    have hKc := hK.sub (tys' := []) [] rfl
    have hFc := va_free (wc := [(qm, .inr (11, [w0, w1, w2, w3, w4, w5, w6, .ref ss, w8, w9, w10, w11, w12, w13, w14, w15, w16, w17, w18, w19, w20, w21, w22, w23, w24, w25, w26, w27, w28, w29, w30, w31, w32, w33, w34, w35, w36, w37, w38]))]) hD hS hA [0] rfl
    refine va_calli (va_runV (As := [.int (-1)]) (rest := []) ⟨hx, hb, hml, hown, hts⟩ (c_X11_refused l dC dI  _ qm w0 w1 w2 w3 w4 w5 w6 (.ref ss) w8 w9 w10 w11 w12 w13 w14 w15 w16 w17 w18 w19 w20 w21 w22 w23 w24 w25 w26 w27 w28 w29 w30 w31 w32 w33 w34 w35 w36 w37 w38 (-1) ) (cwV 1 hts gX11_put_X11_refused rfl rfl rfl (by decide +kernel) ⟨Nat.le_of_ble_eq_true rfl, Nat.le_of_ble_eq_true rfl⟩) (pw_preV (va_recv hKc hPc (ci := 11) (q0 := 0) rfl rfl) hPc hKc hDc hN) rfl rfl hl.1 rfl (lv_room (Nat.le_of_ble_eq_true rfl)) dX11_put_9 ⟨Nat.le_of_ble_eq_true rfl, Nat.le_of_ble_eq_true rfl⟩) hS (fun q _ h => hFc q h) hFc (fun r7 u t H1 locs ht hvm hw hB hz1 hk1 hS => ?_)
    have hr7 : r7 = (-1) := hw
    obtain ⟨hP1, hK1, hD1⟩ := hB
    rw [ht] at hP1
    obtain ⟨hP, hD⟩ := va_join (wr := [(ss, .inl (cI, 4, .inl (fun _ => (-1))))]) (w1 := [(qm, .inr (11, [.int 0, w1, w2, w3, w4, w5, w6, .ref ss, w8, w9, w10, w11, w12, w13, w14, w15, w16, w17, w18, w19, w20, w21, w22, w23, w24, w25, w26, w27, w28, w29, w30, w31, w32, w33, w34, w35, w36, w37, w38]))]) hP hD [0] [1] rfl rfl (by decide) (by decide) hk1 hFc hP1 hD1
    generalize H1 = H at hP hS ⊢
    have hP : va_P (dC, dI) vwCl [(ss, .inl (cI, 4, .inl (fun _ => (-1)))), (qm, .inr (11, [.int 0, w1, w2, w3, w4, w5, w6, .ref ss, w8, w9, w10, w11, w12, w13, w14, w15, w16, w17, w18, w19, w20, w21, w22, w23, w24, w25, w26, w27, w28, w29, w30, w31, w32, w33, w34, w35, w36, w37, w38]))] H := hP
    have hD : va_D _ [(ss, .inl (cI, 4, .inl (fun _ => (-1)))), (qm, .inr (11, [.int 0, w1, w2, w3, w4, w5, w6, .ref ss, w8, w9, w10, w11, w12, w13, w14, w15, w16, w17, w18, w19, w20, w21, w22, w23, w24, w25, w26, w27, w28, w29, w30, w31, w32, w33, w34, w35, w36, w37, w38]))] := hD
    exact W.iret (v := r7) hx hb hr (fun t ht hW => ⟨⟨r7, (), rfl, (by rw [hr7]; simp [sp_put, c2]), trivial⟩, hS.F ht⟩) hS.2.2 dX11_put_12
set_option maxHeartbeats 4000000 in
set_option maxRecDepth 100000 in
theorem c_X11_cell (l : Launch) (dC : Nat → ClassId) (dI : Nat → Nat → Nat) (cI : ClassId) (sz : Nat) (qm : Nat) (w0 : Value) (w1 : Value) (w2 : Value) (w3 : Value) (w4 : Value) (w5 : Value) (w6 : Value) (w8 : Value) (w9 : Value) (w10 : Value) (w11 : Value) (w12 : Value) (w13 : Value) (w14 : Value) (w15 : Value) (w16 : Value) (w17 : Value) (w18 : Value) (w19 : Value) (w20 : Value) (w21 : Value) (w22 : Value) (w23 : Value) (w24 : Value) (w25 : Value) (w26 : Value) (w27 : Value) (w28 : Value) (w29 : Value) (w30 : Value) (w31 : Value) (w32 : Value) (w33 : Value) (w34 : Value) (w35 : Value) (w36 : Value) (w37 : Value) (w38 : Value) (ss : Nat) (k : Int32) (i : Int32) (ln : Int32)  : Met l yX11_cell wsX11_cell ({ frames := 3, cells := 0, slots := 0, locals := 90 }) (pw (dC, dI) [(cI, .int)] [(qm, .inr (11, [w0, w1, w2, w3, w4, w5, w6, .ref ss, w8, w9, w10, w11, w12, w13, w14, w15, w16, w17, w18, w19, w20, w21, w22, w23, w24, w25, w26, w27, w28, w29, w30, w31, w32, w33, w34, w35, w36, w37, w38])), (ss, .inl (cI, 4, .inl (fun _ => (-1))))] sz [.ref qm, .int k, .int i, .int ln]) (va_Ql (fun r (_ : Unit) => r = (-9223372036854775808)) (fun _ _ => True) (va_A [(qm, .inr (11, [w0, w1, w2, w3, w4, w5, w6, .ref ss, w8, w9, w10, w11, w12, w13, w14, w15, w16, w17, w18, w19, w20, w21, w22, w23, w24, w25, w26, w27, w28, w29, w30, w31, w32, w33, w34, w35, w36, w37, w38])), (ss, .inl (cI, 4, .inl (fun _ => (-1))))] sz)) 0 0 (va_A [(qm, .inr (11, [w0, w1, w2, w3, w4, w5, w6, .ref ss, w8, w9, w10, w11, w12, w13, w14, w15, w16, w17, w18, w19, w20, w21, w22, w23, w24, w25, w26, w27, w28, w29, w30, w31, w32, w33, w34, w35, w36, w37, w38])), (ss, .inl (cI, 4, .inl (fun _ => (-1))))] sz) := by
  refine pw_met (cc := cX11_cell) (maxL := 4) (ret := (some .long)) (by decide) rfl (Nat.le_of_ble_eq_true rfl) ?_
  intro p e s m below meth c0 hx hb hr hml hown hlocks hnm hts hP hK hD hN hsz hA hS ls hl
  subst hsz
  have hl : lv_has ls 4 [(0, .ref qm), (1, .int k), (2, .int i), (3, .int ln)] := hl
  have hiX11 : ∀ w ∈ wsX110, w ∈ wsX11_cell := by decide +kernel
  refine lv_aload_n hx hb dX11_cell_0 rfl (lv_at hl 0 rfl) ?_
  refine lv_iconst (v := 0) hx hb dX11_cell_1 (by decide) ?_
  refine va_put (D := (dC, dI)) (ci := 11) (v := .int 0) (ty := .int) (C := RX11) (T := TX11) (N := 39) hx hb hts hiX11 tyX11 tyX11_ok nmX11 hown hK hP hD hS 0 rfl rfl 0 (by decide) (hts (.fieldLink RX11 102 "TributePitchesModel" "fault" "I") (by decide +kernel)) (fun _ h9 => h9) rfl (by decide +kernel) rfl rfl (Nat.le_of_ble_eq_true rfl) dX11_cell_2 (fun H locs hP hD hS => ?_)
  have hP : va_P (dC, dI) vwCl [(qm, .inr (11, [.int 0, w1, w2, w3, w4, w5, w6, .ref ss, w8, w9, w10, w11, w12, w13, w14, w15, w16, w17, w18, w19, w20, w21, w22, w23, w24, w25, w26, w27, w28, w29, w30, w31, w32, w33, w34, w35, w36, w37, w38])), (ss, .inl (cI, 4, .inl (fun _ => (-1))))] H := hP
  have hD : va_D _ [(qm, .inr (11, [.int 0, w1, w2, w3, w4, w5, w6, .ref ss, w8, w9, w10, w11, w12, w13, w14, w15, w16, w17, w18, w19, w20, w21, w22, w23, w24, w25, w26, w27, w28, w29, w30, w31, w32, w33, w34, w35, w36, w37, w38])), (ss, .inl (cI, 4, .inl (fun _ => (-1))))] := hD
  refine lv_iload_n hx hb dX11_cell_5 rfl (lv_at hl 1 rfl) ?_
  refine vp_callSi (va_Run.run (va_runS (As := [.int k]) (rest := []) ⟨hx, hb, hml, hown, hts⟩ (c_X11_noSheet l k ) (va_cwS 1 hts gX11_cell_X11_noSheet rfl rfl rfl (by decide +kernel) ⟨Nat.le_of_ble_eq_true rfl, Nat.le_of_ble_eq_true rfl⟩) (p0_preS hN) rfl rfl hl.1 rfl (lv_room (Nat.le_of_ble_eq_true rfl)) dX11_cell_6 ⟨Nat.le_of_ble_eq_true rfl, Nat.le_of_ble_eq_true rfl⟩)) (fun r1 hr1 => ?_)
  have hr1 : r1 = if ¬ (0 ≤ k ∧ k ≤ 3) then 1 else 0 := hr1
  refine lv_if_ne (tgt := 24) hx hb dX11_cell_9 (by decide) (fun c2 => ?_) (fun c2 => ?_)
  · skip
    have c2 := (fa_bool_prop hr1).2.mp c2
    refine vp_callSl (va_Run.run (va_runS (As := []) (rest := []) ⟨hx, hb, hml, hown, hts⟩ (c_X11_lost l  ) (va_cwS 0 hts gX11_cell_X11_lost rfl rfl rfl (by decide +kernel) ⟨Nat.le_of_ble_eq_true rfl, Nat.le_of_ble_eq_true rfl⟩) (p0_preS hN) rfl rfl hl.1 rfl (lv_room (Nat.le_of_ble_eq_true rfl)) dX11_cell_24 ⟨Nat.le_of_ble_eq_true rfl, Nat.le_of_ble_eq_true rfl⟩)) (fun r3 hr3 => ?_)
    have hr3 : r3 = (-9223372036854775808) := hr3
    subst hr3
    exact W.lret (v := (-9223372036854775808)) hx hb hr (fun t ht hW => ⟨⟨(-9223372036854775808), (), rfl, rfl, trivial⟩, hS.F ht⟩) hS.2.2 dX11_cell_27
  · skip
    have c2 := (fa_bool_prop hr1).1.mp c2
    have c2 := Decidable.not_not.mp c2
    refine lv_iload_n hx hb dX11_cell_12 rfl (lv_at hl 3 rfl) ?_
    refine lv_i2l (v := ln.toInt64) hx hb dX11_cell_13 rfl ?_
    refine lv_lconst (v := 0) hx hb dX11_cell_14 (by decide) ?_
    refine lv_ldc2 (v := 2) hx hb hown (hts (.constantLong RX11 151 (2)) (by decide +kernel)) dX11_cell_15 ?_
    refine vp_callSi (va_Run.run (va_runS (As := [.long ln.toInt64, .long 0, .long 2]) (rest := []) ⟨hx, hb, hml, hown, hts⟩ (c_X11_in l ln.toInt64 0 2 ) (va_cwS 3 hts gX11_cell_X11_in rfl rfl rfl (by decide +kernel) ⟨Nat.le_of_ble_eq_true rfl, Nat.le_of_ble_eq_true rfl⟩) (p0_preS hN) rfl rfl hl.1 rfl (lv_room (Nat.le_of_ble_eq_true rfl)) dX11_cell_18 ⟨Nat.le_of_ble_eq_true rfl, Nat.le_of_ble_eq_true rfl⟩)) (fun r4 hr4 => ?_)
    have hr4 : r4 = if 0 ≤ ln.toInt64 ∧ ln.toInt64 ≤ 2 then 1 else 0 := hr4
    have hr4 := hr4.trans (in_w _ 0 2 (by decide) (by decide))
    refine lv_if_ne (tgt := 28) hx hb dX11_cell_21 (by decide) (fun c5 => ?_) (fun c5 => ?_)
    · skip
      have c5 := (fa_bool_prop hr4).2.mp c5
      refine lv_aload_n hx hb dX11_cell_28 rfl (lv_at hl 0 rfl) ?_
      refine va_get (D := (dC, dI)) (ci := 11) (v := .ref ss) (C := RX11) (T := TX11) (N := 39) hx hb hts hiX11 hown hK hP 0 rfl rfl 7 (by decide) (hts (.fieldLink RX11 22 "TributePitchesModel" "sheetSize" "[I") (by decide +kernel)) (fun _ h9 => h9) rfl dX11_cell_29 ?_
      refine lv_iload_n hx hb dX11_cell_32 rfl (lv_at hl 1 rfl) ?_
      refine va_iald hx hb hK hP 1 0 rfl rfl (in4 c2) dX11_cell_33 ?_
      refine W.eq (g2 := F0 m 34 ls [.int (-1)]) rfl ?_
      refine lv_if_lt (tgt := 53) hx hb dX11_cell_34 (by decide) (fun c6 => ?_) (fun c6 => ?_)
      · skip
        refine lv_aload_n hx hb dX11_cell_53 rfl (lv_at hl 0 rfl) ?_
        refine lv_iload_n hx hb dX11_cell_54 rfl (lv_at hl 1 rfl) ?_
        refine lv_iload_n hx hb dX11_cell_55 rfl (lv_at hl 2 rfl) ?_
        have hPc := hP.sub (ws' := [(qm, .inr (11, [.int 0, w1, w2, w3, w4, w5, w6, .ref ss, w8, w9, w10, w11, w12, w13, w14, w15, w16, w17, w18, w19, w20, w21, w22, w23, w24, w25, w26, w27, w28, w29, w30, w31, w32, w33, w34, w35, w36, w37, w38])), (ss, .inl (cI, 4, .inl (fun _ => (-1))))]) [0, 1] rfl
        have hDc := hD.sub (ws' := [(qm, .inr (11, [.int 0, w1, w2, w3, w4, w5, w6, .ref ss, w8, w9, w10, w11, w12, w13, w14, w15, w16, w17, w18, w19, w20, w21, w22, w23, w24, w25, w26, w27, w28, w29, w30, w31, w32, w33, w34, w35, w36, w37, w38])), (ss, .inl (cI, 4, .inl (fun _ => (-1))))]) [0, 1] (by decide) rfl
        have hKc := hK.sub (tys' := [(cI, .int)]) [0] rfl
        refine vp_callSi (va_Run.run (va_runV (As := [.int k, .int i]) (rest := []) ⟨hx, hb, hml, hown, hts⟩ (c_X11_noCell l dC dI cI _ qm (.int 0) w1 w2 w3 w4 w5 w6 w8 w9 w10 w11 w12 w13 w14 w15 w16 w17 w18 w19 w20 w21 w22 w23 w24 w25 w26 w27 w28 w29 w30 w31 w32 w33 w34 w35 w36 w37 w38 ss k i c2) (cwV 2 hts gX11_cell_X11_noCell rfl rfl rfl (by decide +kernel) ⟨Nat.le_of_ble_eq_true rfl, Nat.le_of_ble_eq_true rfl⟩) (pw_preV (va_recv hKc hPc (ci := 11) (q0 := 0) rfl rfl) hPc hKc hDc hN) rfl rfl hl.1 rfl (lv_room (Nat.le_of_ble_eq_true rfl)) dX11_cell_56 ⟨Nat.le_of_ble_eq_true rfl, Nat.le_of_ble_eq_true rfl⟩)) (fun r7 hr7 => ?_)
        have hr7 : r7 = 1 := hr7
        subst hr7
        refine lv_if_le (tgt := 75) hx hb dX11_cell_59 (by decide) (fun c8 => ?_) (fun c8 => ?_)
        · exact absurd c8 (by decide)
        · skip
          refine lv_aload_n hx hb dX11_cell_62 rfl (lv_at hl 0 rfl) ?_
          refine lv_aload_n hx hb dX11_cell_63 rfl (lv_at hl 0 rfl) ?_
          refine lv_iload_n hx hb dX11_cell_64 rfl (lv_at hl 1 rfl) ?_
          refine lv_iload_n hx hb dX11_cell_65 rfl (lv_at hl 2 rfl) ?_
          have hPc := hP.sub (ws' := [(qm, .inr (11, [.int 0, w1, w2, w3, w4, w5, w6, .ref ss, w8, w9, w10, w11, w12, w13, w14, w15, w16, w17, w18, w19, w20, w21, w22, w23, w24, w25, w26, w27, w28, w29, w30, w31, w32, w33, w34, w35, w36, w37, w38])), (ss, .inl (cI, 4, .inl (fun _ => (-1))))]) [0, 1] rfl
          have hDc := hD.sub (ws' := [(qm, .inr (11, [.int 0, w1, w2, w3, w4, w5, w6, .ref ss, w8, w9, w10, w11, w12, w13, w14, w15, w16, w17, w18, w19, w20, w21, w22, w23, w24, w25, w26, w27, w28, w29, w30, w31, w32, w33, w34, w35, w36, w37, w38])), (ss, .inl (cI, 4, .inl (fun _ => (-1))))]) [0, 1] (by decide) rfl
          have hKc := hK.sub (tys' := [(cI, .int)]) [0] rfl
          refine vp_callSi (va_Run.run (va_runV (As := [.int k, .int i]) (rest := [.ref qm]) ⟨hx, hb, hml, hown, hts⟩ (c_X11_noCell l dC dI cI _ qm (.int 0) w1 w2 w3 w4 w5 w6 w8 w9 w10 w11 w12 w13 w14 w15 w16 w17 w18 w19 w20 w21 w22 w23 w24 w25 w26 w27 w28 w29 w30 w31 w32 w33 w34 w35 w36 w37 w38 ss k i c2) (cwV 2 hts gX11_cell_X11_noCell rfl rfl rfl (by decide +kernel) ⟨Nat.le_of_ble_eq_true rfl, Nat.le_of_ble_eq_true rfl⟩) (pw_preV (va_recv hKc hPc (ci := 11) (q0 := 0) rfl rfl) hPc hKc hDc hN) rfl rfl hl.1 rfl (lv_room (Nat.le_of_ble_eq_true rfl)) dX11_cell_66 ⟨Nat.le_of_ble_eq_true rfl, Nat.le_of_ble_eq_true rfl⟩)) (fun r9 hr9 => ?_)
          have hr9 : r9 = 1 := hr9
          subst hr9
          have hPc := hP.sub (ws' := [(qm, .inr (11, [.int 0, w1, w2, w3, w4, w5, w6, .ref ss, w8, w9, w10, w11, w12, w13, w14, w15, w16, w17, w18, w19, w20, w21, w22, w23, w24, w25, w26, w27, w28, w29, w30, w31, w32, w33, w34, w35, w36, w37, w38]))]) [0] rfl
          have hDc := hD.sub (ws' := [(qm, .inr (11, [.int 0, w1, w2, w3, w4, w5, w6, .ref ss, w8, w9, w10, w11, w12, w13, w14, w15, w16, w17, w18, w19, w20, w21, w22, w23, w24, w25, w26, w27, w28, w29, w30, w31, w32, w33, w34, w35, w36, w37, w38]))]) [0] (by decide) rfl
          have hKc := hK.sub (tys' := []) [] rfl
          have hFc := va_free (wc := [(qm, .inr (11, [.int 0, w1, w2, w3, w4, w5, w6, .ref ss, w8, w9, w10, w11, w12, w13, w14, w15, w16, w17, w18, w19, w20, w21, w22, w23, w24, w25, w26, w27, w28, w29, w30, w31, w32, w33, w34, w35, w36, w37, w38]))]) hD hS hA [0] rfl
          refine va_calll (va_runV (As := [.int 1]) (rest := []) ⟨hx, hb, hml, hown, hts⟩ (c_X11_failedLong l dC dI  _ qm (.int 0) w1 w2 w3 w4 w5 w6 (.ref ss) w8 w9 w10 w11 w12 w13 w14 w15 w16 w17 w18 w19 w20 w21 w22 w23 w24 w25 w26 w27 w28 w29 w30 w31 w32 w33 w34 w35 w36 w37 w38 1 ) (cwV 1 hts gX11_cell_X11_failedLong rfl rfl rfl (by decide +kernel) ⟨Nat.le_of_ble_eq_true rfl, Nat.le_of_ble_eq_true rfl⟩) (pw_preV (va_recv hKc hPc (ci := 11) (q0 := 0) rfl rfl) hPc hKc hDc hN) rfl rfl hl.1 rfl (lv_room (Nat.le_of_ble_eq_true rfl)) dX11_cell_69 ⟨Nat.le_of_ble_eq_true rfl, Nat.le_of_ble_eq_true rfl⟩) hS (fun q _ h => hFc q h) hFc (fun r10 u t H1 locs ht hvm hw hB hz1 hk1 hS => ?_)
          have hr10 : r10 = (-9223372036854775808) := hw
          obtain ⟨hP1, hK1, hD1⟩ := hB
          rw [ht] at hP1
          obtain ⟨hP, hD⟩ := va_join (wr := [(ss, .inl (cI, 4, .inl (fun _ => (-1))))]) (w1 := [(qm, .inr (11, [.int 1, w1, w2, w3, w4, w5, w6, .ref ss, w8, w9, w10, w11, w12, w13, w14, w15, w16, w17, w18, w19, w20, w21, w22, w23, w24, w25, w26, w27, w28, w29, w30, w31, w32, w33, w34, w35, w36, w37, w38]))]) hP hD [0] [1] rfl rfl (by decide) (by decide) hk1 hFc hP1 hD1
          generalize H1 = H at hP hS ⊢
          have hP : va_P (dC, dI) vwCl [(ss, .inl (cI, 4, .inl (fun _ => (-1)))), (qm, .inr (11, [.int 1, w1, w2, w3, w4, w5, w6, .ref ss, w8, w9, w10, w11, w12, w13, w14, w15, w16, w17, w18, w19, w20, w21, w22, w23, w24, w25, w26, w27, w28, w29, w30, w31, w32, w33, w34, w35, w36, w37, w38]))] H := hP
          have hD : va_D _ [(ss, .inl (cI, 4, .inl (fun _ => (-1)))), (qm, .inr (11, [.int 1, w1, w2, w3, w4, w5, w6, .ref ss, w8, w9, w10, w11, w12, w13, w14, w15, w16, w17, w18, w19, w20, w21, w22, w23, w24, w25, w26, w27, w28, w29, w30, w31, w32, w33, w34, w35, w36, w37, w38]))] := hD
          subst hr10
          refine lv_goto (tgt := 87) hx hb dX11_cell_72 (by decide) ?_
          exact W.lret (v := (-9223372036854775808)) hx hb hr (fun t ht hW => ⟨⟨(-9223372036854775808), (), rfl, rfl, trivial⟩, hS.F ht⟩) hS.2.2 dX11_cell_87
      · exact absurd c6 (by decide)
    · skip
      have c5 := (fa_bool_prop hr4).1.mp c5
      refine vp_callSl (va_Run.run (va_runS (As := []) (rest := []) ⟨hx, hb, hml, hown, hts⟩ (c_X11_lost l  ) (va_cwS 0 hts gX11_cell_X11_lost rfl rfl rfl (by decide +kernel) ⟨Nat.le_of_ble_eq_true rfl, Nat.le_of_ble_eq_true rfl⟩) (p0_preS hN) rfl rfl hl.1 rfl (lv_room (Nat.le_of_ble_eq_true rfl)) dX11_cell_24 ⟨Nat.le_of_ble_eq_true rfl, Nat.le_of_ble_eq_true rfl⟩)) (fun r11 hr11 => ?_)
      have hr11 : r11 = (-9223372036854775808) := hr11
      subst hr11
      exact W.lret (v := (-9223372036854775808)) hx hb hr (fun t ht hW => ⟨⟨(-9223372036854775808), (), rfl, rfl, trivial⟩, hS.F ht⟩) hS.2.2 dX11_cell_27
set_option maxHeartbeats 4000000 in
set_option maxRecDepth 100000 in
theorem c_X11_copy (l : Launch) (dC : Nat → ClassId) (dI : Nat → Nat → Nat) (cI : ClassId) (sz : Nat) (qm : Nat) (w0 : Value) (w1 : Value) (w2 : Value) (w3 : Value) (w4 : Value) (w5 : Value) (w6 : Value) (w8 : Value) (w9 : Value) (w10 : Value) (w11 : Value) (w12 : Value) (w13 : Value) (w14 : Value) (w15 : Value) (w16 : Value) (w17 : Value) (w18 : Value) (w19 : Value) (w20 : Value) (w21 : Value) (w22 : Value) (w23 : Value) (w24 : Value) (w25 : Value) (w26 : Value) (w27 : Value) (w28 : Value) (w29 : Value) (w30 : Value) (w31 : Value) (w32 : Value) (w33 : Value) (w34 : Value) (w35 : Value) (w36 : Value) (w37 : Value) (w38 : Value) (ss : Nat) (k : Int32) (i : Int32) (ot : Int32) (j : Int32) (n : Int32)  : Met l yX11_copy wsX11_copy ({ frames := 3, cells := 0, slots := 0, locals := 90 }) (pw (dC, dI) [(cI, .int)] [(qm, .inr (11, [w0, w1, w2, w3, w4, w5, w6, .ref ss, w8, w9, w10, w11, w12, w13, w14, w15, w16, w17, w18, w19, w20, w21, w22, w23, w24, w25, w26, w27, w28, w29, w30, w31, w32, w33, w34, w35, w36, w37, w38])), (ss, .inl (cI, 4, .inl (fun _ => (-1))))] sz [.ref qm, .int k, .int i, .int ot, .int j, .int n]) (va_Qi (fun r (_ : Unit) => r = sp_copy k ot) (fun _ _ => True) (va_A [(qm, .inr (11, [w0, w1, w2, w3, w4, w5, w6, .ref ss, w8, w9, w10, w11, w12, w13, w14, w15, w16, w17, w18, w19, w20, w21, w22, w23, w24, w25, w26, w27, w28, w29, w30, w31, w32, w33, w34, w35, w36, w37, w38])), (ss, .inl (cI, 4, .inl (fun _ => (-1))))] sz)) 0 0 (va_A [(qm, .inr (11, [w0, w1, w2, w3, w4, w5, w6, .ref ss, w8, w9, w10, w11, w12, w13, w14, w15, w16, w17, w18, w19, w20, w21, w22, w23, w24, w25, w26, w27, w28, w29, w30, w31, w32, w33, w34, w35, w36, w37, w38])), (ss, .inl (cI, 4, .inl (fun _ => (-1))))] sz) := by
  refine pw_met (cc := cX11_copy) (maxL := 7) (ret := (some .int)) (by decide) rfl (Nat.le_of_ble_eq_true rfl) ?_
  intro p e s m below meth c0 hx hb hr hml hown hlocks hnm hts hP hK hD hN hsz hA hS ls hl
  subst hsz
  have hl : lv_has ls 7 [(0, .ref qm), (1, .int k), (2, .int i), (3, .int ot), (4, .int j), (5, .int n)] := hl
  have hiX11 : ∀ w ∈ wsX110, w ∈ wsX11_copy := by decide +kernel
  refine lv_iload_n hx hb dX11_copy_0 rfl (lv_at hl 1 rfl) ?_
  refine vp_callSi (va_Run.run (va_runS (As := [.int k]) (rest := []) ⟨hx, hb, hml, hown, hts⟩ (c_X11_noSheet l k ) (va_cwS 1 hts gX11_copy_X11_noSheet rfl rfl rfl (by decide +kernel) ⟨Nat.le_of_ble_eq_true rfl, Nat.le_of_ble_eq_true rfl⟩) (p0_preS hN) rfl rfl hl.1 rfl (lv_room (Nat.le_of_ble_eq_true rfl)) dX11_copy_1 ⟨Nat.le_of_ble_eq_true rfl, Nat.le_of_ble_eq_true rfl⟩)) (fun r1 hr1 => ?_)
  have hr1 : r1 = if ¬ (0 ≤ k ∧ k ≤ 3) then 1 else 0 := hr1
  refine lv_if_ne (tgt := 14) hx hb dX11_copy_4 (by decide) (fun c2 => ?_) (fun c2 => ?_)
  · skip
    have c2 := (fa_bool_prop hr1).2.mp c2
    refine lv_aload_n hx hb dX11_copy_14 rfl (lv_at hl 0 rfl) ?_
    refine lv_iconst (v := (-1)) hx hb dX11_copy_15 (by decide) ?_
    have hPc := hP.sub (ws' := [(qm, .inr (11, [w0, w1, w2, w3, w4, w5, w6, .ref ss, w8, w9, w10, w11, w12, w13, w14, w15, w16, w17, w18, w19, w20, w21, w22, w23, w24, w25, w26, w27, w28, w29, w30, w31, w32, w33, w34, w35, w36, w37, w38]))]) [0] rfl
    have hDc := hD.sub (ws' := [(qm, .inr (11, [w0, w1, w2, w3, w4, w5, w6, .ref ss, w8, w9, w10, w11, w12, w13, w14, w15, w16, w17, w18, w19, w20, w21, w22, w23, w24, w25, w26, w27, w28, w29, w30, w31, w32, w33, w34, w35, w36, w37, w38]))]) [0] (by decide) rfl
    have hKc := hK.sub (tys' := []) [] rfl
    have hFc := va_free (wc := [(qm, .inr (11, [w0, w1, w2, w3, w4, w5, w6, .ref ss, w8, w9, w10, w11, w12, w13, w14, w15, w16, w17, w18, w19, w20, w21, w22, w23, w24, w25, w26, w27, w28, w29, w30, w31, w32, w33, w34, w35, w36, w37, w38]))]) hD hS hA [0] rfl
    refine va_calli (va_runV (As := [.int (-1)]) (rest := []) ⟨hx, hb, hml, hown, hts⟩ (c_X11_refused l dC dI  _ qm w0 w1 w2 w3 w4 w5 w6 (.ref ss) w8 w9 w10 w11 w12 w13 w14 w15 w16 w17 w18 w19 w20 w21 w22 w23 w24 w25 w26 w27 w28 w29 w30 w31 w32 w33 w34 w35 w36 w37 w38 (-1) ) (cwV 1 hts gX11_copy_X11_refused rfl rfl rfl (by decide +kernel) ⟨Nat.le_of_ble_eq_true rfl, Nat.le_of_ble_eq_true rfl⟩) (pw_preV (va_recv hKc hPc (ci := 11) (q0 := 0) rfl rfl) hPc hKc hDc hN) rfl rfl hl.1 rfl (lv_room (Nat.le_of_ble_eq_true rfl)) dX11_copy_16 ⟨Nat.le_of_ble_eq_true rfl, Nat.le_of_ble_eq_true rfl⟩) hS (fun q _ h => hFc q h) hFc (fun r3 u t H1 locs ht hvm hw hB hz1 hk1 hS => ?_)
    have hr3 : r3 = (-1) := hw
    obtain ⟨hP1, hK1, hD1⟩ := hB
    rw [ht] at hP1
    obtain ⟨hP, hD⟩ := va_join (wr := [(ss, .inl (cI, 4, .inl (fun _ => (-1))))]) (w1 := [(qm, .inr (11, [.int 0, w1, w2, w3, w4, w5, w6, .ref ss, w8, w9, w10, w11, w12, w13, w14, w15, w16, w17, w18, w19, w20, w21, w22, w23, w24, w25, w26, w27, w28, w29, w30, w31, w32, w33, w34, w35, w36, w37, w38]))]) hP hD [0] [1] rfl rfl (by decide) (by decide) hk1 hFc hP1 hD1
    generalize H1 = H at hP hS ⊢
    have hP : va_P (dC, dI) vwCl [(ss, .inl (cI, 4, .inl (fun _ => (-1)))), (qm, .inr (11, [.int 0, w1, w2, w3, w4, w5, w6, .ref ss, w8, w9, w10, w11, w12, w13, w14, w15, w16, w17, w18, w19, w20, w21, w22, w23, w24, w25, w26, w27, w28, w29, w30, w31, w32, w33, w34, w35, w36, w37, w38]))] H := hP
    have hD : va_D _ [(ss, .inl (cI, 4, .inl (fun _ => (-1)))), (qm, .inr (11, [.int 0, w1, w2, w3, w4, w5, w6, .ref ss, w8, w9, w10, w11, w12, w13, w14, w15, w16, w17, w18, w19, w20, w21, w22, w23, w24, w25, w26, w27, w28, w29, w30, w31, w32, w33, w34, w35, w36, w37, w38]))] := hD
    exact W.iret (v := r3) hx hb hr (fun t ht hW => ⟨⟨r3, (), rfl, (by rw [hr3]; simp [sp_copy, c2]), trivial⟩, hS.F ht⟩) hS.2.2 dX11_copy_19
  · skip
    have c2 := (fa_bool_prop hr1).1.mp c2
    have c2 := Decidable.not_not.mp c2
    refine lv_iload_n hx hb dX11_copy_7 rfl (lv_at hl 3 rfl) ?_
    refine vp_callSi (va_Run.run (va_runS (As := [.int ot]) (rest := []) ⟨hx, hb, hml, hown, hts⟩ (c_X11_noSheet l ot ) (va_cwS 1 hts gX11_copy_X11_noSheet rfl rfl rfl (by decide +kernel) ⟨Nat.le_of_ble_eq_true rfl, Nat.le_of_ble_eq_true rfl⟩) (p0_preS hN) rfl rfl hl.1 rfl (lv_room (Nat.le_of_ble_eq_true rfl)) dX11_copy_8 ⟨Nat.le_of_ble_eq_true rfl, Nat.le_of_ble_eq_true rfl⟩)) (fun r4 hr4 => ?_)
    have hr4 : r4 = if ¬ (0 ≤ ot ∧ ot ≤ 3) then 1 else 0 := hr4
    refine lv_if_eq (tgt := 20) hx hb dX11_copy_11 (by decide) (fun c5 => ?_) (fun c5 => ?_)
    · skip
      have c5 := (fa_bool_prop hr4).1.mp c5
      have c5 := Decidable.not_not.mp c5
      refine lv_aload_n hx hb dX11_copy_20 rfl (lv_at hl 0 rfl) ?_
      refine va_get (D := (dC, dI)) (ci := 11) (v := .ref ss) (C := RX11) (T := TX11) (N := 39) hx hb hts hiX11 hown hK hP 0 rfl rfl 7 (by decide) (hts (.fieldLink RX11 22 "TributePitchesModel" "sheetSize" "[I") (by decide +kernel)) (fun _ h9 => h9) rfl dX11_copy_21 ?_
      refine lv_iload_n hx hb dX11_copy_24 rfl (lv_at hl 1 rfl) ?_
      refine va_iald hx hb hK hP 1 0 rfl rfl (in4 c2) dX11_copy_25 ?_
      refine W.eq (g2 := F0 m 26 ls [.int (-1)]) rfl ?_
      refine lv_if_lt (tgt := 38) hx hb dX11_copy_26 (by decide) (fun c6 => ?_) (fun c6 => ?_)
      · skip
        refine lv_aload_n hx hb dX11_copy_38 rfl (lv_at hl 0 rfl) ?_
        refine lv_iconst (v := 1) hx hb dX11_copy_39 (by decide) ?_
        have hPc := hP.sub (ws' := [(qm, .inr (11, [w0, w1, w2, w3, w4, w5, w6, .ref ss, w8, w9, w10, w11, w12, w13, w14, w15, w16, w17, w18, w19, w20, w21, w22, w23, w24, w25, w26, w27, w28, w29, w30, w31, w32, w33, w34, w35, w36, w37, w38]))]) [0] rfl
        have hDc := hD.sub (ws' := [(qm, .inr (11, [w0, w1, w2, w3, w4, w5, w6, .ref ss, w8, w9, w10, w11, w12, w13, w14, w15, w16, w17, w18, w19, w20, w21, w22, w23, w24, w25, w26, w27, w28, w29, w30, w31, w32, w33, w34, w35, w36, w37, w38]))]) [0] (by decide) rfl
        have hKc := hK.sub (tys' := []) [] rfl
        have hFc := va_free (wc := [(qm, .inr (11, [w0, w1, w2, w3, w4, w5, w6, .ref ss, w8, w9, w10, w11, w12, w13, w14, w15, w16, w17, w18, w19, w20, w21, w22, w23, w24, w25, w26, w27, w28, w29, w30, w31, w32, w33, w34, w35, w36, w37, w38]))]) hD hS hA [0] rfl
        refine va_calli (va_runV (As := [.int 1]) (rest := []) ⟨hx, hb, hml, hown, hts⟩ (c_X11_failed l dC dI  _ qm w0 w1 w2 w3 w4 w5 w6 (.ref ss) w8 w9 w10 w11 w12 w13 w14 w15 w16 w17 w18 w19 w20 w21 w22 w23 w24 w25 w26 w27 w28 w29 w30 w31 w32 w33 w34 w35 w36 w37 w38 1 ) (cwV 1 hts gX11_copy_X11_failed rfl rfl rfl (by decide +kernel) ⟨Nat.le_of_ble_eq_true rfl, Nat.le_of_ble_eq_true rfl⟩) (pw_preV (va_recv hKc hPc (ci := 11) (q0 := 0) rfl rfl) hPc hKc hDc hN) rfl rfl hl.1 rfl (lv_room (Nat.le_of_ble_eq_true rfl)) dX11_copy_40 ⟨Nat.le_of_ble_eq_true rfl, Nat.le_of_ble_eq_true rfl⟩) hS (fun q _ h => hFc q h) hFc (fun r7 u t H1 locs ht hvm hw hB hz1 hk1 hS => ?_)
        have hr7 : r7 = -10 - 1 := hw
        obtain ⟨hP1, hK1, hD1⟩ := hB
        rw [ht] at hP1
        obtain ⟨hP, hD⟩ := va_join (wr := [(ss, .inl (cI, 4, .inl (fun _ => (-1))))]) (w1 := [(qm, .inr (11, [.int 1, w1, w2, w3, w4, w5, w6, .ref ss, w8, w9, w10, w11, w12, w13, w14, w15, w16, w17, w18, w19, w20, w21, w22, w23, w24, w25, w26, w27, w28, w29, w30, w31, w32, w33, w34, w35, w36, w37, w38]))]) hP hD [0] [1] rfl rfl (by decide) (by decide) hk1 hFc hP1 hD1
        generalize H1 = H at hP hS ⊢
        have hP : va_P (dC, dI) vwCl [(ss, .inl (cI, 4, .inl (fun _ => (-1)))), (qm, .inr (11, [.int 1, w1, w2, w3, w4, w5, w6, .ref ss, w8, w9, w10, w11, w12, w13, w14, w15, w16, w17, w18, w19, w20, w21, w22, w23, w24, w25, w26, w27, w28, w29, w30, w31, w32, w33, w34, w35, w36, w37, w38]))] H := hP
        have hD : va_D _ [(ss, .inl (cI, 4, .inl (fun _ => (-1)))), (qm, .inr (11, [.int 1, w1, w2, w3, w4, w5, w6, .ref ss, w8, w9, w10, w11, w12, w13, w14, w15, w16, w17, w18, w19, w20, w21, w22, w23, w24, w25, w26, w27, w28, w29, w30, w31, w32, w33, w34, w35, w36, w37, w38]))] := hD
        exact W.iret (v := r7) hx hb hr (fun t ht hW => ⟨⟨r7, (), rfl, (by rw [hr7]; simp [sp_copy, c2, c5, c6]), trivial⟩, hS.F ht⟩) hS.2.2 dX11_copy_43
      · exact absurd c6 (by decide)
    · skip
      have c5 := (fa_bool_prop hr4).2.mp c5
      refine lv_aload_n hx hb dX11_copy_14 rfl (lv_at hl 0 rfl) ?_
      refine lv_iconst (v := (-1)) hx hb dX11_copy_15 (by decide) ?_
      have hPc := hP.sub (ws' := [(qm, .inr (11, [w0, w1, w2, w3, w4, w5, w6, .ref ss, w8, w9, w10, w11, w12, w13, w14, w15, w16, w17, w18, w19, w20, w21, w22, w23, w24, w25, w26, w27, w28, w29, w30, w31, w32, w33, w34, w35, w36, w37, w38]))]) [0] rfl
      have hDc := hD.sub (ws' := [(qm, .inr (11, [w0, w1, w2, w3, w4, w5, w6, .ref ss, w8, w9, w10, w11, w12, w13, w14, w15, w16, w17, w18, w19, w20, w21, w22, w23, w24, w25, w26, w27, w28, w29, w30, w31, w32, w33, w34, w35, w36, w37, w38]))]) [0] (by decide) rfl
      have hKc := hK.sub (tys' := []) [] rfl
      have hFc := va_free (wc := [(qm, .inr (11, [w0, w1, w2, w3, w4, w5, w6, .ref ss, w8, w9, w10, w11, w12, w13, w14, w15, w16, w17, w18, w19, w20, w21, w22, w23, w24, w25, w26, w27, w28, w29, w30, w31, w32, w33, w34, w35, w36, w37, w38]))]) hD hS hA [0] rfl
      refine va_calli (va_runV (As := [.int (-1)]) (rest := []) ⟨hx, hb, hml, hown, hts⟩ (c_X11_refused l dC dI  _ qm w0 w1 w2 w3 w4 w5 w6 (.ref ss) w8 w9 w10 w11 w12 w13 w14 w15 w16 w17 w18 w19 w20 w21 w22 w23 w24 w25 w26 w27 w28 w29 w30 w31 w32 w33 w34 w35 w36 w37 w38 (-1) ) (cwV 1 hts gX11_copy_X11_refused rfl rfl rfl (by decide +kernel) ⟨Nat.le_of_ble_eq_true rfl, Nat.le_of_ble_eq_true rfl⟩) (pw_preV (va_recv hKc hPc (ci := 11) (q0 := 0) rfl rfl) hPc hKc hDc hN) rfl rfl hl.1 rfl (lv_room (Nat.le_of_ble_eq_true rfl)) dX11_copy_16 ⟨Nat.le_of_ble_eq_true rfl, Nat.le_of_ble_eq_true rfl⟩) hS (fun q _ h => hFc q h) hFc (fun r8 u t H1 locs ht hvm hw hB hz1 hk1 hS => ?_)
      have hr8 : r8 = (-1) := hw
      obtain ⟨hP1, hK1, hD1⟩ := hB
      rw [ht] at hP1
      obtain ⟨hP, hD⟩ := va_join (wr := [(ss, .inl (cI, 4, .inl (fun _ => (-1))))]) (w1 := [(qm, .inr (11, [.int 0, w1, w2, w3, w4, w5, w6, .ref ss, w8, w9, w10, w11, w12, w13, w14, w15, w16, w17, w18, w19, w20, w21, w22, w23, w24, w25, w26, w27, w28, w29, w30, w31, w32, w33, w34, w35, w36, w37, w38]))]) hP hD [0] [1] rfl rfl (by decide) (by decide) hk1 hFc hP1 hD1
      generalize H1 = H at hP hS ⊢
      have hP : va_P (dC, dI) vwCl [(ss, .inl (cI, 4, .inl (fun _ => (-1)))), (qm, .inr (11, [.int 0, w1, w2, w3, w4, w5, w6, .ref ss, w8, w9, w10, w11, w12, w13, w14, w15, w16, w17, w18, w19, w20, w21, w22, w23, w24, w25, w26, w27, w28, w29, w30, w31, w32, w33, w34, w35, w36, w37, w38]))] H := hP
      have hD : va_D _ [(ss, .inl (cI, 4, .inl (fun _ => (-1)))), (qm, .inr (11, [.int 0, w1, w2, w3, w4, w5, w6, .ref ss, w8, w9, w10, w11, w12, w13, w14, w15, w16, w17, w18, w19, w20, w21, w22, w23, w24, w25, w26, w27, w28, w29, w30, w31, w32, w33, w34, w35, w36, w37, w38]))] := hD
      exact W.iret (v := r8) hx hb hr (fun t ht hW => ⟨⟨r8, (), rfl, (by rw [hr8]; simp [sp_copy, c2, c5]), trivial⟩, hS.F ht⟩) hS.2.2 dX11_copy_19
set_option maxHeartbeats 4000000 in
set_option maxRecDepth 100000 in
theorem c_X11_chart (l : Launch) (dC : Nat → ClassId) (dI : Nat → Nat → Nat) (cI : ClassId) (sz : Nat) (qm : Nat) (w0 : Value) (w1 : Value) (w2 : Value) (w3 : Value) (w4 : Value) (w5 : Value) (w6 : Value) (w8 : Value) (w9 : Value) (w10 : Value) (w11 : Value) (w12 : Value) (w13 : Value) (w14 : Value) (w15 : Value) (w16 : Value) (w17 : Value) (w18 : Value) (w19 : Value) (w20 : Value) (w21 : Value) (w22 : Value) (w23 : Value) (w24 : Value) (w25 : Value) (w26 : Value) (w27 : Value) (w28 : Value) (w29 : Value) (w30 : Value) (w31 : Value) (w32 : Value) (w33 : Value) (w34 : Value) (w35 : Value) (w36 : Value) (w37 : Value) (w38 : Value) (ss : Nat) (k : Int32) (ln : Int32) (i : Int32) (n : Int32) (sv : Int32)  : Met l yX11_chart wsX11_chart ({ frames := 3, cells := 0, slots := 0, locals := 90 }) (pw (dC, dI) [(cI, .int)] [(qm, .inr (11, [w0, w1, w2, w3, w4, w5, w6, .ref ss, w8, w9, w10, w11, w12, w13, w14, w15, w16, w17, w18, w19, w20, w21, w22, w23, w24, w25, w26, w27, w28, w29, w30, w31, w32, w33, w34, w35, w36, w37, w38])), (ss, .inl (cI, 4, .inl (fun _ => (-1))))] sz [.ref qm, .int k, .int ln, .int i, .int n, .int sv]) (va_Qi (fun r (_ : Unit) => r = sp_chart k ln sv) (fun _ _ => True) (va_A [(qm, .inr (11, [w0, w1, w2, w3, w4, w5, w6, .ref ss, w8, w9, w10, w11, w12, w13, w14, w15, w16, w17, w18, w19, w20, w21, w22, w23, w24, w25, w26, w27, w28, w29, w30, w31, w32, w33, w34, w35, w36, w37, w38])), (ss, .inl (cI, 4, .inl (fun _ => (-1))))] sz)) 0 0 (va_A [(qm, .inr (11, [w0, w1, w2, w3, w4, w5, w6, .ref ss, w8, w9, w10, w11, w12, w13, w14, w15, w16, w17, w18, w19, w20, w21, w22, w23, w24, w25, w26, w27, w28, w29, w30, w31, w32, w33, w34, w35, w36, w37, w38])), (ss, .inl (cI, 4, .inl (fun _ => (-1))))] sz) := by
  refine pw_met (cc := cX11_chart) (maxL := 8) (ret := (some .int)) (by decide) rfl (Nat.le_of_ble_eq_true rfl) ?_
  intro p e s m below meth c0 hx hb hr hml hown hlocks hnm hts hP hK hD hN hsz hA hS ls hl
  subst hsz
  have hl : lv_has ls 8 [(0, .ref qm), (1, .int k), (2, .int ln), (3, .int i), (4, .int n), (5, .int sv)] := hl
  have hiX11 : ∀ w ∈ wsX110, w ∈ wsX11_chart := by decide +kernel
  refine lv_iload_n hx hb dX11_chart_0 rfl (lv_at hl 1 rfl) ?_
  refine vp_callSi (va_Run.run (va_runS (As := [.int k]) (rest := []) ⟨hx, hb, hml, hown, hts⟩ (c_X11_noSheet l k ) (va_cwS 1 hts gX11_chart_X11_noSheet rfl rfl rfl (by decide +kernel) ⟨Nat.le_of_ble_eq_true rfl, Nat.le_of_ble_eq_true rfl⟩) (p0_preS hN) rfl rfl hl.1 rfl (lv_room (Nat.le_of_ble_eq_true rfl)) dX11_chart_1 ⟨Nat.le_of_ble_eq_true rfl, Nat.le_of_ble_eq_true rfl⟩)) (fun r1 hr1 => ?_)
  have hr1 : r1 = if ¬ (0 ≤ k ∧ k ≤ 3) then 1 else 0 := hr1
  refine lv_if_ne (tgt := 20) hx hb dX11_chart_4 (by decide) (fun c2 => ?_) (fun c2 => ?_)
  · skip
    have c2 := (fa_bool_prop hr1).2.mp c2
    refine lv_aload_n hx hb dX11_chart_20 rfl (lv_at hl 0 rfl) ?_
    refine lv_iconst (v := (-1)) hx hb dX11_chart_21 (by decide) ?_
    have hPc := hP.sub (ws' := [(qm, .inr (11, [w0, w1, w2, w3, w4, w5, w6, .ref ss, w8, w9, w10, w11, w12, w13, w14, w15, w16, w17, w18, w19, w20, w21, w22, w23, w24, w25, w26, w27, w28, w29, w30, w31, w32, w33, w34, w35, w36, w37, w38]))]) [0] rfl
    have hDc := hD.sub (ws' := [(qm, .inr (11, [w0, w1, w2, w3, w4, w5, w6, .ref ss, w8, w9, w10, w11, w12, w13, w14, w15, w16, w17, w18, w19, w20, w21, w22, w23, w24, w25, w26, w27, w28, w29, w30, w31, w32, w33, w34, w35, w36, w37, w38]))]) [0] (by decide) rfl
    have hKc := hK.sub (tys' := []) [] rfl
    have hFc := va_free (wc := [(qm, .inr (11, [w0, w1, w2, w3, w4, w5, w6, .ref ss, w8, w9, w10, w11, w12, w13, w14, w15, w16, w17, w18, w19, w20, w21, w22, w23, w24, w25, w26, w27, w28, w29, w30, w31, w32, w33, w34, w35, w36, w37, w38]))]) hD hS hA [0] rfl
    refine va_calli (va_runV (As := [.int (-1)]) (rest := []) ⟨hx, hb, hml, hown, hts⟩ (c_X11_refused l dC dI  _ qm w0 w1 w2 w3 w4 w5 w6 (.ref ss) w8 w9 w10 w11 w12 w13 w14 w15 w16 w17 w18 w19 w20 w21 w22 w23 w24 w25 w26 w27 w28 w29 w30 w31 w32 w33 w34 w35 w36 w37 w38 (-1) ) (cwV 1 hts gX11_chart_X11_refused rfl rfl rfl (by decide +kernel) ⟨Nat.le_of_ble_eq_true rfl, Nat.le_of_ble_eq_true rfl⟩) (pw_preV (va_recv hKc hPc (ci := 11) (q0 := 0) rfl rfl) hPc hKc hDc hN) rfl rfl hl.1 rfl (lv_room (Nat.le_of_ble_eq_true rfl)) dX11_chart_22 ⟨Nat.le_of_ble_eq_true rfl, Nat.le_of_ble_eq_true rfl⟩) hS (fun q _ h => hFc q h) hFc (fun r3 u t H1 locs ht hvm hw hB hz1 hk1 hS => ?_)
    have hr3 : r3 = (-1) := hw
    obtain ⟨hP1, hK1, hD1⟩ := hB
    rw [ht] at hP1
    obtain ⟨hP, hD⟩ := va_join (wr := [(ss, .inl (cI, 4, .inl (fun _ => (-1))))]) (w1 := [(qm, .inr (11, [.int 0, w1, w2, w3, w4, w5, w6, .ref ss, w8, w9, w10, w11, w12, w13, w14, w15, w16, w17, w18, w19, w20, w21, w22, w23, w24, w25, w26, w27, w28, w29, w30, w31, w32, w33, w34, w35, w36, w37, w38]))]) hP hD [0] [1] rfl rfl (by decide) (by decide) hk1 hFc hP1 hD1
    generalize H1 = H at hP hS ⊢
    have hP : va_P (dC, dI) vwCl [(ss, .inl (cI, 4, .inl (fun _ => (-1)))), (qm, .inr (11, [.int 0, w1, w2, w3, w4, w5, w6, .ref ss, w8, w9, w10, w11, w12, w13, w14, w15, w16, w17, w18, w19, w20, w21, w22, w23, w24, w25, w26, w27, w28, w29, w30, w31, w32, w33, w34, w35, w36, w37, w38]))] H := hP
    have hD : va_D _ [(ss, .inl (cI, 4, .inl (fun _ => (-1)))), (qm, .inr (11, [.int 0, w1, w2, w3, w4, w5, w6, .ref ss, w8, w9, w10, w11, w12, w13, w14, w15, w16, w17, w18, w19, w20, w21, w22, w23, w24, w25, w26, w27, w28, w29, w30, w31, w32, w33, w34, w35, w36, w37, w38]))] := hD
    exact W.iret (v := r3) hx hb hr (fun t ht hW => ⟨⟨r3, (), rfl, (by rw [hr3]; simp [sp_chart, c2]), trivial⟩, hS.F ht⟩) hS.2.2 dX11_chart_25
  · skip
    have c2 := (fa_bool_prop hr1).1.mp c2
    have c2 := Decidable.not_not.mp c2
    refine lv_iload hx hb dX11_chart_7 (lv_at hl 5 rfl) ?_
    refine lv_i2l (v := sv.toInt64) hx hb dX11_chart_9 rfl ?_
    refine lv_lconst (v := 0) hx hb dX11_chart_10 (by decide) ?_
    refine lv_ldc2 (v := 47) hx hb hown (hts (.constantLong RX11 168 (47)) (by decide +kernel)) dX11_chart_11 ?_
    refine vp_callSi (va_Run.run (va_runS (As := [.long sv.toInt64, .long 0, .long 47]) (rest := []) ⟨hx, hb, hml, hown, hts⟩ (c_X11_in l sv.toInt64 0 47 ) (va_cwS 3 hts gX11_chart_X11_in rfl rfl rfl (by decide +kernel) ⟨Nat.le_of_ble_eq_true rfl, Nat.le_of_ble_eq_true rfl⟩) (p0_preS hN) rfl rfl hl.1 rfl (lv_room (Nat.le_of_ble_eq_true rfl)) dX11_chart_14 ⟨Nat.le_of_ble_eq_true rfl, Nat.le_of_ble_eq_true rfl⟩)) (fun r4 hr4 => ?_)
    have hr4 : r4 = if 0 ≤ sv.toInt64 ∧ sv.toInt64 ≤ 47 then 1 else 0 := hr4
    have hr4 := hr4.trans (in_w _ 0 47 (by decide) (by decide))
    refine lv_if_ne (tgt := 26) hx hb dX11_chart_17 (by decide) (fun c5 => ?_) (fun c5 => ?_)
    · skip
      have c5 := (fa_bool_prop hr4).2.mp c5
      refine lv_iload_n hx hb dX11_chart_26 rfl (lv_at hl 2 rfl) ?_
      refine lv_i2l (v := ln.toInt64) hx hb dX11_chart_27 rfl ?_
      refine lv_lconst (v := 0) hx hb dX11_chart_28 (by decide) ?_
      refine lv_ldc2 (v := 2) hx hb hown (hts (.constantLong RX11 151 (2)) (by decide +kernel)) dX11_chart_29 ?_
      refine vp_callSi (va_Run.run (va_runS (As := [.long ln.toInt64, .long 0, .long 2]) (rest := []) ⟨hx, hb, hml, hown, hts⟩ (c_X11_in l ln.toInt64 0 2 ) (va_cwS 3 hts gX11_chart_X11_in rfl rfl rfl (by decide +kernel) ⟨Nat.le_of_ble_eq_true rfl, Nat.le_of_ble_eq_true rfl⟩) (p0_preS hN) rfl rfl hl.1 rfl (lv_room (Nat.le_of_ble_eq_true rfl)) dX11_chart_32 ⟨Nat.le_of_ble_eq_true rfl, Nat.le_of_ble_eq_true rfl⟩)) (fun r6 hr6 => ?_)
      have hr6 : r6 = if 0 ≤ ln.toInt64 ∧ ln.toInt64 ≤ 2 then 1 else 0 := hr6
      have hr6 := hr6.trans (in_w _ 0 2 (by decide) (by decide))
      refine lv_if_ne (tgt := 45) hx hb dX11_chart_35 (by decide) (fun c7 => ?_) (fun c7 => ?_)
      · skip
        have c7 := (fa_bool_prop hr6).2.mp c7
        refine lv_aload_n hx hb dX11_chart_45 rfl (lv_at hl 0 rfl) ?_
        refine va_get (D := (dC, dI)) (ci := 11) (v := .ref ss) (C := RX11) (T := TX11) (N := 39) hx hb hts hiX11 hown hK hP 0 rfl rfl 7 (by decide) (hts (.fieldLink RX11 22 "TributePitchesModel" "sheetSize" "[I") (by decide +kernel)) (fun _ h9 => h9) rfl dX11_chart_46 ?_
        refine lv_iload_n hx hb dX11_chart_49 rfl (lv_at hl 1 rfl) ?_
        refine va_iald hx hb hK hP 1 0 rfl rfl (in4 c2) dX11_chart_50 ?_
        refine W.eq (g2 := F0 m 51 ls [.int (-1)]) rfl ?_
        refine lv_if_lt (tgt := 70) hx hb dX11_chart_51 (by decide) (fun c8 => ?_) (fun c8 => ?_)
        · skip
          refine lv_aload_n hx hb dX11_chart_70 rfl (lv_at hl 0 rfl) ?_
          refine va_get (D := (dC, dI)) (ci := 11) (v := .ref ss) (C := RX11) (T := TX11) (N := 39) hx hb hts hiX11 hown hK hP 0 rfl rfl 7 (by decide) (hts (.fieldLink RX11 22 "TributePitchesModel" "sheetSize" "[I") (by decide +kernel)) (fun _ h9 => h9) rfl dX11_chart_71 ?_
          refine lv_iload_n hx hb dX11_chart_74 rfl (lv_at hl 1 rfl) ?_
          refine va_iald hx hb hK hP 1 0 rfl rfl (in4 c2) dX11_chart_75 ?_
          refine W.eq (g2 := F0 m 76 ls [.int (-1)]) rfl ?_
          refine lv_if_ge (tgt := 85) hx hb dX11_chart_76 (by decide) (fun c9 => ?_) (fun c9 => ?_)
          · exact absurd c9 (by decide)
          · skip
            refine lv_aload_n hx hb dX11_chart_79 rfl (lv_at hl 0 rfl) ?_
            refine lv_iconst (v := 1) hx hb dX11_chart_80 (by decide) ?_
            have hPc := hP.sub (ws' := [(qm, .inr (11, [w0, w1, w2, w3, w4, w5, w6, .ref ss, w8, w9, w10, w11, w12, w13, w14, w15, w16, w17, w18, w19, w20, w21, w22, w23, w24, w25, w26, w27, w28, w29, w30, w31, w32, w33, w34, w35, w36, w37, w38]))]) [0] rfl
            have hDc := hD.sub (ws' := [(qm, .inr (11, [w0, w1, w2, w3, w4, w5, w6, .ref ss, w8, w9, w10, w11, w12, w13, w14, w15, w16, w17, w18, w19, w20, w21, w22, w23, w24, w25, w26, w27, w28, w29, w30, w31, w32, w33, w34, w35, w36, w37, w38]))]) [0] (by decide) rfl
            have hKc := hK.sub (tys' := []) [] rfl
            have hFc := va_free (wc := [(qm, .inr (11, [w0, w1, w2, w3, w4, w5, w6, .ref ss, w8, w9, w10, w11, w12, w13, w14, w15, w16, w17, w18, w19, w20, w21, w22, w23, w24, w25, w26, w27, w28, w29, w30, w31, w32, w33, w34, w35, w36, w37, w38]))]) hD hS hA [0] rfl
            refine va_calli (va_runV (As := [.int 1]) (rest := []) ⟨hx, hb, hml, hown, hts⟩ (c_X11_failed l dC dI  _ qm w0 w1 w2 w3 w4 w5 w6 (.ref ss) w8 w9 w10 w11 w12 w13 w14 w15 w16 w17 w18 w19 w20 w21 w22 w23 w24 w25 w26 w27 w28 w29 w30 w31 w32 w33 w34 w35 w36 w37 w38 1 ) (cwV 1 hts gX11_chart_X11_failed rfl rfl rfl (by decide +kernel) ⟨Nat.le_of_ble_eq_true rfl, Nat.le_of_ble_eq_true rfl⟩) (pw_preV (va_recv hKc hPc (ci := 11) (q0 := 0) rfl rfl) hPc hKc hDc hN) rfl rfl hl.1 rfl (lv_room (Nat.le_of_ble_eq_true rfl)) dX11_chart_81 ⟨Nat.le_of_ble_eq_true rfl, Nat.le_of_ble_eq_true rfl⟩) hS (fun q _ h => hFc q h) hFc (fun r10 u t H1 locs ht hvm hw hB hz1 hk1 hS => ?_)
            have hr10 : r10 = -10 - 1 := hw
            obtain ⟨hP1, hK1, hD1⟩ := hB
            rw [ht] at hP1
            obtain ⟨hP, hD⟩ := va_join (wr := [(ss, .inl (cI, 4, .inl (fun _ => (-1))))]) (w1 := [(qm, .inr (11, [.int 1, w1, w2, w3, w4, w5, w6, .ref ss, w8, w9, w10, w11, w12, w13, w14, w15, w16, w17, w18, w19, w20, w21, w22, w23, w24, w25, w26, w27, w28, w29, w30, w31, w32, w33, w34, w35, w36, w37, w38]))]) hP hD [0] [1] rfl rfl (by decide) (by decide) hk1 hFc hP1 hD1
            generalize H1 = H at hP hS ⊢
            have hP : va_P (dC, dI) vwCl [(ss, .inl (cI, 4, .inl (fun _ => (-1)))), (qm, .inr (11, [.int 1, w1, w2, w3, w4, w5, w6, .ref ss, w8, w9, w10, w11, w12, w13, w14, w15, w16, w17, w18, w19, w20, w21, w22, w23, w24, w25, w26, w27, w28, w29, w30, w31, w32, w33, w34, w35, w36, w37, w38]))] H := hP
            have hD : va_D _ [(ss, .inl (cI, 4, .inl (fun _ => (-1)))), (qm, .inr (11, [.int 1, w1, w2, w3, w4, w5, w6, .ref ss, w8, w9, w10, w11, w12, w13, w14, w15, w16, w17, w18, w19, w20, w21, w22, w23, w24, w25, w26, w27, w28, w29, w30, w31, w32, w33, w34, w35, w36, w37, w38]))] := hD
            exact W.iret (v := r10) hx hb hr (fun t ht hW => ⟨⟨r10, (), rfl, (by rw [hr10]; simp [sp_chart, c2, c5, c7, c8, c9]), trivial⟩, hS.F ht⟩) hS.2.2 dX11_chart_84
        · exact absurd c8 (by decide)
      · skip
        have c7 := (fa_bool_prop hr6).1.mp c7
        refine lv_aload_n hx hb dX11_chart_38 rfl (lv_at hl 0 rfl) ?_
        refine lv_bipush (v := (-2)) hx hb dX11_chart_39 (by decide) ?_
        have hPc := hP.sub (ws' := [(qm, .inr (11, [w0, w1, w2, w3, w4, w5, w6, .ref ss, w8, w9, w10, w11, w12, w13, w14, w15, w16, w17, w18, w19, w20, w21, w22, w23, w24, w25, w26, w27, w28, w29, w30, w31, w32, w33, w34, w35, w36, w37, w38]))]) [0] rfl
        have hDc := hD.sub (ws' := [(qm, .inr (11, [w0, w1, w2, w3, w4, w5, w6, .ref ss, w8, w9, w10, w11, w12, w13, w14, w15, w16, w17, w18, w19, w20, w21, w22, w23, w24, w25, w26, w27, w28, w29, w30, w31, w32, w33, w34, w35, w36, w37, w38]))]) [0] (by decide) rfl
        have hKc := hK.sub (tys' := []) [] rfl
        have hFc := va_free (wc := [(qm, .inr (11, [w0, w1, w2, w3, w4, w5, w6, .ref ss, w8, w9, w10, w11, w12, w13, w14, w15, w16, w17, w18, w19, w20, w21, w22, w23, w24, w25, w26, w27, w28, w29, w30, w31, w32, w33, w34, w35, w36, w37, w38]))]) hD hS hA [0] rfl
        refine va_calli (va_runV (As := [.int (-2)]) (rest := []) ⟨hx, hb, hml, hown, hts⟩ (c_X11_refused l dC dI  _ qm w0 w1 w2 w3 w4 w5 w6 (.ref ss) w8 w9 w10 w11 w12 w13 w14 w15 w16 w17 w18 w19 w20 w21 w22 w23 w24 w25 w26 w27 w28 w29 w30 w31 w32 w33 w34 w35 w36 w37 w38 (-2) ) (cwV 1 hts gX11_chart_X11_refused rfl rfl rfl (by decide +kernel) ⟨Nat.le_of_ble_eq_true rfl, Nat.le_of_ble_eq_true rfl⟩) (pw_preV (va_recv hKc hPc (ci := 11) (q0 := 0) rfl rfl) hPc hKc hDc hN) rfl rfl hl.1 rfl (lv_room (Nat.le_of_ble_eq_true rfl)) dX11_chart_41 ⟨Nat.le_of_ble_eq_true rfl, Nat.le_of_ble_eq_true rfl⟩) hS (fun q _ h => hFc q h) hFc (fun r11 u t H1 locs ht hvm hw hB hz1 hk1 hS => ?_)
        have hr11 : r11 = (-2) := hw
        obtain ⟨hP1, hK1, hD1⟩ := hB
        rw [ht] at hP1
        obtain ⟨hP, hD⟩ := va_join (wr := [(ss, .inl (cI, 4, .inl (fun _ => (-1))))]) (w1 := [(qm, .inr (11, [.int 0, w1, w2, w3, w4, w5, w6, .ref ss, w8, w9, w10, w11, w12, w13, w14, w15, w16, w17, w18, w19, w20, w21, w22, w23, w24, w25, w26, w27, w28, w29, w30, w31, w32, w33, w34, w35, w36, w37, w38]))]) hP hD [0] [1] rfl rfl (by decide) (by decide) hk1 hFc hP1 hD1
        generalize H1 = H at hP hS ⊢
        have hP : va_P (dC, dI) vwCl [(ss, .inl (cI, 4, .inl (fun _ => (-1)))), (qm, .inr (11, [.int 0, w1, w2, w3, w4, w5, w6, .ref ss, w8, w9, w10, w11, w12, w13, w14, w15, w16, w17, w18, w19, w20, w21, w22, w23, w24, w25, w26, w27, w28, w29, w30, w31, w32, w33, w34, w35, w36, w37, w38]))] H := hP
        have hD : va_D _ [(ss, .inl (cI, 4, .inl (fun _ => (-1)))), (qm, .inr (11, [.int 0, w1, w2, w3, w4, w5, w6, .ref ss, w8, w9, w10, w11, w12, w13, w14, w15, w16, w17, w18, w19, w20, w21, w22, w23, w24, w25, w26, w27, w28, w29, w30, w31, w32, w33, w34, w35, w36, w37, w38]))] := hD
        exact W.iret (v := r11) hx hb hr (fun t ht hW => ⟨⟨r11, (), rfl, (by rw [hr11]; simp [sp_chart, c2, c5, c7]), trivial⟩, hS.F ht⟩) hS.2.2 dX11_chart_44
    · skip
      have c5 := (fa_bool_prop hr4).1.mp c5
      refine lv_aload_n hx hb dX11_chart_20 rfl (lv_at hl 0 rfl) ?_
      refine lv_iconst (v := (-1)) hx hb dX11_chart_21 (by decide) ?_
      have hPc := hP.sub (ws' := [(qm, .inr (11, [w0, w1, w2, w3, w4, w5, w6, .ref ss, w8, w9, w10, w11, w12, w13, w14, w15, w16, w17, w18, w19, w20, w21, w22, w23, w24, w25, w26, w27, w28, w29, w30, w31, w32, w33, w34, w35, w36, w37, w38]))]) [0] rfl
      have hDc := hD.sub (ws' := [(qm, .inr (11, [w0, w1, w2, w3, w4, w5, w6, .ref ss, w8, w9, w10, w11, w12, w13, w14, w15, w16, w17, w18, w19, w20, w21, w22, w23, w24, w25, w26, w27, w28, w29, w30, w31, w32, w33, w34, w35, w36, w37, w38]))]) [0] (by decide) rfl
      have hKc := hK.sub (tys' := []) [] rfl
      have hFc := va_free (wc := [(qm, .inr (11, [w0, w1, w2, w3, w4, w5, w6, .ref ss, w8, w9, w10, w11, w12, w13, w14, w15, w16, w17, w18, w19, w20, w21, w22, w23, w24, w25, w26, w27, w28, w29, w30, w31, w32, w33, w34, w35, w36, w37, w38]))]) hD hS hA [0] rfl
      refine va_calli (va_runV (As := [.int (-1)]) (rest := []) ⟨hx, hb, hml, hown, hts⟩ (c_X11_refused l dC dI  _ qm w0 w1 w2 w3 w4 w5 w6 (.ref ss) w8 w9 w10 w11 w12 w13 w14 w15 w16 w17 w18 w19 w20 w21 w22 w23 w24 w25 w26 w27 w28 w29 w30 w31 w32 w33 w34 w35 w36 w37 w38 (-1) ) (cwV 1 hts gX11_chart_X11_refused rfl rfl rfl (by decide +kernel) ⟨Nat.le_of_ble_eq_true rfl, Nat.le_of_ble_eq_true rfl⟩) (pw_preV (va_recv hKc hPc (ci := 11) (q0 := 0) rfl rfl) hPc hKc hDc hN) rfl rfl hl.1 rfl (lv_room (Nat.le_of_ble_eq_true rfl)) dX11_chart_22 ⟨Nat.le_of_ble_eq_true rfl, Nat.le_of_ble_eq_true rfl⟩) hS (fun q _ h => hFc q h) hFc (fun r12 u t H1 locs ht hvm hw hB hz1 hk1 hS => ?_)
      have hr12 : r12 = (-1) := hw
      obtain ⟨hP1, hK1, hD1⟩ := hB
      rw [ht] at hP1
      obtain ⟨hP, hD⟩ := va_join (wr := [(ss, .inl (cI, 4, .inl (fun _ => (-1))))]) (w1 := [(qm, .inr (11, [.int 0, w1, w2, w3, w4, w5, w6, .ref ss, w8, w9, w10, w11, w12, w13, w14, w15, w16, w17, w18, w19, w20, w21, w22, w23, w24, w25, w26, w27, w28, w29, w30, w31, w32, w33, w34, w35, w36, w37, w38]))]) hP hD [0] [1] rfl rfl (by decide) (by decide) hk1 hFc hP1 hD1
      generalize H1 = H at hP hS ⊢
      have hP : va_P (dC, dI) vwCl [(ss, .inl (cI, 4, .inl (fun _ => (-1)))), (qm, .inr (11, [.int 0, w1, w2, w3, w4, w5, w6, .ref ss, w8, w9, w10, w11, w12, w13, w14, w15, w16, w17, w18, w19, w20, w21, w22, w23, w24, w25, w26, w27, w28, w29, w30, w31, w32, w33, w34, w35, w36, w37, w38]))] H := hP
      have hD : va_D _ [(ss, .inl (cI, 4, .inl (fun _ => (-1)))), (qm, .inr (11, [.int 0, w1, w2, w3, w4, w5, w6, .ref ss, w8, w9, w10, w11, w12, w13, w14, w15, w16, w17, w18, w19, w20, w21, w22, w23, w24, w25, w26, w27, w28, w29, w30, w31, w32, w33, w34, w35, w36, w37, w38]))] := hD
      exact W.iret (v := r12) hx hb hr (fun t ht hW => ⟨⟨r12, (), rfl, (by rw [hr12]; simp [sp_chart, c2, c5]), trivial⟩, hS.F ht⟩) hS.2.2 dX11_chart_25
