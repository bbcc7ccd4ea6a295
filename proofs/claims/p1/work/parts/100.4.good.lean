set_option maxHeartbeats 4000000 in
set_option maxRecDepth 100000 in
theorem c_X11_good (l : Launch) (dC : Nat → ClassId) (dI : Nat → Nat → Nat) (cI : ClassId) (sz : Nat) (qm : Nat) (w0 : Value) (w1 : Value) (w4 : Value) (w5 : Value) (w6 : Value) (w7 : Value) (w8 : Value) (w9 : Value) (w10 : Value) (w11 : Value) (w12 : Value) (w13 : Value) (w14 : Value) (w15 : Value) (w16 : Value) (w17 : Value) (w18 : Value) (w19 : Value) (w20 : Value) (w21 : Value) (w22 : Value) (w23 : Value) (w24 : Value) (w25 : Value) (w26 : Value) (w27 : Value) (w28 : Value) (w29 : Value) (w30 : Value) (w31 : Value) (w32 : Value) (w33 : Value) (w34 : Value) (w35 : Value) (w36 : Value) (w37 : Value) (w38 : Value) (lo : Nat) (hi : Nat) (x : Int32) (y : Int32) (wh : Int32)  : Met l yX11_good wsX11_good ({ frames := 2, cells := 0, slots := 0, locals := 60 }) (pw (dC, dI) [(cI, .int)] [(qm, .inr (11, [w0, w1, .ref lo, .ref hi, w4, w5, w6, w7, w8, w9, w10, w11, w12, w13, w14, w15, w16, w17, w18, w19, w20, w21, w22, w23, w24, w25, w26, w27, w28, w29, w30, w31, w32, w33, w34, w35, w36, w37, w38])), (lo, .inl (cI, 48, .inl (fun _ => 0))), (hi, .inl (cI, 48, .inl (fun _ => 1000)))] sz [.ref qm, .int x, .int y, .int wh]) (vp_Si (fun r => r = sp_good x y wh)) 0 0 (fun _ => False) := by
  refine pw_met (cc := cX11_good) (maxL := 4) (ret := (some .int)) (by decide) rfl (Nat.le_of_ble_eq_true rfl) ?_
  intro p e s m below meth c0 hx hb hr hml hown hlocks hnm hts hP hK hD hN hsz hA hS ls hl
  have hl : lv_has ls 4 [(0, .ref qm), (1, .int x), (2, .int y), (3, .int wh)] := hl
  have hiX11 : ∀ w ∈ wsX110, w ∈ wsX11_good := by decide +kernel
  refine lv_iload_n hx hb dX11_good_0 rfl (lv_at hl 1 rfl) ?_
  refine lv_iload_n hx hb dX11_good_1 rfl (lv_at hl 2 rfl) ?_
  refine vp_callSi (va_Run.run (va_runS (As := [.int x, .int y]) (rest := []) ⟨hx, hb, hml, hown, hts⟩ (c_X11_isSquare l x y ) (va_cwS 2 hts gX11_good_X11_isSquare rfl rfl rfl (by decide +kernel) ⟨Nat.le_of_ble_eq_true rfl, Nat.le_of_ble_eq_true rfl⟩) (p0_preS hN) rfl rfl hl.1 rfl (lv_room (Nat.le_of_ble_eq_true rfl)) dX11_good_2 ⟨Nat.le_of_ble_eq_true rfl, Nat.le_of_ble_eq_true rfl⟩)) (fun r1 hr1 => ?_)
  have hr1 : r1 = if (0 ≤ x ∧ x ≤ 7) ∧ (0 ≤ y ∧ y ≤ 5) then 1 else 0 := hr1
  refine lv_if_ne (tgt := 10) hx hb dX11_good_5 (by decide) (fun c2 => ?_) (fun c2 => ?_)
  · skip
    have c2 := (fa_bool_prop hr1).2.mp c2
    refine lv_iload_n hx hb dX11_good_10 rfl (lv_at hl 3 rfl) ?_
    refine lv_if_ne (tgt := 28) hx hb dX11_good_11 (by decide) (fun c3 => ?_) (fun c3 => ?_)
    · skip
      refine lv_iload_n hx hb dX11_good_28 rfl (lv_at hl 3 rfl) ?_
      refine lv_iconst (v := 1) hx hb dX11_good_29 (by decide) ?_
      refine lv_icmp_ne (tgt := 47) hx hb dX11_good_30 (by decide) (fun c4 => ?_) (fun c4 => ?_)
      · skip
        refine lv_bipush (v := (-2)) hx hb dX11_good_47 (by decide) ?_
        exact W.iret (v := (-2)) hx hb hr (fun t ht hW => ⟨(-2), rfl, (by rw [sp_good, if_pos c2, if_neg (w01 c3 c4)]), ht⟩) (fun q h => absurd h List.not_mem_nil) dX11_good_49
      · skip
        refine lv_aload_n hx hb dX11_good_33 rfl (lv_at hl 0 rfl) ?_
        refine va_get (D := (dC, dI)) (ci := 11) (v := .ref hi) (C := RX11) (T := TX11) (N := 39) hx hb hts hiX11 hown hK hP 0 rfl rfl 3 (by decide) (hts (.fieldLink RX11 13 "TributePitchesModel" "high" "[I") (by decide +kernel)) (fun _ h9 => h9) rfl dX11_good_34 ?_
        refine lv_bipush (v := 8) hx hb dX11_good_37 (by decide) ?_
        refine lv_iload_n hx hb dX11_good_39 rfl (lv_at hl 2 rfl) ?_
        refine lv_imul hx hb dX11_good_40 ?_
        refine lv_iload_n hx hb dX11_good_41 rfl (lv_at hl 1 rfl) ?_
        refine lv_iadd hx hb dX11_good_42 ?_
        refine va_iald hx hb hK hP 2 0 rfl rfl (sq_in c2) dX11_good_43 ?_
        refine W.eq (g2 := F0 m 44 ls [.int 1000]) rfl ?_
        refine lv_goto (tgt := 49) hx hb dX11_good_44 (by decide) ?_
        exact W.iret (v := 1000) hx hb hr (fun t ht hW => ⟨1000, rfl, (by rw [sp_good, if_pos c2, c4, if_pos (by decide), if_neg (by decide)]), ht⟩) (fun q h => absurd h List.not_mem_nil) dX11_good_49
    · skip
      refine lv_aload_n hx hb dX11_good_14 rfl (lv_at hl 0 rfl) ?_
      refine va_get (D := (dC, dI)) (ci := 11) (v := .ref lo) (C := RX11) (T := TX11) (N := 39) hx hb hts hiX11 hown hK hP 0 rfl rfl 2 (by decide) (hts (.fieldLink RX11 7 "TributePitchesModel" "low" "[I") (by decide +kernel)) (fun _ h9 => h9) rfl dX11_good_15 ?_
      refine lv_bipush (v := 8) hx hb dX11_good_18 (by decide) ?_
      refine lv_iload_n hx hb dX11_good_20 rfl (lv_at hl 2 rfl) ?_
      refine lv_imul hx hb dX11_good_21 ?_
      refine lv_iload_n hx hb dX11_good_22 rfl (lv_at hl 1 rfl) ?_
      refine lv_iadd hx hb dX11_good_23 ?_
      refine va_iald hx hb hK hP 1 0 rfl rfl (sq_in c2) dX11_good_24 ?_
      refine W.eq (g2 := F0 m 25 ls [.int 0]) rfl ?_
      refine lv_goto (tgt := 49) hx hb dX11_good_25 (by decide) ?_
      exact W.iret (v := 0) hx hb hr (fun t ht hW => ⟨0, rfl, (by rw [sp_good, if_pos c2, c3, if_pos (by decide), if_pos rfl]), ht⟩) (fun q h => absurd h List.not_mem_nil) dX11_good_49
  · skip
    have c2 := (fa_bool_prop hr1).1.mp c2
    refine lv_iconst (v := (-1)) hx hb dX11_good_8 (by decide) ?_
    exact W.iret (v := (-1)) hx hb hr (fun t ht hW => ⟨(-1), rfl, (by rw [sp_good, if_neg c2]), ht⟩) (fun q h => absurd h List.not_mem_nil) dX11_good_9
