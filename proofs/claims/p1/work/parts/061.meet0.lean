set_option maxHeartbeats 4000000 in
set_option maxRecDepth 100000 in
theorem c_X11_meet0 (l : Launch) (dC : Nat → ClassId) (dI : Nat → Nat → Nat) (cI : ClassId) (sz : Nat) (qm : Nat) (w0 : Value) (w1 : Value) (w2 : Value) (w3 : Value) (w6 : Value) (w7 : Value) (w8 : Value) (w9 : Value) (w10 : Value) (w11 : Value) (w12 : Value) (w13 : Value) (w14 : Value) (w15 : Value) (w16 : Value) (w17 : Value) (w18 : Value) (w19 : Value) (w20 : Value) (w21 : Value) (w22 : Value) (w23 : Value) (w24 : Value) (w25 : Value) (w26 : Value) (w27 : Value) (w28 : Value) (w29 : Value) (w30 : Value) (w31 : Value) (w32 : Value) (w33 : Value) (w34 : Value) (w35 : Value) (w36 : Value) (w37 : Value) (w38 : Value) (nl : Nat) (nh : Nat) (sq : Int32) (lo : Int32) (hi : Int32) (gl : Nat → Int32) (gh : Nat → Int32) (hq : vp_in sq 48) (h1 : lo ≤ gl sq.toNatClampNeg) (h2 : gh sq.toNatClampNeg ≤ hi) : Met l yX11_meet wsX11_meet ({ frames := 0, cells := 0, slots := 0, locals := 0 }) (pw (dC, dI) [(cI, .int)] [(qm, .inr (11, [w0, w1, w2, w3, .ref nl, .ref nh, w6, w7, w8, w9, w10, w11, w12, w13, w14, w15, w16, w17, w18, w19, w20, w21, w22, w23, w24, w25, w26, w27, w28, w29, w30, w31, w32, w33, w34, w35, w36, w37, w38])), (nl, .inl (cI, 48, .inl gl)), (nh, .inl (cI, 48, .inl gh))] sz [.ref qm, .int sq, .int lo, .int hi]) (va_Sv (fun _ => True)) 0 0 (fun _ => False) := by
  refine pw_met (cc := cX11_meet) (maxL := 4) (ret := none) (by decide) rfl (Nat.le_of_ble_eq_true rfl) ?_
  intro p e s m below meth c0 hx hb hr hml hown hlocks hnm hts hP hK hD hN hsz hA hS ls hl
  have hl : lv_has ls 4 [(0, .ref qm), (1, .int sq), (2, .int lo), (3, .int hi)] := hl
  have hiX11 : ∀ w ∈ wsX110, w ∈ wsX11_meet := by decide +kernel
  refine lv_iload_n hx hb dX11_meet_0 rfl (lv_at hl 2 rfl) ?_
  refine lv_aload_n hx hb dX11_meet_1 rfl (lv_at hl 0 rfl) ?_
  refine va_get (D := (dC, dI)) (ci := 11) (v := .ref nl) (C := RX11) (T := TX11) (N := 39) hx hb hts hiX11 hown hK hP 0 rfl rfl 4 (by decide) (hts (.fieldLink RX11 16 "TributePitchesModel" "newLow" "[I") (by decide +kernel)) (fun _ h9 => h9) rfl dX11_meet_2 ?_
  refine lv_iload_n hx hb dX11_meet_5 rfl (lv_at hl 1 rfl) ?_
  refine va_iald hx hb hK hP 1 0 rfl rfl hq dX11_meet_6 ?_
  refine lv_icmp_le (tgt := 22) hx hb dX11_meet_7 (by decide) (fun c1 => ?_) (fun c1 => ?_)
  · skip
    refine lv_iload_n hx hb dX11_meet_22 rfl (lv_at hl 3 rfl) ?_
    refine lv_aload_n hx hb dX11_meet_23 rfl (lv_at hl 0 rfl) ?_
    refine va_get (D := (dC, dI)) (ci := 11) (v := .ref nh) (C := RX11) (T := TX11) (N := 39) hx hb hts hiX11 hown hK hP 0 rfl rfl 5 (by decide) (hts (.fieldLink RX11 19 "TributePitchesModel" "newHigh" "[I") (by decide +kernel)) (fun _ h9 => h9) rfl dX11_meet_24 ?_
    refine lv_iload_n hx hb dX11_meet_27 rfl (lv_at hl 1 rfl) ?_
    refine va_iald hx hb hK hP 2 0 rfl rfl hq dX11_meet_28 ?_
    refine lv_icmp_ge (tgt := 44) hx hb dX11_meet_29 (by decide) (fun c2 => ?_) (fun c2 => ?_)
    · skip
      exact W.vret hx hb hr (fun t ht hW => ⟨rfl, trivial, ht⟩) (fun q h => absurd h List.not_mem_nil) dX11_meet_44
    · exact absurd c2 (not_not_intro h2)
  · exact absurd c1 (not_not_intro h1)
