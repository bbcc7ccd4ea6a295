set_option maxHeartbeats 4000000 in
set_option maxRecDepth 100000 in
theorem c_X9_init (l : Launch) (dC : Nat → ClassId) (dI : Nat → Nat → Nat)  (sz : Nat) (qt : Nat)  : Met l yX9_init wsX9_init ({ frames := 1, cells := 0, slots := 0, locals := 12 }) (pw (dC, dI) [] [(qt, .inr (9, [.int 0]))] sz [.ref qt]) (va_Qv (fun (_ : Unit) => True) (fun _ t => bw (dC, dI) [] (va_A [(qt, .inr (9, [.int 0]))] sz) [(qt, .inr (9, [.int 0]))] t) (va_A [(qt, .inr (9, [.int 0]))] sz)) 0 0 (va_A [(qt, .inr (9, [.int 0]))] sz) := by
  refine pw_met (cc := cX9_init) (maxL := 1) (ret := none) (by decide) rfl (Nat.le_of_ble_eq_true rfl) ?_
  intro p e s m below meth c0 hx hb hr hml hown hlocks hnm hts hP hK hD hN hsz hA hS ls hl
  subst hsz
  have hl : lv_has ls 1 [(0, .ref qt)] := hl
  generalize hQ : MQ _ _ _ _ _ _ _ = Q
  refine lv_aload_n hx hb dX9_init_0 rfl (lv_at hl 0 rfl) ?_
  refine W.objInit hx hb hown (hts (.methodLink RX9 1 objectInit) (by decide +kernel)) (hts (.instanceMethod objectInit) (by decide +kernel)) (hts _ (List.mem_of_getElem? (i := 3) rfl)) rfl (by rw [hml]; exact hl.1) rfl dX9_init_1 (Nat.le_of_ble_eq_true rfl) (Nat.le_of_ble_eq_true rfl) ?_
  refine W.eq (g2 := F0 m 4 ls []) rfl ?_
  rw [← hQ]
  have hP9 := hP.sub (ws' := [(qt, .inr (9, [.int 0]))]) [0] rfl
  have hD9 := hD.sub (ws' := [(qt, .inr (9, [.int 0]))]) [0] (by decide) rfl
  have hK9 := hK.sub (tys' := []) [] rfl
  exact W.vret hx hb hr (fun t ht hW => ⟨⟨(), rfl, trivial, ⟨by rw [ht]; exact hP9, va_K.moved hW.alike hK9, hD9⟩⟩, hS.F ht⟩) hS.2.2 dX9_init_4
set_option maxHeartbeats 4000000 in
set_option maxRecDepth 100000 in
theorem c_X7_init (l : Launch) (dC : Nat → ClassId) (dI : Nat → Nat → Nat) (cI : ClassId) (sz : Nat) (qs : Nat)  : Met l yX7_init wsX7_init ({ frames := 1, cells := 1, slots := 48, locals := 12 }) (pw (dC, dI) [(cI, .int)] [(qs, .inr (7, [.null, .int 0, .int 0]))] sz [.ref qs]) (va_Qv (fun (_ : Unit) => True) (fun _ t => ∃ qc : Nat, bw (dC, dI) [(cI, .int)] (va_A [(qs, .inr (7, [.null, .int 0, .int 0]))] sz) [(qs, .inr (7, [.ref qc, .int (-1), .int 0])), (qc, .inl (cI, 48, .inl (fun _ => 0)))] t) (va_A [(qs, .inr (7, [.null, .int 0, .int 0]))] sz)) 1 48 (va_A [(qs, .inr (7, [.null, .int 0, .int 0]))] sz) := by
  refine pw_met (cc := cX7_init) (maxL := 1) (ret := none) (by decide) rfl (Nat.le_of_ble_eq_true rfl) ?_
  intro p e s m below meth c0 hx hb hr hml hown hlocks hnm hts hP hK hD hN hsz hA hS ls hl
  subst hsz
  have hl : lv_has ls 1 [(0, .ref qs)] := hl
  have hiX7 : ∀ w ∈ wsX70, w ∈ wsX7_init := by decide +kernel
  generalize hQ : MQ _ _ _ _ _ _ _ = Q
  refine lv_aload_n hx hb dX7_init_0 rfl (lv_at hl 0 rfl) ?_
  refine W.objInit hx hb hown (hts (.methodLink RX7 3 objectInit) (by decide +kernel)) (hts (.instanceMethod objectInit) (by decide +kernel)) (hts _ (List.mem_of_getElem? (i := 3) rfl)) rfl (by rw [hml]; exact hl.1) rfl dX7_init_1 (Nat.le_of_ble_eq_true rfl) (Nat.le_of_ble_eq_true rfl) ?_
  refine W.eq (g2 := F0 m 4 ls []) rfl ?_
  refine lv_aload_n hx hb dX7_init_4 rfl (lv_at hl 0 rfl) ?_
  refine lv_bipush (v := 48) hx hb dX7_init_5 (by decide) ?_
  refine va_newa (atype := .int) (ty := .int) (N' := 48) (a0 := (48, .inl (fun _ => 0))) hx hb (hts (.arrayClass .int) (by decide +kernel)) rfl hK hP hD hS hA (fun _ => rfl) (by decide) (by decide) (Nat.le_of_ble_eq_true rfl) (Nat.le_of_ble_eq_true rfl) (Nat.le_of_ble_eq_true rfl) dX7_init_7 (fun qc cA1 H hK hP hD hS => ?_)
  have eA : cI = cA1 := ty_one hK 0 1 rfl rfl
  subst eA
  have hK : va_K (dC, dI) vwCl [(cI, .int)] s := hK.sub [0] rfl
  have hP : va_P (dC, dI) vwCl [(qs, .inr (7, [.null, .int 0, .int 0])), (qc, .inl (cI, 48, .inl (fun _ => 0)))] H := hP
  have hD : va_D _ [(qs, .inr (7, [.null, .int 0, .int 0])), (qc, .inl (cI, 48, .inl (fun _ => 0)))] := hD
  refine va_putF (D := (dC, dI)) (ci := 7) (v := .ref qc) (ty := .array .int) (C := RX7) (T := TX7) (N := 3) hx hb hts hiX7 tyX7 tyX7_ok nmX7 hown hK hP hD hS 0 rfl rfl 0 (by decide) (hts (.fieldLink RX7 11 "TributePitches$Sheet" "cells" "[I") (by decide +kernel)) (fun _ h9 => h9) rfl hnm rfl (by decide +kernel) rfl rfl (Nat.le_of_ble_eq_true rfl) dX7_init_9 (fun H locs hP hD hS => ?_)
  have hP : va_P (dC, dI) vwCl [(qs, .inr (7, [.ref qc, .int 0, .int 0])), (qc, .inl (cI, 48, .inl (fun _ => 0)))] H := hP
  have hD : va_D _ [(qs, .inr (7, [.ref qc, .int 0, .int 0])), (qc, .inl (cI, 48, .inl (fun _ => 0)))] := hD
  refine lv_aload_n hx hb dX7_init_12 rfl (lv_at hl 0 rfl) ?_
  refine lv_iconst (v := (-1)) hx hb dX7_init_13 (by decide) ?_
  refine va_put (D := (dC, dI)) (ci := 7) (v := .int (-1)) (ty := .int) (C := RX7) (T := TX7) (N := 3) hx hb hts hiX7 tyX7 tyX7_ok nmX7 hown hK hP hD hS 0 rfl rfl 1 (by decide) (hts (.fieldLink RX7 15 "TributePitches$Sheet" "lane" "I") (by decide +kernel)) (fun _ h9 => h9) rfl (by decide +kernel) rfl rfl (Nat.le_of_ble_eq_true rfl) dX7_init_14 (fun H locs hP hD hS => ?_)
  have hP : va_P (dC, dI) vwCl [(qs, .inr (7, [.ref qc, .int (-1), .int 0])), (qc, .inl (cI, 48, .inl (fun _ => 0)))] H := hP
  have hD : va_D _ [(qs, .inr (7, [.ref qc, .int (-1), .int 0])), (qc, .inl (cI, 48, .inl (fun _ => 0)))] := hD
  rw [← hQ]
  have hP9 := hP.sub (ws' := [(qs, .inr (7, [.ref qc, .int (-1), .int 0])), (qc, .inl (cI, 48, .inl (fun _ => 0)))]) [0, 1] rfl
  have hD9 := hD.sub (ws' := [(qs, .inr (7, [.ref qc, .int (-1), .int 0])), (qc, .inl (cI, 48, .inl (fun _ => 0)))]) [0, 1] (by decide) rfl
  have hK9 := hK.sub (tys' := [(cI, .int)]) [0] rfl
  exact W.vret hx hb hr (fun t ht hW => ⟨⟨(), rfl, trivial, ⟨qc, by rw [ht]; exact hP9, va_K.moved hW.alike hK9, hD9⟩⟩, hS.F ht⟩) hS.2.2 dX7_init_17
set_option maxHeartbeats 4000000 in
set_option maxRecDepth 100000 in
theorem c_X3_init (l : Launch) (dC : Nat → ClassId) (dI : Nat → Nat → Nat)  (sz : Nat) (ql : Nat)  : Met l yX3_init wsX3_init ({ frames := 1, cells := 4, slots := 192, locals := 30 }) (pw (dC, dI) [] [(ql, .inr (3, [.null, .null, .null, .null, .int 0]))] sz [.ref ql]) (va_Qv (fun (_ : Unit) => True) (fun _ t => ∃ cI : ClassId, ∃ lw : Nat, ∃ hg : Nat, ∃ tl : Nat, ∃ th : Nat, bw (dC, dI) [(cI, .int)] (va_A [(ql, .inr (3, [.null, .null, .null, .null, .int 0]))] sz) [(ql, .inr (3, [.ref lw, .ref hg, .ref tl, .ref th, .int 1000])), (lw, .inl (cI, 48, .inl (fun _ => 0))), (hg, .inl (cI, 48, .inl (fun _ => 1000))), (tl, .inl (cI, 48, .inl (fun _ => 0))), (th, .inl (cI, 48, .inl (fun _ => 0)))] t) (va_A [(ql, .inr (3, [.null, .null, .null, .null, .int 0]))] sz)) 4 192 (va_A [(ql, .inr (3, [.null, .null, .null, .null, .int 0]))] sz) := by
  refine pw_met (cc := cX3_init) (maxL := 1) (ret := none) (by decide) rfl (Nat.le_of_ble_eq_true rfl) ?_
  intro p e s m below meth c0 hx hb hr hml hown hlocks hnm hts hP hK hD hN hsz hA hS ls hl
  subst hsz
  have hl : lv_has ls 1 [(0, .ref ql)] := hl
  have hiX3 : ∀ w ∈ wsX30, w ∈ wsX3_init := by decide +kernel
  generalize hQ : MQ _ _ _ _ _ _ _ = Q
  refine lv_aload_n hx hb dX3_init_0 rfl (lv_at hl 0 rfl) ?_
  refine W.objInit hx hb hown (hts (.methodLink RX3 5 objectInit) (by decide +kernel)) (hts (.instanceMethod objectInit) (by decide +kernel)) (hts _ (List.mem_of_getElem? (i := 3) rfl)) rfl (by rw [hml]; exact hl.1) rfl dX3_init_1 (Nat.le_of_ble_eq_true rfl) (Nat.le_of_ble_eq_true rfl) ?_
  refine W.eq (g2 := F0 m 4 ls []) rfl ?_
  refine lv_aload_n hx hb dX3_init_4 rfl (lv_at hl 0 rfl) ?_
  refine lv_bipush (v := 48) hx hb dX3_init_5 (by decide) ?_
  refine va_newa (atype := .int) (ty := .int) (N' := 48) (a0 := (48, .inl (fun _ => 0))) hx hb (hts (.arrayClass .int) (by decide +kernel)) rfl hK hP hD hS hA (fun _ => rfl) (by decide) (by decide) (Nat.le_of_ble_eq_true rfl) (Nat.le_of_ble_eq_true rfl) (Nat.le_of_ble_eq_true rfl) dX3_init_7 (fun lw cI H hK hP hD hS => ?_)
  have hK : va_K (dC, dI) vwCl [(cI, .int)] s := hK
  have hP : va_P (dC, dI) vwCl [(ql, .inr (3, [.null, .null, .null, .null, .int 0])), (lw, .inl (cI, 48, .inl (fun _ => 0)))] H := hP
  have hD : va_D _ [(ql, .inr (3, [.null, .null, .null, .null, .int 0])), (lw, .inl (cI, 48, .inl (fun _ => 0)))] := hD
  refine va_putF (D := (dC, dI)) (ci := 3) (v := .ref lw) (ty := .array .int) (C := RX3) (T := TX3) (N := 5) hx hb hts hiX3 tyX3 tyX3_ok nmX3 hown hK hP hD hS 0 rfl rfl 0 (by decide) (hts (.fieldLink RX3 11 "TributePitches$Lode" "lows" "[I") (by decide +kernel)) (fun _ h9 => h9) rfl hnm rfl (by decide +kernel) rfl rfl (Nat.le_of_ble_eq_true rfl) dX3_init_9 (fun H locs hP hD hS => ?_)
  have hP : va_P (dC, dI) vwCl [(ql, .inr (3, [.ref lw, .null, .null, .null, .int 0])), (lw, .inl (cI, 48, .inl (fun _ => 0)))] H := hP
  have hD : va_D _ [(ql, .inr (3, [.ref lw, .null, .null, .null, .int 0])), (lw, .inl (cI, 48, .inl (fun _ => 0)))] := hD
  refine lv_aload_n hx hb dX3_init_12 rfl (lv_at hl 0 rfl) ?_
  refine lv_bipush (v := 48) hx hb dX3_init_13 (by decide) ?_
  refine va_newa (atype := .int) (ty := .int) (N' := 48) (a0 := (48, .inl (fun _ => 0))) hx hb (hts (.arrayClass .int) (by decide +kernel)) rfl hK hP hD hS hA (fun _ => rfl) (by decide) (by decide) (Nat.le_of_ble_eq_true rfl) (Nat.le_of_ble_eq_true rfl) (Nat.le_of_ble_eq_true rfl) dX3_init_15 (fun hg cA1 H hK hP hD hS => ?_)
  have eA : cI = cA1 := ty_one hK 0 1 rfl rfl
  subst eA
  have hK : va_K (dC, dI) vwCl [(cI, .int)] s := hK.sub [0] rfl
  have hP : va_P (dC, dI) vwCl [(ql, .inr (3, [.ref lw, .null, .null, .null, .int 0])), (lw, .inl (cI, 48, .inl (fun _ => 0))), (hg, .inl (cI, 48, .inl (fun _ => 0)))] H := hP
  have hD : va_D _ [(ql, .inr (3, [.ref lw, .null, .null, .null, .int 0])), (lw, .inl (cI, 48, .inl (fun _ => 0))), (hg, .inl (cI, 48, .inl (fun _ => 0)))] := hD
  refine va_putF (D := (dC, dI)) (ci := 3) (v := .ref hg) (ty := .array .int) (C := RX3) (T := TX3) (N := 5) hx hb hts hiX3 tyX3 tyX3_ok nmX3 hown hK hP hD hS 0 rfl rfl 1 (by decide) (hts (.fieldLink RX3 15 "TributePitches$Lode" "highs" "[I") (by decide +kernel)) (fun _ h9 => h9) rfl hnm rfl (by decide +kernel) rfl rfl (Nat.le_of_ble_eq_true rfl) dX3_init_17 (fun H locs hP hD hS => ?_)
  have hP : va_P (dC, dI) vwCl [(ql, .inr (3, [.ref lw, .ref hg, .null, .null, .int 0])), (lw, .inl (cI, 48, .inl (fun _ => 0))), (hg, .inl (cI, 48, .inl (fun _ => 0)))] H := hP
  have hD : va_D _ [(ql, .inr (3, [.ref lw, .ref hg, .null, .null, .int 0])), (lw, .inl (cI, 48, .inl (fun _ => 0))), (hg, .inl (cI, 48, .inl (fun _ => 0)))] := hD
  refine lv_aload_n hx hb dX3_init_20 rfl (lv_at hl 0 rfl) ?_
  refine lv_bipush (v := 48) hx hb dX3_init_21 (by decide) ?_
  refine va_newa (atype := .int) (ty := .int) (N' := 48) (a0 := (48, .inl (fun _ => 0))) hx hb (hts (.arrayClass .int) (by decide +kernel)) rfl hK hP hD hS hA (fun _ => rfl) (by decide) (by decide) (Nat.le_of_ble_eq_true rfl) (Nat.le_of_ble_eq_true rfl) (Nat.le_of_ble_eq_true rfl) dX3_init_23 (fun tl cA2 H hK hP hD hS => ?_)
  have eA : cI = cA2 := ty_one hK 0 1 rfl rfl
  subst eA
  have hK : va_K (dC, dI) vwCl [(cI, .int)] s := hK.sub [0] rfl
  have hP : va_P (dC, dI) vwCl [(ql, .inr (3, [.ref lw, .ref hg, .null, .null, .int 0])), (lw, .inl (cI, 48, .inl (fun _ => 0))), (hg, .inl (cI, 48, .inl (fun _ => 0))), (tl, .inl (cI, 48, .inl (fun _ => 0)))] H := hP
  have hD : va_D _ [(ql, .inr (3, [.ref lw, .ref hg, .null, .null, .int 0])), (lw, .inl (cI, 48, .inl (fun _ => 0))), (hg, .inl (cI, 48, .inl (fun _ => 0))), (tl, .inl (cI, 48, .inl (fun _ => 0)))] := hD
  refine va_putF (D := (dC, dI)) (ci := 3) (v := .ref tl) (ty := .array .int) (C := RX3) (T := TX3) (N := 5) hx hb hts hiX3 tyX3 tyX3_ok nmX3 hown hK hP hD hS 0 rfl rfl 2 (by decide) (hts (.fieldLink RX3 18 "TributePitches$Lode" "triedLows" "[I") (by decide +kernel)) (fun _ h9 => h9) rfl hnm rfl (by decide +kernel) rfl rfl (Nat.le_of_ble_eq_true rfl) dX3_init_25 (fun H locs hP hD hS => ?_)
  have hP : va_P (dC, dI) vwCl [(ql, .inr (3, [.ref lw, .ref hg, .ref tl, .null, .int 0])), (lw, .inl (cI, 48, .inl (fun _ => 0))), (hg, .inl (cI, 48, .inl (fun _ => 0))), (tl, .inl (cI, 48, .inl (fun _ => 0)))] H := hP
  have hD : va_D _ [(ql, .inr (3, [.ref lw, .ref hg, .ref tl, .null, .int 0])), (lw, .inl (cI, 48, .inl (fun _ => 0))), (hg, .inl (cI, 48, .inl (fun _ => 0))), (tl, .inl (cI, 48, .inl (fun _ => 0)))] := hD
  refine lv_aload_n hx hb dX3_init_28 rfl (lv_at hl 0 rfl) ?_
  refine lv_bipush (v := 48) hx hb dX3_init_29 (by decide) ?_
  refine va_newa (atype := .int) (ty := .int) (N' := 48) (a0 := (48, .inl (fun _ => 0))) hx hb (hts (.arrayClass .int) (by decide +kernel)) rfl hK hP hD hS hA (fun _ => rfl) (by decide) (by decide) (Nat.le_of_ble_eq_true rfl) (Nat.le_of_ble_eq_true rfl) (Nat.le_of_ble_eq_true rfl) dX3_init_31 (fun th cA3 H hK hP hD hS => ?_)
  have eA : cI = cA3 := ty_one hK 0 1 rfl rfl
  subst eA
  have hK : va_K (dC, dI) vwCl [(cI, .int)] s := hK.sub [0] rfl
  have hP : va_P (dC, dI) vwCl [(ql, .inr (3, [.ref lw, .ref hg, .ref tl, .null, .int 0])), (lw, .inl (cI, 48, .inl (fun _ => 0))), (hg, .inl (cI, 48, .inl (fun _ => 0))), (tl, .inl (cI, 48, .inl (fun _ => 0))), (th, .inl (cI, 48, .inl (fun _ => 0)))] H := hP
  have hD : va_D _ [(ql, .inr (3, [.ref lw, .ref hg, .ref tl, .null, .int 0])), (lw, .inl (cI, 48, .inl (fun _ => 0))), (hg, .inl (cI, 48, .inl (fun _ => 0))), (tl, .inl (cI, 48, .inl (fun _ => 0))), (th, .inl (cI, 48, .inl (fun _ => 0)))] := hD
  refine va_putF (D := (dC, dI)) (ci := 3) (v := .ref th) (ty := .array .int) (C := RX3) (T := TX3) (N := 5) hx hb hts hiX3 tyX3 tyX3_ok nmX3 hown hK hP hD hS 0 rfl rfl 3 (by decide) (hts (.fieldLink RX3 21 "TributePitches$Lode" "triedHighs" "[I") (by decide +kernel)) (fun _ h9 => h9) rfl hnm rfl (by decide +kernel) rfl rfl (Nat.le_of_ble_eq_true rfl) dX3_init_33 (fun H locs hP hD hS => ?_)
  have hP : va_P (dC, dI) vwCl [(ql, .inr (3, [.ref lw, .ref hg, .ref tl, .ref th, .int 0])), (lw, .inl (cI, 48, .inl (fun _ => 0))), (hg, .inl (cI, 48, .inl (fun _ => 0))), (tl, .inl (cI, 48, .inl (fun _ => 0))), (th, .inl (cI, 48, .inl (fun _ => 0)))] H := hP
  have hD : va_D _ [(ql, .inr (3, [.ref lw, .ref hg, .ref tl, .ref th, .int 0])), (lw, .inl (cI, 48, .inl (fun _ => 0))), (hg, .inl (cI, 48, .inl (fun _ => 0))), (tl, .inl (cI, 48, .inl (fun _ => 0))), (th, .inl (cI, 48, .inl (fun _ => 0)))] := hD
  refine lv_aload_n hx hb dX3_init_36 rfl (lv_at hl 0 rfl) ?_
  refine lv_sipush (v := 1000) hx hb dX3_init_37 (by decide) ?_
  refine va_put (D := (dC, dI)) (ci := 3) (v := .int 1000) (ty := .int) (C := RX3) (T := TX3) (N := 5) hx hb hts hiX3 tyX3 tyX3_ok nmX3 hown hK hP hD hS 0 rfl rfl 4 (by decide) (hts (.fieldLink RX3 24 "TributePitches$Lode" "law" "I") (by decide +kernel)) (fun _ h9 => h9) rfl (by decide +kernel) rfl rfl (Nat.le_of_ble_eq_true rfl) dX3_init_40 (fun H locs hP hD hS => ?_)
  have hP : va_P (dC, dI) vwCl [(ql, .inr (3, [.ref lw, .ref hg, .ref tl, .ref th, .int 1000])), (lw, .inl (cI, 48, .inl (fun _ => 0))), (hg, .inl (cI, 48, .inl (fun _ => 0))), (tl, .inl (cI, 48, .inl (fun _ => 0))), (th, .inl (cI, 48, .inl (fun _ => 0)))] H := hP
  have hD : va_D _ [(ql, .inr (3, [.ref lw, .ref hg, .ref tl, .ref th, .int 1000])), (lw, .inl (cI, 48, .inl (fun _ => 0))), (hg, .inl (cI, 48, .inl (fun _ => 0))), (tl, .inl (cI, 48, .inl (fun _ => 0))), (th, .inl (cI, 48, .inl (fun _ => 0)))] := hD
  refine lv_aload_n hx hb dX3_init_43 rfl (lv_at hl 0 rfl) ?_
  refine va_get (D := (dC, dI)) (ci := 3) (v := .ref hg) (C := RX3) (T := TX3) (N := 5) hx hb hts hiX3 hown hK hP 0 rfl rfl 1 (by decide) (hts (.fieldLink RX3 15 "TributePitches$Lode" "highs" "[I") (by decide +kernel)) (fun _ h9 => h9) rfl dX3_init_44 ?_
  refine lv_sipush (v := 1000) hx hb dX3_init_47 (by decide) ?_
  have hPc := hP.sub (ws' := [(hg, .inl (cI, 48, .inl (fun _ => 0)))]) [2] rfl
  have hDc := hD.sub (ws' := [(hg, .inl (cI, 48, .inl (fun _ => 0)))]) [2] (by decide) rfl
  have hKc := hK.sub (tys' := [(cI, .int)]) [0] rfl
  have hFc := va_free (wc := [(hg, .inl (cI, 48, .inl (fun _ => 0)))]) hD hS hA [2] rfl
  refine va_callv (va_runS (As := [.ref hg, .int 1000]) (rest := []) ⟨hx, hb, hml, hown, hts⟩ (c_J7_fill l dC dI cI _ hg 1000 (fun _ => 0) ) (va_cwS 2 hts gX3_init_J7_fill_53178 rfl rfl rfl (by decide +kernel) ⟨Nat.le_of_ble_eq_true rfl, Nat.le_of_ble_eq_true rfl⟩) (pw_preS hPc hKc hDc hN) rfl rfl hl.1 rfl (lv_room (Nat.le_of_ble_eq_true rfl)) dX3_init_50 ⟨Nat.le_of_ble_eq_true rfl, Nat.le_of_ble_eq_true rfl⟩) hS (fun q _ h => hFc q h) hFc (fun u t H1 locs ht hvm hw hB hz1 hk1 hS => ?_)
  obtain ⟨hP1, hK1, hD1⟩ := hB
  rw [ht] at hP1
  obtain ⟨hP, hD⟩ := va_join (wr := [(ql, .inr (3, [.ref lw, .ref hg, .ref tl, .ref th, .int 1000])), (lw, .inl (cI, 48, .inl (fun _ => 0))), (tl, .inl (cI, 48, .inl (fun _ => 0))), (th, .inl (cI, 48, .inl (fun _ => 0)))]) (w1 := [(hg, .inl (cI, 48, .inl (fun _ => 1000)))]) hP hD [2] [0, 1, 3, 4] rfl rfl (by decide) (by decide) hk1 hFc hP1 hD1
  generalize H1 = H at hP hS ⊢
  have hP : va_P (dC, dI) vwCl [(ql, .inr (3, [.ref lw, .ref hg, .ref tl, .ref th, .int 1000])), (lw, .inl (cI, 48, .inl (fun _ => 0))), (tl, .inl (cI, 48, .inl (fun _ => 0))), (th, .inl (cI, 48, .inl (fun _ => 0))), (hg, .inl (cI, 48, .inl (fun _ => 1000)))] H := hP
  have hD : va_D _ [(ql, .inr (3, [.ref lw, .ref hg, .ref tl, .ref th, .int 1000])), (lw, .inl (cI, 48, .inl (fun _ => 0))), (tl, .inl (cI, 48, .inl (fun _ => 0))), (th, .inl (cI, 48, .inl (fun _ => 0))), (hg, .inl (cI, 48, .inl (fun _ => 1000)))] := hD
  rw [← hQ]
  have hP9 := hP.sub (ws' := [(ql, .inr (3, [.ref lw, .ref hg, .ref tl, .ref th, .int 1000])), (lw, .inl (cI, 48, .inl (fun _ => 0))), (hg, .inl (cI, 48, .inl (fun _ => 1000))), (tl, .inl (cI, 48, .inl (fun _ => 0))), (th, .inl (cI, 48, .inl (fun _ => 0)))]) [0, 1, 4, 2, 3] rfl
  have hD9 := hD.sub (ws' := [(ql, .inr (3, [.ref lw, .ref hg, .ref tl, .ref th, .int 1000])), (lw, .inl (cI, 48, .inl (fun _ => 0))), (hg, .inl (cI, 48, .inl (fun _ => 1000))), (tl, .inl (cI, 48, .inl (fun _ => 0))), (th, .inl (cI, 48, .inl (fun _ => 0)))]) [0, 1, 4, 2, 3] (by decide) rfl
  have hK9 := hK.sub (tys' := [(cI, .int)]) [0] rfl
  exact W.vret hx hb hr (fun t ht hW => ⟨⟨(), rfl, trivial, ⟨cI, lw, hg, tl, th, by rw [ht]; exact hP9, va_K.moved hW.alike hK9, hD9⟩⟩, hS.F ht⟩) hS.2.2 dX3_init_53
