set_option maxHeartbeats 4000000 in
set_option maxRecDepth 100000 in
theorem c_X7_init (l : Launch) (dC : Nat → ClassId) (dI : Nat → Nat → Nat) (cI : ClassId) (sz : Nat) (qs : Nat)  : Met l yX7_init wsX7_init ({ frames := 1, cells := 1, slots := 48, locals := 12 }) (pw (dC, dI) [(cI, .int)] [(qs, .inr (7, [.null, .int 0, .int 0]))] sz [.ref qs]) (va_Qv (fun (_ : Unit) => True) (fun _ t => ∃ qc : Nat, bw (dC, dI) [(cI, .int)] (va_A [(qs, .inr (7, [.null, .int 0, .int 0]))] sz) [(qs, .inr (7, [.ref qc, .int (-1), .int 0])), (qc, .inl (cI, 48, .inl (fun _ => 0)))] t) (va_A [(qs, .inr (7, [.null, .int 0, .int 0]))] sz)) 1 48 (va_A [(qs, .inr (7, [.null, .int 0, .int 0]))] sz) := by
  refine pw_met (cc := cX7_init) (maxL := 1) (ret := none) (by decide) rfl (Nat.le_of_ble_eq_true rfl) ?_
  intro p e s m below meth c0 hx hb hr hml hown hlocks hnm hts hP hK hD hN hsz hA hS ls hl
  subst hsz
  have hl : lv_has ls 1 [(0, .ref qs)] := hl
  have hiX7 : ∀ w ∈ wsX70, w ∈ wsX7_init := by decide +kernel
  refine lv_aload_n hx hb dX7_init_0 rfl (lv_at hl 0 rfl) ?_
  refine W.objInit hx hb hown (hts (.methodLink RX7 3 objectInit) (by decide +kernel)) (hts (.instanceMethod objectInit) (by decide +kernel)) (hts _ (List.mem_of_getElem? (i := 3) rfl)) rfl (by rw [hml]; exact hl.1) rfl dX7_init_1 (Nat.le_of_ble_eq_true rfl) (Nat.le_of_ble_eq_true rfl) ?_
  refine W.eq (g2 := F0 m 4 ls []) rfl ?_
  refine lv_aload_n hx hb dX7_init_4 rfl (lv_at hl 0 rfl) ?_
  refine lv_bipush (v := 48) hx hb dX7_init_5 (by decide) ?_
  refine va_newa (atype := .int) (ty := .int) (N' := 48) (a0 := (48, .inl (fun _ => 0))) hx hb (hts (.arrayClass .int) (by decide +kernel)) rfl hK hP hD hS hA (fun _ => rfl) (by decide) (by decide) (Nat.le_of_ble_eq_true rfl) (Nat.le_of_ble_eq_true rfl) (Nat.le_of_ble_eq_true rfl) dX7_init_7 (fun qc cA1 H hK hP hD hS => ?_)
  have eA : cI = cA1 := ty_one hK 0 1 rfl rfl
  subst eA
  have hK : va_K (dC, dI) vwCl [(cI, .int)] s := hK.sub [0] rfl
  have hP : va_P (dC, dI) vwCl [(qs, .inr (7, [.null, .int 0, .int 0])), (qc, .inl (cI, 48, .inl (fun _ => 0)))] H := hP
  have hD : va_D _ [(qs, .inr (7, [.null, .int 0, .int 0])), (qc, .inl (cI, 48, .inl (fun _ => 0)))] := hD
  refine va_putF (D := (dC, dI)) (ci := 7) (v := .ref qc) (ty := .array .int) (C := RX7) (T := TX7) (N := 3) hx hb hts hiX7 tyX7 tyX7_ok nmX7 hown hK hP hD hS 0 rfl rfl 0 (by decide) (hts (.fieldLink RX7 11 "TributePitches$Sheet" "cells" "[I") (by decide +kernel)) (fun _ h9 => h9) rfl hnm rfl (by decide +kernel) rfl rfl (Nat.le_of_ble_eq_true rfl) dX7_init_9 (fun H locs hP hD hS => ?_)
  have hP : va_P (dC, dI) vwCl [(qs, .inr (7, [.ref qc, .int 0, .int 0])), (qc, .inl (cI, 48, .inl (fun _ => 0)))] H := hP
  have hD : va_D _ [(qs, .inr (7, [.ref qc, .int 0, .int 0])), (qc, .inl (cI, 48, .inl (fun _ => 0)))] := hD
  refine lv_aload_n hx hb dX7_init_12 rfl (lv_at hl 0 rfl) ?_
  refine lv_iconst (v := (-1)) hx hb dX7_init_13 (by decide) ?_
  refine va_put (D := (dC, dI)) (ci := 7) (v := .int (-1)) (ty := .int) (C := RX7) (T := TX7) (N := 3) hx hb hts hiX7 tyX7 tyX7_ok nmX7 hown hK hP hD hS 0 rfl rfl 1 (by decide) (hts (.fieldLink RX7 15 "TributePitches$Sheet" "lane" "I") (by decide +kernel)) (fun _ h9 => h9) rfl (by decide +kernel) rfl rfl (Nat.le_of_ble_eq_true rfl) dX7_init_14 (fun H locs hP hD hS => ?_)
  have hP : va_P (dC, dI) vwCl [(qs, .inr (7, [.ref qc, .int (-1), .int 0])), (qc, .inl (cI, 48, .inl (fun _ => 0)))] H := hP
  have hD : va_D _ [(qs, .inr (7, [.ref qc, .int (-1), .int 0])), (qc, .inl (cI, 48, .inl (fun _ => 0)))] := hD
  have hP9 := hP.sub (ws' := [(qs, .inr (7, [.ref qc, .int (-1), .int 0])), (qc, .inl (cI, 48, .inl (fun _ => 0)))]) [0, 1] rfl
  have hD9 := hD.sub (ws' := [(qs, .inr (7, [.ref qc, .int (-1), .int 0])), (qc, .inl (cI, 48, .inl (fun _ => 0)))]) [0, 1] (by decide) rfl
  have hK9 := hK.sub (tys' := [(cI, .int)]) [0] rfl
  exact W.vret hx hb hr (fun t ht hW => ⟨⟨(), rfl, trivial, ⟨qc, by rw [ht]; exact hP9, va_K.moved hW.alike hK9, hD9⟩⟩, hS.F ht⟩) hS.2.2 dX7_init_17
