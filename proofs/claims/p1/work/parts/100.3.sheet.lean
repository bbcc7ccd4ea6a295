set_option maxHeartbeats 4000000 in
set_option maxRecDepth 100000 in
theorem c_X11_sheet (l : Launch) (dC : Nat → ClassId) (dI : Nat → Nat → Nat) (cI : ClassId) (sz : Nat) (qm : Nat) (w0 : Value) (w1 : Value) (w2 : Value) (w3 : Value) (w4 : Value) (w5 : Value) (w6 : Value) (w10 : Value) (w11 : Value) (w12 : Value) (w13 : Value) (w14 : Value) (w15 : Value) (w16 : Value) (w17 : Value) (w18 : Value) (w19 : Value) (w20 : Value) (w21 : Value) (w22 : Value) (w23 : Value) (w24 : Value) (w25 : Value) (w26 : Value) (w27 : Value) (w28 : Value) (w29 : Value) (w30 : Value) (w31 : Value) (w32 : Value) (w33 : Value) (w34 : Value) (w35 : Value) (w36 : Value) (w37 : Value) (w38 : Value) (ss : Nat) (sl : Nat) (sa : Nat) (k : Int32) (ln : Int32) (n : Int32)  : Met l yX11_sheet wsX11_sheet ({ frames := 3, cells := 0, slots := 0, locals := 90 }) (pw (dC, dI) [(cI, .int)] [(qm, .inr (11, [w0, w1, w2, w3, w4, w5, w6, .ref ss, .ref sl, .ref sa, w10, w11, w12, w13, w14, w15, w16, w17, w18, w19, w20, w21, w22, w23, w24, w25, w26, w27, w28, w29, w30, w31, w32, w33, w34, w35, w36, w37, w38])), (ss, .inl (cI, 4, .inl (fun _ => (-1)))), (sl, .inl (cI, 4, .inl (fun _ => 0))), (sa, .inl (cI, 192, .inl (fun _ => 0)))] sz [.ref qm, .int k, .int ln, .int n]) (va_Qi (fun r (_ : Unit) => r = sp_sheet k ln n) (fun _ _ => True) (va_A [(qm, .inr (11, [w0, w1, w2, w3, w4, w5, w6, .ref ss, .ref sl, .ref sa, w10, w11, w12, w13, w14, w15, w16, w17, w18, w19, w20, w21, w22, w23, w24, w25, w26, w27, w28, w29, w30, w31, w32, w33, w34, w35, w36, w37, w38])), (ss, .inl (cI, 4, .inl (fun _ => (-1)))), (sl, .inl (cI, 4, .inl (fun _ => 0))), (sa, .inl (cI, 192, .inl (fun _ => 0)))] sz)) 0 0 (va_A [(qm, .inr (11, [w0, w1, w2, w3, w4, w5, w6, .ref ss, .ref sl, .ref sa, w10, w11, w12, w13, w14, w15, w16, w17, w18, w19, w20, w21, w22, w23, w24, w25, w26, w27, w28, w29, w30, w31, w32, w33, w34, w35, w36, w37, w38])), (ss, .inl (cI, 4, .inl (fun _ => (-1)))), (sl, .inl (cI, 4, .inl (fun _ => 0))), (sa, .inl (cI, 192, .inl (fun _ => 0)))] sz) := by
  refine pw_met (cc := cX11_sheet) (maxL := 5) (ret := (some .int)) (by decide) rfl (Nat.le_of_ble_eq_true rfl) ?_
  intro p e s m below meth c0 hx hb hr hml hown hlocks hnm hts hP hK hD hN hsz hA hS ls hl
  subst hsz
  have hl : lv_has ls 5 [(0, .ref qm), (1, .int k), (2, .int ln), (3, .int n)] := hl
  have hiX11 : ∀ w ∈ wsX110, w ∈ wsX11_sheet := by decide +kernel
  obtain ⟨Q, hQ⟩ : ∃ Q : State → Prop, Q = MQ below (va_Qi (fun r (_ : Unit) => r = sp_sheet k ln n) (fun _ _ => True) (va_A [(qm, .inr (11, [w0, w1, w2, w3, w4, w5, w6, .ref ss, .ref sl, .ref sa, w10, w11, w12, w13, w14, w15, w16, w17, w18, w19, w20, w21, w22, w23, w24, w25, w26, w27, w28, w29, w30, w31, w32, w33, w34, w35, w36, w37, w38])), (ss, .inl (cI, 4, .inl (fun _ => (-1)))), (sl, .inl (cI, 4, .inl (fun _ => 0))), (sa, .inl (cI, 192, .inl (fun _ => 0)))] s.heap.size)) ([.ref qm, .int k, .int ln, .int n] : List Value).toArray s 0 0 (va_A [(qm, .inr (11, [w0, w1, w2, w3, w4, w5, w6, .ref ss, .ref sl, .ref sa, w10, w11, w12, w13, w14, w15, w16, w17, w18, w19, w20, w21, w22, w23, w24, w25, w26, w27, w28, w29, w30, w31, w32, w33, w34, w35, w36, w37, w38])), (ss, .inl (cI, 4, .inl (fun _ => (-1)))), (sl, .inl (cI, 4, .inl (fun _ => 0))), (sa, .inl (cI, 192, .inl (fun _ => 0)))] s.heap.size) := ⟨_, rfl⟩
  rw [← hQ]
  refine lv_iload_n hx hb dX11_sheet_0 rfl (lv_at hl 1 rfl) ?_
  refine vp_callSi (va_Run.run (va_runS (As := [.int k]) (rest := []) ⟨hx, hb, hml, hown, hts⟩ (c_X11_noSheet l k ) (va_cwS 1 hts gX11_sheet_X11_noSheet rfl rfl rfl (by decide +kernel) ⟨Nat.le_of_ble_eq_true rfl, Nat.le_of_ble_eq_true rfl⟩) (p0_preS hN) rfl rfl hl.1 rfl (lv_room (Nat.le_of_ble_eq_true rfl)) dX11_sheet_1 ⟨Nat.le_of_ble_eq_true rfl, Nat.le_of_ble_eq_true rfl⟩)) (fun r1 hr1 => ?_)
  have hr1 : r1 = if ¬ (0 ≤ k ∧ k ≤ 3) then 1 else 0 := hr1
  refine lv_if_eq (tgt := 13) hx hb dX11_sheet_4 (by decide) (fun c2 => ?_) (fun c2 => ?_)
  · skip
    have c2 := (fa_bool_prop hr1).1.mp c2
    have c2 := Decidable.not_not.mp c2
    refine lv_iload_n hx hb dX11_sheet_13 rfl (lv_at hl 2 rfl) ?_
    refine lv_i2l (v := ln.toInt64) hx hb dX11_sheet_14 rfl ?_
    refine lv_lconst (v := 0) hx hb dX11_sheet_15 (by decide) ?_
    refine lv_ldc2 (v := 2) hx hb hown (hts (.constantLong RX11 151 (2)) (by decide +kernel)) dX11_sheet_16 ?_
    refine vp_callSi (va_Run.run (va_runS (As := [.long ln.toInt64, .long 0, .long 2]) (rest := []) ⟨hx, hb, hml, hown, hts⟩ (c_X11_in l ln.toInt64 0 2 ) (va_cwS 3 hts gX11_sheet_X11_in rfl rfl rfl (by decide +kernel) ⟨Nat.le_of_ble_eq_true rfl, Nat.le_of_ble_eq_true rfl⟩) (p0_preS hN) rfl rfl hl.1 rfl (lv_room (Nat.le_of_ble_eq_true rfl)) dX11_sheet_19 ⟨Nat.le_of_ble_eq_true rfl, Nat.le_of_ble_eq_true rfl⟩)) (fun r3 hr3 => ?_)
    have hr3 : r3 = if 0 ≤ ln.toInt64 ∧ ln.toInt64 ≤ 2 then 1 else 0 := hr3
    have hr3 := hr3.trans (in_w _ 0 2 (by decide) (by decide))
    refine lv_if_eq (tgt := 31) hx hb dX11_sheet_22 (by decide) (fun c4 => ?_) (fun c4 => ?_)
    · skip
      have c4 := (fa_bool_prop hr3).1.mp c4
      refine lv_aload_n hx hb dX11_sheet_31 rfl (lv_at hl 0 rfl) ?_
      refine lv_bipush (v := (-2)) hx hb dX11_sheet_32 (by decide) ?_
      have hPc := hP.sub (ws' := [(qm, .inr (11, [w0, w1, w2, w3, w4, w5, w6, .ref ss, .ref sl, .ref sa, w10, w11, w12, w13, w14, w15, w16, w17, w18, w19, w20, w21, w22, w23, w24, w25, w26, w27, w28, w29, w30, w31, w32, w33, w34, w35, w36, w37, w38]))]) [0] rfl
      have hDc := hD.sub (ws' := [(qm, .inr (11, [w0, w1, w2, w3, w4, w5, w6, .ref ss, .ref sl, .ref sa, w10, w11, w12, w13, w14, w15, w16, w17, w18, w19, w20, w21, w22, w23, w24, w25, w26, w27, w28, w29, w30, w31, w32, w33, w34, w35, w36, w37, w38]))]) [0] (by decide) rfl
      have hKc := hK.sub (tys' := []) [] rfl
      have hFc := va_free (wc := [(qm, .inr (11, [w0, w1, w2, w3, w4, w5, w6, .ref ss, .ref sl, .ref sa, w10, w11, w12, w13, w14, w15, w16, w17, w18, w19, w20, w21, w22, w23, w24, w25, w26, w27, w28, w29, w30, w31, w32, w33, w34, w35, w36, w37, w38]))]) hD hS hA [0] rfl
      refine va_calli (va_runV (As := [.int (-2)]) (rest := []) ⟨hx, hb, hml, hown, hts⟩ (c_X11_refused l dC dI  _ qm w0 w1 w2 w3 w4 w5 w6 (.ref ss) (.ref sl) (.ref sa) w10 w11 w12 w13 w14 w15 w16 w17 w18 w19 w20 w21 w22 w23 w24 w25 w26 w27 w28 w29 w30 w31 w32 w33 w34 w35 w36 w37 w38 (-2) ) (cwV 1 hts gX11_sheet_X11_refused rfl rfl rfl (by decide +kernel) ⟨Nat.le_of_ble_eq_true rfl, Nat.le_of_ble_eq_true rfl⟩) (pw_preV (va_recv hKc hPc (ci := 11) (q0 := 0) rfl rfl) hPc hKc hDc hN) rfl rfl hl.1 rfl (lv_room (Nat.le_of_ble_eq_true rfl)) dX11_sheet_34 ⟨Nat.le_of_ble_eq_true rfl, Nat.le_of_ble_eq_true rfl⟩) hS (fun q _ h => hFc q h) hFc (fun r5 u t H1 locs ht hvm hw hB hz1 hk1 hS => ?_)
      have hr5 : r5 = (-2) := hw
      obtain ⟨hP1, hK1, hD1⟩ := hB
      rw [ht] at hP1
      obtain ⟨hP, hD⟩ := va_join (wr := [(ss, .inl (cI, 4, .inl (fun _ => (-1)))), (sl, .inl (cI, 4, .inl (fun _ => 0))), (sa, .inl (cI, 192, .inl (fun _ => 0)))]) (w1 := [(qm, .inr (11, [.int 0, w1, w2, w3, w4, w5, w6, .ref ss, .ref sl, .ref sa, w10, w11, w12, w13, w14, w15, w16, w17, w18, w19, w20, w21, w22, w23, w24, w25, w26, w27, w28, w29, w30, w31, w32, w33, w34, w35, w36, w37, w38]))]) hP hD [0] [1, 2, 3] rfl rfl (by decide) (by decide) hk1 hFc hP1 hD1
      generalize H1 = H at hP hS ⊢
      have hP : va_P (dC, dI) vwCl [(ss, .inl (cI, 4, .inl (fun _ => (-1)))), (sl, .inl (cI, 4, .inl (fun _ => 0))), (sa, .inl (cI, 192, .inl (fun _ => 0))), (qm, .inr (11, [.int 0, w1, w2, w3, w4, w5, w6, .ref ss, .ref sl, .ref sa, w10, w11, w12, w13, w14, w15, w16, w17, w18, w19, w20, w21, w22, w23, w24, w25, w26, w27, w28, w29, w30, w31, w32, w33, w34, w35, w36, w37, w38]))] H := hP
      have hD : va_D _ [(ss, .inl (cI, 4, .inl (fun _ => (-1)))), (sl, .inl (cI, 4, .inl (fun _ => 0))), (sa, .inl (cI, 192, .inl (fun _ => 0))), (qm, .inr (11, [.int 0, w1, w2, w3, w4, w5, w6, .ref ss, .ref sl, .ref sa, w10, w11, w12, w13, w14, w15, w16, w17, w18, w19, w20, w21, w22, w23, w24, w25, w26, w27, w28, w29, w30, w31, w32, w33, w34, w35, w36, w37, w38]))] := hD
      rw [hQ]
      exact W.iret (v := r5) hx hb hr (fun t ht hW => ⟨⟨r5, (), rfl, (by rw [hr5]; simp [sp_sheet, c2, c4]), trivial⟩, hS.F ht⟩) hS.2.2 dX11_sheet_37
    · skip
      have c4 := (fa_bool_prop hr3).2.mp c4
      refine lv_iload_n hx hb dX11_sheet_25 rfl (lv_at hl 3 rfl) ?_
      refine lv_bipush (v := 48) hx hb dX11_sheet_26 (by decide) ?_
      refine lv_icmp_le (tgt := 38) hx hb dX11_sheet_28 (by decide) (fun c6 => ?_) (fun c6 => ?_)
      · skip
        refine lv_iload_n hx hb dX11_sheet_38 rfl (lv_at hl 3 rfl) ?_
        refine lv_if_ge (tgt := 48) hx hb dX11_sheet_39 (by decide) (fun c7 => ?_) (fun c7 => ?_)
        · skip
          refine lv_aload_n hx hb dX11_sheet_48 rfl (lv_at hl 0 rfl) ?_
          refine va_get (D := (dC, dI)) (ci := 11) (v := .ref ss) (C := RX11) (T := TX11) (N := 39) hx hb hts hiX11 hown hK hP 0 rfl rfl 7 (by decide) (hts (.fieldLink RX11 22 "TributePitchesModel" "sheetSize" "[I") (by decide +kernel)) (fun _ h9 => h9) rfl dX11_sheet_49 ?_
          refine lv_iload_n hx hb dX11_sheet_52 rfl (lv_at hl 1 rfl) ?_
          refine lv_iload_n hx hb dX11_sheet_53 rfl (lv_at hl 3 rfl) ?_
          refine va_iast hx hb hK hP hD hS 1 0 rfl rfl (in4 c2) dX11_sheet_54 (fun H locs hP hD hS => ?_)
          have hP : va_P (dC, dI) vwCl [(qm, .inr (11, [w0, w1, w2, w3, w4, w5, w6, .ref ss, .ref sl, .ref sa, w10, w11, w12, w13, w14, w15, w16, w17, w18, w19, w20, w21, w22, w23, w24, w25, w26, w27, w28, w29, w30, w31, w32, w33, w34, w35, w36, w37, w38])), (ss, .inl (cI, 4, .inl (upd (fun _ => (-1)) (k).toNatClampNeg n))), (sl, .inl (cI, 4, .inl (fun _ => 0))), (sa, .inl (cI, 192, .inl (fun _ => 0)))] H := hP
          have hD : va_D _ [(qm, .inr (11, [w0, w1, w2, w3, w4, w5, w6, .ref ss, .ref sl, .ref sa, w10, w11, w12, w13, w14, w15, w16, w17, w18, w19, w20, w21, w22, w23, w24, w25, w26, w27, w28, w29, w30, w31, w32, w33, w34, w35, w36, w37, w38])), (ss, .inl (cI, 4, .inl (upd (fun _ => (-1)) (k).toNatClampNeg n))), (sl, .inl (cI, 4, .inl (fun _ => 0))), (sa, .inl (cI, 192, .inl (fun _ => 0)))] := hD
          refine lv_aload_n hx hb dX11_sheet_55 rfl (lv_at hl 0 rfl) ?_
          refine va_get (D := (dC, dI)) (ci := 11) (v := .ref sl) (C := RX11) (T := TX11) (N := 39) hx hb hts hiX11 hown hK hP 0 rfl rfl 8 (by decide) (hts (.fieldLink RX11 25 "TributePitchesModel" "sheetLane" "[I") (by decide +kernel)) (fun _ h9 => h9) rfl dX11_sheet_56 ?_
          refine lv_iload_n hx hb dX11_sheet_59 rfl (lv_at hl 1 rfl) ?_
          refine lv_iload_n hx hb dX11_sheet_60 rfl (lv_at hl 2 rfl) ?_
          refine va_iast hx hb hK hP hD hS 2 0 rfl rfl (in4 c2) dX11_sheet_61 (fun H locs hP hD hS => ?_)
          have hP : va_P (dC, dI) vwCl [(qm, .inr (11, [w0, w1, w2, w3, w4, w5, w6, .ref ss, .ref sl, .ref sa, w10, w11, w12, w13, w14, w15, w16, w17, w18, w19, w20, w21, w22, w23, w24, w25, w26, w27, w28, w29, w30, w31, w32, w33, w34, w35, w36, w37, w38])), (ss, .inl (cI, 4, .inl (upd (fun _ => (-1)) (k).toNatClampNeg n))), (sl, .inl (cI, 4, .inl (upd (fun _ => 0) (k).toNatClampNeg ln))), (sa, .inl (cI, 192, .inl (fun _ => 0)))] H := hP
          have hD : va_D _ [(qm, .inr (11, [w0, w1, w2, w3, w4, w5, w6, .ref ss, .ref sl, .ref sa, w10, w11, w12, w13, w14, w15, w16, w17, w18, w19, w20, w21, w22, w23, w24, w25, w26, w27, w28, w29, w30, w31, w32, w33, w34, w35, w36, w37, w38])), (ss, .inl (cI, 4, .inl (upd (fun _ => (-1)) (k).toNatClampNeg n))), (sl, .inl (cI, 4, .inl (upd (fun _ => 0) (k).toNatClampNeg ln))), (sa, .inl (cI, 192, .inl (fun _ => 0)))] := hD
          refine lv_iconst (v := 0) hx hb dX11_sheet_62 (by decide) ?_
          refine lv_istore (lv' := [(4, .int 0), (0, .ref qm), (1, .int k), (2, .int ln), (3, .int n)]) hx hb dX11_sheet_63 hl (by decide) rfl (fun ls hl => ?_)
          obtain ⟨nn, hnn, en⟩ := nI_of2 (x := n) (M := 48) (n := 48) (by decide) (Int32.not_lt.mpr c7) c6
          rw [en] at hl
          have loop65 : ∀ (ni65 i65 : Nat) (H : Heap) (locs : List Loc) (ls : Array Slot), i65 ≤ nn → nn + 1 ≤ i65 + ni65 → va_P (dC, dI) vwCl [(qm, .inr (11, [w0, w1, w2, w3, w4, w5, w6, .ref ss, .ref sl, .ref sa, w10, w11, w12, w13, w14, w15, w16, w17, w18, w19, w20, w21, w22, w23, w24, w25, w26, w27, w28, w29, w30, w31, w32, w33, w34, w35, w36, w37, w38])), (ss, .inl (cI, 4, .inl (upd (fun _ => (-1)) (k).toNatClampNeg n))), (sl, .inl (cI, 4, .inl (upd (fun _ => 0) (k).toNatClampNeg ln))), (sa, .inl (cI, 192, .inl (fun _ => 0)))] H → va_D (va_A [(qm, .inr (11, [w0, w1, w2, w3, w4, w5, w6, .ref ss, .ref sl, .ref sa, w10, w11, w12, w13, w14, w15, w16, w17, w18, w19, w20, w21, w22, w23, w24, w25, w26, w27, w28, w29, w30, w31, w32, w33, w34, w35, w36, w37, w38])), (ss, .inl (cI, 4, .inl (fun _ => (-1)))), (sl, .inl (cI, 4, .inl (fun _ => 0))), (sa, .inl (cI, 192, .inl (fun _ => 0)))] s.heap.size) [(qm, .inr (11, [w0, w1, w2, w3, w4, w5, w6, .ref ss, .ref sl, .ref sa, w10, w11, w12, w13, w14, w15, w16, w17, w18, w19, w20, w21, w22, w23, w24, w25, w26, w27, w28, w29, w30, w31, w32, w33, w34, w35, w36, w37, w38])), (ss, .inl (cI, 4, .inl (upd (fun _ => (-1)) (k).toNatClampNeg n))), (sl, .inl (cI, 4, .inl (upd (fun _ => 0) (k).toNatClampNeg ln))), (sa, .inl (cI, 192, .inl (fun _ => 0)))] → va_S (va_A [(qm, .inr (11, [w0, w1, w2, w3, w4, w5, w6, .ref ss, .ref sl, .ref sa, w10, w11, w12, w13, w14, w15, w16, w17, w18, w19, w20, w21, w22, w23, w24, w25, w26, w27, w28, w29, w30, w31, w32, w33, w34, w35, w36, w37, w38])), (ss, .inl (cI, 4, .inl (fun _ => (-1)))), (sl, .inl (cI, 4, .inl (fun _ => 0))), (sa, .inl (cI, 192, .inl (fun _ => 0)))] s.heap.size) s.heap H locs → lv_has ls 5 [(4, .int (nI i65)), (0, .ref qm), (1, .int k), (2, .int ln), (3, .int (nI nn))] → W p l e ({ frames := 3, cells := 0, slots := 0, locals := 90 } : Room) s m ([.ref qm, .int k, .int ln, .int n] : List Value).toArray below meth c0 H locs 0 0 Q (F0 m 65 ls []) := by
            intro ni65
            induction ni65 with
            | zero =>
              intro i65  H locs ls h1 h2
              exact absurd h2 (by omega)
            | succ ni65 ihi65 =>
              intro i65  H locs ls hlei65 hni65  hP hD hS hl
              refine lv_iload hx hb dX11_sheet_65 (lv_at hl 0 rfl) ?_
              refine lv_iload_n hx hb dX11_sheet_67 rfl (lv_at hl 4 rfl) ?_
              refine lv_icmp_ge (tgt := 90) hx hb dX11_sheet_68 (by decide) (fun c8 => ?_) (fun c8 => ?_)
              · skip
                refine lv_aload_n hx hb dX11_sheet_90 rfl (lv_at hl 1 rfl) ?_
                refine lv_iconst (v := 1) hx hb dX11_sheet_91 (by decide) ?_
                have hPc := hP.sub (ws' := [(qm, .inr (11, [w0, w1, w2, w3, w4, w5, w6, .ref ss, .ref sl, .ref sa, w10, w11, w12, w13, w14, w15, w16, w17, w18, w19, w20, w21, w22, w23, w24, w25, w26, w27, w28, w29, w30, w31, w32, w33, w34, w35, w36, w37, w38]))]) [0] rfl
                have hDc := hD.sub (ws' := [(qm, .inr (11, [w0, w1, w2, w3, w4, w5, w6, .ref ss, .ref sl, .ref sa, w10, w11, w12, w13, w14, w15, w16, w17, w18, w19, w20, w21, w22, w23, w24, w25, w26, w27, w28, w29, w30, w31, w32, w33, w34, w35, w36, w37, w38]))]) [0] (by decide) rfl
                have hKc := hK.sub (tys' := []) [] rfl
                have hFc := va_free (wc := [(qm, .inr (11, [w0, w1, w2, w3, w4, w5, w6, .ref ss, .ref sl, .ref sa, w10, w11, w12, w13, w14, w15, w16, w17, w18, w19, w20, w21, w22, w23, w24, w25, w26, w27, w28, w29, w30, w31, w32, w33, w34, w35, w36, w37, w38]))]) hD hS hA [0] rfl
                refine va_calli (va_runV (As := [.int 1]) (rest := []) ⟨hx, hb, hml, hown, hts⟩ (c_X11_refused l dC dI  _ qm w0 w1 w2 w3 w4 w5 w6 (.ref ss) (.ref sl) (.ref sa) w10 w11 w12 w13 w14 w15 w16 w17 w18 w19 w20 w21 w22 w23 w24 w25 w26 w27 w28 w29 w30 w31 w32 w33 w34 w35 w36 w37 w38 1 ) (cwV 1 hts gX11_sheet_X11_refused rfl rfl rfl (by decide +kernel) ⟨Nat.le_of_ble_eq_true rfl, Nat.le_of_ble_eq_true rfl⟩) (pw_preV (va_recv hKc hPc (ci := 11) (q0 := 0) rfl rfl) hPc hKc hDc hN) rfl rfl hl.1 rfl (lv_room (Nat.le_of_ble_eq_true rfl)) dX11_sheet_92 ⟨Nat.le_of_ble_eq_true rfl, Nat.le_of_ble_eq_true rfl⟩) hS (fun q _ h => hFc q h) hFc (fun r9 u t H1 locs ht hvm hw hB hz1 hk1 hS => ?_)
                have hr9 : r9 = 1 := hw
                obtain ⟨hP1, hK1, hD1⟩ := hB
                rw [ht] at hP1
                obtain ⟨hP, hD⟩ := va_join (wr := [(ss, .inl (cI, 4, .inl (upd (fun _ => (-1)) (k).toNatClampNeg n))), (sl, .inl (cI, 4, .inl (upd (fun _ => 0) (k).toNatClampNeg ln))), (sa, .inl (cI, 192, .inl (fun _ => 0)))]) (w1 := [(qm, .inr (11, [.int 0, w1, w2, w3, w4, w5, w6, .ref ss, .ref sl, .ref sa, w10, w11, w12, w13, w14, w15, w16, w17, w18, w19, w20, w21, w22, w23, w24, w25, w26, w27, w28, w29, w30, w31, w32, w33, w34, w35, w36, w37, w38]))]) hP hD [0] [1, 2, 3] rfl rfl (by decide) (by decide) hk1 hFc hP1 hD1
                generalize H1 = H at hP hS ⊢
                have hP : va_P (dC, dI) vwCl [(ss, .inl (cI, 4, .inl (upd (fun _ => (-1)) (k).toNatClampNeg n))), (sl, .inl (cI, 4, .inl (upd (fun _ => 0) (k).toNatClampNeg ln))), (sa, .inl (cI, 192, .inl (fun _ => 0))), (qm, .inr (11, [.int 0, w1, w2, w3, w4, w5, w6, .ref ss, .ref sl, .ref sa, w10, w11, w12, w13, w14, w15, w16, w17, w18, w19, w20, w21, w22, w23, w24, w25, w26, w27, w28, w29, w30, w31, w32, w33, w34, w35, w36, w37, w38]))] H := hP
                have hD : va_D _ [(ss, .inl (cI, 4, .inl (upd (fun _ => (-1)) (k).toNatClampNeg n))), (sl, .inl (cI, 4, .inl (upd (fun _ => 0) (k).toNatClampNeg ln))), (sa, .inl (cI, 192, .inl (fun _ => 0))), (qm, .inr (11, [.int 0, w1, w2, w3, w4, w5, w6, .ref ss, .ref sl, .ref sa, w10, w11, w12, w13, w14, w15, w16, w17, w18, w19, w20, w21, w22, w23, w24, w25, w26, w27, w28, w29, w30, w31, w32, w33, w34, w35, w36, w37, w38]))] := hD
                rw [hQ]
                exact W.iret (v := r9) hx hb hr (fun t ht hW => ⟨⟨r9, (), rfl, (by rw [hr9]; simp [sp_sheet, c2, c4, c6, c7, c8]), trivial⟩, hS.F ht⟩) hS.2.2 dX11_sheet_95
              · skip
                have hlti65 : i65 < nn := (Nat.lt_or_ge i65 nn).elim id (fun q => absurd (show nI nn ≤ nI i65 from nI_le q (by omega)) c8)
                refine lv_aload_n hx hb dX11_sheet_71 rfl (lv_at hl 1 rfl) ?_
                refine va_get (D := (dC, dI)) (ci := 11) (v := .ref sa) (C := RX11) (T := TX11) (N := 39) hx hb hts hiX11 hown hK hP 0 rfl rfl 9 (by decide) (hts (.fieldLink RX11 28 "TributePitchesModel" "sheet" "[I") (by decide +kernel)) (fun _ h9 => h9) rfl dX11_sheet_72 ?_
                refine lv_bipush (v := 48) hx hb dX11_sheet_75 (by decide) ?_
                refine lv_iload_n hx hb dX11_sheet_77 rfl (lv_at hl 2 rfl) ?_
                refine lv_imul hx hb dX11_sheet_78 ?_
                refine lv_iload hx hb dX11_sheet_79 (lv_at hl 0 rfl) ?_
                refine lv_iadd hx hb dX11_sheet_81 ?_
                refine lv_iconst (v := 0) hx hb dX11_sheet_82 (by decide) ?_
                refine va_iast hx hb hK hP hD hS 3 0 rfl rfl (sh_in c2 (by omega)) dX11_sheet_83 (fun H locs hP hD hS => ?_)
                have hP : va_P (dC, dI) vwCl [(qm, .inr (11, [w0, w1, w2, w3, w4, w5, w6, .ref ss, .ref sl, .ref sa, w10, w11, w12, w13, w14, w15, w16, w17, w18, w19, w20, w21, w22, w23, w24, w25, w26, w27, w28, w29, w30, w31, w32, w33, w34, w35, w36, w37, w38])), (ss, .inl (cI, 4, .inl (upd (fun _ => (-1)) (k).toNatClampNeg n))), (sl, .inl (cI, 4, .inl (upd (fun _ => 0) (k).toNatClampNeg ln))), (sa, .inl (cI, 192, .inl (upd (fun _ => 0) ((48 * k) + (nI i65)).toNatClampNeg 0)))] H := hP
                have hD : va_D _ [(qm, .inr (11, [w0, w1, w2, w3, w4, w5, w6, .ref ss, .ref sl, .ref sa, w10, w11, w12, w13, w14, w15, w16, w17, w18, w19, w20, w21, w22, w23, w24, w25, w26, w27, w28, w29, w30, w31, w32, w33, w34, w35, w36, w37, w38])), (ss, .inl (cI, 4, .inl (upd (fun _ => (-1)) (k).toNatClampNeg n))), (sl, .inl (cI, 4, .inl (upd (fun _ => 0) (k).toNatClampNeg ln))), (sa, .inl (cI, 192, .inl (upd (fun _ => 0) ((48 * k) + (nI i65)).toNatClampNeg 0)))] := hD
                have hP := va_P_cg hP 3 (fun _ => 0) rfl (fun j _ => congrFun (fa_upd_same rfl) j)
                have hD := va_D_cg hD 3 (fun _ => 0) rfl
                have hP : va_P (dC, dI) vwCl [(qm, .inr (11, [w0, w1, w2, w3, w4, w5, w6, .ref ss, .ref sl, .ref sa, w10, w11, w12, w13, w14, w15, w16, w17, w18, w19, w20, w21, w22, w23, w24, w25, w26, w27, w28, w29, w30, w31, w32, w33, w34, w35, w36, w37, w38])), (ss, .inl (cI, 4, .inl (upd (fun _ => (-1)) (k).toNatClampNeg n))), (sl, .inl (cI, 4, .inl (upd (fun _ => 0) (k).toNatClampNeg ln))), (sa, .inl (cI, 192, .inl (fun _ => 0)))] H := hP
                have hD : va_D _ [(qm, .inr (11, [w0, w1, w2, w3, w4, w5, w6, .ref ss, .ref sl, .ref sa, w10, w11, w12, w13, w14, w15, w16, w17, w18, w19, w20, w21, w22, w23, w24, w25, w26, w27, w28, w29, w30, w31, w32, w33, w34, w35, w36, w37, w38])), (ss, .inl (cI, 4, .inl (upd (fun _ => (-1)) (k).toNatClampNeg n))), (sl, .inl (cI, 4, .inl (upd (fun _ => 0) (k).toNatClampNeg ln))), (sa, .inl (cI, 192, .inl (fun _ => 0)))] := hD
                refine lv_iinc (v := nI (i65 + 1)) (lv' := [(4, .int (nI (i65 + 1))), (0, .ref qm), (1, .int k), (2, .int ln), (3, .int (nI nn))]) hx hb dX11_sheet_84 hl (k := 0) rfl (nI_1 i65) (by decide) rfl (fun ls hl => ?_)
                refine lv_goto (tgt := 65) hx hb dX11_sheet_87 (by decide) ?_
                exact ihi65 (i65 + 1)  _ _ ls (by omega) (by omega)  (hP.sub [0, 1, 2, 3] rfl) (hD.sub [0, 1, 2, 3] (by decide) rfl) hS (lv_sub hl [0, 1, 2, 3, 4] rfl)
          exact loop65 (nn + 1 - 0) 0  _ _ ls (by omega) (by omega)  hP hD hS (lv_sub hl [0, 1, 2, 3, 4] rfl)
        · skip
          refine lv_aload_n hx hb dX11_sheet_42 rfl (lv_at hl 0 rfl) ?_
          refine lv_iconst (v := 4) hx hb dX11_sheet_43 (by decide) ?_
          have hPc := hP.sub (ws' := [(qm, .inr (11, [w0, w1, w2, w3, w4, w5, w6, .ref ss, .ref sl, .ref sa, w10, w11, w12, w13, w14, w15, w16, w17, w18, w19, w20, w21, w22, w23, w24, w25, w26, w27, w28, w29, w30, w31, w32, w33, w34, w35, w36, w37, w38]))]) [0] rfl
          have hDc := hD.sub (ws' := [(qm, .inr (11, [w0, w1, w2, w3, w4, w5, w6, .ref ss, .ref sl, .ref sa, w10, w11, w12, w13, w14, w15, w16, w17, w18, w19, w20, w21, w22, w23, w24, w25, w26, w27, w28, w29, w30, w31, w32, w33, w34, w35, w36, w37, w38]))]) [0] (by decide) rfl
          have hKc := hK.sub (tys' := []) [] rfl
          have hFc := va_free (wc := [(qm, .inr (11, [w0, w1, w2, w3, w4, w5, w6, .ref ss, .ref sl, .ref sa, w10, w11, w12, w13, w14, w15, w16, w17, w18, w19, w20, w21, w22, w23, w24, w25, w26, w27, w28, w29, w30, w31, w32, w33, w34, w35, w36, w37, w38]))]) hD hS hA [0] rfl
          refine va_calli (va_runV (As := [.int 4]) (rest := []) ⟨hx, hb, hml, hown, hts⟩ (c_X11_failed l dC dI  _ qm w0 w1 w2 w3 w4 w5 w6 (.ref ss) (.ref sl) (.ref sa) w10 w11 w12 w13 w14 w15 w16 w17 w18 w19 w20 w21 w22 w23 w24 w25 w26 w27 w28 w29 w30 w31 w32 w33 w34 w35 w36 w37 w38 4 ) (cwV 1 hts gX11_sheet_X11_failed rfl rfl rfl (by decide +kernel) ⟨Nat.le_of_ble_eq_true rfl, Nat.le_of_ble_eq_true rfl⟩) (pw_preV (va_recv hKc hPc (ci := 11) (q0 := 0) rfl rfl) hPc hKc hDc hN) rfl rfl hl.1 rfl (lv_room (Nat.le_of_ble_eq_true rfl)) dX11_sheet_44 ⟨Nat.le_of_ble_eq_true rfl, Nat.le_of_ble_eq_true rfl⟩) hS (fun q _ h => hFc q h) hFc (fun r10 u t H1 locs ht hvm hw hB hz1 hk1 hS => ?_)
          have hr10 : r10 = -10 - 4 := hw
          obtain ⟨hP1, hK1, hD1⟩ := hB
          rw [ht] at hP1
          obtain ⟨hP, hD⟩ := va_join (wr := [(ss, .inl (cI, 4, .inl (fun _ => (-1)))), (sl, .inl (cI, 4, .inl (fun _ => 0))), (sa, .inl (cI, 192, .inl (fun _ => 0)))]) (w1 := [(qm, .inr (11, [.int 4, w1, w2, w3, w4, w5, w6, .ref ss, .ref sl, .ref sa, w10, w11, w12, w13, w14, w15, w16, w17, w18, w19, w20, w21, w22, w23, w24, w25, w26, w27, w28, w29, w30, w31, w32, w33, w34, w35, w36, w37, w38]))]) hP hD [0] [1, 2, 3] rfl rfl (by decide) (by decide) hk1 hFc hP1 hD1
          generalize H1 = H at hP hS ⊢
          have hP : va_P (dC, dI) vwCl [(ss, .inl (cI, 4, .inl (fun _ => (-1)))), (sl, .inl (cI, 4, .inl (fun _ => 0))), (sa, .inl (cI, 192, .inl (fun _ => 0))), (qm, .inr (11, [.int 4, w1, w2, w3, w4, w5, w6, .ref ss, .ref sl, .ref sa, w10, w11, w12, w13, w14, w15, w16, w17, w18, w19, w20, w21, w22, w23, w24, w25, w26, w27, w28, w29, w30, w31, w32, w33, w34, w35, w36, w37, w38]))] H := hP
          have hD : va_D _ [(ss, .inl (cI, 4, .inl (fun _ => (-1)))), (sl, .inl (cI, 4, .inl (fun _ => 0))), (sa, .inl (cI, 192, .inl (fun _ => 0))), (qm, .inr (11, [.int 4, w1, w2, w3, w4, w5, w6, .ref ss, .ref sl, .ref sa, w10, w11, w12, w13, w14, w15, w16, w17, w18, w19, w20, w21, w22, w23, w24, w25, w26, w27, w28, w29, w30, w31, w32, w33, w34, w35, w36, w37, w38]))] := hD
          rw [hQ]
          exact W.iret (v := r10) hx hb hr (fun t ht hW => ⟨⟨r10, (), rfl, (by rw [hr10]; simp [sp_sheet, c2, c4, c6, c7]), trivial⟩, hS.F ht⟩) hS.2.2 dX11_sheet_47
      · skip
        refine lv_aload_n hx hb dX11_sheet_31 rfl (lv_at hl 0 rfl) ?_
        refine lv_bipush (v := (-2)) hx hb dX11_sheet_32 (by decide) ?_
        have hPc := hP.sub (ws' := [(qm, .inr (11, [w0, w1, w2, w3, w4, w5, w6, .ref ss, .ref sl, .ref sa, w10, w11, w12, w13, w14, w15, w16, w17, w18, w19, w20, w21, w22, w23, w24, w25, w26, w27, w28, w29, w30, w31, w32, w33, w34, w35, w36, w37, w38]))]) [0] rfl
        have hDc := hD.sub (ws' := [(qm, .inr (11, [w0, w1, w2, w3, w4, w5, w6, .ref ss, .ref sl, .ref sa, w10, w11, w12, w13, w14, w15, w16, w17, w18, w19, w20, w21, w22, w23, w24, w25, w26, w27, w28, w29, w30, w31, w32, w33, w34, w35, w36, w37, w38]))]) [0] (by decide) rfl
        have hKc := hK.sub (tys' := []) [] rfl
        have hFc := va_free (wc := [(qm, .inr (11, [w0, w1, w2, w3, w4, w5, w6, .ref ss, .ref sl, .ref sa, w10, w11, w12, w13, w14, w15, w16, w17, w18, w19, w20, w21, w22, w23, w24, w25, w26, w27, w28, w29, w30, w31, w32, w33, w34, w35, w36, w37, w38]))]) hD hS hA [0] rfl
        refine va_calli (va_runV (As := [.int (-2)]) (rest := []) ⟨hx, hb, hml, hown, hts⟩ (c_X11_refused l dC dI  _ qm w0 w1 w2 w3 w4 w5 w6 (.ref ss) (.ref sl) (.ref sa) w10 w11 w12 w13 w14 w15 w16 w17 w18 w19 w20 w21 w22 w23 w24 w25 w26 w27 w28 w29 w30 w31 w32 w33 w34 w35 w36 w37 w38 (-2) ) (cwV 1 hts gX11_sheet_X11_refused rfl rfl rfl (by decide +kernel) ⟨Nat.le_of_ble_eq_true rfl, Nat.le_of_ble_eq_true rfl⟩) (pw_preV (va_recv hKc hPc (ci := 11) (q0 := 0) rfl rfl) hPc hKc hDc hN) rfl rfl hl.1 rfl (lv_room (Nat.le_of_ble_eq_true rfl)) dX11_sheet_34 ⟨Nat.le_of_ble_eq_true rfl, Nat.le_of_ble_eq_true rfl⟩) hS (fun q _ h => hFc q h) hFc (fun r11 u t H1 locs ht hvm hw hB hz1 hk1 hS => ?_)
        have hr11 : r11 = (-2) := hw
        obtain ⟨hP1, hK1, hD1⟩ := hB
        rw [ht] at hP1
        obtain ⟨hP, hD⟩ := va_join (wr := [(ss, .inl (cI, 4, .inl (fun _ => (-1)))), (sl, .inl (cI, 4, .inl (fun _ => 0))), (sa, .inl (cI, 192, .inl (fun _ => 0)))]) (w1 := [(qm, .inr (11, [.int 0, w1, w2, w3, w4, w5, w6, .ref ss, .ref sl, .ref sa, w10, w11, w12, w13, w14, w15, w16, w17, w18, w19, w20, w21, w22, w23, w24, w25, w26, w27, w28, w29, w30, w31, w32, w33, w34, w35, w36, w37, w38]))]) hP hD [0] [1, 2, 3] rfl rfl (by decide) (by decide) hk1 hFc hP1 hD1
        generalize H1 = H at hP hS ⊢
        have hP : va_P (dC, dI) vwCl [(ss, .inl (cI, 4, .inl (fun _ => (-1)))), (sl, .inl (cI, 4, .inl (fun _ => 0))), (sa, .inl (cI, 192, .inl (fun _ => 0))), (qm, .inr (11, [.int 0, w1, w2, w3, w4, w5, w6, .ref ss, .ref sl, .ref sa, w10, w11, w12, w13, w14, w15, w16, w17, w18, w19, w20, w21, w22, w23, w24, w25, w26, w27, w28, w29, w30, w31, w32, w33, w34, w35, w36, w37, w38]))] H := hP
        have hD : va_D _ [(ss, .inl (cI, 4, .inl (fun _ => (-1)))), (sl, .inl (cI, 4, .inl (fun _ => 0))), (sa, .inl (cI, 192, .inl (fun _ => 0))), (qm, .inr (11, [.int 0, w1, w2, w3, w4, w5, w6, .ref ss, .ref sl, .ref sa, w10, w11, w12, w13, w14, w15, w16, w17, w18, w19, w20, w21, w22, w23, w24, w25, w26, w27, w28, w29, w30, w31, w32, w33, w34, w35, w36, w37, w38]))] := hD
        rw [hQ]
        exact W.iret (v := r11) hx hb hr (fun t ht hW => ⟨⟨r11, (), rfl, (by rw [hr11]; simp [sp_sheet, c2, c4, c6]), trivial⟩, hS.F ht⟩) hS.2.2 dX11_sheet_37
  · skip
    have c2 := (fa_bool_prop hr1).2.mp c2
    refine lv_aload_n hx hb dX11_sheet_7 rfl (lv_at hl 0 rfl) ?_
    refine lv_iconst (v := (-1)) hx hb dX11_sheet_8 (by decide) ?_
    have hPc := hP.sub (ws' := [(qm, .inr (11, [w0, w1, w2, w3, w4, w5, w6, .ref ss, .ref sl, .ref sa, w10, w11, w12, w13, w14, w15, w16, w17, w18, w19, w20, w21, w22, w23, w24, w25, w26, w27, w28, w29, w30, w31, w32, w33, w34, w35, w36, w37, w38]))]) [0] rfl
    have hDc := hD.sub (ws' := [(qm, .inr (11, [w0, w1, w2, w3, w4, w5, w6, .ref ss, .ref sl, .ref sa, w10, w11, w12, w13, w14, w15, w16, w17, w18, w19, w20, w21, w22, w23, w24, w25, w26, w27, w28, w29, w30, w31, w32, w33, w34, w35, w36, w37, w38]))]) [0] (by decide) rfl
    have hKc := hK.sub (tys' := []) [] rfl
    have hFc := va_free (wc := [(qm, .inr (11, [w0, w1, w2, w3, w4, w5, w6, .ref ss, .ref sl, .ref sa, w10, w11, w12, w13, w14, w15, w16, w17, w18, w19, w20, w21, w22, w23, w24, w25, w26, w27, w28, w29, w30, w31, w32, w33, w34, w35, w36, w37, w38]))]) hD hS hA [0] rfl
    refine va_calli (va_runV (As := [.int (-1)]) (rest := []) ⟨hx, hb, hml, hown, hts⟩ (c_X11_refused l dC dI  _ qm w0 w1 w2 w3 w4 w5 w6 (.ref ss) (.ref sl) (.ref sa) w10 w11 w12 w13 w14 w15 w16 w17 w18 w19 w20 w21 w22 w23 w24 w25 w26 w27 w28 w29 w30 w31 w32 w33 w34 w35 w36 w37 w38 (-1) ) (cwV 1 hts gX11_sheet_X11_refused rfl rfl rfl (by decide +kernel) ⟨Nat.le_of_ble_eq_true rfl, Nat.le_of_ble_eq_true rfl⟩) (pw_preV (va_recv hKc hPc (ci := 11) (q0 := 0) rfl rfl) hPc hKc hDc hN) rfl rfl hl.1 rfl (lv_room (Nat.le_of_ble_eq_true rfl)) dX11_sheet_9 ⟨Nat.le_of_ble_eq_true rfl, Nat.le_of_ble_eq_true rfl⟩) hS (fun q _ h => hFc q h) hFc (fun r12 u t H1 locs ht hvm hw hB hz1 hk1 hS => ?_)
    have hr12 : r12 = (-1) := hw
    obtain ⟨hP1, hK1, hD1⟩ := hB
    rw [ht] at hP1
    obtain ⟨hP, hD⟩ := va_join (wr := [(ss, .inl (cI, 4, .inl (fun _ => (-1)))), (sl, .inl (cI, 4, .inl (fun _ => 0))), (sa, .inl (cI, 192, .inl (fun _ => 0)))]) (w1 := [(qm, .inr (11, [.int 0, w1, w2, w3, w4, w5, w6, .ref ss, .ref sl, .ref sa, w10, w11, w12, w13, w14, w15, w16, w17, w18, w19, w20, w21, w22, w23, w24, w25, w26, w27, w28, w29, w30, w31, w32, w33, w34, w35, w36, w37, w38]))]) hP hD [0] [1, 2, 3] rfl rfl (by decide) (by decide) hk1 hFc hP1 hD1
    generalize H1 = H at hP hS ⊢
    have hP : va_P (dC, dI) vwCl [(ss, .inl (cI, 4, .inl (fun _ => (-1)))), (sl, .inl (cI, 4, .inl (fun _ => 0))), (sa, .inl (cI, 192, .inl (fun _ => 0))), (qm, .inr (11, [.int 0, w1, w2, w3, w4, w5, w6, .ref ss, .ref sl, .ref sa, w10, w11, w12, w13, w14, w15, w16, w17, w18, w19, w20, w21, w22, w23, w24, w25, w26, w27, w28, w29, w30, w31, w32, w33, w34, w35, w36, w37, w38]))] H := hP
    have hD : va_D _ [(ss, .inl (cI, 4, .inl (fun _ => (-1)))), (sl, .inl (cI, 4, .inl (fun _ => 0))), (sa, .inl (cI, 192, .inl (fun _ => 0))), (qm, .inr (11, [.int 0, w1, w2, w3, w4, w5, w6, .ref ss, .ref sl, .ref sa, w10, w11, w12, w13, w14, w15, w16, w17, w18, w19, w20, w21, w22, w23, w24, w25, w26, w27, w28, w29, w30, w31, w32, w33, w34, w35, w36, w37, w38]))] := hD
    rw [hQ]
    exact W.iret (v := r12) hx hb hr (fun t ht hW => ⟨⟨r12, (), rfl, (by rw [hr12]; simp [sp_sheet, c2]), trivial⟩, hS.F ht⟩) hS.2.2 dX11_sheet_12
