def pR_parcel (zr : RS2) (t : Int32) (tn : Int32) (gd : Int32) (r : Int32) (u : RS2) : Prop :=
  ((∀ j, j < rs_n zr 2 → t ≠ nI j) ∧ r = ((-1)) ∧ u = zr) ∨
  (∃ jt : Nat, t = nI jt ∧ (jt < rs_n zr 2) ∧ (¬ (1 ≤ tn ∧ tn ≤ 1000)) ∧ r = ((-2)) ∧ u = zr) ∨
  (∃ jt : Nat, t = nI jt ∧ (jt < rs_n zr 2) ∧ (1 ≤ tn ∧ tn ≤ 1000) ∧ (0 ≤ gd ∧ gd ≤ 1000) ∧ (((rs_I zr 28) jt) = 0) ∧ (¬ (nI (rs_n zr 3)) = 80) ∧ (rs_n zr 3 < 80) ∧ r = (nI (rs_n zr 3)) ∧ u = (rs_i zr, va_up (rs_n zr) 3 (rs_n zr 3 + 1), va_up (va_up (va_up (rs_I zr) 35 (upd (rs_I zr 35) (rs_n zr 3) (nI jt))) 36 (upd (rs_I zr 36) (rs_n zr 3) tn)) 37 (upd (rs_I zr 37) (rs_n zr 3) gd), rs_L zr)) ∨
  (∃ jt : Nat, t = nI jt ∧ (jt < rs_n zr 2) ∧ (1 ≤ tn ∧ tn ≤ 1000) ∧ (0 ≤ gd ∧ gd ≤ 1000) ∧ (((rs_I zr 28) jt) = 0) ∧ ((nI (rs_n zr 3)) = 80) ∧ r = ((-4)) ∧ u = zr) ∨
  (∃ jt : Nat, t = nI jt ∧ (jt < rs_n zr 2) ∧ (1 ≤ tn ∧ tn ≤ 1000) ∧ (0 ≤ gd ∧ gd ≤ 1000) ∧ (¬ ((rs_I zr 28) jt) = 0) ∧ r = ((-3)) ∧ u = zr) ∨
  (∃ jt : Nat, t = nI jt ∧ (jt < rs_n zr 2) ∧ (1 ≤ tn ∧ tn ≤ 1000) ∧ (¬ (0 ≤ gd ∧ gd ≤ 1000)) ∧ r = ((-2)) ∧ u = zr)
set_option maxHeartbeats 4000000 in
theorem lr_parcel_2 (qm : Nat) (cI cJ cZ : ClassId) (ad : Nat → Nat) (zr : RS2) (tn : Int32) (gd : Int32) (jt : Nat) (hjt : jt < rs_n zr 2) (c5 : 1 ≤ tn ∧ tn ≤ 1000) (c7 : 0 ≤ gd ∧ gd ≤ 1000) (c9 : ((rs_I zr 28) jt) = 0) (c10 : ¬ (nI (rs_n zr 3)) = 80) (hk8 : rs_n zr 3 < 80) (hI : invR zr) : invR (rs_i zr, va_up (rs_n zr) 3 (rs_n zr 3 + 1), va_up (va_up (va_up (rs_I zr) 35 (upd (rs_I zr 35) (rs_n zr 3) (nI jt))) 36 (upd (rs_I zr 36) (rs_n zr 3) tn)) 37 (upd (rs_I zr 37) (rs_n zr 3) gd), rs_L zr) ∧ rW qm cI cJ cZ ad (rs_i zr, va_up (rs_n zr) 3 (rs_n zr 3 + 1), va_up (va_up (va_up (rs_I zr) 35 (upd (rs_I zr 35) (rs_n zr 3) (nI jt))) 36 (upd (rs_I zr 36) (rs_n zr 3) tn)) 37 (upd (rs_I zr 37) (rs_n zr 3) gd), rs_L zr) = [(qm, .inr (11, [.int (rs_i zr 0), .int (rs_i zr 1), .ref (ad 2), .ref (ad 3), .ref (ad 4), .ref (ad 5), .int (rs_i zr 6), .ref (ad 7), .ref (ad 8), .ref (ad 9), .ref (ad 10), .int (nI (rs_n zr 0)), .ref (ad 12), .ref (ad 13), .ref (ad 14), .ref (ad 15), .ref (ad 16), .int (nI (rs_n zr 1)), .ref (ad 18), .ref (ad 19), .int (rs_i zr 20), .int (rs_i zr 21), .int (rs_i zr 22), .int (rs_i zr 23), .int (nI (rs_n zr 2)), .ref (ad 25), .ref (ad 26), .ref (ad 27), .ref (ad 28), .ref (ad 29), .ref (ad 30), .ref (ad 31), .ref (ad 32), .ref (ad 33), .int (nI (rs_n zr 3 + 1)), .ref (ad 35), .ref (ad 36), .ref (ad 37), .int (rs_i zr 38)])), rcI cI ad zr 2 48, rcI cI ad zr 3 48, rcI cI ad zr 4 48, rcI cI ad zr 5 48, rcI cI ad zr 7 4, rcI cI ad zr 8 4, rcI cI ad zr 9 192, rcI cI ad zr 10 48, rcI cI ad zr 12 12, rcI cI ad zr 13 12, rcI cI ad zr 14 12, rcI cI ad zr 15 12, rcI cI ad zr 16 12, rcI cI ad zr 18 8, rcJ cJ ad zr 19 8, rcI cI ad zr 25 40, rcI cI ad zr 26 40, rcI cI ad zr 27 40, rcI cZ ad zr 28 40, rcJ cJ ad zr 29 40, rcJ cJ ad zr 30 40, rcJ cJ ad zr 31 40, rcJ cJ ad zr 32 40, rcJ cJ ad zr 33 40, (ad 35, .inl (cI, 80, .inl (upd (rs_I zr 35) (rs_n zr 3) (nI jt)))), (ad 36, .inl (cI, 80, .inl (upd (rs_I zr 36) (rs_n zr 3) tn))), (ad 37, .inl (cI, 80, .inl (upd (rs_I zr 37) (rs_n zr 3) gd)))] := by
  obtain ⟨⟨hn0, hn1, hn2, hn3⟩, hfar, hlh, hss, hsold, htk, hpk⟩ := id hI
  exact ⟨(by refine ⟨⟨hn0, hn1, hn2, (show rs_n zr 3 + 1 ≤ 80 by omega)⟩, hfar, hlh, hss, hsold, htk, (fun k hk => ?_)⟩; have hk : k < rs_n zr 3 + 1 := hk; show ∃ t, t < rs_n zr 2 ∧ upd (rs_I zr 35) (rs_n zr 3) (nI jt) k = nI t; by_cases h9 : k = rs_n zr 3; (exact ⟨jt, hjt, by rw [h9, pk_us]⟩); (obtain ⟨t, h1, h2⟩ := hpk k (by omega); exact ⟨t, h1, by rw [pk_un h9]; exact h2⟩)), by simp [rW, rcO, rcI, rcJ, rs_i, rs_n, rs_I, rs_L, va_up, upd]⟩
set_option maxHeartbeats 4000000 in
set_option maxRecDepth 100000 in
theorem M_parcel (l : Launch) (dC : Nat → ClassId) (dI : Nat → Nat → Nat) (cI cJ cZ : ClassId) (sz : Nat) (qm : Nat) (ad : Nat → Nat) (zr : RS2) (t : Int32) (tn : Int32) (gd : Int32) (hI : invR zr) : Met l yX11_parcel wsX11_parcel ({ frames := 3, cells := 0, slots := 0, locals := 90 }) (pw (dC, dI) [(cI, .int), (cJ, .long), (cZ, .boolean)] (rW qm cI cJ cZ ad zr) sz [.ref qm, .int t, .int tn, .int gd]) (va_Qi (fun r (u : RS2) => invR u ∧ pR_parcel zr t tn gd r u) (fun u t => bw (dC, dI) [(cI, .int), (cJ, .long), (cZ, .boolean)] (va_A (rW qm cI cJ cZ ad zr) sz) (rW qm cI cJ cZ ad u) t) (va_A (rW qm cI cJ cZ ad zr) sz)) 0 0 (va_A (rW qm cI cJ cZ ad zr) sz) := by
  refine pw_met (cc := cX11_parcel) (maxL := 4) (ret := (some .int)) (by decide) rfl (Nat.le_of_ble_eq_true rfl) ?_
  intro p e s m below meth c0 hx hb hr hml hown hlocks hnm hts hP0 hK hD0 hN hsz hA hS ls hl
  subst hsz
  have hP : va_P (dC, dI) vwCl [rcO qm ad zr, rcI cI ad zr 2 48, rcI cI ad zr 3 48, rcI cI ad zr 4 48, rcI cI ad zr 5 48, rcI cI ad zr 7 4, rcI cI ad zr 8 4, rcI cI ad zr 9 192, rcI cI ad zr 10 48, rcI cI ad zr 12 12, rcI cI ad zr 13 12, rcI cI ad zr 14 12, rcI cI ad zr 15 12, rcI cI ad zr 16 12, rcI cI ad zr 18 8, rcJ cJ ad zr 19 8, rcI cI ad zr 25 40, rcI cI ad zr 26 40, rcI cI ad zr 27 40, rcI cZ ad zr 28 40, rcJ cJ ad zr 29 40, rcJ cJ ad zr 30 40, rcJ cJ ad zr 31 40, rcJ cJ ad zr 32 40, rcJ cJ ad zr 33 40, rcI cI ad zr 35 80, rcI cI ad zr 36 80, rcI cI ad zr 37 80] s.heap := hP0
  have hD : va_D (va_A (rW qm cI cJ cZ ad zr) s.heap.size) [rcO qm ad zr, rcI cI ad zr 2 48, rcI cI ad zr 3 48, rcI cI ad zr 4 48, rcI cI ad zr 5 48, rcI cI ad zr 7 4, rcI cI ad zr 8 4, rcI cI ad zr 9 192, rcI cI ad zr 10 48, rcI cI ad zr 12 12, rcI cI ad zr 13 12, rcI cI ad zr 14 12, rcI cI ad zr 15 12, rcI cI ad zr 16 12, rcI cI ad zr 18 8, rcJ cJ ad zr 19 8, rcI cI ad zr 25 40, rcI cI ad zr 26 40, rcI cI ad zr 27 40, rcI cZ ad zr 28 40, rcJ cJ ad zr 29 40, rcJ cJ ad zr 30 40, rcJ cJ ad zr 31 40, rcJ cJ ad zr 32 40, rcJ cJ ad zr 33 40, rcI cI ad zr 35 80, rcI cI ad zr 36 80, rcI cI ad zr 37 80] := hD0
  obtain ⟨⟨hn0, hn1, hn2, hn3⟩, hfar, hlh, hss, hsold, htk, hpk⟩ := id hI
  have hl : lv_has ls 4 [(0, .ref qm), (1, .int t), (2, .int tn), (3, .int gd)] := hl
  have hiX11 : ∀ w ∈ wsX110, w ∈ wsX11_parcel := by decide +kernel
  generalize hQ : MQ _ _ _ _ _ _ _ = Q
  refine lv_aload_n hx hb dX11_parcel_0 rfl (lv_at hl 0 rfl) ?_
  refine lv_iload_n hx hb dX11_parcel_1 rfl (lv_at hl 1 rfl) ?_
  have hPc := hP.sub (ws' := [rcO qm ad zr]) [0] rfl
  have hDc := hD.sub (ws' := [rcO qm ad zr]) [0] (by decide) rfl
  have hKc := hK.sub (tys' := []) [] rfl
  refine vp_callSi (va_Run.run (va_runV (As := [.int t]) (rest := []) ⟨hx, hb, hml, hown, hts⟩ (r_X11_noTake l dC dI  _ qm (.int (rs_i zr 0)) (.int (rs_i zr 1)) (.ref (ad 2)) (.ref (ad 3)) (.ref (ad 4)) (.ref (ad 5)) (.int (rs_i zr 6)) (.ref (ad 7)) (.ref (ad 8)) (.ref (ad 9)) (.ref (ad 10)) (.int (nI (rs_n zr 0))) (.ref (ad 12)) (.ref (ad 13)) (.ref (ad 14)) (.ref (ad 15)) (.ref (ad 16)) (.int (nI (rs_n zr 1))) (.ref (ad 18)) (.ref (ad 19)) (.int (rs_i zr 20)) (.int (rs_i zr 21)) (.int (rs_i zr 22)) (.int (rs_i zr 23)) (.ref (ad 25)) (.ref (ad 26)) (.ref (ad 27)) (.ref (ad 28)) (.ref (ad 29)) (.ref (ad 30)) (.ref (ad 31)) (.ref (ad 32)) (.ref (ad 33)) (.int (nI (rs_n zr 3))) (.ref (ad 35)) (.ref (ad 36)) (.ref (ad 37)) (.int (rs_i zr 38)) (nI (rs_n zr 2)) t (rs_n zr 2) rfl (by omega)) (cwV 1 hts gX11_parcel_X11_noTake rfl rfl rfl (by decide +kernel) ⟨Nat.le_of_ble_eq_true rfl, Nat.le_of_ble_eq_true rfl⟩) (pw_preV (va_recv hKc hPc (ci := 11) (q0 := 0) rfl rfl) hPc hKc hDc hN) rfl rfl hl.1 rfl (lv_room (Nat.le_of_ble_eq_true rfl)) dX11_parcel_2 ⟨Nat.le_of_ble_eq_true rfl, Nat.le_of_ble_eq_true rfl⟩)) (fun r1 hr1 => ?_)
  have hr1 : (r1 = 1 ∧ ∀ j, j < (rs_n zr 2) → t ≠ nI j) ∨ (r1 = 0 ∧ ∃ j, j < (rs_n zr 2) ∧ t = nI j) := hr1
  rcases hr1 with ⟨er1, hnojt⟩ | ⟨er1, jt, hjt, egjt⟩
  · subst er1
    refine lv_if_eq (tgt := 10) hx hb dX11_parcel_5 (by decide) (fun c2 => ?_) (fun c2 => ?_)
    · exact absurd c2 (by decide)
    · skip
      refine lv_iconst (v := (-1)) hx hb dX11_parcel_8 (by decide) ?_
      subst hQ
      exact W.iret (v := (-1)) hx hb hr (fun t ht hW => ⟨⟨(-1), zr, rfl, ⟨hI, (Or.inl ⟨hnojt, rfl, rfl⟩)⟩, (by rw [ht]; exact hP0), va_K.moved hW.alike hK, hD0⟩, (by rw [ht]; exact Nat.le_refl _), fun q _ _ => by rw [ht]⟩) (fun q h => absurd h List.not_mem_nil) dX11_parcel_9
  · subst er1
    subst egjt
    refine lv_if_eq (tgt := 10) hx hb dX11_parcel_5 (by decide) (fun c3 => ?_) (fun c3 => ?_)
    · skip
      refine lv_iload_n hx hb dX11_parcel_10 rfl (lv_at hl 2 rfl) ?_
      refine lv_i2l (v := tn.toInt64) hx hb dX11_parcel_11 rfl ?_
      refine lv_lconst (v := 1) hx hb dX11_parcel_12 (by decide) ?_
      refine lv_ldc2 (v := 1000) hx hb hown (hts (.constantLong RX11 133 (1000)) (by decide +kernel)) dX11_parcel_13 ?_
      refine vp_callSi (va_Run.run (va_runS (As := [.long tn.toInt64, .long 1, .long 1000]) (rest := []) ⟨hx, hb, hml, hown, hts⟩ (c_X11_in l tn.toInt64 1 1000 ) (va_cwS 3 hts gX11_parcel_X11_in rfl rfl rfl (by decide +kernel) ⟨Nat.le_of_ble_eq_true rfl, Nat.le_of_ble_eq_true rfl⟩) (p0_preS hN) rfl rfl hl.1 rfl (lv_room (Nat.le_of_ble_eq_true rfl)) dX11_parcel_16 ⟨Nat.le_of_ble_eq_true rfl, Nat.le_of_ble_eq_true rfl⟩)) (fun r4 hr4 => ?_)
      have hr4 : r4 = if 1 ≤ tn.toInt64 ∧ tn.toInt64 ≤ 1000 then 1 else 0 := hr4
      have hr4 := hr4.trans (in_w _ 1 1000 (by decide) (by decide))
      refine lv_if_eq (tgt := 34) hx hb dX11_parcel_19 (by decide) (fun c5 => ?_) (fun c5 => ?_)
      · skip
        have c5 := (fa_bool_prop hr4).1.mp c5
        refine lv_bipush (v := (-2)) hx hb dX11_parcel_34 (by decide) ?_
        subst hQ
        exact W.iret (v := (-2)) hx hb hr (fun t ht hW => ⟨⟨(-2), zr, rfl, ⟨hI, (Or.inr (Or.inl ⟨jt, rfl, hjt, c5, rfl, rfl⟩))⟩, (by rw [ht]; exact hP0), va_K.moved hW.alike hK, hD0⟩, (by rw [ht]; exact Nat.le_refl _), fun q _ _ => by rw [ht]⟩) (fun q h => absurd h List.not_mem_nil) dX11_parcel_36
      · skip
        have c5 := (fa_bool_prop hr4).2.mp c5
        refine lv_iload_n hx hb dX11_parcel_22 rfl (lv_at hl 3 rfl) ?_
        refine lv_i2l (v := gd.toInt64) hx hb dX11_parcel_23 rfl ?_
        refine lv_lconst (v := 0) hx hb dX11_parcel_24 (by decide) ?_
        refine lv_ldc2 (v := 1000) hx hb hown (hts (.constantLong RX11 133 (1000)) (by decide +kernel)) dX11_parcel_25 ?_
        refine vp_callSi (va_Run.run (va_runS (As := [.long gd.toInt64, .long 0, .long 1000]) (rest := []) ⟨hx, hb, hml, hown, hts⟩ (c_X11_in l gd.toInt64 0 1000 ) (va_cwS 3 hts gX11_parcel_X11_in rfl rfl rfl (by decide +kernel) ⟨Nat.le_of_ble_eq_true rfl, Nat.le_of_ble_eq_true rfl⟩) (p0_preS hN) rfl rfl hl.1 rfl (lv_room (Nat.le_of_ble_eq_true rfl)) dX11_parcel_28 ⟨Nat.le_of_ble_eq_true rfl, Nat.le_of_ble_eq_true rfl⟩)) (fun r6 hr6 => ?_)
        have hr6 : r6 = if 0 ≤ gd.toInt64 ∧ gd.toInt64 ≤ 1000 then 1 else 0 := hr6
        have hr6 := hr6.trans (in_w _ 0 1000 (by decide) (by decide))
        refine lv_if_ne (tgt := 37) hx hb dX11_parcel_31 (by decide) (fun c7 => ?_) (fun c7 => ?_)
        · skip
          have c7 := (fa_bool_prop hr6).2.mp c7
          refine lv_aload_n hx hb dX11_parcel_37 rfl (lv_at hl 0 rfl) ?_
          refine va_get (D := (dC, dI)) (ci := 11) (v := .ref (ad 28)) (C := RX11) (T := TX11) (N := 39) hx hb hts hiX11 hown hK hP 0 rfl rfl 28 (by decide) (hts (.fieldLink RX11 65 "TributePitchesModel" "isSettled" "[Z") (by decide +kernel)) (fun _ h9 => h9) rfl dX11_parcel_38 ?_
          refine lv_iload_n hx hb dX11_parcel_41 rfl (lv_at hl 1 rfl) ?_
          refine va_zald hx hb hK hP 19 2 rfl rfl (vp_in_nI (by omega) (by omega)) dX11_parcel_42 ?_
          refine lv_topi (fun v8 ev8 => ?_)
          have ev8 : v8 = (rs_I zr 28) jt := by rw [ev8]; rw [nI_clamp (by omega)]
          subst ev8
          refine lv_if_eq (tgt := 49) hx hb dX11_parcel_43 (by decide) (fun c9 => ?_) (fun c9 => ?_)
          · skip
            refine lv_aload_n hx hb dX11_parcel_49 rfl (lv_at hl 0 rfl) ?_
            refine va_get (D := (dC, dI)) (ci := 11) (v := .int (nI (rs_n zr 3))) (C := RX11) (T := TX11) (N := 39) hx hb hts hiX11 hown hK hP 0 rfl rfl 34 (by decide) (hts (.fieldLink RX11 217 "TributePitchesModel" "parcels" "I") (by decide +kernel)) (fun _ h9 => h9) rfl dX11_parcel_50 ?_
            refine lv_bipush (v := 80) hx hb dX11_parcel_53 (by decide) ?_
            refine lv_icmp_ne (tgt := 61) hx hb dX11_parcel_55 (by decide) (fun c10 => ?_) (fun c10 => ?_)
            · skip
              have hk8 : rs_n zr 3 < 80 := (by have q : ¬ rs_n zr 3 = 80 := fun q => c10 (by rw [q]; rfl); omega)
              refine lv_aload_n hx hb dX11_parcel_61 rfl (lv_at hl 0 rfl) ?_
              refine va_get (D := (dC, dI)) (ci := 11) (v := .ref (ad 35)) (C := RX11) (T := TX11) (N := 39) hx hb hts hiX11 hown hK hP 0 rfl rfl 35 (by decide) (hts (.fieldLink RX11 84 "TributePitchesModel" "parcelTake" "[I") (by decide +kernel)) (fun _ h9 => h9) rfl dX11_parcel_62 ?_
              refine lv_aload_n hx hb dX11_parcel_65 rfl (lv_at hl 0 rfl) ?_
              refine va_get (D := (dC, dI)) (ci := 11) (v := .int (nI (rs_n zr 3))) (C := RX11) (T := TX11) (N := 39) hx hb hts hiX11 hown hK hP 0 rfl rfl 34 (by decide) (hts (.fieldLink RX11 217 "TributePitchesModel" "parcels" "I") (by decide +kernel)) (fun _ h9 => h9) rfl dX11_parcel_66 ?_
              refine lv_iload_n hx hb dX11_parcel_69 rfl (lv_at hl 1 rfl) ?_
              refine va_iast hx hb hK hP hD hS 25 0 rfl rfl (vp_in_nI (by omega) (by omega)) dX11_parcel_70 (fun H locs hP hD hS => ?_)
              rw [nI_clamp (n := (rs_n zr 3)) (by omega)] at hP hD
              have hP : va_P (dC, dI) vwCl [rcO qm ad zr, rcI cI ad zr 2 48, rcI cI ad zr 3 48, rcI cI ad zr 4 48, rcI cI ad zr 5 48, rcI cI ad zr 7 4, rcI cI ad zr 8 4, rcI cI ad zr 9 192, rcI cI ad zr 10 48, rcI cI ad zr 12 12, rcI cI ad zr 13 12, rcI cI ad zr 14 12, rcI cI ad zr 15 12, rcI cI ad zr 16 12, rcI cI ad zr 18 8, rcJ cJ ad zr 19 8, rcI cI ad zr 25 40, rcI cI ad zr 26 40, rcI cI ad zr 27 40, rcI cZ ad zr 28 40, rcJ cJ ad zr 29 40, rcJ cJ ad zr 30 40, rcJ cJ ad zr 31 40, rcJ cJ ad zr 32 40, rcJ cJ ad zr 33 40, (ad 35, .inl (cI, 80, .inl (upd (rs_I zr 35) (rs_n zr 3) (nI jt)))), rcI cI ad zr 36 80, rcI cI ad zr 37 80] H := hP
              have hD : va_D _ [rcO qm ad zr, rcI cI ad zr 2 48, rcI cI ad zr 3 48, rcI cI ad zr 4 48, rcI cI ad zr 5 48, rcI cI ad zr 7 4, rcI cI ad zr 8 4, rcI cI ad zr 9 192, rcI cI ad zr 10 48, rcI cI ad zr 12 12, rcI cI ad zr 13 12, rcI cI ad zr 14 12, rcI cI ad zr 15 12, rcI cI ad zr 16 12, rcI cI ad zr 18 8, rcJ cJ ad zr 19 8, rcI cI ad zr 25 40, rcI cI ad zr 26 40, rcI cI ad zr 27 40, rcI cZ ad zr 28 40, rcJ cJ ad zr 29 40, rcJ cJ ad zr 30 40, rcJ cJ ad zr 31 40, rcJ cJ ad zr 32 40, rcJ cJ ad zr 33 40, (ad 35, .inl (cI, 80, .inl (upd (rs_I zr 35) (rs_n zr 3) (nI jt)))), rcI cI ad zr 36 80, rcI cI ad zr 37 80] := hD
              refine lv_aload_n hx hb dX11_parcel_71 rfl (lv_at hl 0 rfl) ?_
              refine va_get (D := (dC, dI)) (ci := 11) (v := .ref (ad 36)) (C := RX11) (T := TX11) (N := 39) hx hb hts hiX11 hown hK hP 0 rfl rfl 36 (by decide) (hts (.fieldLink RX11 87 "TributePitchesModel" "parcelTons" "[I") (by decide +kernel)) (fun _ h9 => h9) rfl dX11_parcel_72 ?_
              refine lv_aload_n hx hb dX11_parcel_75 rfl (lv_at hl 0 rfl) ?_
              refine va_get (D := (dC, dI)) (ci := 11) (v := .int (nI (rs_n zr 3))) (C := RX11) (T := TX11) (N := 39) hx hb hts hiX11 hown hK hP 0 rfl rfl 34 (by decide) (hts (.fieldLink RX11 217 "TributePitchesModel" "parcels" "I") (by decide +kernel)) (fun _ h9 => h9) rfl dX11_parcel_76 ?_
              refine lv_iload_n hx hb dX11_parcel_79 rfl (lv_at hl 2 rfl) ?_
              refine va_iast hx hb hK hP hD hS 26 0 rfl rfl (vp_in_nI (by omega) (by omega)) dX11_parcel_80 (fun H locs hP hD hS => ?_)
              rw [nI_clamp (n := (rs_n zr 3)) (by omega)] at hP hD
              have hP : va_P (dC, dI) vwCl [rcO qm ad zr, rcI cI ad zr 2 48, rcI cI ad zr 3 48, rcI cI ad zr 4 48, rcI cI ad zr 5 48, rcI cI ad zr 7 4, rcI cI ad zr 8 4, rcI cI ad zr 9 192, rcI cI ad zr 10 48, rcI cI ad zr 12 12, rcI cI ad zr 13 12, rcI cI ad zr 14 12, rcI cI ad zr 15 12, rcI cI ad zr 16 12, rcI cI ad zr 18 8, rcJ cJ ad zr 19 8, rcI cI ad zr 25 40, rcI cI ad zr 26 40, rcI cI ad zr 27 40, rcI cZ ad zr 28 40, rcJ cJ ad zr 29 40, rcJ cJ ad zr 30 40, rcJ cJ ad zr 31 40, rcJ cJ ad zr 32 40, rcJ cJ ad zr 33 40, (ad 35, .inl (cI, 80, .inl (upd (rs_I zr 35) (rs_n zr 3) (nI jt)))), (ad 36, .inl (cI, 80, .inl (upd (rs_I zr 36) (rs_n zr 3) tn))), rcI cI ad zr 37 80] H := hP
              have hD : va_D _ [rcO qm ad zr, rcI cI ad zr 2 48, rcI cI ad zr 3 48, rcI cI ad zr 4 48, rcI cI ad zr 5 48, rcI cI ad zr 7 4, rcI cI ad zr 8 4, rcI cI ad zr 9 192, rcI cI ad zr 10 48, rcI cI ad zr 12 12, rcI cI ad zr 13 12, rcI cI ad zr 14 12, rcI cI ad zr 15 12, rcI cI ad zr 16 12, rcI cI ad zr 18 8, rcJ cJ ad zr 19 8, rcI cI ad zr 25 40, rcI cI ad zr 26 40, rcI cI ad zr 27 40, rcI cZ ad zr 28 40, rcJ cJ ad zr 29 40, rcJ cJ ad zr 30 40, rcJ cJ ad zr 31 40, rcJ cJ ad zr 32 40, rcJ cJ ad zr 33 40, (ad 35, .inl (cI, 80, .inl (upd (rs_I zr 35) (rs_n zr 3) (nI jt)))), (ad 36, .inl (cI, 80, .inl (upd (rs_I zr 36) (rs_n zr 3) tn))), rcI cI ad zr 37 80] := hD
              refine lv_aload_n hx hb dX11_parcel_81 rfl (lv_at hl 0 rfl) ?_
              refine va_get (D := (dC, dI)) (ci := 11) (v := .ref (ad 37)) (C := RX11) (T := TX11) (N := 39) hx hb hts hiX11 hown hK hP 0 rfl rfl 37 (by decide) (hts (.fieldLink RX11 90 "TributePitchesModel" "parcelGood" "[I") (by decide +kernel)) (fun _ h9 => h9) rfl dX11_parcel_82 ?_
              refine lv_aload_n hx hb dX11_parcel_85 rfl (lv_at hl 0 rfl) ?_
              refine va_get (D := (dC, dI)) (ci := 11) (v := .int (nI (rs_n zr 3))) (C := RX11) (T := TX11) (N := 39) hx hb hts hiX11 hown hK hP 0 rfl rfl 34 (by decide) (hts (.fieldLink RX11 217 "TributePitchesModel" "parcels" "I") (by decide +kernel)) (fun _ h9 => h9) rfl dX11_parcel_86 ?_
              refine lv_iload_n hx hb dX11_parcel_89 rfl (lv_at hl 3 rfl) ?_
              refine va_iast hx hb hK hP hD hS 27 0 rfl rfl (vp_in_nI (by omega) (by omega)) dX11_parcel_90 (fun H locs hP hD hS => ?_)
              rw [nI_clamp (n := (rs_n zr 3)) (by omega)] at hP hD
              have hP : va_P (dC, dI) vwCl [rcO qm ad zr, rcI cI ad zr 2 48, rcI cI ad zr 3 48, rcI cI ad zr 4 48, rcI cI ad zr 5 48, rcI cI ad zr 7 4, rcI cI ad zr 8 4, rcI cI ad zr 9 192, rcI cI ad zr 10 48, rcI cI ad zr 12 12, rcI cI ad zr 13 12, rcI cI ad zr 14 12, rcI cI ad zr 15 12, rcI cI ad zr 16 12, rcI cI ad zr 18 8, rcJ cJ ad zr 19 8, rcI cI ad zr 25 40, rcI cI ad zr 26 40, rcI cI ad zr 27 40, rcI cZ ad zr 28 40, rcJ cJ ad zr 29 40, rcJ cJ ad zr 30 40, rcJ cJ ad zr 31 40, rcJ cJ ad zr 32 40, rcJ cJ ad zr 33 40, (ad 35, .inl (cI, 80, .inl (upd (rs_I zr 35) (rs_n zr 3) (nI jt)))), (ad 36, .inl (cI, 80, .inl (upd (rs_I zr 36) (rs_n zr 3) tn))), (ad 37, .inl (cI, 80, .inl (upd (rs_I zr 37) (rs_n zr 3) gd)))] H := hP
              have hD : va_D _ [rcO qm ad zr, rcI cI ad zr 2 48, rcI cI ad zr 3 48, rcI cI ad zr 4 48, rcI cI ad zr 5 48, rcI cI ad zr 7 4, rcI cI ad zr 8 4, rcI cI ad zr 9 192, rcI cI ad zr 10 48, rcI cI ad zr 12 12, rcI cI ad zr 13 12, rcI cI ad zr 14 12, rcI cI ad zr 15 12, rcI cI ad zr 16 12, rcI cI ad zr 18 8, rcJ cJ ad zr 19 8, rcI cI ad zr 25 40, rcI cI ad zr 26 40, rcI cI ad zr 27 40, rcI cZ ad zr 28 40, rcJ cJ ad zr 29 40, rcJ cJ ad zr 30 40, rcJ cJ ad zr 31 40, rcJ cJ ad zr 32 40, rcJ cJ ad zr 33 40, (ad 35, .inl (cI, 80, .inl (upd (rs_I zr 35) (rs_n zr 3) (nI jt)))), (ad 36, .inl (cI, 80, .inl (upd (rs_I zr 36) (rs_n zr 3) tn))), (ad 37, .inl (cI, 80, .inl (upd (rs_I zr 37) (rs_n zr 3) gd)))] := hD
              refine lv_aload_n hx hb dX11_parcel_91 rfl (lv_at hl 0 rfl) ?_
              refine lv_dup hx hb dX11_parcel_92 rfl ?_
              refine va_get (D := (dC, dI)) (ci := 11) (v := .int (nI (rs_n zr 3))) (C := RX11) (T := TX11) (N := 39) hx hb hts hiX11 hown hK hP 0 rfl rfl 34 (by decide) (hts (.fieldLink RX11 217 "TributePitchesModel" "parcels" "I") (by decide +kernel)) (fun _ h9 => h9) rfl dX11_parcel_93 ?_
              refine lv_iconst (v := 1) hx hb dX11_parcel_96 (by decide) ?_
              refine lv_iadd hx hb dX11_parcel_97 ?_
              refine lv_topi (fun vq evq => ?_)
              have evq : vq = nI (rs_n zr 3 + 1) := by rw [evq]; exact nI_1 _
              subst evq
              refine va_put (D := (dC, dI)) (ci := 11) (v := .int (nI (rs_n zr 3 + 1))) (ty := .int) (C := RX11) (T := TX11) (N := 39) hx hb hts hiX11 tyX11 tyX11_ok nmX11 hown hK hP hD hS 0 rfl rfl 34 (by decide) (hts (.fieldLink RX11 217 "TributePitchesModel" "parcels" "I") (by decide +kernel)) (fun _ h9 => h9) rfl (by decide +kernel) rfl rfl (Nat.le_of_ble_eq_true rfl) dX11_parcel_98 (fun H locs hP hD hS => ?_)
              have hP : va_P (dC, dI) vwCl [(qm, .inr (11, [.int (rs_i zr 0), .int (rs_i zr 1), .ref (ad 2), .ref (ad 3), .ref (ad 4), .ref (ad 5), .int (rs_i zr 6), .ref (ad 7), .ref (ad 8), .ref (ad 9), .ref (ad 10), .int (nI (rs_n zr 0)), .ref (ad 12), .ref (ad 13), .ref (ad 14), .ref (ad 15), .ref (ad 16), .int (nI (rs_n zr 1)), .ref (ad 18), .ref (ad 19), .int (rs_i zr 20), .int (rs_i zr 21), .int (rs_i zr 22), .int (rs_i zr 23), .int (nI (rs_n zr 2)), .ref (ad 25), .ref (ad 26), .ref (ad 27), .ref (ad 28), .ref (ad 29), .ref (ad 30), .ref (ad 31), .ref (ad 32), .ref (ad 33), .int (nI (rs_n zr 3 + 1)), .ref (ad 35), .ref (ad 36), .ref (ad 37), .int (rs_i zr 38)])), rcI cI ad zr 2 48, rcI cI ad zr 3 48, rcI cI ad zr 4 48, rcI cI ad zr 5 48, rcI cI ad zr 7 4, rcI cI ad zr 8 4, rcI cI ad zr 9 192, rcI cI ad zr 10 48, rcI cI ad zr 12 12, rcI cI ad zr 13 12, rcI cI ad zr 14 12, rcI cI ad zr 15 12, rcI cI ad zr 16 12, rcI cI ad zr 18 8, rcJ cJ ad zr 19 8, rcI cI ad zr 25 40, rcI cI ad zr 26 40, rcI cI ad zr 27 40, rcI cZ ad zr 28 40, rcJ cJ ad zr 29 40, rcJ cJ ad zr 30 40, rcJ cJ ad zr 31 40, rcJ cJ ad zr 32 40, rcJ cJ ad zr 33 40, (ad 35, .inl (cI, 80, .inl (upd (rs_I zr 35) (rs_n zr 3) (nI jt)))), (ad 36, .inl (cI, 80, .inl (upd (rs_I zr 36) (rs_n zr 3) tn))), (ad 37, .inl (cI, 80, .inl (upd (rs_I zr 37) (rs_n zr 3) gd)))] H := hP
              have hD : va_D _ [(qm, .inr (11, [.int (rs_i zr 0), .int (rs_i zr 1), .ref (ad 2), .ref (ad 3), .ref (ad 4), .ref (ad 5), .int (rs_i zr 6), .ref (ad 7), .ref (ad 8), .ref (ad 9), .ref (ad 10), .int (nI (rs_n zr 0)), .ref (ad 12), .ref (ad 13), .ref (ad 14), .ref (ad 15), .ref (ad 16), .int (nI (rs_n zr 1)), .ref (ad 18), .ref (ad 19), .int (rs_i zr 20), .int (rs_i zr 21), .int (rs_i zr 22), .int (rs_i zr 23), .int (nI (rs_n zr 2)), .ref (ad 25), .ref (ad 26), .ref (ad 27), .ref (ad 28), .ref (ad 29), .ref (ad 30), .ref (ad 31), .ref (ad 32), .ref (ad 33), .int (nI (rs_n zr 3 + 1)), .ref (ad 35), .ref (ad 36), .ref (ad 37), .int (rs_i zr 38)])), rcI cI ad zr 2 48, rcI cI ad zr 3 48, rcI cI ad zr 4 48, rcI cI ad zr 5 48, rcI cI ad zr 7 4, rcI cI ad zr 8 4, rcI cI ad zr 9 192, rcI cI ad zr 10 48, rcI cI ad zr 12 12, rcI cI ad zr 13 12, rcI cI ad zr 14 12, rcI cI ad zr 15 12, rcI cI ad zr 16 12, rcI cI ad zr 18 8, rcJ cJ ad zr 19 8, rcI cI ad zr 25 40, rcI cI ad zr 26 40, rcI cI ad zr 27 40, rcI cZ ad zr 28 40, rcJ cJ ad zr 29 40, rcJ cJ ad zr 30 40, rcJ cJ ad zr 31 40, rcJ cJ ad zr 32 40, rcJ cJ ad zr 33 40, (ad 35, .inl (cI, 80, .inl (upd (rs_I zr 35) (rs_n zr 3) (nI jt)))), (ad 36, .inl (cI, 80, .inl (upd (rs_I zr 36) (rs_n zr 3) tn))), (ad 37, .inl (cI, 80, .inl (upd (rs_I zr 37) (rs_n zr 3) gd)))] := hD
              refine lv_aload_n hx hb dX11_parcel_101 rfl (lv_at hl 0 rfl) ?_
              refine va_get (D := (dC, dI)) (ci := 11) (v := .int (nI (rs_n zr 3 + 1))) (C := RX11) (T := TX11) (N := 39) hx hb hts hiX11 hown hK hP 0 rfl rfl 34 (by decide) (hts (.fieldLink RX11 217 "TributePitchesModel" "parcels" "I") (by decide +kernel)) (fun _ h9 => h9) rfl dX11_parcel_102 ?_
              refine lv_iconst (v := 1) hx hb dX11_parcel_105 (by decide) ?_
              refine lv_isub hx hb dX11_parcel_106 ?_
              refine lv_topi (fun vw evw => ?_)
              have evw : vw = nI (rs_n zr 3) := by rw [evw]; exact nI_pred _
              subst evw
              subst hQ
              have hlf := lr_parcel_2 qm cI cJ cZ ad zr tn gd jt hjt c5 c7 c9 c10 hk8 hI
              have hP9 : va_P (dC, dI) vwCl (rW qm cI cJ cZ ad (rs_i zr, va_up (rs_n zr) 3 (rs_n zr 3 + 1), va_up (va_up (va_up (rs_I zr) 35 (upd (rs_I zr 35) (rs_n zr 3) (nI jt))) 36 (upd (rs_I zr 36) (rs_n zr 3) tn)) 37 (upd (rs_I zr 37) (rs_n zr 3) gd), rs_L zr)) H := by rw [hlf.2]; exact hP.sub [0, 1, 2, 3, 4, 5, 6, 7, 8, 9, 10, 11, 12, 13, 14, 15, 16, 17, 18, 19, 20, 21, 22, 23, 24, 25, 26, 27] rfl
              have hD9 : va_D (va_A (rW qm cI cJ cZ ad zr) s.heap.size) (rW qm cI cJ cZ ad (rs_i zr, va_up (rs_n zr) 3 (rs_n zr 3 + 1), va_up (va_up (va_up (rs_I zr) 35 (upd (rs_I zr 35) (rs_n zr 3) (nI jt))) 36 (upd (rs_I zr 36) (rs_n zr 3) tn)) 37 (upd (rs_I zr 37) (rs_n zr 3) gd), rs_L zr)) := by rw [hlf.2]; exact hD.sub [0, 1, 2, 3, 4, 5, 6, 7, 8, 9, 10, 11, 12, 13, 14, 15, 16, 17, 18, 19, 20, 21, 22, 23, 24, 25, 26, 27] (by decide) rfl
              exact W.iret (v := nI (rs_n zr 3)) hx hb hr (fun t ht hW => ⟨⟨nI (rs_n zr 3), (rs_i zr, va_up (rs_n zr) 3 (rs_n zr 3 + 1), va_up (va_up (va_up (rs_I zr) 35 (upd (rs_I zr 35) (rs_n zr 3) (nI jt))) 36 (upd (rs_I zr 36) (rs_n zr 3) tn)) 37 (upd (rs_I zr 37) (rs_n zr 3) gd), rs_L zr), rfl, ⟨hlf.1, (Or.inr (Or.inr (Or.inl ⟨jt, rfl, hjt, c5, c7, c9, c10, hk8, rfl, rfl⟩)))⟩, by rw [ht]; exact hP9, va_K.moved hW.alike hK, hD9⟩, hS.F ht⟩) hS.2.2 dX11_parcel_107
            · skip
              refine lv_bipush (v := (-4)) hx hb dX11_parcel_58 (by decide) ?_
              subst hQ
              exact W.iret (v := (-4)) hx hb hr (fun t ht hW => ⟨⟨(-4), zr, rfl, ⟨hI, (Or.inr (Or.inr (Or.inr (Or.inl ⟨jt, rfl, hjt, c5, c7, c9, c10, rfl, rfl⟩))))⟩, (by rw [ht]; exact hP0), va_K.moved hW.alike hK, hD0⟩, (by rw [ht]; exact Nat.le_refl _), fun q _ _ => by rw [ht]⟩) (fun q h => absurd h List.not_mem_nil) dX11_parcel_60
          · skip
            refine lv_bipush (v := (-3)) hx hb dX11_parcel_46 (by decide) ?_
            subst hQ
            exact W.iret (v := (-3)) hx hb hr (fun t ht hW => ⟨⟨(-3), zr, rfl, ⟨hI, (Or.inr (Or.inr (Or.inr (Or.inr (Or.inl ⟨jt, rfl, hjt, c5, c7, c9, rfl, rfl⟩)))))⟩, (by rw [ht]; exact hP0), va_K.moved hW.alike hK, hD0⟩, (by rw [ht]; exact Nat.le_refl _), fun q _ _ => by rw [ht]⟩) (fun q h => absurd h List.not_mem_nil) dX11_parcel_48
        · skip
          have c7 := (fa_bool_prop hr6).1.mp c7
          refine lv_bipush (v := (-2)) hx hb dX11_parcel_34 (by decide) ?_
          subst hQ
          exact W.iret (v := (-2)) hx hb hr (fun t ht hW => ⟨⟨(-2), zr, rfl, ⟨hI, (Or.inr (Or.inr (Or.inr (Or.inr (Or.inr ⟨jt, rfl, hjt, c5, c7, rfl, rfl⟩)))))⟩, (by rw [ht]; exact hP0), va_K.moved hW.alike hK, hD0⟩, (by rw [ht]; exact Nat.le_refl _), fun q _ _ => by rw [ht]⟩) (fun q h => absurd h List.not_mem_nil) dX11_parcel_36
    · exact absurd c3 (by decide)
