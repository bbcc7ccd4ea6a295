def pR_gang (zr : RS2) (k : Int32) (r : Int32) (u : RS2) : Prop :=
  ((0 ≤ k ∧ k ≤ 2) ∧ (¬ (nI (rs_n zr 1)) = 8) ∧ (rs_n zr 1 < 8) ∧ r = (nI (rs_n zr 1)) ∧ u = (rs_i zr, va_up (rs_n zr) 1 (rs_n zr 1 + 1), va_up (rs_I zr) 18 (upd (rs_I zr 18) (rs_n zr 1) k), rs_L zr)) ∨
  ((0 ≤ k ∧ k ≤ 2) ∧ ((nI (rs_n zr 1)) = 8) ∧ r = ((-4)) ∧ u = zr) ∨
  ((¬ (0 ≤ k ∧ k ≤ 2)) ∧ r = ((-2)) ∧ u = zr)
set_option maxHeartbeats 4000000 in
theorem lr_gang_0 (qm : Nat) (cI cJ cZ : ClassId) (ad : Nat → Nat) (zr : RS2) (k : Int32) (c2 : 0 ≤ k ∧ k ≤ 2) (c3 : ¬ (nI (rs_n zr 1)) = 8) (hg8 : rs_n zr 1 < 8) (hI : invR zr) : invR (rs_i zr, va_up (rs_n zr) 1 (rs_n zr 1 + 1), va_up (rs_I zr) 18 (upd (rs_I zr 18) (rs_n zr 1) k), rs_L zr) ∧ rW qm cI cJ cZ ad (rs_i zr, va_up (rs_n zr) 1 (rs_n zr 1 + 1), va_up (rs_I zr) 18 (upd (rs_I zr 18) (rs_n zr 1) k), rs_L zr) = [(qm, .inr (11, [.int (rs_i zr 0), .int (rs_i zr 1), .ref (ad 2), .ref (ad 3), .ref (ad 4), .ref (ad 5), .int (rs_i zr 6), .ref (ad 7), .ref (ad 8), .ref (ad 9), .ref (ad 10), .int (nI (rs_n zr 0)), .ref (ad 12), .ref (ad 13), .ref (ad 14), .ref (ad 15), .ref (ad 16), .int (nI (rs_n zr 1 + 1)), .ref (ad 18), .ref (ad 19), .int (rs_i zr 20), .int (rs_i zr 21), .int (rs_i zr 22), .int (rs_i zr 23), .int (nI (rs_n zr 2)), .ref (ad 25), .ref (ad 26), .ref (ad 27), .ref (ad 28), .ref (ad 29), .ref (ad 30), .ref (ad 31), .ref (ad 32), .ref (ad 33), .int (nI (rs_n zr 3)), .ref (ad 35), .ref (ad 36), .ref (ad 37), .int (rs_i zr 38)])), rcI cI ad zr 2 48, rcI cI ad zr 3 48, rcI cI ad zr 4 48, rcI cI ad zr 5 48, rcI cI ad zr 7 4, rcI cI ad zr 8 4, rcI cI ad zr 9 192, rcI cI ad zr 10 48, rcI cI ad zr 12 12, rcI cI ad zr 13 12, rcI cI ad zr 14 12, rcI cI ad zr 15 12, rcI cI ad zr 16 12, (ad 18, .inl (cI, 8, .inl (upd (rs_I zr 18) (rs_n zr 1) k))), rcJ cJ ad zr 19 8, rcI cI ad zr 25 40, rcI cI ad zr 26 40, rcI cI ad zr 27 40, rcI cZ ad zr 28 40, rcJ cJ ad zr 29 40, rcJ cJ ad zr 30 40, rcJ cJ ad zr 31 40, rcJ cJ ad zr 32 40, rcJ cJ ad zr 33 40, rcI cI ad zr 35 80, rcI cI ad zr 36 80, rcI cI ad zr 37 80] := by
  obtain ⟨⟨hn0, hn1, hn2, hn3⟩, hfar, hlh, hss, hsold, htk, hpk⟩ := id hI
  exact ⟨(by refine ⟨⟨hn0, (show rs_n zr 1 + 1 ≤ 8 by omega), hn2, hn3⟩, hfar, hlh, hss, (hsold.imp id (fun q => ⟨q.1, q.2.imp id (fun ⟨g, h1, h2⟩ => ⟨g, Nat.lt_succ_of_lt h1, h2⟩)⟩)), (fun t ht => ⟨(htk t ht).1.imp (fun g q => ⟨Nat.lt_succ_of_lt q.1, q.2⟩), (htk t ht).2⟩), hpk⟩), by simp [rW, rcO, rcI, rcJ, rs_i, rs_n, rs_I, rs_L, va_up, upd]⟩
set_option maxHeartbeats 4000000 in
set_option maxRecDepth 100000 in
theorem M_gang (l : Launch) (dC : Nat → ClassId) (dI : Nat → Nat → Nat) (cI cJ cZ : ClassId) (sz : Nat) (qm : Nat) (ad : Nat → Nat) (zr : RS2) (k : Int32) (hI : invR zr) : Met l yX11_gang wsX11_gang ({ frames := 3, cells := 0, slots := 0, locals := 90 }) (pw (dC, dI) [(cI, .int), (cJ, .long), (cZ, .boolean)] (rW qm cI cJ cZ ad zr) sz [.ref qm, .int k]) (va_Qi (fun r (u : RS2) => invR u ∧ pR_gang zr k r u) (fun u t => bw (dC, dI) [(cI, .int), (cJ, .long), (cZ, .boolean)] (va_A (rW qm cI cJ cZ ad zr) sz) (rW qm cI cJ cZ ad u) t) (va_A (rW qm cI cJ cZ ad zr) sz)) 0 0 (va_A (rW qm cI cJ cZ ad zr) sz) := by
  refine pw_met (cc := cX11_gang) (maxL := 2) (ret := (some .int)) (by decide) rfl (Nat.le_of_ble_eq_true rfl) ?_
  intro p e s m below meth c0 hx hb hr hml hown hlocks hnm hts hP0 hK hD0 hN hsz hA hS ls hl
  subst hsz
  have hP : va_P (dC, dI) vwCl [rcO qm ad zr, rcI cI ad zr 2 48, rcI cI ad zr 3 48, rcI cI ad zr 4 48, rcI cI ad zr 5 48, rcI cI ad zr 7 4, rcI cI ad zr 8 4, rcI cI ad zr 9 192, rcI cI ad zr 10 48, rcI cI ad zr 12 12, rcI cI ad zr 13 12, rcI cI ad zr 14 12, rcI cI ad zr 15 12, rcI cI ad zr 16 12, rcI cI ad zr 18 8, rcJ cJ ad zr 19 8, rcI cI ad zr 25 40, rcI cI ad zr 26 40, rcI cI ad zr 27 40, rcI cZ ad zr 28 40, rcJ cJ ad zr 29 40, rcJ cJ ad zr 30 40, rcJ cJ ad zr 31 40, rcJ cJ ad zr 32 40, rcJ cJ ad zr 33 40, rcI cI ad zr 35 80, rcI cI ad zr 36 80, rcI cI ad zr 37 80] s.heap := hP0
  have hD : va_D (va_A (rW qm cI cJ cZ ad zr) s.heap.size) [rcO qm ad zr, rcI cI ad zr 2 48, rcI cI ad zr 3 48, rcI cI ad zr 4 48, rcI cI ad zr 5 48, rcI cI ad zr 7 4, rcI cI ad zr 8 4, rcI cI ad zr 9 192, rcI cI ad zr 10 48, rcI cI ad zr 12 12, rcI cI ad zr 13 12, rcI cI ad zr 14 12, rcI cI ad zr 15 12, rcI cI ad zr 16 12, rcI cI ad zr 18 8, rcJ cJ ad zr 19 8, rcI cI ad zr 25 40, rcI cI ad zr 26 40, rcI cI ad zr 27 40, rcI cZ ad zr 28 40, rcJ cJ ad zr 29 40, rcJ cJ ad zr 30 40, rcJ cJ ad zr 31 40, rcJ cJ ad zr 32 40, rcJ cJ ad zr 33 40, rcI cI ad zr 35 80, rcI cI ad zr 36 80, rcI cI ad zr 37 80] := hD0
  obtain ⟨⟨hn0, hn1, hn2, hn3⟩, hfar, hlh, hss, hsold, htk, hpk⟩ := id hI
  have hl : lv_has ls 2 [(0, .ref qm), (1, .int k)] := hl
  have hiX11 : ∀ w ∈ wsX110, w ∈ wsX11_gang := by decide +kernel
  generalize hQ : MQ _ _ _ _ _ _ _ = Q
  refine lv_iload_n hx hb dX11_gang_0 rfl (lv_at hl 1 rfl) ?_
  refine lv_i2l (v := k.toInt64) hx hb dX11_gang_1 rfl ?_
  refine lv_lconst (v := 0) hx hb dX11_gang_2 (by decide) ?_
  refine lv_ldc2 (v := 2) hx hb hown (hts (.constantLong RX11 151 (2)) (by decide +kernel)) dX11_gang_3 ?_
  refine vp_callSi (va_Run.run (va_runS (As := [.long k.toInt64, .long 0, .long 2]) (rest := []) ⟨hx, hb, hml, hown, hts⟩ (c_X11_in l k.toInt64 0 2 ) (va_cwS 3 hts gX11_gang_X11_in rfl rfl rfl (by decide +kernel) ⟨Nat.le_of_ble_eq_true rfl, Nat.le_of_ble_eq_true rfl⟩) (p0_preS hN) rfl rfl hl.1 rfl (lv_room (Nat.le_of_ble_eq_true rfl)) dX11_gang_6 ⟨Nat.le_of_ble_eq_true rfl, Nat.le_of_ble_eq_true rfl⟩)) (fun r1 hr1 => ?_)
  have hr1 : r1 = if 0 ≤ k.toInt64 ∧ k.toInt64 ≤ 2 then 1 else 0 := hr1
  have hr1 := hr1.trans (in_w _ 0 2 (by decide) (by decide))
  refine lv_if_ne (tgt := 15) hx hb dX11_gang_9 (by decide) (fun c2 => ?_) (fun c2 => ?_)
  · skip
    have c2 := (fa_bool_prop hr1).2.mp c2
    refine lv_aload_n hx hb dX11_gang_15 rfl (lv_at hl 0 rfl) ?_
    refine va_get (D := (dC, dI)) (ci := 11) (v := .int (nI (rs_n zr 1))) (C := RX11) (T := TX11) (N := 39) hx hb hts hiX11 hown hK hP 0 rfl rfl 17 (by decide) (hts (.fieldLink RX11 185 "TributePitchesModel" "gangs" "I") (by decide +kernel)) (fun _ h9 => h9) rfl dX11_gang_16 ?_
    refine lv_bipush (v := 8) hx hb dX11_gang_19 (by decide) ?_
    refine lv_icmp_ne (tgt := 27) hx hb dX11_gang_21 (by decide) (fun c3 => ?_) (fun c3 => ?_)
    · skip
      have hg8 : rs_n zr 1 < 8 := (by have q : ¬ rs_n zr 1 = 8 := fun q => c3 (by rw [q]; rfl); omega)
      refine lv_aload_n hx hb dX11_gang_27 rfl (lv_at hl 0 rfl) ?_
      refine va_get (D := (dC, dI)) (ci := 11) (v := .ref (ad 18)) (C := RX11) (T := TX11) (N := 39) hx hb hts hiX11 hown hK hP 0 rfl rfl 18 (by decide) (hts (.fieldLink RX11 49 "TributePitchesModel" "sort" "[I") (by decide +kernel)) (fun _ h9 => h9) rfl dX11_gang_28 ?_
      refine lv_aload_n hx hb dX11_gang_31 rfl (lv_at hl 0 rfl) ?_
      refine va_get (D := (dC, dI)) (ci := 11) (v := .int (nI (rs_n zr 1))) (C := RX11) (T := TX11) (N := 39) hx hb hts hiX11 hown hK hP 0 rfl rfl 17 (by decide) (hts (.fieldLink RX11 185 "TributePitchesModel" "gangs" "I") (by decide +kernel)) (fun _ h9 => h9) rfl dX11_gang_32 ?_
      refine lv_iload_n hx hb dX11_gang_35 rfl (lv_at hl 1 rfl) ?_
      refine va_iast hx hb hK hP hD hS 14 0 rfl rfl (vp_in_nI (by omega) (by omega)) dX11_gang_36 (fun H locs hP hD hS => ?_)
      rw [nI_clamp (n := (rs_n zr 1)) (by omega)] at hP hD
      have hP : va_P (dC, dI) vwCl [rcO qm ad zr, rcI cI ad zr 2 48, rcI cI ad zr 3 48, rcI cI ad zr 4 48, rcI cI ad zr 5 48, rcI cI ad zr 7 4, rcI cI ad zr 8 4, rcI cI ad zr 9 192, rcI cI ad zr 10 48, rcI cI ad zr 12 12, rcI cI ad zr 13 12, rcI cI ad zr 14 12, rcI cI ad zr 15 12, rcI cI ad zr 16 12, (ad 18, .inl (cI, 8, .inl (upd (rs_I zr 18) (rs_n zr 1) k))), rcJ cJ ad zr 19 8, rcI cI ad zr 25 40, rcI cI ad zr 26 40, rcI cI ad zr 27 40, rcI cZ ad zr 28 40, rcJ cJ ad zr 29 40, rcJ cJ ad zr 30 40, rcJ cJ ad zr 31 40, rcJ cJ ad zr 32 40, rcJ cJ ad zr 33 40, rcI cI ad zr 35 80, rcI cI ad zr 36 80, rcI cI ad zr 37 80] H := hP
      have hD : va_D _ [rcO qm ad zr, rcI cI ad zr 2 48, rcI cI ad zr 3 48, rcI cI ad zr 4 48, rcI cI ad zr 5 48, rcI cI ad zr 7 4, rcI cI ad zr 8 4, rcI cI ad zr 9 192, rcI cI ad zr 10 48, rcI cI ad zr 12 12, rcI cI ad zr 13 12, rcI cI ad zr 14 12, rcI cI ad zr 15 12, rcI cI ad zr 16 12, (ad 18, .inl (cI, 8, .inl (upd (rs_I zr 18) (rs_n zr 1) k))), rcJ cJ ad zr 19 8, rcI cI ad zr 25 40, rcI cI ad zr 26 40, rcI cI ad zr 27 40, rcI cZ ad zr 28 40, rcJ cJ ad zr 29 40, rcJ cJ ad zr 30 40, rcJ cJ ad zr 31 40, rcJ cJ ad zr 32 40, rcJ cJ ad zr 33 40, rcI cI ad zr 35 80, rcI cI ad zr 36 80, rcI cI ad zr 37 80] := hD
      refine lv_aload_n hx hb dX11_gang_37 rfl (lv_at hl 0 rfl) ?_
      refine lv_dup hx hb dX11_gang_38 rfl ?_
      refine va_get (D := (dC, dI)) (ci := 11) (v := .int (nI (rs_n zr 1))) (C := RX11) (T := TX11) (N := 39) hx hb hts hiX11 hown hK hP 0 rfl rfl 17 (by decide) (hts (.fieldLink RX11 185 "TributePitchesModel" "gangs" "I") (by decide +kernel)) (fun _ h9 => h9) rfl dX11_gang_39 ?_
      refine lv_iconst (v := 1) hx hb dX11_gang_42 (by decide) ?_
      refine lv_iadd hx hb dX11_gang_43 ?_
      refine lv_topi (fun vq evq => ?_)
      have evq : vq = nI (rs_n zr 1 + 1) := by rw [evq]; exact nI_1 _
      subst evq
      refine va_put (D := (dC, dI)) (ci := 11) (v := .int (nI (rs_n zr 1 + 1))) (ty := .int) (C := RX11) (T := TX11) (N := 39) hx hb hts hiX11 tyX11 tyX11_ok nmX11 hown hK hP hD hS 0 rfl rfl 17 (by decide) (hts (.fieldLink RX11 185 "TributePitchesModel" "gangs" "I") (by decide +kernel)) (fun _ h9 => h9) rfl (by decide +kernel) rfl rfl (Nat.le_of_ble_eq_true rfl) dX11_gang_44 (fun H locs hP hD hS => ?_)
      have hP : va_P (dC, dI) vwCl [(qm, .inr (11, [.int (rs_i zr 0), .int (rs_i zr 1), .ref (ad 2), .ref (ad 3), .ref (ad 4), .ref (ad 5), .int (rs_i zr 6), .ref (ad 7), .ref (ad 8), .ref (ad 9), .ref (ad 10), .int (nI (rs_n zr 0)), .ref (ad 12), .ref (ad 13), .ref (ad 14), .ref (ad 15), .ref (ad 16), .int (nI (rs_n zr 1 + 1)), .ref (ad 18), .ref (ad 19), .int (rs_i zr 20), .int (rs_i zr 21), .int (rs_i zr 22), .int (rs_i zr 23), .int (nI (rs_n zr 2)), .ref (ad 25), .ref (ad 26), .ref (ad 27), .ref (ad 28), .ref (ad 29), .ref (ad 30), .ref (ad 31), .ref (ad 32), .ref (ad 33), .int (nI (rs_n zr 3)), .ref (ad 35), .ref (ad 36), .ref (ad 37), .int (rs_i zr 38)])), rcI cI ad zr 2 48, rcI cI ad zr 3 48, rcI cI ad zr 4 48, rcI cI ad zr 5 48, rcI cI ad zr 7 4, rcI cI ad zr 8 4, rcI cI ad zr 9 192, rcI cI ad zr 10 48, rcI cI ad zr 12 12, rcI cI ad zr 13 12, rcI cI ad zr 14 12, rcI cI ad zr 15 12, rcI cI ad zr 16 12, (ad 18, .inl (cI, 8, .inl (upd (rs_I zr 18) (rs_n zr 1) k))), rcJ cJ ad zr 19 8, rcI cI ad zr 25 40, rcI cI ad zr 26 40, rcI cI ad zr 27 40, rcI cZ ad zr 28 40, rcJ cJ ad zr 29 40, rcJ cJ ad zr 30 40, rcJ cJ ad zr 31 40, rcJ cJ ad zr 32 40, rcJ cJ ad zr 33 40, rcI cI ad zr 35 80, rcI cI ad zr 36 80, rcI cI ad zr 37 80] H := hP
      have hD : va_D _ [(qm, .inr (11, [.int (rs_i zr 0), .int (rs_i zr 1), .ref (ad 2), .ref (ad 3), .ref (ad 4), .ref (ad 5), .int (rs_i zr 6), .ref (ad 7), .ref (ad 8), .ref (ad 9), .ref (ad 10), .int (nI (rs_n zr 0)), .ref (ad 12), .ref (ad 13), .ref (ad 14), .ref (ad 15), .ref (ad 16), .int (nI (rs_n zr 1 + 1)), .ref (ad 18), .ref (ad 19), .int (rs_i zr 20), .int (rs_i zr 21), .int (rs_i zr 22), .int (rs_i zr 23), .int (nI (rs_n zr 2)), .ref (ad 25), .ref (ad 26), .ref (ad 27), .ref (ad 28), .ref (ad 29), .ref (ad 30), .ref (ad 31), .ref (ad 32), .ref (ad 33), .int (nI (rs_n zr 3)), .ref (ad 35), .ref (ad 36), .ref (ad 37), .int (rs_i zr 38)])), rcI cI ad zr 2 48, rcI cI ad zr 3 48, rcI cI ad zr 4 48, rcI cI ad zr 5 48, rcI cI ad zr 7 4, rcI cI ad zr 8 4, rcI cI ad zr 9 192, rcI cI ad zr 10 48, rcI cI ad zr 12 12, rcI cI ad zr 13 12, rcI cI ad zr 14 12, rcI cI ad zr 15 12, rcI cI ad zr 16 12, (ad 18, .inl (cI, 8, .inl (upd (rs_I zr 18) (rs_n zr 1) k))), rcJ cJ ad zr 19 8, rcI cI ad zr 25 40, rcI cI ad zr 26 40, rcI cI ad zr 27 40, rcI cZ ad zr 28 40, rcJ cJ ad zr 29 40, rcJ cJ ad zr 30 40, rcJ cJ ad zr 31 40, rcJ cJ ad zr 32 40, rcJ cJ ad zr 33 40, rcI cI ad zr 35 80, rcI cI ad zr 36 80, rcI cI ad zr 37 80] := hD
      refine lv_aload_n hx hb dX11_gang_47 rfl (lv_at hl 0 rfl) ?_
      refine va_get (D := (dC, dI)) (ci := 11) (v := .int (nI (rs_n zr 1 + 1))) (C := RX11) (T := TX11) (N := 39) hx hb hts hiX11 hown hK hP 0 rfl rfl 17 (by decide) (hts (.fieldLink RX11 185 "TributePitchesModel" "gangs" "I") (by decide +kernel)) (fun _ h9 => h9) rfl dX11_gang_48 ?_
      refine lv_iconst (v := 1) hx hb dX11_gang_51 (by decide) ?_
      refine lv_isub hx hb dX11_gang_52 ?_
      refine lv_topi (fun vw evw => ?_)
      have evw : vw = nI (rs_n zr 1) := by rw [evw]; exact nI_pred _
      subst evw
      subst hQ
      have hlf := lr_gang_0 qm cI cJ cZ ad zr k c2 c3 hg8 hI
      have hP9 : va_P (dC, dI) vwCl (rW qm cI cJ cZ ad (rs_i zr, va_up (rs_n zr) 1 (rs_n zr 1 + 1), va_up (rs_I zr) 18 (upd (rs_I zr 18) (rs_n zr 1) k), rs_L zr)) H := by rw [hlf.2]; exact hP.sub [0, 1, 2, 3, 4, 5, 6, 7, 8, 9, 10, 11, 12, 13, 14, 15, 16, 17, 18, 19, 20, 21, 22, 23, 24, 25, 26, 27] rfl
      have hD9 : va_D (va_A (rW qm cI cJ cZ ad zr) s.heap.size) (rW qm cI cJ cZ ad (rs_i zr, va_up (rs_n zr) 1 (rs_n zr 1 + 1), va_up (rs_I zr) 18 (upd (rs_I zr 18) (rs_n zr 1) k), rs_L zr)) := by rw [hlf.2]; exact hD.sub [0, 1, 2, 3, 4, 5, 6, 7, 8, 9, 10, 11, 12, 13, 14, 15, 16, 17, 18, 19, 20, 21, 22, 23, 24, 25, 26, 27] (by decide) rfl
      exact W.iret (v := nI (rs_n zr 1)) hx hb hr (fun t ht hW => ⟨⟨nI (rs_n zr 1), (rs_i zr, va_up (rs_n zr) 1 (rs_n zr 1 + 1), va_up (rs_I zr) 18 (upd (rs_I zr 18) (rs_n zr 1) k), rs_L zr), rfl, ⟨hlf.1, (Or.inl ⟨c2, c3, hg8, rfl, rfl⟩)⟩, by rw [ht]; exact hP9, va_K.moved hW.alike hK, hD9⟩, hS.F ht⟩) hS.2.2 dX11_gang_53
    · skip
      refine lv_bipush (v := (-4)) hx hb dX11_gang_24 (by decide) ?_
      subst hQ
      exact W.iret (v := (-4)) hx hb hr (fun t ht hW => ⟨⟨(-4), zr, rfl, ⟨hI, (Or.inr (Or.inl ⟨c2, c3, rfl, rfl⟩))⟩, (by rw [ht]; exact hP0), va_K.moved hW.alike hK, hD0⟩, (by rw [ht]; exact Nat.le_refl _), fun q _ _ => by rw [ht]⟩) (fun q h => absurd h List.not_mem_nil) dX11_gang_26
  · skip
    have c2 := (fa_bool_prop hr1).1.mp c2
    refine lv_bipush (v := (-2)) hx hb dX11_gang_12 (by decide) ?_
    subst hQ
    exact W.iret (v := (-2)) hx hb hr (fun t ht hW => ⟨⟨(-2), zr, rfl, ⟨hI, (Or.inr (Or.inr ⟨c2, rfl, rfl⟩))⟩, (by rw [ht]; exact hP0), va_K.moved hW.alike hK, hD0⟩, (by rw [ht]; exact Nat.le_refl _), fun q _ _ => by rw [ht]⟩) (fun q h => absurd h List.not_mem_nil) dX11_gang_14
