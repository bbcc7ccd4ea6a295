def pR_lose (zr : RS2) (k : Int32) (r : Int32) (u : RS2) : Prop :=
  ((∀ j, j < 4 → k ≠ nI j) ∧ r = ((-1)) ∧ u = zr) ∨
  (∃ js : Nat, k = nI js ∧ (js < 4) ∧ (0 ≤ ((rs_I zr 7) js)) ∧ r = (1) ∧ u = (rs_i zr, rs_n zr, va_up (rs_I zr) 7 (upd (rs_I zr 7) js (-1)), rs_L zr)) ∨
  (∃ js : Nat, k = nI js ∧ (js < 4) ∧ (¬ 0 ≤ ((rs_I zr 7) js)) ∧ r = (0) ∧ u = (rs_i zr, rs_n zr, va_up (rs_I zr) 7 (upd (rs_I zr 7) js (-1)), rs_L zr))
set_option maxHeartbeats 4000000 in
theorem lr_lose_1 (qm : Nat) (cI cJ cZ : ClassId) (ad : Nat → Nat) (zr : RS2) (js : Nat) (hjs : js < 4) (c5 : 0 ≤ ((rs_I zr 7) js)) (hI : invR zr) : invR (rs_i zr, rs_n zr, va_up (rs_I zr) 7 (upd (rs_I zr 7) js (-1)), rs_L zr) ∧ rW qm cI cJ cZ ad (rs_i zr, rs_n zr, va_up (rs_I zr) 7 (upd (rs_I zr 7) js (-1)), rs_L zr) = [rcO qm ad zr, rcI cI ad zr 2 48, rcI cI ad zr 3 48, rcI cI ad zr 4 48, rcI cI ad zr 5 48, (ad 7, .inl (cI, 4, .inl (upd (rs_I zr 7) js (-1)))), rcI cI ad zr 8 4, rcI cI ad zr 9 192, rcI cI ad zr 10 48, rcI cI ad zr 12 12, rcI cI ad zr 13 12, rcI cI ad zr 14 12, rcI cI ad zr 15 12, rcI cI ad zr 16 12, rcI cI ad zr 18 8, rcJ cJ ad zr 19 8, rcI cI ad zr 25 40, rcI cI ad zr 26 40, rcI cI ad zr 27 40, rcI cZ ad zr 28 40, rcJ cJ ad zr 29 40, rcJ cJ ad zr 30 40, rcJ cJ ad zr 31 40, rcJ cJ ad zr 32 40, rcJ cJ ad zr 33 40, rcI cI ad zr 35 80, rcI cI ad zr 36 80, rcI cI ad zr 37 80] := by
  obtain ⟨⟨hn0, hn1, hn2, hn3⟩, hfar, hlh, hss, hsold, htk, hpk⟩ := id hI
  exact ⟨(inv_size (a := fun _ => 0) hI hjs (by decide) (by decide)), by simp [rW, rcO, rcI, rcJ, rs_i, rs_n, rs_I, rs_L, va_up, upd]⟩
set_option maxHeartbeats 4000000 in
theorem lr_lose_2 (qm : Nat) (cI cJ cZ : ClassId) (ad : Nat → Nat) (zr : RS2) (js : Nat) (hjs : js < 4) (c5 : ¬ 0 ≤ ((rs_I zr 7) js)) (hI : invR zr) : invR (rs_i zr, rs_n zr, va_up (rs_I zr) 7 (upd (rs_I zr 7) js (-1)), rs_L zr) ∧ rW qm cI cJ cZ ad (rs_i zr, rs_n zr, va_up (rs_I zr) 7 (upd (rs_I zr 7) js (-1)), rs_L zr) = [rcO qm ad zr, rcI cI ad zr 2 48, rcI cI ad zr 3 48, rcI cI ad zr 4 48, rcI cI ad zr 5 48, (ad 7, .inl (cI, 4, .inl (upd (rs_I zr 7) js (-1)))), rcI cI ad zr 8 4, rcI cI ad zr 9 192, rcI cI ad zr 10 48, rcI cI ad zr 12 12, rcI cI ad zr 13 12, rcI cI ad zr 14 12, rcI cI ad zr 15 12, rcI cI ad zr 16 12, rcI cI ad zr 18 8, rcJ cJ ad zr 19 8, rcI cI ad zr 25 40, rcI cI ad zr 26 40, rcI cI ad zr 27 40, rcI cZ ad zr 28 40, rcJ cJ ad zr 29 40, rcJ cJ ad zr 30 40, rcJ cJ ad zr 31 40, rcJ cJ ad zr 32 40, rcJ cJ ad zr 33 40, rcI cI ad zr 35 80, rcI cI ad zr 36 80, rcI cI ad zr 37 80] := by
  obtain ⟨⟨hn0, hn1, hn2, hn3⟩, hfar, hlh, hss, hsold, htk, hpk⟩ := id hI
  exact ⟨(inv_size (a := fun _ => 0) hI hjs (by decide) (by decide)), by simp [rW, rcO, rcI, rcJ, rs_i, rs_n, rs_I, rs_L, va_up, upd]⟩
set_option maxHeartbeats 4000000 in
set_option maxRecDepth 100000 in
theorem M_lose (l : Launch) (dC : Nat → ClassId) (dI : Nat → Nat → Nat) (cI cJ cZ : ClassId) (sz : Nat) (qm : Nat) (ad : Nat → Nat) (zr : RS2) (k : Int32) (hI : invR zr) : Met l yX11_lose wsX11_lose ({ frames := 3, cells := 0, slots := 0, locals := 90 }) (pw (dC, dI) [(cI, .int), (cJ, .long), (cZ, .boolean)] (rW qm cI cJ cZ ad zr) sz [.ref qm, .int k]) (va_Qi (fun r (u : RS2) => invR u ∧ pR_lose zr k r u) (fun u t => bw (dC, dI) [(cI, .int), (cJ, .long), (cZ, .boolean)] (va_A (rW qm cI cJ cZ ad zr) sz) (rW qm cI cJ cZ ad u) t) (va_A (rW qm cI cJ cZ ad zr) sz)) 0 0 (va_A (rW qm cI cJ cZ ad zr) sz) := by
  refine pw_met (cc := cX11_lose) (maxL := 3) (ret := (some .int)) (by decide) rfl (Nat.le_of_ble_eq_true rfl) ?_
  intro p e s m below meth c0 hx hb hr hml hown hlocks hnm hts hP0 hK hD0 hN hsz hA hS ls hl
  subst hsz
  have hP : va_P (dC, dI) vwCl [rcO qm ad zr, rcI cI ad zr 2 48, rcI cI ad zr 3 48, rcI cI ad zr 4 48, rcI cI ad zr 5 48, rcI cI ad zr 7 4, rcI cI ad zr 8 4, rcI cI ad zr 9 192, rcI cI ad zr 10 48, rcI cI ad zr 12 12, rcI cI ad zr 13 12, rcI cI ad zr 14 12, rcI cI ad zr 15 12, rcI cI ad zr 16 12, rcI cI ad zr 18 8, rcJ cJ ad zr 19 8, rcI cI ad zr 25 40, rcI cI ad zr 26 40, rcI cI ad zr 27 40, rcI cZ ad zr 28 40, rcJ cJ ad zr 29 40, rcJ cJ ad zr 30 40, rcJ cJ ad zr 31 40, rcJ cJ ad zr 32 40, rcJ cJ ad zr 33 40, rcI cI ad zr 35 80, rcI cI ad zr 36 80, rcI cI ad zr 37 80] s.heap := hP0
  have hD : va_D (va_A (rW qm cI cJ cZ ad zr) s.heap.size) [rcO qm ad zr, rcI cI ad zr 2 48, rcI cI ad zr 3 48, rcI cI ad zr 4 48, rcI cI ad zr 5 48, rcI cI ad zr 7 4, rcI cI ad zr 8 4, rcI cI ad zr 9 192, rcI cI ad zr 10 48, rcI cI ad zr 12 12, rcI cI ad zr 13 12, rcI cI ad zr 14 12, rcI cI ad zr 15 12, rcI cI ad zr 16 12, rcI cI ad zr 18 8, rcJ cJ ad zr 19 8, rcI cI ad zr 25 40, rcI cI ad zr 26 40, rcI cI ad zr 27 40, rcI cZ ad zr 28 40, rcJ cJ ad zr 29 40, rcJ cJ ad zr 30 40, rcJ cJ ad zr 31 40, rcJ cJ ad zr 32 40, rcJ cJ ad zr 33 40, rcI cI ad zr 35 80, rcI cI ad zr 36 80, rcI cI ad zr 37 80] := hD0
  obtain ⟨⟨hn0, hn1, hn2, hn3⟩, hfar, hlh, hss, hsold, htk, hpk⟩ := id hI
  have hl : lv_has ls 3 [(0, .ref qm), (1, .int k)] := hl
  have hiX11 : ∀ w ∈ wsX110, w ∈ wsX11_lose := by decide +kernel
  generalize hQ : MQ _ _ _ _ _ _ _ = Q
  refine lv_iload_n hx hb dX11_lose_0 rfl (lv_at hl 1 rfl) ?_
  refine vp_callSi (va_Run.run (va_runS (As := [.int k]) (rest := []) ⟨hx, hb, hml, hown, hts⟩ (c_X11_noSheet l k ) (va_cwS 1 hts gX11_lose_X11_noSheet rfl rfl rfl (by decide +kernel) ⟨Nat.le_of_ble_eq_true rfl, Nat.le_of_ble_eq_true rfl⟩) (p0_preS hN) rfl rfl hl.1 rfl (lv_room (Nat.le_of_ble_eq_true rfl)) dX11_lose_1 ⟨Nat.le_of_ble_eq_true rfl, Nat.le_of_ble_eq_true rfl⟩)) (fun r1 hr1 => ?_)
  have hr1 : r1 = if ¬ (0 ≤ k ∧ k ≤ 3) then 1 else 0 := hr1
  rcases ixd k 4 with hnojs | ⟨js, hjs, rfl⟩
  · have er1 : r1 = 1 := hr1.trans (if_pos (shNo hnojs))
    subst er1
    refine lv_if_eq (tgt := 9) hx hb dX11_lose_4 (by decide) (fun c2 => ?_) (fun c2 => ?_)
    · exact absurd c2 (by decide)
    · skip
      refine lv_iconst (v := (-1)) hx hb dX11_lose_7 (by decide) ?_
      subst hQ
      exact W.iret (v := (-1)) hx hb hr (fun t ht hW => ⟨⟨(-1), zr, rfl, ⟨hI, (Or.inl ⟨hnojs, rfl, rfl⟩)⟩, (by rw [ht]; exact hP0), va_K.moved hW.alike hK, hD0⟩, (by rw [ht]; exact Nat.le_refl _), fun q _ _ => by rw [ht]⟩) (fun q h => absurd h List.not_mem_nil) dX11_lose_8
  · have er1 : r1 = 0 := hr1.trans (if_neg (not_not_intro (shYes hjs)))
    subst er1
    refine lv_if_eq (tgt := 9) hx hb dX11_lose_4 (by decide) (fun c3 => ?_) (fun c3 => ?_)
    · skip
      refine lv_aload_n hx hb dX11_lose_9 rfl (lv_at hl 0 rfl) ?_
      refine va_get (D := (dC, dI)) (ci := 11) (v := .ref (ad 7)) (C := RX11) (T := TX11) (N := 39) hx hb hts hiX11 hown hK hP 0 rfl rfl 7 (by decide) (hts (.fieldLink RX11 22 "TributePitchesModel" "sheetSize" "[I") (by decide +kernel)) (fun _ h9 => h9) rfl dX11_lose_10 ?_
      refine lv_iload_n hx hb dX11_lose_13 rfl (lv_at hl 1 rfl) ?_
      refine va_iald hx hb hK hP 5 0 rfl rfl (vp_in_nI (by omega) (by omega)) dX11_lose_14 ?_
      refine lv_topi (fun v4 ev4 => ?_)
      have ev4 : v4 = (rs_I zr 7) js := by rw [ev4]; rw [nI_clamp (by omega)]
      subst ev4
      refine lv_if_ge (tgt := 22) hx hb dX11_lose_15 (by decide) (fun c5 => ?_) (fun c5 => ?_)
      · skip
        refine lv_iconst (v := 1) hx hb dX11_lose_22 (by decide) ?_
        refine lv_istore_n (lv' := [(2, .int 1), (0, .ref qm), (1, .int (nI js))]) hx hb dX11_lose_23 rfl hl (by decide) rfl (fun ls hl => ?_)
        refine lv_aload_n hx hb dX11_lose_24 rfl (lv_at hl 1 rfl) ?_
        refine va_get (D := (dC, dI)) (ci := 11) (v := .ref (ad 7)) (C := RX11) (T := TX11) (N := 39) hx hb hts hiX11 hown hK hP 0 rfl rfl 7 (by decide) (hts (.fieldLink RX11 22 "TributePitchesModel" "sheetSize" "[I") (by decide +kernel)) (fun _ h9 => h9) rfl dX11_lose_25 ?_
        refine lv_iload_n hx hb dX11_lose_28 rfl (lv_at hl 2 rfl) ?_
        refine lv_iconst (v := (-1)) hx hb dX11_lose_29 (by decide) ?_
        refine va_iast hx hb hK hP hD hS 5 0 rfl rfl (vp_in_nI (by omega) (by omega)) dX11_lose_30 (fun H locs hP hD hS => ?_)
        rw [nI_clamp (n := js) (by omega)] at hP hD
        have hP : va_P (dC, dI) vwCl [rcO qm ad zr, rcI cI ad zr 2 48, rcI cI ad zr 3 48, rcI cI ad zr 4 48, rcI cI ad zr 5 48, (ad 7, .inl (cI, 4, .inl (upd (rs_I zr 7) js (-1)))), rcI cI ad zr 8 4, rcI cI ad zr 9 192, rcI cI ad zr 10 48, rcI cI ad zr 12 12, rcI cI ad zr 13 12, rcI cI ad zr 14 12, rcI cI ad zr 15 12, rcI cI ad zr 16 12, rcI cI ad zr 18 8, rcJ cJ ad zr 19 8, rcI cI ad zr 25 40, rcI cI ad zr 26 40, rcI cI ad zr 27 40, rcI cZ ad zr 28 40, rcJ cJ ad zr 29 40, rcJ cJ ad zr 30 40, rcJ cJ ad zr 31 40, rcJ cJ ad zr 32 40, rcJ cJ ad zr 33 40, rcI cI ad zr 35 80, rcI cI ad zr 36 80, rcI cI ad zr 37 80] H := hP
        have hD : va_D _ [rcO qm ad zr, rcI cI ad zr 2 48, rcI cI ad zr 3 48, rcI cI ad zr 4 48, rcI cI ad zr 5 48, (ad 7, .inl (cI, 4, .inl (upd (rs_I zr 7) js (-1)))), rcI cI ad zr 8 4, rcI cI ad zr 9 192, rcI cI ad zr 10 48, rcI cI ad zr 12 12, rcI cI ad zr 13 12, rcI cI ad zr 14 12, rcI cI ad zr 15 12, rcI cI ad zr 16 12, rcI cI ad zr 18 8, rcJ cJ ad zr 19 8, rcI cI ad zr 25 40, rcI cI ad zr 26 40, rcI cI ad zr 27 40, rcI cZ ad zr 28 40, rcJ cJ ad zr 29 40, rcJ cJ ad zr 30 40, rcJ cJ ad zr 31 40, rcJ cJ ad zr 32 40, rcJ cJ ad zr 33 40, rcI cI ad zr 35 80, rcI cI ad zr 36 80, rcI cI ad zr 37 80] := hD
        refine lv_iload_n hx hb dX11_lose_31 rfl (lv_at hl 0 rfl) ?_
        subst hQ
        have hlf := lr_lose_1 qm cI cJ cZ ad zr js hjs c5 hI
        have hP9 : va_P (dC, dI) vwCl (rW qm cI cJ cZ ad (rs_i zr, rs_n zr, va_up (rs_I zr) 7 (upd (rs_I zr 7) js (-1)), rs_L zr)) H := by rw [hlf.2]; exact hP.sub [0, 1, 2, 3, 4, 5, 6, 7, 8, 9, 10, 11, 12, 13, 14, 15, 16, 17, 18, 19, 20, 21, 22, 23, 24, 25, 26, 27] rfl
        have hD9 : va_D (va_A (rW qm cI cJ cZ ad zr) s.heap.size) (rW qm cI cJ cZ ad (rs_i zr, rs_n zr, va_up (rs_I zr) 7 (upd (rs_I zr 7) js (-1)), rs_L zr)) := by rw [hlf.2]; exact hD.sub [0, 1, 2, 3, 4, 5, 6, 7, 8, 9, 10, 11, 12, 13, 14, 15, 16, 17, 18, 19, 20, 21, 22, 23, 24, 25, 26, 27] (by decide) rfl
        exact W.iret (v := 1) hx hb hr (fun t ht hW => ⟨⟨1, (rs_i zr, rs_n zr, va_up (rs_I zr) 7 (upd (rs_I zr 7) js (-1)), rs_L zr), rfl, ⟨hlf.1, (Or.inr (Or.inl ⟨js, rfl, hjs, c5, rfl, rfl⟩))⟩, by rw [ht]; exact hP9, va_K.moved hW.alike hK, hD9⟩, hS.F ht⟩) hS.2.2 dX11_lose_32
      · skip
        refine lv_iconst (v := 0) hx hb dX11_lose_18 (by decide) ?_
        refine lv_goto (tgt := 23) hx hb dX11_lose_19 (by decide) ?_
        refine lv_istore_n (lv' := [(2, .int 0), (0, .ref qm), (1, .int (nI js))]) hx hb dX11_lose_23 rfl hl (by decide) rfl (fun ls hl => ?_)
        refine lv_aload_n hx hb dX11_lose_24 rfl (lv_at hl 1 rfl) ?_
        refine va_get (D := (dC, dI)) (ci := 11) (v := .ref (ad 7)) (C := RX11) (T := TX11) (N := 39) hx hb hts hiX11 hown hK hP 0 rfl rfl 7 (by decide) (hts (.fieldLink RX11 22 "TributePitchesModel" "sheetSize" "[I") (by decide +kernel)) (fun _ h9 => h9) rfl dX11_lose_25 ?_
        refine lv_iload_n hx hb dX11_lose_28 rfl (lv_at hl 2 rfl) ?_
        refine lv_iconst (v := (-1)) hx hb dX11_lose_29 (by decide) ?_
        refine va_iast hx hb hK hP hD hS 5 0 rfl rfl (vp_in_nI (by omega) (by omega)) dX11_lose_30 (fun H locs hP hD hS => ?_)
        rw [nI_clamp (n := js) (by omega)] at hP hD
        have hP : va_P (dC, dI) vwCl [rcO qm ad zr, rcI cI ad zr 2 48, rcI cI ad zr 3 48, rcI cI ad zr 4 48, rcI cI ad zr 5 48, (ad 7, .inl (cI, 4, .inl (upd (rs_I zr 7) js (-1)))), rcI cI ad zr 8 4, rcI cI ad zr 9 192, rcI cI ad zr 10 48, rcI cI ad zr 12 12, rcI cI ad zr 13 12, rcI cI ad zr 14 12, rcI cI ad zr 15 12, rcI cI ad zr 16 12, rcI cI ad zr 18 8, rcJ cJ ad zr 19 8, rcI cI ad zr 25 40, rcI cI ad zr 26 40, rcI cI ad zr 27 40, rcI cZ ad zr 28 40, rcJ cJ ad zr 29 40, rcJ cJ ad zr 30 40, rcJ cJ ad zr 31 40, rcJ cJ ad zr 32 40, rcJ cJ ad zr 33 40, rcI cI ad zr 35 80, rcI cI ad zr 36 80, rcI cI ad zr 37 80] H := hP
        have hD : va_D _ [rcO qm ad zr, rcI cI ad zr 2 48, rcI cI ad zr 3 48, rcI cI ad zr 4 48, rcI cI ad zr 5 48, (ad 7, .inl (cI, 4, .inl (upd (rs_I zr 7) js (-1)))), rcI cI ad zr 8 4, rcI cI ad zr 9 192, rcI cI ad zr 10 48, rcI cI ad zr 12 12, rcI cI ad zr 13 12, rcI cI ad zr 14 12, rcI cI ad zr 15 12, rcI cI ad zr 16 12, rcI cI ad zr 18 8, rcJ cJ ad zr 19 8, rcI cI ad zr 25 40, rcI cI ad zr 26 40, rcI cI ad zr 27 40, rcI cZ ad zr 28 40, rcJ cJ ad zr 29 40, rcJ cJ ad zr 30 40, rcJ cJ ad zr 31 40, rcJ cJ ad zr 32 40, rcJ cJ ad zr 33 40, rcI cI ad zr 35 80, rcI cI ad zr 36 80, rcI cI ad zr 37 80] := hD
        refine lv_iload_n hx hb dX11_lose_31 rfl (lv_at hl 0 rfl) ?_
        subst hQ
        have hlf := lr_lose_2 qm cI cJ cZ ad zr js hjs c5 hI
        have hP9 : va_P (dC, dI) vwCl (rW qm cI cJ cZ ad (rs_i zr, rs_n zr, va_up (rs_I zr) 7 (upd (rs_I zr 7) js (-1)), rs_L zr)) H := by rw [hlf.2]; exact hP.sub [0, 1, 2, 3, 4, 5, 6, 7, 8, 9, 10, 11, 12, 13, 14, 15, 16, 17, 18, 19, 20, 21, 22, 23, 24, 25, 26, 27] rfl
        have hD9 : va_D (va_A (rW qm cI cJ cZ ad zr) s.heap.size) (rW qm cI cJ cZ ad (rs_i zr, rs_n zr, va_up (rs_I zr) 7 (upd (rs_I zr 7) js (-1)), rs_L zr)) := by rw [hlf.2]; exact hD.sub [0, 1, 2, 3, 4, 5, 6, 7, 8, 9, 10, 11, 12, 13, 14, 15, 16, 17, 18, 19, 20, 21, 22, 23, 24, 25, 26, 27] (by decide) rfl
        exact W.iret (v := 0) hx hb hr (fun t ht hW => ⟨⟨0, (rs_i zr, rs_n zr, va_up (rs_I zr) 7 (upd (rs_I zr 7) js (-1)), rs_L zr), rfl, ⟨hlf.1, (Or.inr (Or.inr ⟨js, rfl, hjs, c5, rfl, rfl⟩))⟩, by rw [ht]; exact hP9, va_K.moved hW.alike hK, hD9⟩, hS.F ht⟩) hS.2.2 dX11_lose_32
    · exact absurd c3 (by decide)
